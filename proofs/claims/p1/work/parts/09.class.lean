set_option maxHeartbeats 4000000 in
set_option maxRecDepth 100000 in
theorem kX7_has (l : Launch) (G : va_G) (y : Nat → ClassId) (sz : Nat) (tw : Nat) (a1 : Int32) (tw_1 : Value) (tw_2 : Value) (tw_3 : Value) (tw_4 : Value) (tw_5 : Value) (tw_6 : Value) (tw_7 : Value) (tw_8 : Value) (tw_9 : Value) (tw_10 : Value) (tw_11 : Value)  : Met l yX7_has (Cond.code yX7_has cX7_has 2 (some .boolean) :: wAll) ({ frames := 0, cells := 0, slots := 0, locals := 0 }) (va_Pc [.ref tw, .int a1] (kp G y sz [(tw, .inr (7, [.int 0, tw_1, tw_2, tw_3, tw_4, tw_5, tw_6, tw_7, tw_8, tw_9, tw_10, tw_11]))])) (va_Qi (fun (r : Int32) (w : va_W) => (r = 0 ∧ w = [(tw, .inr (7, [.int 0, tw_1, tw_2, tw_3, tw_4, tw_5, tw_6, tw_7, tw_8, tw_9, tw_10, tw_11]))])) (kq G (va_A [(tw, .inr (7, [.int 0, tw_1, tw_2, tw_3, tw_4, tw_5, tw_6, tw_7, tw_8, tw_9, tw_10, tw_11]))] sz)) (va_A [(tw, .inr (7, [.int 0, tw_1, tw_2, tw_3, tw_4, tw_5, tw_6, tw_7, tw_8, tw_9, tw_10, tw_11]))] sz)) 0 0 (va_A [(tw, .inr (7, [.int 0, tw_1, tw_2, tw_3, tw_4, tw_5, tw_6, tw_7, tw_8, tw_9, tw_10, tw_11]))] sz) := by
  refine Met.ofW (cc := cX7_has) (maxL := 2) (ret := (some .boolean)) (by decide) rfl ?_
  intro p e s m args below meth c s₁ B hml hv
  obtain ⟨rfl, hsz, hP, hK, hD0⟩ := hv
  have hx := B.exec
  have hb := B.bytes
  have hr := B.returns
  have hw0 : ∀ w ∈ wAll, w.before _ s = true := fun w h => atoms_spec (ws := Cond.code yX7_has cX7_has 2 (some .boolean) :: wAll) B.pre w (List.mem_cons_of_mem _ h)
  have hown : s.vm.findClass RX7 = some m.cls := findClass_of_methodNamed B.named
  have hlocks := B.notSynchronized
  subst hsz
  have hD := hD0.self (sz := s.heap.size)
  generalize hAe : va_A [(tw, .inr (7, [.int 0, tw_1, tw_2, tw_3, tw_4, tw_5, tw_6, tw_7, tw_8, tw_9, tw_10, tw_11]))] s.heap.size = A at hD ⊢
  have hA : ∀ q : Nat, s.heap.size ≤ q → A q := fun q h => by rw [← hAe]; exact Or.inr h
  have hS : va_S A s.heap s.heap [] := va_S.rf
  have hP : va_P G vwCl [(tw, .inr (7, [.int 0, tw_1, tw_2, tw_3, tw_4, tw_5, tw_6, tw_7, tw_8, tw_9, tw_10, tw_11]))] s.heap := hP
  have hl := lv_entry ([.ref tw, .int a1]) (n := 2) (Nat.le_of_ble_eq_true rfl)
  rw [lg_entry_eq]
  generalize (lg_sl ([.ref tw, .int a1]) ++ List.replicate (2 - (lg_sl ([.ref tw, .int a1])).length) Slot.unset).toArray = ls at hl ⊢
  have hl : lv_has ls 2 [(0, .ref tw), (1, .int a1)] := hl
  refine lv_iload_n hx hb dX7_has_0 rfl (lv_at hl 1 rfl) ?_
  refine lv_if_lt (tgt := 16) hx hb dX7_has_1 (by decide) (fun c_1 => ?_) (fun c_1 => ?_)
  · skip
    have tc_1 : (a1.toInt : Int) < 0 := il_lt c_1 rfl (by decide)
    refine lv_iconst (v := 0) hx hb dX7_has_16 (by decide) ?_
    refine W.widen (k := 0) (n := 0) (Nat.le_of_ble_eq_true rfl) (Nat.le_of_ble_eq_true rfl) ?_
    exact W.zret (v := 0) hx hb hr rfl (fun t ht hW => ⟨⟨0, ([(tw, .inr (7, [.int 0, tw_1, tw_2, tw_3, tw_4, tw_5, tw_6, tw_7, tw_8, tw_9, tw_10, tw_11]))] : va_W), rfl, ⟨rfl, rfl⟩, by rw [ht]; exact hP, hD⟩, hS.F ht⟩) hS.2.2 dX7_has_17
  · skip
    have tc_1 : (a1.toInt : Int) ≥ 0 := il_nlt c_1 rfl (by decide)
    refine lv_iload_n hx hb dX7_has_4 rfl (lv_at hl 1 rfl) ?_
    refine lv_aload_n hx hb dX7_has_5 rfl (lv_at hl 0 rfl) ?_
    refine va_get (D := G) (ci := 7) (v := .int 0) (C := RX7) (T := TX7) (N := 12) hx hb hw0 inA_wsX70 hown hK.1 hP 0 rfl rfl 0 (by decide) (hw0 _ m_170) (fun _ h9 => h9) rfl dX7_has_6 ?_
    refine lv_icmp_ge (tgt := 16) hx hb dX7_has_9 (by decide) (fun _ => ?_) (fun c9 => absurd (ir_le (a := 0) (by decide) (b := a1.toInt) rfl (by omega)) c9)
    refine lv_iconst (v := 0) hx hb dX7_has_16 (by decide) ?_
    refine W.widen (k := 0) (n := 0) (Nat.le_of_ble_eq_true rfl) (Nat.le_of_ble_eq_true rfl) ?_
    exact W.zret (v := 0) hx hb hr rfl (fun t ht hW => ⟨⟨0, ([(tw, .inr (7, [.int 0, tw_1, tw_2, tw_3, tw_4, tw_5, tw_6, tw_7, tw_8, tw_9, tw_10, tw_11]))] : va_W), rfl, ⟨rfl, rfl⟩, by rw [ht]; exact hP, hD⟩, hS.F ht⟩) hS.2.2 dX7_has_17

set_option maxHeartbeats 4000000 in
set_option maxRecDepth 100000 in
theorem kX7_hasPair (l : Launch) (G : va_G) (y : Nat → ClassId) (sz : Nat) (tw : Nat) (a1 : Int32) (a2 : Int32) (tw_1 : Value) (tw_2 : Value) (tw_3 : Value) (tw_4 : Value) (tw_5 : Value) (tw_6 : Value) (tw_7 : Value) (tw_8 : Value) (tw_9 : Value) (tw_10 : Value) (tw_11 : Value)  : Met l yX7_hasPair (Cond.code yX7_hasPair cX7_hasPair 3 (some .boolean) :: wAll) ({ frames := 1, cells := 0, slots := 0, locals := 21 }) (va_Pc [.ref tw, .int a1, .int a2] (kp G y sz [(tw, .inr (7, [.int 0, tw_1, tw_2, tw_3, tw_4, tw_5, tw_6, tw_7, tw_8, tw_9, tw_10, tw_11]))])) (va_Qi (fun (r : Int32) (w : va_W) => (r = 0 ∧ w = [(tw, .inr (7, [.int 0, tw_1, tw_2, tw_3, tw_4, tw_5, tw_6, tw_7, tw_8, tw_9, tw_10, tw_11]))])) (kq G (va_A [(tw, .inr (7, [.int 0, tw_1, tw_2, tw_3, tw_4, tw_5, tw_6, tw_7, tw_8, tw_9, tw_10, tw_11]))] sz)) (va_A [(tw, .inr (7, [.int 0, tw_1, tw_2, tw_3, tw_4, tw_5, tw_6, tw_7, tw_8, tw_9, tw_10, tw_11]))] sz)) 0 0 (va_A [(tw, .inr (7, [.int 0, tw_1, tw_2, tw_3, tw_4, tw_5, tw_6, tw_7, tw_8, tw_9, tw_10, tw_11]))] sz) := by
  refine Met.ofW (cc := cX7_hasPair) (maxL := 3) (ret := (some .boolean)) (by decide) rfl ?_
  intro p e s m args below meth c s₁ B hml hv
  obtain ⟨rfl, hsz, hP, hK, hD0⟩ := hv
  have hx := B.exec
  have hb := B.bytes
  have hr := B.returns
  have hw0 : ∀ w ∈ wAll, w.before _ s = true := fun w h => atoms_spec (ws := Cond.code yX7_hasPair cX7_hasPair 3 (some .boolean) :: wAll) B.pre w (List.mem_cons_of_mem _ h)
  have hown : s.vm.findClass RX7 = some m.cls := findClass_of_methodNamed B.named
  have hlocks := B.notSynchronized
  subst hsz
  have hD := hD0.self (sz := s.heap.size)
  generalize hAe : va_A [(tw, .inr (7, [.int 0, tw_1, tw_2, tw_3, tw_4, tw_5, tw_6, tw_7, tw_8, tw_9, tw_10, tw_11]))] s.heap.size = A at hD ⊢
  have hA : ∀ q : Nat, s.heap.size ≤ q → A q := fun q h => by rw [← hAe]; exact Or.inr h
  have hS : va_S A s.heap s.heap [] := va_S.rf
  have hP : va_P G vwCl [(tw, .inr (7, [.int 0, tw_1, tw_2, tw_3, tw_4, tw_5, tw_6, tw_7, tw_8, tw_9, tw_10, tw_11]))] s.heap := hP
  have hl := lv_entry ([.ref tw, .int a1, .int a2]) (n := 3) (Nat.le_of_ble_eq_true rfl)
  rw [lg_entry_eq]
  generalize (lg_sl ([.ref tw, .int a1, .int a2]) ++ List.replicate (3 - (lg_sl ([.ref tw, .int a1, .int a2])).length) Slot.unset).toArray = ls at hl ⊢
  have hl : lv_has ls 3 [(0, .ref tw), (1, .int a1), (2, .int a2)] := hl
  refine lv_aload_n hx hb dX7_hasPair_0 rfl (lv_at hl 0 rfl) ?_
  refine lv_iload_n hx hb dX7_hasPair_1 rfl (lv_at hl 1 rfl) ?_
  refine cVi (As := [.int a1]) (rest := []) ⟨hx, hb, hml, hown, hw0⟩ hA hK hP hD hS [0] [] [(tw, .inr (7, [.int 0, tw_1, tw_2, tw_3, tw_4, tw_5, tw_6, tw_7, tw_8, tw_9, tw_10, tw_11]))] [] rfl rfl (by decide) (by decide) (by decide) (kX7_has l G y _ tw a1 (tw_1) (tw_2) (tw_3) (tw_4) (tw_5) (tw_6) (tw_7) (tw_8) (tw_9) (tw_10) (tw_11) ) ⟨(callB_of 1 hw0 (gA m_171) rfl rfl rfl (hw0 _ m_70) (hw0 _ m_172) (by decide +kernel) ⟨Nat.le_of_ble_eq_true rfl, Nat.le_of_ble_eq_true rfl⟩), (hw0 _ m_173), (hw0 _ m_174)⟩ (ci := 7) (q := (RX7, TX7, 12)) rfl rfl rfl hl.1 (Nat.le_of_ble_eq_true rfl) dX7_hasPair_2 ⟨Nat.le_of_ble_eq_true rfl, Nat.le_of_ble_eq_true rfl⟩ (fun r_1 w_1 H locs hw_1 hP hD hS => ?_)
  obtain ⟨rfl, rfl⟩ := hw_1
  have hP : va_P G vwCl [(tw, .inr (7, [.int 0, tw_1, tw_2, tw_3, tw_4, tw_5, tw_6, tw_7, tw_8, tw_9, tw_10, tw_11]))] H := hP
  have hD : va_D A [(tw, .inr (7, [.int 0, tw_1, tw_2, tw_3, tw_4, tw_5, tw_6, tw_7, tw_8, tw_9, tw_10, tw_11]))] := hD
  refine lv_if_eq (tgt := 25) hx hb dX7_hasPair_5 (by decide) (fun _ => ?_) (fun c9 => absurd (by decide) c9)
  refine lv_iconst (v := 0) hx hb dX7_hasPair_25 (by decide) ?_
  refine W.widen (k := 0) (n := 0) (Nat.le_of_ble_eq_true rfl) (Nat.le_of_ble_eq_true rfl) ?_
  exact W.zret (v := 0) hx hb hr rfl (fun t ht hW => ⟨⟨0, ([(tw, .inr (7, [.int 0, tw_1, tw_2, tw_3, tw_4, tw_5, tw_6, tw_7, tw_8, tw_9, tw_10, tw_11]))] : va_W), rfl, ⟨rfl, rfl⟩, by rw [ht]; exact hP, hD⟩, hS.F ht⟩) hS.2.2 dX7_hasPair_26

set_option maxHeartbeats 4000000 in
set_option maxRecDepth 100000 in
theorem kX9_isDeed (l : Launch) (G : va_G) (y : Nat → ClassId) (sz : Nat) (ob : Nat) (a1 : Int32) (a2 : Int32) (a3 : Int32) (tp : Nat) (rd : Nat) (sa : Nat) (im : Nat) (sl : Nat) (ro : Nat) (wy : Nat) (od : Nat) (ok : Nat) (tw : Nat) (co : Nat) (de : Nat) (dd : Nat) (kn : Nat) (fo : Nat) (tw_1 : Value) (tw_2 : Value) (tw_3 : Value) (tw_4 : Value) (tw_5 : Value) (tw_6 : Value) (tw_7 : Value) (tw_8 : Value) (tw_9 : Value) (tw_10 : Value) (tw_11 : Value)  : Met l yX9_isDeed (Cond.code yX9_isDeed cX9_isDeed 4 (some .boolean) :: wAll) ({ frames := 2, cells := 0, slots := 0, locals := 43 }) (va_Pc [.ref ob, .int a1, .int a2, .int a3] (kp G y sz [(ob, .inr (9, [.ref tp, .int 0, .ref rd, .ref sa, .ref im, .ref sl, .ref ro, .ref wy, .ref od, .ref ok])), (sa, .inr (6, [.ref tw, .ref co, .ref de, .ref dd, .ref kn, .int 0, .int 0, .ref fo])), (tw, .inr (7, [.int 0, tw_1, tw_2, tw_3, tw_4, tw_5, tw_6, tw_7, tw_8, tw_9, tw_10, tw_11]))])) (va_Qi (fun (r : Int32) (w : va_W) => (r = 0 ∧ w = [(ob, .inr (9, [.ref tp, .int 0, .ref rd, .ref sa, .ref im, .ref sl, .ref ro, .ref wy, .ref od, .ref ok])), (sa, .inr (6, [.ref tw, .ref co, .ref de, .ref dd, .ref kn, .int 0, .int 0, .ref fo])), (tw, .inr (7, [.int 0, tw_1, tw_2, tw_3, tw_4, tw_5, tw_6, tw_7, tw_8, tw_9, tw_10, tw_11]))])) (kq G (va_A [(ob, .inr (9, [.ref tp, .int 0, .ref rd, .ref sa, .ref im, .ref sl, .ref ro, .ref wy, .ref od, .ref ok])), (sa, .inr (6, [.ref tw, .ref co, .ref de, .ref dd, .ref kn, .int 0, .int 0, .ref fo])), (tw, .inr (7, [.int 0, tw_1, tw_2, tw_3, tw_4, tw_5, tw_6, tw_7, tw_8, tw_9, tw_10, tw_11]))] sz)) (va_A [(ob, .inr (9, [.ref tp, .int 0, .ref rd, .ref sa, .ref im, .ref sl, .ref ro, .ref wy, .ref od, .ref ok])), (sa, .inr (6, [.ref tw, .ref co, .ref de, .ref dd, .ref kn, .int 0, .int 0, .ref fo])), (tw, .inr (7, [.int 0, tw_1, tw_2, tw_3, tw_4, tw_5, tw_6, tw_7, tw_8, tw_9, tw_10, tw_11]))] sz)) 0 0 (va_A [(ob, .inr (9, [.ref tp, .int 0, .ref rd, .ref sa, .ref im, .ref sl, .ref ro, .ref wy, .ref od, .ref ok])), (sa, .inr (6, [.ref tw, .ref co, .ref de, .ref dd, .ref kn, .int 0, .int 0, .ref fo])), (tw, .inr (7, [.int 0, tw_1, tw_2, tw_3, tw_4, tw_5, tw_6, tw_7, tw_8, tw_9, tw_10, tw_11]))] sz) := by
  refine Met.ofW (cc := cX9_isDeed) (maxL := 4) (ret := (some .boolean)) (by decide) rfl ?_
  intro p e s m args below meth c s₁ B hml hv
  obtain ⟨rfl, hsz, hP, hK, hD0⟩ := hv
  have hx := B.exec
  have hb := B.bytes
  have hr := B.returns
  have hw0 : ∀ w ∈ wAll, w.before _ s = true := fun w h => atoms_spec (ws := Cond.code yX9_isDeed cX9_isDeed 4 (some .boolean) :: wAll) B.pre w (List.mem_cons_of_mem _ h)
  have hown : s.vm.findClass RX9 = some m.cls := findClass_of_methodNamed B.named
  have hlocks := B.notSynchronized
  subst hsz
  have hD := hD0.self (sz := s.heap.size)
  generalize hAe : va_A [(ob, .inr (9, [.ref tp, .int 0, .ref rd, .ref sa, .ref im, .ref sl, .ref ro, .ref wy, .ref od, .ref ok])), (sa, .inr (6, [.ref tw, .ref co, .ref de, .ref dd, .ref kn, .int 0, .int 0, .ref fo])), (tw, .inr (7, [.int 0, tw_1, tw_2, tw_3, tw_4, tw_5, tw_6, tw_7, tw_8, tw_9, tw_10, tw_11]))] s.heap.size = A at hD ⊢
  have hA : ∀ q : Nat, s.heap.size ≤ q → A q := fun q h => by rw [← hAe]; exact Or.inr h
  have hS : va_S A s.heap s.heap [] := va_S.rf
  have hP : va_P G vwCl [(ob, .inr (9, [.ref tp, .int 0, .ref rd, .ref sa, .ref im, .ref sl, .ref ro, .ref wy, .ref od, .ref ok])), (sa, .inr (6, [.ref tw, .ref co, .ref de, .ref dd, .ref kn, .int 0, .int 0, .ref fo])), (tw, .inr (7, [.int 0, tw_1, tw_2, tw_3, tw_4, tw_5, tw_6, tw_7, tw_8, tw_9, tw_10, tw_11]))] s.heap := hP
  have hl := lv_entry ([.ref ob, .int a1, .int a2, .int a3]) (n := 4) (Nat.le_of_ble_eq_true rfl)
  rw [lg_entry_eq]
  generalize (lg_sl ([.ref ob, .int a1, .int a2, .int a3]) ++ List.replicate (4 - (lg_sl ([.ref ob, .int a1, .int a2, .int a3])).length) Slot.unset).toArray = ls at hl ⊢
  have hl : lv_has ls 4 [(0, .ref ob), (1, .int a1), (2, .int a2), (3, .int a3)] := hl
  refine lv_aload_n hx hb dX9_isDeed_0 rfl (lv_at hl 0 rfl) ?_
  refine va_get (D := G) (ci := 9) (v := .ref sa) (C := RX9) (T := TX9) (N := 10) hx hb hw0 inA_wsX90 hown hK.1 hP 0 rfl rfl 3 (by decide) (hw0 _ m_110) (fun _ h9 => h9) rfl dX9_isDeed_1 ?_
  refine va_get (D := G) (ci := 6) (v := .ref tw) (C := RX6) (T := TX6) (N := 8) hx hb hw0 inA_wsX60 hown hK.1 hP 1 rfl rfl 0 (by decide) (hw0 _ m_176) (fun _ h9 => h9) rfl dX9_isDeed_4 ?_
  refine lv_iload_n hx hb dX9_isDeed_7 rfl (lv_at hl 1 rfl) ?_
  refine lv_iload_n hx hb dX9_isDeed_8 rfl (lv_at hl 2 rfl) ?_
  refine cVi (As := [.int a1, .int a2]) (rest := []) ⟨hx, hb, hml, hown, hw0⟩ hA hK hP hD hS [2] [0, 1] [(tw, .inr (7, [.int 0, tw_1, tw_2, tw_3, tw_4, tw_5, tw_6, tw_7, tw_8, tw_9, tw_10, tw_11]))] [(ob, .inr (9, [.ref tp, .int 0, .ref rd, .ref sa, .ref im, .ref sl, .ref ro, .ref wy, .ref od, .ref ok])), (sa, .inr (6, [.ref tw, .ref co, .ref de, .ref dd, .ref kn, .int 0, .int 0, .ref fo]))] rfl rfl (by decide) (by decide) (by decide) (kX7_hasPair l G y _ tw a1 a2 (tw_1) (tw_2) (tw_3) (tw_4) (tw_5) (tw_6) (tw_7) (tw_8) (tw_9) (tw_10) (tw_11) ) ⟨(callB_of 2 hw0 (gA m_175) rfl rfl rfl (hw0 _ m_70) (hw0 _ m_177) (by decide +kernel) ⟨Nat.le_of_ble_eq_true rfl, Nat.le_of_ble_eq_true rfl⟩), (hw0 _ m_178), (hw0 _ m_179)⟩ (ci := 7) (q := (RX7, TX7, 12)) rfl rfl rfl hl.1 (Nat.le_of_ble_eq_true rfl) dX9_isDeed_9 ⟨Nat.le_of_ble_eq_true rfl, Nat.le_of_ble_eq_true rfl⟩ (fun r_1 w_1 H locs hw_1 hP hD hS => ?_)
  obtain ⟨rfl, rfl⟩ := hw_1
  have hP : va_P G vwCl [(ob, .inr (9, [.ref tp, .int 0, .ref rd, .ref sa, .ref im, .ref sl, .ref ro, .ref wy, .ref od, .ref ok])), (sa, .inr (6, [.ref tw, .ref co, .ref de, .ref dd, .ref kn, .int 0, .int 0, .ref fo])), (tw, .inr (7, [.int 0, tw_1, tw_2, tw_3, tw_4, tw_5, tw_6, tw_7, tw_8, tw_9, tw_10, tw_11]))] H := hP
  have hD : va_D A [(ob, .inr (9, [.ref tp, .int 0, .ref rd, .ref sa, .ref im, .ref sl, .ref ro, .ref wy, .ref od, .ref ok])), (sa, .inr (6, [.ref tw, .ref co, .ref de, .ref dd, .ref kn, .int 0, .int 0, .ref fo])), (tw, .inr (7, [.int 0, tw_1, tw_2, tw_3, tw_4, tw_5, tw_6, tw_7, tw_8, tw_9, tw_10, tw_11]))] := hD
  refine lv_if_eq (tgt := 28) hx hb dX9_isDeed_12 (by decide) (fun _ => ?_) (fun c9 => absurd (by decide) c9)
  refine lv_iconst (v := 0) hx hb dX9_isDeed_28 (by decide) ?_
  refine W.widen (k := 0) (n := 0) (Nat.le_of_ble_eq_true rfl) (Nat.le_of_ble_eq_true rfl) ?_
  exact W.zret (v := 0) hx hb hr rfl (fun t ht hW => ⟨⟨0, ([(ob, .inr (9, [.ref tp, .int 0, .ref rd, .ref sa, .ref im, .ref sl, .ref ro, .ref wy, .ref od, .ref ok])), (sa, .inr (6, [.ref tw, .ref co, .ref de, .ref dd, .ref kn, .int 0, .int 0, .ref fo])), (tw, .inr (7, [.int 0, tw_1, tw_2, tw_3, tw_4, tw_5, tw_6, tw_7, tw_8, tw_9, tw_10, tw_11]))] : va_W), rfl, ⟨rfl, rfl⟩, by rw [ht]; exact hP, hD⟩, hS.F ht⟩) hS.2.2 dX9_isDeed_29

set_option maxHeartbeats 4000000 in
set_option maxRecDepth 100000 in
theorem kX9_isOuting (l : Launch) (G : va_G) (y : Nat → ClassId) (sz : Nat) (ob : Nat) (a1 : Int32) (a2 : Int32) (tp : Nat) (rd : Nat) (sa : Nat) (im : Nat) (sl : Nat) (ro : Nat) (wy : Nat) (od : Nat) (ok : Nat) (tw : Nat) (co : Nat) (de : Nat) (dd : Nat) (kn : Nat) (fo : Nat) (tw_1 : Value) (tw_2 : Value) (tw_3 : Value) (tw_4 : Value) (tw_5 : Value) (tw_6 : Value) (tw_7 : Value) (tw_8 : Value) (tw_9 : Value) (tw_10 : Value) (tw_11 : Value)  : Met l yX9_isOuting (Cond.code yX9_isOuting cX9_isOuting 3 (some .boolean) :: wAll) ({ frames := 1, cells := 0, slots := 0, locals := 21 }) (va_Pc [.ref ob, .int a1, .int a2] (kp G y sz [(ob, .inr (9, [.ref tp, .int 0, .ref rd, .ref sa, .ref im, .ref sl, .ref ro, .ref wy, .ref od, .ref ok])), (sa, .inr (6, [.ref tw, .ref co, .ref de, .ref dd, .ref kn, .int 0, .int 0, .ref fo])), (tw, .inr (7, [.int 0, tw_1, tw_2, tw_3, tw_4, tw_5, tw_6, tw_7, tw_8, tw_9, tw_10, tw_11]))])) (va_Qi (fun (r : Int32) (w : va_W) => (r = 0 ∧ w = [(ob, .inr (9, [.ref tp, .int 0, .ref rd, .ref sa, .ref im, .ref sl, .ref ro, .ref wy, .ref od, .ref ok])), (sa, .inr (6, [.ref tw, .ref co, .ref de, .ref dd, .ref kn, .int 0, .int 0, .ref fo])), (tw, .inr (7, [.int 0, tw_1, tw_2, tw_3, tw_4, tw_5, tw_6, tw_7, tw_8, tw_9, tw_10, tw_11]))])) (kq G (va_A [(ob, .inr (9, [.ref tp, .int 0, .ref rd, .ref sa, .ref im, .ref sl, .ref ro, .ref wy, .ref od, .ref ok])), (sa, .inr (6, [.ref tw, .ref co, .ref de, .ref dd, .ref kn, .int 0, .int 0, .ref fo])), (tw, .inr (7, [.int 0, tw_1, tw_2, tw_3, tw_4, tw_5, tw_6, tw_7, tw_8, tw_9, tw_10, tw_11]))] sz)) (va_A [(ob, .inr (9, [.ref tp, .int 0, .ref rd, .ref sa, .ref im, .ref sl, .ref ro, .ref wy, .ref od, .ref ok])), (sa, .inr (6, [.ref tw, .ref co, .ref de, .ref dd, .ref kn, .int 0, .int 0, .ref fo])), (tw, .inr (7, [.int 0, tw_1, tw_2, tw_3, tw_4, tw_5, tw_6, tw_7, tw_8, tw_9, tw_10, tw_11]))] sz)) 0 0 (va_A [(ob, .inr (9, [.ref tp, .int 0, .ref rd, .ref sa, .ref im, .ref sl, .ref ro, .ref wy, .ref od, .ref ok])), (sa, .inr (6, [.ref tw, .ref co, .ref de, .ref dd, .ref kn, .int 0, .int 0, .ref fo])), (tw, .inr (7, [.int 0, tw_1, tw_2, tw_3, tw_4, tw_5, tw_6, tw_7, tw_8, tw_9, tw_10, tw_11]))] sz) := by
  refine Met.ofW (cc := cX9_isOuting) (maxL := 3) (ret := (some .boolean)) (by decide) rfl ?_
  intro p e s m args below meth c s₁ B hml hv
  obtain ⟨rfl, hsz, hP, hK, hD0⟩ := hv
  have hx := B.exec
  have hb := B.bytes
  have hr := B.returns
  have hw0 : ∀ w ∈ wAll, w.before _ s = true := fun w h => atoms_spec (ws := Cond.code yX9_isOuting cX9_isOuting 3 (some .boolean) :: wAll) B.pre w (List.mem_cons_of_mem _ h)
  have hown : s.vm.findClass RX9 = some m.cls := findClass_of_methodNamed B.named
  have hlocks := B.notSynchronized
  subst hsz
  have hD := hD0.self (sz := s.heap.size)
  generalize hAe : va_A [(ob, .inr (9, [.ref tp, .int 0, .ref rd, .ref sa, .ref im, .ref sl, .ref ro, .ref wy, .ref od, .ref ok])), (sa, .inr (6, [.ref tw, .ref co, .ref de, .ref dd, .ref kn, .int 0, .int 0, .ref fo])), (tw, .inr (7, [.int 0, tw_1, tw_2, tw_3, tw_4, tw_5, tw_6, tw_7, tw_8, tw_9, tw_10, tw_11]))] s.heap.size = A at hD ⊢
  have hA : ∀ q : Nat, s.heap.size ≤ q → A q := fun q h => by rw [← hAe]; exact Or.inr h
  have hS : va_S A s.heap s.heap [] := va_S.rf
  have hP : va_P G vwCl [(ob, .inr (9, [.ref tp, .int 0, .ref rd, .ref sa, .ref im, .ref sl, .ref ro, .ref wy, .ref od, .ref ok])), (sa, .inr (6, [.ref tw, .ref co, .ref de, .ref dd, .ref kn, .int 0, .int 0, .ref fo])), (tw, .inr (7, [.int 0, tw_1, tw_2, tw_3, tw_4, tw_5, tw_6, tw_7, tw_8, tw_9, tw_10, tw_11]))] s.heap := hP
  have hl := lv_entry ([.ref ob, .int a1, .int a2]) (n := 3) (Nat.le_of_ble_eq_true rfl)
  rw [lg_entry_eq]
  generalize (lg_sl ([.ref ob, .int a1, .int a2]) ++ List.replicate (3 - (lg_sl ([.ref ob, .int a1, .int a2])).length) Slot.unset).toArray = ls at hl ⊢
  have hl : lv_has ls 3 [(0, .ref ob), (1, .int a1), (2, .int a2)] := hl
  refine lv_aload_n hx hb dX9_isOuting_0 rfl (lv_at hl 0 rfl) ?_
  refine va_get (D := G) (ci := 9) (v := .ref sa) (C := RX9) (T := TX9) (N := 10) hx hb hw0 inA_wsX90 hown hK.1 hP 0 rfl rfl 3 (by decide) (hw0 _ m_110) (fun _ h9 => h9) rfl dX9_isOuting_1 ?_
  refine va_get (D := G) (ci := 6) (v := .ref tw) (C := RX6) (T := TX6) (N := 8) hx hb hw0 inA_wsX60 hown hK.1 hP 1 rfl rfl 0 (by decide) (hw0 _ m_176) (fun _ h9 => h9) rfl dX9_isOuting_4 ?_
  refine lv_iload_n hx hb dX9_isOuting_7 rfl (lv_at hl 1 rfl) ?_
  refine cVi (As := [.int a1]) (rest := []) ⟨hx, hb, hml, hown, hw0⟩ hA hK hP hD hS [2] [0, 1] [(tw, .inr (7, [.int 0, tw_1, tw_2, tw_3, tw_4, tw_5, tw_6, tw_7, tw_8, tw_9, tw_10, tw_11]))] [(ob, .inr (9, [.ref tp, .int 0, .ref rd, .ref sa, .ref im, .ref sl, .ref ro, .ref wy, .ref od, .ref ok])), (sa, .inr (6, [.ref tw, .ref co, .ref de, .ref dd, .ref kn, .int 0, .int 0, .ref fo]))] rfl rfl (by decide) (by decide) (by decide) (kX7_has l G y _ tw a1 (tw_1) (tw_2) (tw_3) (tw_4) (tw_5) (tw_6) (tw_7) (tw_8) (tw_9) (tw_10) (tw_11) ) ⟨(callB_of 1 hw0 (gA m_171) rfl rfl rfl (hw0 _ m_70) (hw0 _ m_181) (by decide +kernel) ⟨Nat.le_of_ble_eq_true rfl, Nat.le_of_ble_eq_true rfl⟩), (hw0 _ m_173), (hw0 _ m_174)⟩ (ci := 7) (q := (RX7, TX7, 12)) rfl rfl rfl hl.1 (Nat.le_of_ble_eq_true rfl) dX9_isOuting_8 ⟨Nat.le_of_ble_eq_true rfl, Nat.le_of_ble_eq_true rfl⟩ (fun r_1 w_1 H locs hw_1 hP hD hS => ?_)
  obtain ⟨rfl, rfl⟩ := hw_1
  have hP : va_P G vwCl [(ob, .inr (9, [.ref tp, .int 0, .ref rd, .ref sa, .ref im, .ref sl, .ref ro, .ref wy, .ref od, .ref ok])), (sa, .inr (6, [.ref tw, .ref co, .ref de, .ref dd, .ref kn, .int 0, .int 0, .ref fo])), (tw, .inr (7, [.int 0, tw_1, tw_2, tw_3, tw_4, tw_5, tw_6, tw_7, tw_8, tw_9, tw_10, tw_11]))] H := hP
  have hD : va_D A [(ob, .inr (9, [.ref tp, .int 0, .ref rd, .ref sa, .ref im, .ref sl, .ref ro, .ref wy, .ref od, .ref ok])), (sa, .inr (6, [.ref tw, .ref co, .ref de, .ref dd, .ref kn, .int 0, .int 0, .ref fo])), (tw, .inr (7, [.int 0, tw_1, tw_2, tw_3, tw_4, tw_5, tw_6, tw_7, tw_8, tw_9, tw_10, tw_11]))] := hD
  refine lv_if_eq (tgt := 36) hx hb dX9_isOuting_11 (by decide) (fun _ => ?_) (fun c9 => absurd (by decide) c9)
  refine lv_iconst (v := 0) hx hb dX9_isOuting_36 (by decide) ?_
  refine W.widen (k := 0) (n := 0) (Nat.le_of_ble_eq_true rfl) (Nat.le_of_ble_eq_true rfl) ?_
  exact W.zret (v := 0) hx hb hr rfl (fun t ht hW => ⟨⟨0, ([(ob, .inr (9, [.ref tp, .int 0, .ref rd, .ref sa, .ref im, .ref sl, .ref ro, .ref wy, .ref od, .ref ok])), (sa, .inr (6, [.ref tw, .ref co, .ref de, .ref dd, .ref kn, .int 0, .int 0, .ref fo])), (tw, .inr (7, [.int 0, tw_1, tw_2, tw_3, tw_4, tw_5, tw_6, tw_7, tw_8, tw_9, tw_10, tw_11]))] : va_W), rfl, ⟨rfl, rfl⟩, by rw [ht]; exact hP, hD⟩, hS.F ht⟩) hS.2.2 dX9_isOuting_37

set_option maxHeartbeats 4000000 in
set_option maxRecDepth 100000 in
theorem kX9_bars (l : Launch) (G : va_G) (y : Nat → ClassId) (sz : Nat) (ob : Nat) (a1 : Int32) (a2 : Int32) (a3 : Int32) (tp : Nat) (rd : Nat) (sa : Nat) (im : Nat) (sl : Nat) (ro : Nat) (wy : Nat) (od : Nat) (ok : Nat) (tw : Nat) (co : Nat) (de : Nat) (dd : Nat) (kn : Nat) (fo : Nat) (tw_1 : Value) (tw_2 : Value) (tw_3 : Value) (tw_4 : Value) (tw_5 : Value) (tw_6 : Value) (tw_7 : Value) (tw_8 : Value) (tw_9 : Value) (tw_10 : Value) (tw_11 : Value)  : Met l yX9_bars (Cond.code yX9_bars cX9_bars 4 (some .int) :: wAll) ({ frames := 3, cells := 0, slots := 0, locals := 66 }) (va_Pc [.ref ob, .int a1, .int a2, .int a3] (kp G y sz [(ob, .inr (9, [.ref tp, .int 0, .ref rd, .ref sa, .ref im, .ref sl, .ref ro, .ref wy, .ref od, .ref ok])), (sa, .inr (6, [.ref tw, .ref co, .ref de, .ref dd, .ref kn, .int 0, .int 0, .ref fo])), (tw, .inr (7, [.int 0, tw_1, tw_2, tw_3, tw_4, tw_5, tw_6, tw_7, tw_8, tw_9, tw_10, tw_11]))])) (va_Qi (fun (r : Int32) (_ : va_W) => r = -2) (kq G (va_A [(ob, .inr (9, [.ref tp, .int 0, .ref rd, .ref sa, .ref im, .ref sl, .ref ro, .ref wy, .ref od, .ref ok])), (sa, .inr (6, [.ref tw, .ref co, .ref de, .ref dd, .ref kn, .int 0, .int 0, .ref fo])), (tw, .inr (7, [.int 0, tw_1, tw_2, tw_3, tw_4, tw_5, tw_6, tw_7, tw_8, tw_9, tw_10, tw_11]))] sz)) (va_A [(ob, .inr (9, [.ref tp, .int 0, .ref rd, .ref sa, .ref im, .ref sl, .ref ro, .ref wy, .ref od, .ref ok])), (sa, .inr (6, [.ref tw, .ref co, .ref de, .ref dd, .ref kn, .int 0, .int 0, .ref fo])), (tw, .inr (7, [.int 0, tw_1, tw_2, tw_3, tw_4, tw_5, tw_6, tw_7, tw_8, tw_9, tw_10, tw_11]))] sz)) 0 0 (va_A [(ob, .inr (9, [.ref tp, .int 0, .ref rd, .ref sa, .ref im, .ref sl, .ref ro, .ref wy, .ref od, .ref ok])), (sa, .inr (6, [.ref tw, .ref co, .ref de, .ref dd, .ref kn, .int 0, .int 0, .ref fo])), (tw, .inr (7, [.int 0, tw_1, tw_2, tw_3, tw_4, tw_5, tw_6, tw_7, tw_8, tw_9, tw_10, tw_11]))] sz) := by
  refine Met.ofW (cc := cX9_bars) (maxL := 4) (ret := (some .int)) (by decide) rfl ?_
  intro p e s m args below meth c s₁ B hml hv
  obtain ⟨rfl, hsz, hP, hK, hD0⟩ := hv
  have hx := B.exec
  have hb := B.bytes
  have hr := B.returns
  have hw0 : ∀ w ∈ wAll, w.before _ s = true := fun w h => atoms_spec (ws := Cond.code yX9_bars cX9_bars 4 (some .int) :: wAll) B.pre w (List.mem_cons_of_mem _ h)
  have hown : s.vm.findClass RX9 = some m.cls := findClass_of_methodNamed B.named
  have hlocks := B.notSynchronized
  subst hsz
  have hD := hD0.self (sz := s.heap.size)
  generalize hAe : va_A [(ob, .inr (9, [.ref tp, .int 0, .ref rd, .ref sa, .ref im, .ref sl, .ref ro, .ref wy, .ref od, .ref ok])), (sa, .inr (6, [.ref tw, .ref co, .ref de, .ref dd, .ref kn, .int 0, .int 0, .ref fo])), (tw, .inr (7, [.int 0, tw_1, tw_2, tw_3, tw_4, tw_5, tw_6, tw_7, tw_8, tw_9, tw_10, tw_11]))] s.heap.size = A at hD ⊢
  have hA : ∀ q : Nat, s.heap.size ≤ q → A q := fun q h => by rw [← hAe]; exact Or.inr h
  have hS : va_S A s.heap s.heap [] := va_S.rf
  have hP : va_P G vwCl [(ob, .inr (9, [.ref tp, .int 0, .ref rd, .ref sa, .ref im, .ref sl, .ref ro, .ref wy, .ref od, .ref ok])), (sa, .inr (6, [.ref tw, .ref co, .ref de, .ref dd, .ref kn, .int 0, .int 0, .ref fo])), (tw, .inr (7, [.int 0, tw_1, tw_2, tw_3, tw_4, tw_5, tw_6, tw_7, tw_8, tw_9, tw_10, tw_11]))] s.heap := hP
  have hl := lv_entry ([.ref ob, .int a1, .int a2, .int a3]) (n := 4) (Nat.le_of_ble_eq_true rfl)
  rw [lg_entry_eq]
  generalize (lg_sl ([.ref ob, .int a1, .int a2, .int a3]) ++ List.replicate (4 - (lg_sl ([.ref ob, .int a1, .int a2, .int a3])).length) Slot.unset).toArray = ls at hl ⊢
  have hl : lv_has ls 4 [(0, .ref ob), (1, .int a1), (2, .int a2), (3, .int a3)] := hl
  refine lv_aload_n hx hb dX9_bars_0 rfl (lv_at hl 0 rfl) ?_
  refine lv_iload_n hx hb dX9_bars_1 rfl (lv_at hl 1 rfl) ?_
  refine lv_iload_n hx hb dX9_bars_2 rfl (lv_at hl 2 rfl) ?_
  refine lv_iload_n hx hb dX9_bars_3 rfl (lv_at hl 3 rfl) ?_
  refine cVi (As := [.int a1, .int a2, .int a3]) (rest := []) ⟨hx, hb, hml, hown, hw0⟩ hA hK hP hD hS [0, 1, 2] [] [(ob, .inr (9, [.ref tp, .int 0, .ref rd, .ref sa, .ref im, .ref sl, .ref ro, .ref wy, .ref od, .ref ok])), (sa, .inr (6, [.ref tw, .ref co, .ref de, .ref dd, .ref kn, .int 0, .int 0, .ref fo])), (tw, .inr (7, [.int 0, tw_1, tw_2, tw_3, tw_4, tw_5, tw_6, tw_7, tw_8, tw_9, tw_10, tw_11]))] [] rfl rfl (by decide) (by decide) (by decide) (kX9_isDeed l G y _ ob a1 a2 a3 tp rd sa im sl ro wy od ok tw co de dd kn fo (tw_1) (tw_2) (tw_3) (tw_4) (tw_5) (tw_6) (tw_7) (tw_8) (tw_9) (tw_10) (tw_11) ) ⟨(callB_of 3 hw0 (gA m_180) rfl rfl rfl (hw0 _ m_183) (hw0 _ m_184) (by decide +kernel) ⟨Nat.le_of_ble_eq_true rfl, Nat.le_of_ble_eq_true rfl⟩), (hw0 _ m_185), (hw0 _ m_186)⟩ (ci := 9) (q := (RX9, TX9, 10)) rfl rfl rfl hl.1 (Nat.le_of_ble_eq_true rfl) dX9_bars_4 ⟨Nat.le_of_ble_eq_true rfl, Nat.le_of_ble_eq_true rfl⟩ (fun r_1 w_1 H locs hw_1 hP hD hS => ?_)
  obtain ⟨rfl, rfl⟩ := hw_1
  have hP : va_P G vwCl [(ob, .inr (9, [.ref tp, .int 0, .ref rd, .ref sa, .ref im, .ref sl, .ref ro, .ref wy, .ref od, .ref ok])), (sa, .inr (6, [.ref tw, .ref co, .ref de, .ref dd, .ref kn, .int 0, .int 0, .ref fo])), (tw, .inr (7, [.int 0, tw_1, tw_2, tw_3, tw_4, tw_5, tw_6, tw_7, tw_8, tw_9, tw_10, tw_11]))] H := hP
  have hD : va_D A [(ob, .inr (9, [.ref tp, .int 0, .ref rd, .ref sa, .ref im, .ref sl, .ref ro, .ref wy, .ref od, .ref ok])), (sa, .inr (6, [.ref tw, .ref co, .ref de, .ref dd, .ref kn, .int 0, .int 0, .ref fo])), (tw, .inr (7, [.int 0, tw_1, tw_2, tw_3, tw_4, tw_5, tw_6, tw_7, tw_8, tw_9, tw_10, tw_11]))] := hD
  refine lv_if_eq (tgt := 23) hx hb dX9_bars_7 (by decide) (fun _ => ?_) (fun c9 => absurd (by decide) c9)
  refine lv_bipush (v := (-2)) hx hb dX9_bars_23 (by decide) ?_
  refine W.widen (k := 0) (n := 0) (Nat.le_of_ble_eq_true rfl) (Nat.le_of_ble_eq_true rfl) ?_
  exact W.iret (v := (-2)) hx hb hr (fun t ht hW => ⟨⟨(-2), _, rfl, rfl, by rw [ht]; exact hP, hD⟩, hS.F ht⟩) hS.2.2 dX9_bars_25

set_option maxHeartbeats 4000000 in
set_option maxRecDepth 100000 in
theorem kX9_does (l : Launch) (G : va_G) (y : Nat → ClassId) (sz : Nat) (ob : Nat) (a1 : Int32) (a2 : Int32) (a3 : Int32) (tp : Nat) (rd : Nat) (sa : Nat) (im : Nat) (sl : Nat) (ro : Nat) (wy : Nat) (od : Nat) (ok : Nat) (tw : Nat) (co : Nat) (de : Nat) (dd : Nat) (kn : Nat) (fo : Nat) (tw_1 : Value) (tw_2 : Value) (tw_3 : Value) (tw_4 : Value) (tw_5 : Value) (tw_6 : Value) (tw_7 : Value) (tw_8 : Value) (tw_9 : Value) (tw_10 : Value) (tw_11 : Value)  : Met l yX9_does (Cond.code yX9_does cX9_does 4 (some .int) :: wAll) ({ frames := 3, cells := 0, slots := 0, locals := 66 }) (va_Pc [.ref ob, .int a1, .int a2, .int a3] (kp G y sz [(ob, .inr (9, [.ref tp, .int 0, .ref rd, .ref sa, .ref im, .ref sl, .ref ro, .ref wy, .ref od, .ref ok])), (sa, .inr (6, [.ref tw, .ref co, .ref de, .ref dd, .ref kn, .int 0, .int 0, .ref fo])), (tw, .inr (7, [.int 0, tw_1, tw_2, tw_3, tw_4, tw_5, tw_6, tw_7, tw_8, tw_9, tw_10, tw_11]))])) (va_Qi (fun (r : Int32) (_ : va_W) => r = -2) (kq G (va_A [(ob, .inr (9, [.ref tp, .int 0, .ref rd, .ref sa, .ref im, .ref sl, .ref ro, .ref wy, .ref od, .ref ok])), (sa, .inr (6, [.ref tw, .ref co, .ref de, .ref dd, .ref kn, .int 0, .int 0, .ref fo])), (tw, .inr (7, [.int 0, tw_1, tw_2, tw_3, tw_4, tw_5, tw_6, tw_7, tw_8, tw_9, tw_10, tw_11]))] sz)) (va_A [(ob, .inr (9, [.ref tp, .int 0, .ref rd, .ref sa, .ref im, .ref sl, .ref ro, .ref wy, .ref od, .ref ok])), (sa, .inr (6, [.ref tw, .ref co, .ref de, .ref dd, .ref kn, .int 0, .int 0, .ref fo])), (tw, .inr (7, [.int 0, tw_1, tw_2, tw_3, tw_4, tw_5, tw_6, tw_7, tw_8, tw_9, tw_10, tw_11]))] sz)) 0 0 (va_A [(ob, .inr (9, [.ref tp, .int 0, .ref rd, .ref sa, .ref im, .ref sl, .ref ro, .ref wy, .ref od, .ref ok])), (sa, .inr (6, [.ref tw, .ref co, .ref de, .ref dd, .ref kn, .int 0, .int 0, .ref fo])), (tw, .inr (7, [.int 0, tw_1, tw_2, tw_3, tw_4, tw_5, tw_6, tw_7, tw_8, tw_9, tw_10, tw_11]))] sz) := by
  refine Met.ofW (cc := cX9_does) (maxL := 4) (ret := (some .int)) (by decide) rfl ?_
  intro p e s m args below meth c s₁ B hml hv
  obtain ⟨rfl, hsz, hP, hK, hD0⟩ := hv
  have hx := B.exec
  have hb := B.bytes
  have hr := B.returns
  have hw0 : ∀ w ∈ wAll, w.before _ s = true := fun w h => atoms_spec (ws := Cond.code yX9_does cX9_does 4 (some .int) :: wAll) B.pre w (List.mem_cons_of_mem _ h)
  have hown : s.vm.findClass RX9 = some m.cls := findClass_of_methodNamed B.named
  have hlocks := B.notSynchronized
  subst hsz
  have hD := hD0.self (sz := s.heap.size)
  generalize hAe : va_A [(ob, .inr (9, [.ref tp, .int 0, .ref rd, .ref sa, .ref im, .ref sl, .ref ro, .ref wy, .ref od, .ref ok])), (sa, .inr (6, [.ref tw, .ref co, .ref de, .ref dd, .ref kn, .int 0, .int 0, .ref fo])), (tw, .inr (7, [.int 0, tw_1, tw_2, tw_3, tw_4, tw_5, tw_6, tw_7, tw_8, tw_9, tw_10, tw_11]))] s.heap.size = A at hD ⊢
  have hA : ∀ q : Nat, s.heap.size ≤ q → A q := fun q h => by rw [← hAe]; exact Or.inr h
  have hS : va_S A s.heap s.heap [] := va_S.rf
  have hP : va_P G vwCl [(ob, .inr (9, [.ref tp, .int 0, .ref rd, .ref sa, .ref im, .ref sl, .ref ro, .ref wy, .ref od, .ref ok])), (sa, .inr (6, [.ref tw, .ref co, .ref de, .ref dd, .ref kn, .int 0, .int 0, .ref fo])), (tw, .inr (7, [.int 0, tw_1, tw_2, tw_3, tw_4, tw_5, tw_6, tw_7, tw_8, tw_9, tw_10, tw_11]))] s.heap := hP
  have hl := lv_entry ([.ref ob, .int a1, .int a2, .int a3]) (n := 4) (Nat.le_of_ble_eq_true rfl)
  rw [lg_entry_eq]
  generalize (lg_sl ([.ref ob, .int a1, .int a2, .int a3]) ++ List.replicate (4 - (lg_sl ([.ref ob, .int a1, .int a2, .int a3])).length) Slot.unset).toArray = ls at hl ⊢
  have hl : lv_has ls 4 [(0, .ref ob), (1, .int a1), (2, .int a2), (3, .int a3)] := hl
  refine lv_aload_n hx hb dX9_does_0 rfl (lv_at hl 0 rfl) ?_
  refine lv_iload_n hx hb dX9_does_1 rfl (lv_at hl 1 rfl) ?_
  refine lv_iload_n hx hb dX9_does_2 rfl (lv_at hl 2 rfl) ?_
  refine lv_iload_n hx hb dX9_does_3 rfl (lv_at hl 3 rfl) ?_
  refine cVi (As := [.int a1, .int a2, .int a3]) (rest := []) ⟨hx, hb, hml, hown, hw0⟩ hA hK hP hD hS [0, 1, 2] [] [(ob, .inr (9, [.ref tp, .int 0, .ref rd, .ref sa, .ref im, .ref sl, .ref ro, .ref wy, .ref od, .ref ok])), (sa, .inr (6, [.ref tw, .ref co, .ref de, .ref dd, .ref kn, .int 0, .int 0, .ref fo])), (tw, .inr (7, [.int 0, tw_1, tw_2, tw_3, tw_4, tw_5, tw_6, tw_7, tw_8, tw_9, tw_10, tw_11]))] [] rfl rfl (by decide) (by decide) (by decide) (kX9_isDeed l G y _ ob a1 a2 a3 tp rd sa im sl ro wy od ok tw co de dd kn fo (tw_1) (tw_2) (tw_3) (tw_4) (tw_5) (tw_6) (tw_7) (tw_8) (tw_9) (tw_10) (tw_11) ) ⟨(callB_of 3 hw0 (gA m_180) rfl rfl rfl (hw0 _ m_183) (hw0 _ m_184) (by decide +kernel) ⟨Nat.le_of_ble_eq_true rfl, Nat.le_of_ble_eq_true rfl⟩), (hw0 _ m_185), (hw0 _ m_186)⟩ (ci := 9) (q := (RX9, TX9, 10)) rfl rfl rfl hl.1 (Nat.le_of_ble_eq_true rfl) dX9_does_4 ⟨Nat.le_of_ble_eq_true rfl, Nat.le_of_ble_eq_true rfl⟩ (fun r_1 w_1 H locs hw_1 hP hD hS => ?_)
  obtain ⟨rfl, rfl⟩ := hw_1
  have hP : va_P G vwCl [(ob, .inr (9, [.ref tp, .int 0, .ref rd, .ref sa, .ref im, .ref sl, .ref ro, .ref wy, .ref od, .ref ok])), (sa, .inr (6, [.ref tw, .ref co, .ref de, .ref dd, .ref kn, .int 0, .int 0, .ref fo])), (tw, .inr (7, [.int 0, tw_1, tw_2, tw_3, tw_4, tw_5, tw_6, tw_7, tw_8, tw_9, tw_10, tw_11]))] H := hP
  have hD : va_D A [(ob, .inr (9, [.ref tp, .int 0, .ref rd, .ref sa, .ref im, .ref sl, .ref ro, .ref wy, .ref od, .ref ok])), (sa, .inr (6, [.ref tw, .ref co, .ref de, .ref dd, .ref kn, .int 0, .int 0, .ref fo])), (tw, .inr (7, [.int 0, tw_1, tw_2, tw_3, tw_4, tw_5, tw_6, tw_7, tw_8, tw_9, tw_10, tw_11]))] := hD
  refine lv_if_ne (tgt := 13) hx hb dX9_does_7 (by decide) (fun c9 => absurd (by decide) c9) (fun _ => ?_)
  refine lv_bipush (v := (-2)) hx hb dX9_does_10 (by decide) ?_
  refine W.widen (k := 0) (n := 0) (Nat.le_of_ble_eq_true rfl) (Nat.le_of_ble_eq_true rfl) ?_
  exact W.iret (v := (-2)) hx hb hr (fun t ht hW => ⟨⟨(-2), _, rfl, rfl, by rw [ht]; exact hP, hD⟩, hS.F ht⟩) hS.2.2 dX9_does_12

set_option maxHeartbeats 4000000 in
set_option maxRecDepth 100000 in
theorem kX9_meet (l : Launch) (G : va_G) (y : Nat → ClassId) (sz : Nat) (ob : Nat) (a1 : Int32) (a2 : Int32) (tp : Nat) (rd : Nat) (sa : Nat) (im : Nat) (sl : Nat) (ro : Nat) (wy : Nat) (od : Nat) (ok : Nat) (tw : Nat) (co : Nat) (de : Nat) (dd : Nat) (kn : Nat) (fo : Nat) (tw_1 : Value) (tw_2 : Value) (tw_3 : Value) (tw_4 : Value) (tw_5 : Value) (tw_6 : Value) (tw_7 : Value) (tw_8 : Value) (tw_9 : Value) (tw_10 : Value) (tw_11 : Value)  : Met l yX9_meet (Cond.code yX9_meet cX9_meet 3 (some .int) :: wAll) ({ frames := 2, cells := 0, slots := 0, locals := 43 }) (va_Pc [.ref ob, .int a1, .int a2] (kp G y sz [(ob, .inr (9, [.ref tp, .int 0, .ref rd, .ref sa, .ref im, .ref sl, .ref ro, .ref wy, .ref od, .ref ok])), (sa, .inr (6, [.ref tw, .ref co, .ref de, .ref dd, .ref kn, .int 0, .int 0, .ref fo])), (tw, .inr (7, [.int 0, tw_1, tw_2, tw_3, tw_4, tw_5, tw_6, tw_7, tw_8, tw_9, tw_10, tw_11]))])) (va_Qi (fun (r : Int32) (_ : va_W) => r = -2) (kq G (va_A [(ob, .inr (9, [.ref tp, .int 0, .ref rd, .ref sa, .ref im, .ref sl, .ref ro, .ref wy, .ref od, .ref ok])), (sa, .inr (6, [.ref tw, .ref co, .ref de, .ref dd, .ref kn, .int 0, .int 0, .ref fo])), (tw, .inr (7, [.int 0, tw_1, tw_2, tw_3, tw_4, tw_5, tw_6, tw_7, tw_8, tw_9, tw_10, tw_11]))] sz)) (va_A [(ob, .inr (9, [.ref tp, .int 0, .ref rd, .ref sa, .ref im, .ref sl, .ref ro, .ref wy, .ref od, .ref ok])), (sa, .inr (6, [.ref tw, .ref co, .ref de, .ref dd, .ref kn, .int 0, .int 0, .ref fo])), (tw, .inr (7, [.int 0, tw_1, tw_2, tw_3, tw_4, tw_5, tw_6, tw_7, tw_8, tw_9, tw_10, tw_11]))] sz)) 0 0 (va_A [(ob, .inr (9, [.ref tp, .int 0, .ref rd, .ref sa, .ref im, .ref sl, .ref ro, .ref wy, .ref od, .ref ok])), (sa, .inr (6, [.ref tw, .ref co, .ref de, .ref dd, .ref kn, .int 0, .int 0, .ref fo])), (tw, .inr (7, [.int 0, tw_1, tw_2, tw_3, tw_4, tw_5, tw_6, tw_7, tw_8, tw_9, tw_10, tw_11]))] sz) := by
  refine Met.ofW (cc := cX9_meet) (maxL := 3) (ret := (some .int)) (by decide) rfl ?_
  intro p e s m args below meth c s₁ B hml hv
  obtain ⟨rfl, hsz, hP, hK, hD0⟩ := hv
  have hx := B.exec
  have hb := B.bytes
  have hr := B.returns
  have hw0 : ∀ w ∈ wAll, w.before _ s = true := fun w h => atoms_spec (ws := Cond.code yX9_meet cX9_meet 3 (some .int) :: wAll) B.pre w (List.mem_cons_of_mem _ h)
  have hown : s.vm.findClass RX9 = some m.cls := findClass_of_methodNamed B.named
  have hlocks := B.notSynchronized
  subst hsz
  have hD := hD0.self (sz := s.heap.size)
  generalize hAe : va_A [(ob, .inr (9, [.ref tp, .int 0, .ref rd, .ref sa, .ref im, .ref sl, .ref ro, .ref wy, .ref od, .ref ok])), (sa, .inr (6, [.ref tw, .ref co, .ref de, .ref dd, .ref kn, .int 0, .int 0, .ref fo])), (tw, .inr (7, [.int 0, tw_1, tw_2, tw_3, tw_4, tw_5, tw_6, tw_7, tw_8, tw_9, tw_10, tw_11]))] s.heap.size = A at hD ⊢
  have hA : ∀ q : Nat, s.heap.size ≤ q → A q := fun q h => by rw [← hAe]; exact Or.inr h
  have hS : va_S A s.heap s.heap [] := va_S.rf
  have hP : va_P G vwCl [(ob, .inr (9, [.ref tp, .int 0, .ref rd, .ref sa, .ref im, .ref sl, .ref ro, .ref wy, .ref od, .ref ok])), (sa, .inr (6, [.ref tw, .ref co, .ref de, .ref dd, .ref kn, .int 0, .int 0, .ref fo])), (tw, .inr (7, [.int 0, tw_1, tw_2, tw_3, tw_4, tw_5, tw_6, tw_7, tw_8, tw_9, tw_10, tw_11]))] s.heap := hP
  have hl := lv_entry ([.ref ob, .int a1, .int a2]) (n := 3) (Nat.le_of_ble_eq_true rfl)
  rw [lg_entry_eq]
  generalize (lg_sl ([.ref ob, .int a1, .int a2]) ++ List.replicate (3 - (lg_sl ([.ref ob, .int a1, .int a2])).length) Slot.unset).toArray = ls at hl ⊢
  have hl : lv_has ls 3 [(0, .ref ob), (1, .int a1), (2, .int a2)] := hl
  refine lv_aload_n hx hb dX9_meet_0 rfl (lv_at hl 0 rfl) ?_
  refine va_get (D := G) (ci := 9) (v := .ref sa) (C := RX9) (T := TX9) (N := 10) hx hb hw0 inA_wsX90 hown hK.1 hP 0 rfl rfl 3 (by decide) (hw0 _ m_110) (fun _ h9 => h9) rfl dX9_meet_1 ?_
  refine va_get (D := G) (ci := 6) (v := .ref tw) (C := RX6) (T := TX6) (N := 8) hx hb hw0 inA_wsX60 hown hK.1 hP 1 rfl rfl 0 (by decide) (hw0 _ m_176) (fun _ h9 => h9) rfl dX9_meet_4 ?_
  refine lv_iload_n hx hb dX9_meet_7 rfl (lv_at hl 1 rfl) ?_
  refine lv_iload_n hx hb dX9_meet_8 rfl (lv_at hl 2 rfl) ?_
  refine cVi (As := [.int a1, .int a2]) (rest := []) ⟨hx, hb, hml, hown, hw0⟩ hA hK hP hD hS [2] [0, 1] [(tw, .inr (7, [.int 0, tw_1, tw_2, tw_3, tw_4, tw_5, tw_6, tw_7, tw_8, tw_9, tw_10, tw_11]))] [(ob, .inr (9, [.ref tp, .int 0, .ref rd, .ref sa, .ref im, .ref sl, .ref ro, .ref wy, .ref od, .ref ok])), (sa, .inr (6, [.ref tw, .ref co, .ref de, .ref dd, .ref kn, .int 0, .int 0, .ref fo]))] rfl rfl (by decide) (by decide) (by decide) (kX7_hasPair l G y _ tw a1 a2 (tw_1) (tw_2) (tw_3) (tw_4) (tw_5) (tw_6) (tw_7) (tw_8) (tw_9) (tw_10) (tw_11) ) ⟨(callB_of 2 hw0 (gA m_175) rfl rfl rfl (hw0 _ m_70) (hw0 _ m_177) (by decide +kernel) ⟨Nat.le_of_ble_eq_true rfl, Nat.le_of_ble_eq_true rfl⟩), (hw0 _ m_178), (hw0 _ m_179)⟩ (ci := 7) (q := (RX7, TX7, 12)) rfl rfl rfl hl.1 (Nat.le_of_ble_eq_true rfl) dX9_meet_9 ⟨Nat.le_of_ble_eq_true rfl, Nat.le_of_ble_eq_true rfl⟩ (fun r_1 w_1 H locs hw_1 hP hD hS => ?_)
  obtain ⟨rfl, rfl⟩ := hw_1
  have hP : va_P G vwCl [(ob, .inr (9, [.ref tp, .int 0, .ref rd, .ref sa, .ref im, .ref sl, .ref ro, .ref wy, .ref od, .ref ok])), (sa, .inr (6, [.ref tw, .ref co, .ref de, .ref dd, .ref kn, .int 0, .int 0, .ref fo])), (tw, .inr (7, [.int 0, tw_1, tw_2, tw_3, tw_4, tw_5, tw_6, tw_7, tw_8, tw_9, tw_10, tw_11]))] H := hP
  have hD : va_D A [(ob, .inr (9, [.ref tp, .int 0, .ref rd, .ref sa, .ref im, .ref sl, .ref ro, .ref wy, .ref od, .ref ok])), (sa, .inr (6, [.ref tw, .ref co, .ref de, .ref dd, .ref kn, .int 0, .int 0, .ref fo])), (tw, .inr (7, [.int 0, tw_1, tw_2, tw_3, tw_4, tw_5, tw_6, tw_7, tw_8, tw_9, tw_10, tw_11]))] := hD
  refine lv_if_ne (tgt := 18) hx hb dX9_meet_12 (by decide) (fun c9 => absurd (by decide) c9) (fun _ => ?_)
  refine lv_bipush (v := (-2)) hx hb dX9_meet_15 (by decide) ?_
  refine W.widen (k := 0) (n := 0) (Nat.le_of_ble_eq_true rfl) (Nat.le_of_ble_eq_true rfl) ?_
  exact W.iret (v := (-2)) hx hb hr (fun t ht hW => ⟨⟨(-2), _, rfl, rfl, by rw [ht]; exact hP, hD⟩, hS.F ht⟩) hS.2.2 dX9_meet_17

set_option maxHeartbeats 4000000 in
set_option maxRecDepth 100000 in
theorem kX9_known (l : Launch) (G : va_G) (y : Nat → ClassId) (sz : Nat) (ob : Nat) (a1 : Int32) (a2 : Int32) (tp : Nat) (rd : Nat) (sa : Nat) (im : Nat) (sl : Nat) (ro : Nat) (wy : Nat) (od : Nat) (ok : Nat) (tw : Nat) (co : Nat) (de : Nat) (dd : Nat) (kn : Nat) (fo : Nat) (tw_1 : Value) (tw_2 : Value) (tw_3 : Value) (tw_4 : Value) (tw_5 : Value) (tw_6 : Value) (tw_7 : Value) (tw_8 : Value) (tw_9 : Value) (tw_10 : Value) (tw_11 : Value)  : Met l yX9_known (Cond.code yX9_known cX9_known 3 (some .int) :: wAll) ({ frames := 2, cells := 0, slots := 0, locals := 43 }) (va_Pc [.ref ob, .int a1, .int a2] (kp G y sz [(ob, .inr (9, [.ref tp, .int 0, .ref rd, .ref sa, .ref im, .ref sl, .ref ro, .ref wy, .ref od, .ref ok])), (sa, .inr (6, [.ref tw, .ref co, .ref de, .ref dd, .ref kn, .int 0, .int 0, .ref fo])), (tw, .inr (7, [.int 0, tw_1, tw_2, tw_3, tw_4, tw_5, tw_6, tw_7, tw_8, tw_9, tw_10, tw_11]))])) (va_Qi (fun (r : Int32) (_ : va_W) => r = -2) (kq G (va_A [(ob, .inr (9, [.ref tp, .int 0, .ref rd, .ref sa, .ref im, .ref sl, .ref ro, .ref wy, .ref od, .ref ok])), (sa, .inr (6, [.ref tw, .ref co, .ref de, .ref dd, .ref kn, .int 0, .int 0, .ref fo])), (tw, .inr (7, [.int 0, tw_1, tw_2, tw_3, tw_4, tw_5, tw_6, tw_7, tw_8, tw_9, tw_10, tw_11]))] sz)) (va_A [(ob, .inr (9, [.ref tp, .int 0, .ref rd, .ref sa, .ref im, .ref sl, .ref ro, .ref wy, .ref od, .ref ok])), (sa, .inr (6, [.ref tw, .ref co, .ref de, .ref dd, .ref kn, .int 0, .int 0, .ref fo])), (tw, .inr (7, [.int 0, tw_1, tw_2, tw_3, tw_4, tw_5, tw_6, tw_7, tw_8, tw_9, tw_10, tw_11]))] sz)) 0 0 (va_A [(ob, .inr (9, [.ref tp, .int 0, .ref rd, .ref sa, .ref im, .ref sl, .ref ro, .ref wy, .ref od, .ref ok])), (sa, .inr (6, [.ref tw, .ref co, .ref de, .ref dd, .ref kn, .int 0, .int 0, .ref fo])), (tw, .inr (7, [.int 0, tw_1, tw_2, tw_3, tw_4, tw_5, tw_6, tw_7, tw_8, tw_9, tw_10, tw_11]))] sz) := by
  refine Met.ofW (cc := cX9_known) (maxL := 3) (ret := (some .int)) (by decide) rfl ?_
  intro p e s m args below meth c s₁ B hml hv
  obtain ⟨rfl, hsz, hP, hK, hD0⟩ := hv
  have hx := B.exec
  have hb := B.bytes
  have hr := B.returns
  have hw0 : ∀ w ∈ wAll, w.before _ s = true := fun w h => atoms_spec (ws := Cond.code yX9_known cX9_known 3 (some .int) :: wAll) B.pre w (List.mem_cons_of_mem _ h)
  have hown : s.vm.findClass RX9 = some m.cls := findClass_of_methodNamed B.named
  have hlocks := B.notSynchronized
  subst hsz
  have hD := hD0.self (sz := s.heap.size)
  generalize hAe : va_A [(ob, .inr (9, [.ref tp, .int 0, .ref rd, .ref sa, .ref im, .ref sl, .ref ro, .ref wy, .ref od, .ref ok])), (sa, .inr (6, [.ref tw, .ref co, .ref de, .ref dd, .ref kn, .int 0, .int 0, .ref fo])), (tw, .inr (7, [.int 0, tw_1, tw_2, tw_3, tw_4, tw_5, tw_6, tw_7, tw_8, tw_9, tw_10, tw_11]))] s.heap.size = A at hD ⊢
  have hA : ∀ q : Nat, s.heap.size ≤ q → A q := fun q h => by rw [← hAe]; exact Or.inr h
  have hS : va_S A s.heap s.heap [] := va_S.rf
  have hP : va_P G vwCl [(ob, .inr (9, [.ref tp, .int 0, .ref rd, .ref sa, .ref im, .ref sl, .ref ro, .ref wy, .ref od, .ref ok])), (sa, .inr (6, [.ref tw, .ref co, .ref de, .ref dd, .ref kn, .int 0, .int 0, .ref fo])), (tw, .inr (7, [.int 0, tw_1, tw_2, tw_3, tw_4, tw_5, tw_6, tw_7, tw_8, tw_9, tw_10, tw_11]))] s.heap := hP
  have hl := lv_entry ([.ref ob, .int a1, .int a2]) (n := 3) (Nat.le_of_ble_eq_true rfl)
  rw [lg_entry_eq]
  generalize (lg_sl ([.ref ob, .int a1, .int a2]) ++ List.replicate (3 - (lg_sl ([.ref ob, .int a1, .int a2])).length) Slot.unset).toArray = ls at hl ⊢
  have hl : lv_has ls 3 [(0, .ref ob), (1, .int a1), (2, .int a2)] := hl
  refine lv_aload_n hx hb dX9_known_0 rfl (lv_at hl 0 rfl) ?_
  refine va_get (D := G) (ci := 9) (v := .ref sa) (C := RX9) (T := TX9) (N := 10) hx hb hw0 inA_wsX90 hown hK.1 hP 0 rfl rfl 3 (by decide) (hw0 _ m_110) (fun _ h9 => h9) rfl dX9_known_1 ?_
  refine va_get (D := G) (ci := 6) (v := .ref tw) (C := RX6) (T := TX6) (N := 8) hx hb hw0 inA_wsX60 hown hK.1 hP 1 rfl rfl 0 (by decide) (hw0 _ m_176) (fun _ h9 => h9) rfl dX9_known_4 ?_
  refine lv_iload_n hx hb dX9_known_7 rfl (lv_at hl 1 rfl) ?_
  refine lv_iload_n hx hb dX9_known_8 rfl (lv_at hl 2 rfl) ?_
  refine cVi (As := [.int a1, .int a2]) (rest := []) ⟨hx, hb, hml, hown, hw0⟩ hA hK hP hD hS [2] [0, 1] [(tw, .inr (7, [.int 0, tw_1, tw_2, tw_3, tw_4, tw_5, tw_6, tw_7, tw_8, tw_9, tw_10, tw_11]))] [(ob, .inr (9, [.ref tp, .int 0, .ref rd, .ref sa, .ref im, .ref sl, .ref ro, .ref wy, .ref od, .ref ok])), (sa, .inr (6, [.ref tw, .ref co, .ref de, .ref dd, .ref kn, .int 0, .int 0, .ref fo]))] rfl rfl (by decide) (by decide) (by decide) (kX7_hasPair l G y _ tw a1 a2 (tw_1) (tw_2) (tw_3) (tw_4) (tw_5) (tw_6) (tw_7) (tw_8) (tw_9) (tw_10) (tw_11) ) ⟨(callB_of 2 hw0 (gA m_175) rfl rfl rfl (hw0 _ m_70) (hw0 _ m_177) (by decide +kernel) ⟨Nat.le_of_ble_eq_true rfl, Nat.le_of_ble_eq_true rfl⟩), (hw0 _ m_178), (hw0 _ m_179)⟩ (ci := 7) (q := (RX7, TX7, 12)) rfl rfl rfl hl.1 (Nat.le_of_ble_eq_true rfl) dX9_known_9 ⟨Nat.le_of_ble_eq_true rfl, Nat.le_of_ble_eq_true rfl⟩ (fun r_1 w_1 H locs hw_1 hP hD hS => ?_)
  obtain ⟨rfl, rfl⟩ := hw_1
  have hP : va_P G vwCl [(ob, .inr (9, [.ref tp, .int 0, .ref rd, .ref sa, .ref im, .ref sl, .ref ro, .ref wy, .ref od, .ref ok])), (sa, .inr (6, [.ref tw, .ref co, .ref de, .ref dd, .ref kn, .int 0, .int 0, .ref fo])), (tw, .inr (7, [.int 0, tw_1, tw_2, tw_3, tw_4, tw_5, tw_6, tw_7, tw_8, tw_9, tw_10, tw_11]))] H := hP
  have hD : va_D A [(ob, .inr (9, [.ref tp, .int 0, .ref rd, .ref sa, .ref im, .ref sl, .ref ro, .ref wy, .ref od, .ref ok])), (sa, .inr (6, [.ref tw, .ref co, .ref de, .ref dd, .ref kn, .int 0, .int 0, .ref fo])), (tw, .inr (7, [.int 0, tw_1, tw_2, tw_3, tw_4, tw_5, tw_6, tw_7, tw_8, tw_9, tw_10, tw_11]))] := hD
  refine lv_if_eq (tgt := 27) hx hb dX9_known_12 (by decide) (fun _ => ?_) (fun c9 => absurd (by decide) c9)
  refine lv_bipush (v := (-2)) hx hb dX9_known_27 (by decide) ?_
  refine W.widen (k := 0) (n := 0) (Nat.le_of_ble_eq_true rfl) (Nat.le_of_ble_eq_true rfl) ?_
  exact W.iret (v := (-2)) hx hb hr (fun t ht hW => ⟨⟨(-2), _, rfl, rfl, by rw [ht]; exact hP, hD⟩, hS.F ht⟩) hS.2.2 dX9_known_29

set_option maxHeartbeats 4000000 in
set_option maxRecDepth 100000 in
theorem kX9_debts (l : Launch) (G : va_G) (y : Nat → ClassId) (sz : Nat) (ob : Nat) (a1 : Int32) (tp : Nat) (rd : Nat) (sa : Nat) (im : Nat) (sl : Nat) (ro : Nat) (wy : Nat) (od : Nat) (ok : Nat) (tw : Nat) (co : Nat) (de : Nat) (dd : Nat) (kn : Nat) (fo : Nat) (tw_1 : Value) (tw_2 : Value) (tw_3 : Value) (tw_4 : Value) (tw_5 : Value) (tw_6 : Value) (tw_7 : Value) (tw_8 : Value) (tw_9 : Value) (tw_10 : Value) (tw_11 : Value)  : Met l yX9_debts (Cond.code yX9_debts cX9_debts 2 (some .int) :: wAll) ({ frames := 1, cells := 0, slots := 0, locals := 21 }) (va_Pc [.ref ob, .int a1] (kp G y sz [(ob, .inr (9, [.ref tp, .int 0, .ref rd, .ref sa, .ref im, .ref sl, .ref ro, .ref wy, .ref od, .ref ok])), (sa, .inr (6, [.ref tw, .ref co, .ref de, .ref dd, .ref kn, .int 0, .int 0, .ref fo])), (tw, .inr (7, [.int 0, tw_1, tw_2, tw_3, tw_4, tw_5, tw_6, tw_7, tw_8, tw_9, tw_10, tw_11]))])) (va_Qi (fun (r : Int32) (_ : va_W) => r = -2) (kq G (va_A [(ob, .inr (9, [.ref tp, .int 0, .ref rd, .ref sa, .ref im, .ref sl, .ref ro, .ref wy, .ref od, .ref ok])), (sa, .inr (6, [.ref tw, .ref co, .ref de, .ref dd, .ref kn, .int 0, .int 0, .ref fo])), (tw, .inr (7, [.int 0, tw_1, tw_2, tw_3, tw_4, tw_5, tw_6, tw_7, tw_8, tw_9, tw_10, tw_11]))] sz)) (va_A [(ob, .inr (9, [.ref tp, .int 0, .ref rd, .ref sa, .ref im, .ref sl, .ref ro, .ref wy, .ref od, .ref ok])), (sa, .inr (6, [.ref tw, .ref co, .ref de, .ref dd, .ref kn, .int 0, .int 0, .ref fo])), (tw, .inr (7, [.int 0, tw_1, tw_2, tw_3, tw_4, tw_5, tw_6, tw_7, tw_8, tw_9, tw_10, tw_11]))] sz)) 0 0 (va_A [(ob, .inr (9, [.ref tp, .int 0, .ref rd, .ref sa, .ref im, .ref sl, .ref ro, .ref wy, .ref od, .ref ok])), (sa, .inr (6, [.ref tw, .ref co, .ref de, .ref dd, .ref kn, .int 0, .int 0, .ref fo])), (tw, .inr (7, [.int 0, tw_1, tw_2, tw_3, tw_4, tw_5, tw_6, tw_7, tw_8, tw_9, tw_10, tw_11]))] sz) := by
  refine Met.ofW (cc := cX9_debts) (maxL := 2) (ret := (some .int)) (by decide) rfl ?_
  intro p e s m args below meth c s₁ B hml hv
  obtain ⟨rfl, hsz, hP, hK, hD0⟩ := hv
  have hx := B.exec
  have hb := B.bytes
  have hr := B.returns
  have hw0 : ∀ w ∈ wAll, w.before _ s = true := fun w h => atoms_spec (ws := Cond.code yX9_debts cX9_debts 2 (some .int) :: wAll) B.pre w (List.mem_cons_of_mem _ h)
  have hown : s.vm.findClass RX9 = some m.cls := findClass_of_methodNamed B.named
  have hlocks := B.notSynchronized
  subst hsz
  have hD := hD0.self (sz := s.heap.size)
  generalize hAe : va_A [(ob, .inr (9, [.ref tp, .int 0, .ref rd, .ref sa, .ref im, .ref sl, .ref ro, .ref wy, .ref od, .ref ok])), (sa, .inr (6, [.ref tw, .ref co, .ref de, .ref dd, .ref kn, .int 0, .int 0, .ref fo])), (tw, .inr (7, [.int 0, tw_1, tw_2, tw_3, tw_4, tw_5, tw_6, tw_7, tw_8, tw_9, tw_10, tw_11]))] s.heap.size = A at hD ⊢
  have hA : ∀ q : Nat, s.heap.size ≤ q → A q := fun q h => by rw [← hAe]; exact Or.inr h
  have hS : va_S A s.heap s.heap [] := va_S.rf
  have hP : va_P G vwCl [(ob, .inr (9, [.ref tp, .int 0, .ref rd, .ref sa, .ref im, .ref sl, .ref ro, .ref wy, .ref od, .ref ok])), (sa, .inr (6, [.ref tw, .ref co, .ref de, .ref dd, .ref kn, .int 0, .int 0, .ref fo])), (tw, .inr (7, [.int 0, tw_1, tw_2, tw_3, tw_4, tw_5, tw_6, tw_7, tw_8, tw_9, tw_10, tw_11]))] s.heap := hP
  have hl := lv_entry ([.ref ob, .int a1]) (n := 2) (Nat.le_of_ble_eq_true rfl)
  rw [lg_entry_eq]
  generalize (lg_sl ([.ref ob, .int a1]) ++ List.replicate (2 - (lg_sl ([.ref ob, .int a1])).length) Slot.unset).toArray = ls at hl ⊢
  have hl : lv_has ls 2 [(0, .ref ob), (1, .int a1)] := hl
  refine lv_aload_n hx hb dX9_debts_0 rfl (lv_at hl 0 rfl) ?_
  refine va_get (D := G) (ci := 9) (v := .ref sa) (C := RX9) (T := TX9) (N := 10) hx hb hw0 inA_wsX90 hown hK.1 hP 0 rfl rfl 3 (by decide) (hw0 _ m_110) (fun _ h9 => h9) rfl dX9_debts_1 ?_
  refine va_get (D := G) (ci := 6) (v := .ref tw) (C := RX6) (T := TX6) (N := 8) hx hb hw0 inA_wsX60 hown hK.1 hP 1 rfl rfl 0 (by decide) (hw0 _ m_176) (fun _ h9 => h9) rfl dX9_debts_4 ?_
  refine lv_iload_n hx hb dX9_debts_7 rfl (lv_at hl 1 rfl) ?_
  refine cVi (As := [.int a1]) (rest := []) ⟨hx, hb, hml, hown, hw0⟩ hA hK hP hD hS [2] [0, 1] [(tw, .inr (7, [.int 0, tw_1, tw_2, tw_3, tw_4, tw_5, tw_6, tw_7, tw_8, tw_9, tw_10, tw_11]))] [(ob, .inr (9, [.ref tp, .int 0, .ref rd, .ref sa, .ref im, .ref sl, .ref ro, .ref wy, .ref od, .ref ok])), (sa, .inr (6, [.ref tw, .ref co, .ref de, .ref dd, .ref kn, .int 0, .int 0, .ref fo]))] rfl rfl (by decide) (by decide) (by decide) (kX7_has l G y _ tw a1 (tw_1) (tw_2) (tw_3) (tw_4) (tw_5) (tw_6) (tw_7) (tw_8) (tw_9) (tw_10) (tw_11) ) ⟨(callB_of 1 hw0 (gA m_171) rfl rfl rfl (hw0 _ m_70) (hw0 _ m_181) (by decide +kernel) ⟨Nat.le_of_ble_eq_true rfl, Nat.le_of_ble_eq_true rfl⟩), (hw0 _ m_173), (hw0 _ m_174)⟩ (ci := 7) (q := (RX7, TX7, 12)) rfl rfl rfl hl.1 (Nat.le_of_ble_eq_true rfl) dX9_debts_8 ⟨Nat.le_of_ble_eq_true rfl, Nat.le_of_ble_eq_true rfl⟩ (fun r_1 w_1 H locs hw_1 hP hD hS => ?_)
  obtain ⟨rfl, rfl⟩ := hw_1
  have hP : va_P G vwCl [(ob, .inr (9, [.ref tp, .int 0, .ref rd, .ref sa, .ref im, .ref sl, .ref ro, .ref wy, .ref od, .ref ok])), (sa, .inr (6, [.ref tw, .ref co, .ref de, .ref dd, .ref kn, .int 0, .int 0, .ref fo])), (tw, .inr (7, [.int 0, tw_1, tw_2, tw_3, tw_4, tw_5, tw_6, tw_7, tw_8, tw_9, tw_10, tw_11]))] H := hP
  have hD : va_D A [(ob, .inr (9, [.ref tp, .int 0, .ref rd, .ref sa, .ref im, .ref sl, .ref ro, .ref wy, .ref od, .ref ok])), (sa, .inr (6, [.ref tw, .ref co, .ref de, .ref dd, .ref kn, .int 0, .int 0, .ref fo])), (tw, .inr (7, [.int 0, tw_1, tw_2, tw_3, tw_4, tw_5, tw_6, tw_7, tw_8, tw_9, tw_10, tw_11]))] := hD
  refine lv_if_eq (tgt := 29) hx hb dX9_debts_11 (by decide) (fun _ => ?_) (fun c9 => absurd (by decide) c9)
  refine lv_bipush (v := (-2)) hx hb dX9_debts_29 (by decide) ?_
  refine W.widen (k := 0) (n := 0) (Nat.le_of_ble_eq_true rfl) (Nat.le_of_ble_eq_true rfl) ?_
  exact W.iret (v := (-2)) hx hb hr (fun t ht hW => ⟨⟨(-2), _, rfl, rfl, by rw [ht]; exact hP, hD⟩, hS.F ht⟩) hS.2.2 dX9_debts_31

set_option maxHeartbeats 4000000 in
set_option maxRecDepth 100000 in
theorem kX9_slights (l : Launch) (G : va_G) (y : Nat → ClassId) (sz : Nat) (ob : Nat) (a1 : Int32) (tp : Nat) (rd : Nat) (sa : Nat) (im : Nat) (sl : Nat) (ro : Nat) (wy : Nat) (od : Nat) (ok : Nat) (tw : Nat) (co : Nat) (de : Nat) (dd : Nat) (kn : Nat) (fo : Nat) (tw_1 : Value) (tw_2 : Value) (tw_3 : Value) (tw_4 : Value) (tw_5 : Value) (tw_6 : Value) (tw_7 : Value) (tw_8 : Value) (tw_9 : Value) (tw_10 : Value) (tw_11 : Value)  : Met l yX9_slights (Cond.code yX9_slights cX9_slights 2 (some .int) :: wAll) ({ frames := 1, cells := 0, slots := 0, locals := 21 }) (va_Pc [.ref ob, .int a1] (kp G y sz [(ob, .inr (9, [.ref tp, .int 0, .ref rd, .ref sa, .ref im, .ref sl, .ref ro, .ref wy, .ref od, .ref ok])), (sa, .inr (6, [.ref tw, .ref co, .ref de, .ref dd, .ref kn, .int 0, .int 0, .ref fo])), (tw, .inr (7, [.int 0, tw_1, tw_2, tw_3, tw_4, tw_5, tw_6, tw_7, tw_8, tw_9, tw_10, tw_11]))])) (va_Qi (fun (r : Int32) (_ : va_W) => r = -2) (kq G (va_A [(ob, .inr (9, [.ref tp, .int 0, .ref rd, .ref sa, .ref im, .ref sl, .ref ro, .ref wy, .ref od, .ref ok])), (sa, .inr (6, [.ref tw, .ref co, .ref de, .ref dd, .ref kn, .int 0, .int 0, .ref fo])), (tw, .inr (7, [.int 0, tw_1, tw_2, tw_3, tw_4, tw_5, tw_6, tw_7, tw_8, tw_9, tw_10, tw_11]))] sz)) (va_A [(ob, .inr (9, [.ref tp, .int 0, .ref rd, .ref sa, .ref im, .ref sl, .ref ro, .ref wy, .ref od, .ref ok])), (sa, .inr (6, [.ref tw, .ref co, .ref de, .ref dd, .ref kn, .int 0, .int 0, .ref fo])), (tw, .inr (7, [.int 0, tw_1, tw_2, tw_3, tw_4, tw_5, tw_6, tw_7, tw_8, tw_9, tw_10, tw_11]))] sz)) 0 0 (va_A [(ob, .inr (9, [.ref tp, .int 0, .ref rd, .ref sa, .ref im, .ref sl, .ref ro, .ref wy, .ref od, .ref ok])), (sa, .inr (6, [.ref tw, .ref co, .ref de, .ref dd, .ref kn, .int 0, .int 0, .ref fo])), (tw, .inr (7, [.int 0, tw_1, tw_2, tw_3, tw_4, tw_5, tw_6, tw_7, tw_8, tw_9, tw_10, tw_11]))] sz) := by
  refine Met.ofW (cc := cX9_slights) (maxL := 2) (ret := (some .int)) (by decide) rfl ?_
  intro p e s m args below meth c s₁ B hml hv
  obtain ⟨rfl, hsz, hP, hK, hD0⟩ := hv
  have hx := B.exec
  have hb := B.bytes
  have hr := B.returns
  have hw0 : ∀ w ∈ wAll, w.before _ s = true := fun w h => atoms_spec (ws := Cond.code yX9_slights cX9_slights 2 (some .int) :: wAll) B.pre w (List.mem_cons_of_mem _ h)
  have hown : s.vm.findClass RX9 = some m.cls := findClass_of_methodNamed B.named
  have hlocks := B.notSynchronized
  subst hsz
  have hD := hD0.self (sz := s.heap.size)
  generalize hAe : va_A [(ob, .inr (9, [.ref tp, .int 0, .ref rd, .ref sa, .ref im, .ref sl, .ref ro, .ref wy, .ref od, .ref ok])), (sa, .inr (6, [.ref tw, .ref co, .ref de, .ref dd, .ref kn, .int 0, .int 0, .ref fo])), (tw, .inr (7, [.int 0, tw_1, tw_2, tw_3, tw_4, tw_5, tw_6, tw_7, tw_8, tw_9, tw_10, tw_11]))] s.heap.size = A at hD ⊢
  have hA : ∀ q : Nat, s.heap.size ≤ q → A q := fun q h => by rw [← hAe]; exact Or.inr h
  have hS : va_S A s.heap s.heap [] := va_S.rf
  have hP : va_P G vwCl [(ob, .inr (9, [.ref tp, .int 0, .ref rd, .ref sa, .ref im, .ref sl, .ref ro, .ref wy, .ref od, .ref ok])), (sa, .inr (6, [.ref tw, .ref co, .ref de, .ref dd, .ref kn, .int 0, .int 0, .ref fo])), (tw, .inr (7, [.int 0, tw_1, tw_2, tw_3, tw_4, tw_5, tw_6, tw_7, tw_8, tw_9, tw_10, tw_11]))] s.heap := hP
  have hl := lv_entry ([.ref ob, .int a1]) (n := 2) (Nat.le_of_ble_eq_true rfl)
  rw [lg_entry_eq]
  generalize (lg_sl ([.ref ob, .int a1]) ++ List.replicate (2 - (lg_sl ([.ref ob, .int a1])).length) Slot.unset).toArray = ls at hl ⊢
  have hl : lv_has ls 2 [(0, .ref ob), (1, .int a1)] := hl
  refine lv_aload_n hx hb dX9_slights_0 rfl (lv_at hl 0 rfl) ?_
  refine va_get (D := G) (ci := 9) (v := .ref sa) (C := RX9) (T := TX9) (N := 10) hx hb hw0 inA_wsX90 hown hK.1 hP 0 rfl rfl 3 (by decide) (hw0 _ m_110) (fun _ h9 => h9) rfl dX9_slights_1 ?_
  refine va_get (D := G) (ci := 6) (v := .ref tw) (C := RX6) (T := TX6) (N := 8) hx hb hw0 inA_wsX60 hown hK.1 hP 1 rfl rfl 0 (by decide) (hw0 _ m_176) (fun _ h9 => h9) rfl dX9_slights_4 ?_
  refine lv_iload_n hx hb dX9_slights_7 rfl (lv_at hl 1 rfl) ?_
  refine cVi (As := [.int a1]) (rest := []) ⟨hx, hb, hml, hown, hw0⟩ hA hK hP hD hS [2] [0, 1] [(tw, .inr (7, [.int 0, tw_1, tw_2, tw_3, tw_4, tw_5, tw_6, tw_7, tw_8, tw_9, tw_10, tw_11]))] [(ob, .inr (9, [.ref tp, .int 0, .ref rd, .ref sa, .ref im, .ref sl, .ref ro, .ref wy, .ref od, .ref ok])), (sa, .inr (6, [.ref tw, .ref co, .ref de, .ref dd, .ref kn, .int 0, .int 0, .ref fo]))] rfl rfl (by decide) (by decide) (by decide) (kX7_has l G y _ tw a1 (tw_1) (tw_2) (tw_3) (tw_4) (tw_5) (tw_6) (tw_7) (tw_8) (tw_9) (tw_10) (tw_11) ) ⟨(callB_of 1 hw0 (gA m_171) rfl rfl rfl (hw0 _ m_70) (hw0 _ m_181) (by decide +kernel) ⟨Nat.le_of_ble_eq_true rfl, Nat.le_of_ble_eq_true rfl⟩), (hw0 _ m_173), (hw0 _ m_174)⟩ (ci := 7) (q := (RX7, TX7, 12)) rfl rfl rfl hl.1 (Nat.le_of_ble_eq_true rfl) dX9_slights_8 ⟨Nat.le_of_ble_eq_true rfl, Nat.le_of_ble_eq_true rfl⟩ (fun r_1 w_1 H locs hw_1 hP hD hS => ?_)
  obtain ⟨rfl, rfl⟩ := hw_1
  have hP : va_P G vwCl [(ob, .inr (9, [.ref tp, .int 0, .ref rd, .ref sa, .ref im, .ref sl, .ref ro, .ref wy, .ref od, .ref ok])), (sa, .inr (6, [.ref tw, .ref co, .ref de, .ref dd, .ref kn, .int 0, .int 0, .ref fo])), (tw, .inr (7, [.int 0, tw_1, tw_2, tw_3, tw_4, tw_5, tw_6, tw_7, tw_8, tw_9, tw_10, tw_11]))] H := hP
  have hD : va_D A [(ob, .inr (9, [.ref tp, .int 0, .ref rd, .ref sa, .ref im, .ref sl, .ref ro, .ref wy, .ref od, .ref ok])), (sa, .inr (6, [.ref tw, .ref co, .ref de, .ref dd, .ref kn, .int 0, .int 0, .ref fo])), (tw, .inr (7, [.int 0, tw_1, tw_2, tw_3, tw_4, tw_5, tw_6, tw_7, tw_8, tw_9, tw_10, tw_11]))] := hD
  refine lv_if_eq (tgt := 35) hx hb dX9_slights_11 (by decide) (fun _ => ?_) (fun c9 => absurd (by decide) c9)
  refine lv_bipush (v := (-2)) hx hb dX9_slights_35 (by decide) ?_
  refine W.widen (k := 0) (n := 0) (Nat.le_of_ble_eq_true rfl) (Nat.le_of_ble_eq_true rfl) ?_
  exact W.iret (v := (-2)) hx hb hr (fun t ht hW => ⟨⟨(-2), _, rfl, rfl, by rw [ht]; exact hP, hD⟩, hS.F ht⟩) hS.2.2 dX9_slights_37

set_option maxHeartbeats 4000000 in
set_option maxRecDepth 100000 in
theorem kX9_owes (l : Launch) (G : va_G) (y : Nat → ClassId) (sz : Nat) (ob : Nat) (a1 : Int32) (a2 : Int32) (a3 : Int32) (tp : Nat) (rd : Nat) (sa : Nat) (im : Nat) (sl : Nat) (ro : Nat) (wy : Nat) (od : Nat) (ok : Nat) (tw : Nat) (co : Nat) (de : Nat) (dd : Nat) (kn : Nat) (fo : Nat) (tw_1 : Value) (tw_2 : Value) (tw_3 : Value) (tw_4 : Value) (tw_5 : Value) (tw_6 : Value) (tw_7 : Value) (tw_8 : Value) (tw_9 : Value) (tw_10 : Value) (tw_11 : Value)  : Met l yX9_owes (Cond.code yX9_owes cX9_owes 4 (some .int) :: wAll) ({ frames := 3, cells := 0, slots := 0, locals := 66 }) (va_Pc [.ref ob, .int a1, .int a2, .int a3] (kp G y sz [(ob, .inr (9, [.ref tp, .int 0, .ref rd, .ref sa, .ref im, .ref sl, .ref ro, .ref wy, .ref od, .ref ok])), (sa, .inr (6, [.ref tw, .ref co, .ref de, .ref dd, .ref kn, .int 0, .int 0, .ref fo])), (tw, .inr (7, [.int 0, tw_1, tw_2, tw_3, tw_4, tw_5, tw_6, tw_7, tw_8, tw_9, tw_10, tw_11]))])) (va_Qi (fun (r : Int32) (_ : va_W) => r = -2) (kq G (va_A [(ob, .inr (9, [.ref tp, .int 0, .ref rd, .ref sa, .ref im, .ref sl, .ref ro, .ref wy, .ref od, .ref ok])), (sa, .inr (6, [.ref tw, .ref co, .ref de, .ref dd, .ref kn, .int 0, .int 0, .ref fo])), (tw, .inr (7, [.int 0, tw_1, tw_2, tw_3, tw_4, tw_5, tw_6, tw_7, tw_8, tw_9, tw_10, tw_11]))] sz)) (va_A [(ob, .inr (9, [.ref tp, .int 0, .ref rd, .ref sa, .ref im, .ref sl, .ref ro, .ref wy, .ref od, .ref ok])), (sa, .inr (6, [.ref tw, .ref co, .ref de, .ref dd, .ref kn, .int 0, .int 0, .ref fo])), (tw, .inr (7, [.int 0, tw_1, tw_2, tw_3, tw_4, tw_5, tw_6, tw_7, tw_8, tw_9, tw_10, tw_11]))] sz)) 0 0 (va_A [(ob, .inr (9, [.ref tp, .int 0, .ref rd, .ref sa, .ref im, .ref sl, .ref ro, .ref wy, .ref od, .ref ok])), (sa, .inr (6, [.ref tw, .ref co, .ref de, .ref dd, .ref kn, .int 0, .int 0, .ref fo])), (tw, .inr (7, [.int 0, tw_1, tw_2, tw_3, tw_4, tw_5, tw_6, tw_7, tw_8, tw_9, tw_10, tw_11]))] sz) := by
  refine Met.ofW (cc := cX9_owes) (maxL := 4) (ret := (some .int)) (by decide) rfl ?_
  intro p e s m args below meth c s₁ B hml hv
  obtain ⟨rfl, hsz, hP, hK, hD0⟩ := hv
  have hx := B.exec
  have hb := B.bytes
  have hr := B.returns
  have hw0 : ∀ w ∈ wAll, w.before _ s = true := fun w h => atoms_spec (ws := Cond.code yX9_owes cX9_owes 4 (some .int) :: wAll) B.pre w (List.mem_cons_of_mem _ h)
  have hown : s.vm.findClass RX9 = some m.cls := findClass_of_methodNamed B.named
  have hlocks := B.notSynchronized
  subst hsz
  have hD := hD0.self (sz := s.heap.size)
  generalize hAe : va_A [(ob, .inr (9, [.ref tp, .int 0, .ref rd, .ref sa, .ref im, .ref sl, .ref ro, .ref wy, .ref od, .ref ok])), (sa, .inr (6, [.ref tw, .ref co, .ref de, .ref dd, .ref kn, .int 0, .int 0, .ref fo])), (tw, .inr (7, [.int 0, tw_1, tw_2, tw_3, tw_4, tw_5, tw_6, tw_7, tw_8, tw_9, tw_10, tw_11]))] s.heap.size = A at hD ⊢
  have hA : ∀ q : Nat, s.heap.size ≤ q → A q := fun q h => by rw [← hAe]; exact Or.inr h
  have hS : va_S A s.heap s.heap [] := va_S.rf
  have hP : va_P G vwCl [(ob, .inr (9, [.ref tp, .int 0, .ref rd, .ref sa, .ref im, .ref sl, .ref ro, .ref wy, .ref od, .ref ok])), (sa, .inr (6, [.ref tw, .ref co, .ref de, .ref dd, .ref kn, .int 0, .int 0, .ref fo])), (tw, .inr (7, [.int 0, tw_1, tw_2, tw_3, tw_4, tw_5, tw_6, tw_7, tw_8, tw_9, tw_10, tw_11]))] s.heap := hP
  have hl := lv_entry ([.ref ob, .int a1, .int a2, .int a3]) (n := 4) (Nat.le_of_ble_eq_true rfl)
  rw [lg_entry_eq]
  generalize (lg_sl ([.ref ob, .int a1, .int a2, .int a3]) ++ List.replicate (4 - (lg_sl ([.ref ob, .int a1, .int a2, .int a3])).length) Slot.unset).toArray = ls at hl ⊢
  have hl : lv_has ls 4 [(0, .ref ob), (1, .int a1), (2, .int a2), (3, .int a3)] := hl
  refine lv_aload_n hx hb dX9_owes_0 rfl (lv_at hl 0 rfl) ?_
  refine lv_iload_n hx hb dX9_owes_1 rfl (lv_at hl 1 rfl) ?_
  refine lv_iload_n hx hb dX9_owes_2 rfl (lv_at hl 2 rfl) ?_
  refine lv_iload_n hx hb dX9_owes_3 rfl (lv_at hl 3 rfl) ?_
  refine cVi (As := [.int a1, .int a2, .int a3]) (rest := []) ⟨hx, hb, hml, hown, hw0⟩ hA hK hP hD hS [0, 1, 2] [] [(ob, .inr (9, [.ref tp, .int 0, .ref rd, .ref sa, .ref im, .ref sl, .ref ro, .ref wy, .ref od, .ref ok])), (sa, .inr (6, [.ref tw, .ref co, .ref de, .ref dd, .ref kn, .int 0, .int 0, .ref fo])), (tw, .inr (7, [.int 0, tw_1, tw_2, tw_3, tw_4, tw_5, tw_6, tw_7, tw_8, tw_9, tw_10, tw_11]))] [] rfl rfl (by decide) (by decide) (by decide) (kX9_isDeed l G y _ ob a1 a2 a3 tp rd sa im sl ro wy od ok tw co de dd kn fo (tw_1) (tw_2) (tw_3) (tw_4) (tw_5) (tw_6) (tw_7) (tw_8) (tw_9) (tw_10) (tw_11) ) ⟨(callB_of 3 hw0 (gA m_180) rfl rfl rfl (hw0 _ m_183) (hw0 _ m_184) (by decide +kernel) ⟨Nat.le_of_ble_eq_true rfl, Nat.le_of_ble_eq_true rfl⟩), (hw0 _ m_185), (hw0 _ m_186)⟩ (ci := 9) (q := (RX9, TX9, 10)) rfl rfl rfl hl.1 (Nat.le_of_ble_eq_true rfl) dX9_owes_4 ⟨Nat.le_of_ble_eq_true rfl, Nat.le_of_ble_eq_true rfl⟩ (fun r_1 w_1 H locs hw_1 hP hD hS => ?_)
  obtain ⟨rfl, rfl⟩ := hw_1
  have hP : va_P G vwCl [(ob, .inr (9, [.ref tp, .int 0, .ref rd, .ref sa, .ref im, .ref sl, .ref ro, .ref wy, .ref od, .ref ok])), (sa, .inr (6, [.ref tw, .ref co, .ref de, .ref dd, .ref kn, .int 0, .int 0, .ref fo])), (tw, .inr (7, [.int 0, tw_1, tw_2, tw_3, tw_4, tw_5, tw_6, tw_7, tw_8, tw_9, tw_10, tw_11]))] H := hP
  have hD : va_D A [(ob, .inr (9, [.ref tp, .int 0, .ref rd, .ref sa, .ref im, .ref sl, .ref ro, .ref wy, .ref od, .ref ok])), (sa, .inr (6, [.ref tw, .ref co, .ref de, .ref dd, .ref kn, .int 0, .int 0, .ref fo])), (tw, .inr (7, [.int 0, tw_1, tw_2, tw_3, tw_4, tw_5, tw_6, tw_7, tw_8, tw_9, tw_10, tw_11]))] := hD
  refine lv_if_eq (tgt := 23) hx hb dX9_owes_7 (by decide) (fun _ => ?_) (fun c9 => absurd (by decide) c9)
  refine lv_bipush (v := (-2)) hx hb dX9_owes_23 (by decide) ?_
  refine W.widen (k := 0) (n := 0) (Nat.le_of_ble_eq_true rfl) (Nat.le_of_ble_eq_true rfl) ?_
  exact W.iret (v := (-2)) hx hb hr (fun t ht hW => ⟨⟨(-2), _, rfl, rfl, by rw [ht]; exact hP, hD⟩, hS.F ht⟩) hS.2.2 dX9_owes_25

set_option maxHeartbeats 4000000 in
set_option maxRecDepth 100000 in
theorem kX9_worth (l : Launch) (G : va_G) (y : Nat → ClassId) (sz : Nat) (ob : Nat) (a1 : Int32) (a2 : Int32) (tp : Nat) (rd : Nat) (sa : Nat) (im : Nat) (sl : Nat) (ro : Nat) (wy : Nat) (od : Nat) (ok : Nat) (tw : Nat) (co : Nat) (de : Nat) (dd : Nat) (kn : Nat) (fo : Nat) (tw_1 : Value) (tw_2 : Value) (tw_3 : Value) (tw_4 : Value) (tw_5 : Value) (tw_6 : Value) (tw_7 : Value) (tw_8 : Value) (tw_9 : Value) (tw_10 : Value) (tw_11 : Value)  : Met l yX9_worth (Cond.code yX9_worth cX9_worth 3 (some .int) :: wAll) ({ frames := 2, cells := 0, slots := 0, locals := 43 }) (va_Pc [.ref ob, .int a1, .int a2] (kp G y sz [(ob, .inr (9, [.ref tp, .int 0, .ref rd, .ref sa, .ref im, .ref sl, .ref ro, .ref wy, .ref od, .ref ok])), (sa, .inr (6, [.ref tw, .ref co, .ref de, .ref dd, .ref kn, .int 0, .int 0, .ref fo])), (tw, .inr (7, [.int 0, tw_1, tw_2, tw_3, tw_4, tw_5, tw_6, tw_7, tw_8, tw_9, tw_10, tw_11]))])) (va_Qi (fun (r : Int32) (_ : va_W) => r = -2) (kq G (va_A [(ob, .inr (9, [.ref tp, .int 0, .ref rd, .ref sa, .ref im, .ref sl, .ref ro, .ref wy, .ref od, .ref ok])), (sa, .inr (6, [.ref tw, .ref co, .ref de, .ref dd, .ref kn, .int 0, .int 0, .ref fo])), (tw, .inr (7, [.int 0, tw_1, tw_2, tw_3, tw_4, tw_5, tw_6, tw_7, tw_8, tw_9, tw_10, tw_11]))] sz)) (va_A [(ob, .inr (9, [.ref tp, .int 0, .ref rd, .ref sa, .ref im, .ref sl, .ref ro, .ref wy, .ref od, .ref ok])), (sa, .inr (6, [.ref tw, .ref co, .ref de, .ref dd, .ref kn, .int 0, .int 0, .ref fo])), (tw, .inr (7, [.int 0, tw_1, tw_2, tw_3, tw_4, tw_5, tw_6, tw_7, tw_8, tw_9, tw_10, tw_11]))] sz)) 0 0 (va_A [(ob, .inr (9, [.ref tp, .int 0, .ref rd, .ref sa, .ref im, .ref sl, .ref ro, .ref wy, .ref od, .ref ok])), (sa, .inr (6, [.ref tw, .ref co, .ref de, .ref dd, .ref kn, .int 0, .int 0, .ref fo])), (tw, .inr (7, [.int 0, tw_1, tw_2, tw_3, tw_4, tw_5, tw_6, tw_7, tw_8, tw_9, tw_10, tw_11]))] sz) := by
  refine Met.ofW (cc := cX9_worth) (maxL := 3) (ret := (some .int)) (by decide) rfl ?_
  intro p e s m args below meth c s₁ B hml hv
  obtain ⟨rfl, hsz, hP, hK, hD0⟩ := hv
  have hx := B.exec
  have hb := B.bytes
  have hr := B.returns
  have hw0 : ∀ w ∈ wAll, w.before _ s = true := fun w h => atoms_spec (ws := Cond.code yX9_worth cX9_worth 3 (some .int) :: wAll) B.pre w (List.mem_cons_of_mem _ h)
  have hown : s.vm.findClass RX9 = some m.cls := findClass_of_methodNamed B.named
  have hlocks := B.notSynchronized
  subst hsz
  have hD := hD0.self (sz := s.heap.size)
  generalize hAe : va_A [(ob, .inr (9, [.ref tp, .int 0, .ref rd, .ref sa, .ref im, .ref sl, .ref ro, .ref wy, .ref od, .ref ok])), (sa, .inr (6, [.ref tw, .ref co, .ref de, .ref dd, .ref kn, .int 0, .int 0, .ref fo])), (tw, .inr (7, [.int 0, tw_1, tw_2, tw_3, tw_4, tw_5, tw_6, tw_7, tw_8, tw_9, tw_10, tw_11]))] s.heap.size = A at hD ⊢
  have hA : ∀ q : Nat, s.heap.size ≤ q → A q := fun q h => by rw [← hAe]; exact Or.inr h
  have hS : va_S A s.heap s.heap [] := va_S.rf
  have hP : va_P G vwCl [(ob, .inr (9, [.ref tp, .int 0, .ref rd, .ref sa, .ref im, .ref sl, .ref ro, .ref wy, .ref od, .ref ok])), (sa, .inr (6, [.ref tw, .ref co, .ref de, .ref dd, .ref kn, .int 0, .int 0, .ref fo])), (tw, .inr (7, [.int 0, tw_1, tw_2, tw_3, tw_4, tw_5, tw_6, tw_7, tw_8, tw_9, tw_10, tw_11]))] s.heap := hP
  have hl := lv_entry ([.ref ob, .int a1, .int a2]) (n := 3) (Nat.le_of_ble_eq_true rfl)
  rw [lg_entry_eq]
  generalize (lg_sl ([.ref ob, .int a1, .int a2]) ++ List.replicate (3 - (lg_sl ([.ref ob, .int a1, .int a2])).length) Slot.unset).toArray = ls at hl ⊢
  have hl : lv_has ls 3 [(0, .ref ob), (1, .int a1), (2, .int a2)] := hl
  refine lv_aload_n hx hb dX9_worth_0 rfl (lv_at hl 0 rfl) ?_
  refine lv_iload_n hx hb dX9_worth_1 rfl (lv_at hl 1 rfl) ?_
  refine lv_iload_n hx hb dX9_worth_2 rfl (lv_at hl 2 rfl) ?_
  refine cVi (As := [.int a1, .int a2]) (rest := []) ⟨hx, hb, hml, hown, hw0⟩ hA hK hP hD hS [0, 1, 2] [] [(ob, .inr (9, [.ref tp, .int 0, .ref rd, .ref sa, .ref im, .ref sl, .ref ro, .ref wy, .ref od, .ref ok])), (sa, .inr (6, [.ref tw, .ref co, .ref de, .ref dd, .ref kn, .int 0, .int 0, .ref fo])), (tw, .inr (7, [.int 0, tw_1, tw_2, tw_3, tw_4, tw_5, tw_6, tw_7, tw_8, tw_9, tw_10, tw_11]))] [] rfl rfl (by decide) (by decide) (by decide) (kX9_isOuting l G y _ ob a1 a2 tp rd sa im sl ro wy od ok tw co de dd kn fo (tw_1) (tw_2) (tw_3) (tw_4) (tw_5) (tw_6) (tw_7) (tw_8) (tw_9) (tw_10) (tw_11) ) ⟨(callB_of 2 hw0 (gA m_182) rfl rfl rfl (hw0 _ m_183) (hw0 _ m_194) (by decide +kernel) ⟨Nat.le_of_ble_eq_true rfl, Nat.le_of_ble_eq_true rfl⟩), (hw0 _ m_195), (hw0 _ m_196)⟩ (ci := 9) (q := (RX9, TX9, 10)) rfl rfl rfl hl.1 (Nat.le_of_ble_eq_true rfl) dX9_worth_3 ⟨Nat.le_of_ble_eq_true rfl, Nat.le_of_ble_eq_true rfl⟩ (fun r_1 w_1 H locs hw_1 hP hD hS => ?_)
  obtain ⟨rfl, rfl⟩ := hw_1
  have hP : va_P G vwCl [(ob, .inr (9, [.ref tp, .int 0, .ref rd, .ref sa, .ref im, .ref sl, .ref ro, .ref wy, .ref od, .ref ok])), (sa, .inr (6, [.ref tw, .ref co, .ref de, .ref dd, .ref kn, .int 0, .int 0, .ref fo])), (tw, .inr (7, [.int 0, tw_1, tw_2, tw_3, tw_4, tw_5, tw_6, tw_7, tw_8, tw_9, tw_10, tw_11]))] H := hP
  have hD : va_D A [(ob, .inr (9, [.ref tp, .int 0, .ref rd, .ref sa, .ref im, .ref sl, .ref ro, .ref wy, .ref od, .ref ok])), (sa, .inr (6, [.ref tw, .ref co, .ref de, .ref dd, .ref kn, .int 0, .int 0, .ref fo])), (tw, .inr (7, [.int 0, tw_1, tw_2, tw_3, tw_4, tw_5, tw_6, tw_7, tw_8, tw_9, tw_10, tw_11]))] := hD
  refine lv_if_ne (tgt := 12) hx hb dX9_worth_6 (by decide) (fun c9 => absurd (by decide) c9) (fun _ => ?_)
  refine lv_bipush (v := (-2)) hx hb dX9_worth_9 (by decide) ?_
  refine W.widen (k := 0) (n := 0) (Nat.le_of_ble_eq_true rfl) (Nat.le_of_ble_eq_true rfl) ?_
  exact W.iret (v := (-2)) hx hb hr (fun t ht hW => ⟨⟨(-2), _, rfl, rfl, by rw [ht]; exact hP, hD⟩, hS.F ht⟩) hS.2.2 dX9_worth_11

set_option maxHeartbeats 4000000 in
set_option maxRecDepth 100000 in
theorem kX9_round (l : Launch) (G : va_G) (y : Nat → ClassId) (sz : Nat) (ob : Nat) (a1 : Int32) (a2 : Int32) (a3 : Int32) (tp : Nat) (rd : Nat) (sa : Nat) (im : Nat) (sl : Nat) (ro : Nat) (wy : Nat) (od : Nat) (ok : Nat) (tw : Nat) (co : Nat) (de : Nat) (dd : Nat) (kn : Nat) (fo : Nat) (tw_1 : Value) (tw_2 : Value) (tw_3 : Value) (tw_4 : Value) (tw_5 : Value) (tw_6 : Value) (tw_7 : Value) (tw_8 : Value) (tw_9 : Value) (tw_10 : Value) (tw_11 : Value)  : Met l yX9_round (Cond.code yX9_round cX9_round 4 (some .int) :: wAll) ({ frames := 2, cells := 0, slots := 0, locals := 43 }) (va_Pc [.ref ob, .int a1, .int a2, .int a3] (kp G y sz [(ob, .inr (9, [.ref tp, .int 0, .ref rd, .ref sa, .ref im, .ref sl, .ref ro, .ref wy, .ref od, .ref ok])), (sa, .inr (6, [.ref tw, .ref co, .ref de, .ref dd, .ref kn, .int 0, .int 0, .ref fo])), (tw, .inr (7, [.int 0, tw_1, tw_2, tw_3, tw_4, tw_5, tw_6, tw_7, tw_8, tw_9, tw_10, tw_11]))])) (va_Qi (fun (r : Int32) (_ : va_W) => r = -2) (kq G (va_A [(ob, .inr (9, [.ref tp, .int 0, .ref rd, .ref sa, .ref im, .ref sl, .ref ro, .ref wy, .ref od, .ref ok])), (sa, .inr (6, [.ref tw, .ref co, .ref de, .ref dd, .ref kn, .int 0, .int 0, .ref fo])), (tw, .inr (7, [.int 0, tw_1, tw_2, tw_3, tw_4, tw_5, tw_6, tw_7, tw_8, tw_9, tw_10, tw_11]))] sz)) (va_A [(ob, .inr (9, [.ref tp, .int 0, .ref rd, .ref sa, .ref im, .ref sl, .ref ro, .ref wy, .ref od, .ref ok])), (sa, .inr (6, [.ref tw, .ref co, .ref de, .ref dd, .ref kn, .int 0, .int 0, .ref fo])), (tw, .inr (7, [.int 0, tw_1, tw_2, tw_3, tw_4, tw_5, tw_6, tw_7, tw_8, tw_9, tw_10, tw_11]))] sz)) 0 0 (va_A [(ob, .inr (9, [.ref tp, .int 0, .ref rd, .ref sa, .ref im, .ref sl, .ref ro, .ref wy, .ref od, .ref ok])), (sa, .inr (6, [.ref tw, .ref co, .ref de, .ref dd, .ref kn, .int 0, .int 0, .ref fo])), (tw, .inr (7, [.int 0, tw_1, tw_2, tw_3, tw_4, tw_5, tw_6, tw_7, tw_8, tw_9, tw_10, tw_11]))] sz) := by
  refine Met.ofW (cc := cX9_round) (maxL := 4) (ret := (some .int)) (by decide) rfl ?_
  intro p e s m args below meth c s₁ B hml hv
  obtain ⟨rfl, hsz, hP, hK, hD0⟩ := hv
  have hx := B.exec
  have hb := B.bytes
  have hr := B.returns
  have hw0 : ∀ w ∈ wAll, w.before _ s = true := fun w h => atoms_spec (ws := Cond.code yX9_round cX9_round 4 (some .int) :: wAll) B.pre w (List.mem_cons_of_mem _ h)
  have hown : s.vm.findClass RX9 = some m.cls := findClass_of_methodNamed B.named
  have hlocks := B.notSynchronized
  subst hsz
  have hD := hD0.self (sz := s.heap.size)
  generalize hAe : va_A [(ob, .inr (9, [.ref tp, .int 0, .ref rd, .ref sa, .ref im, .ref sl, .ref ro, .ref wy, .ref od, .ref ok])), (sa, .inr (6, [.ref tw, .ref co, .ref de, .ref dd, .ref kn, .int 0, .int 0, .ref fo])), (tw, .inr (7, [.int 0, tw_1, tw_2, tw_3, tw_4, tw_5, tw_6, tw_7, tw_8, tw_9, tw_10, tw_11]))] s.heap.size = A at hD ⊢
  have hA : ∀ q : Nat, s.heap.size ≤ q → A q := fun q h => by rw [← hAe]; exact Or.inr h
  have hS : va_S A s.heap s.heap [] := va_S.rf
  have hP : va_P G vwCl [(ob, .inr (9, [.ref tp, .int 0, .ref rd, .ref sa, .ref im, .ref sl, .ref ro, .ref wy, .ref od, .ref ok])), (sa, .inr (6, [.ref tw, .ref co, .ref de, .ref dd, .ref kn, .int 0, .int 0, .ref fo])), (tw, .inr (7, [.int 0, tw_1, tw_2, tw_3, tw_4, tw_5, tw_6, tw_7, tw_8, tw_9, tw_10, tw_11]))] s.heap := hP
  have hl := lv_entry ([.ref ob, .int a1, .int a2, .int a3]) (n := 4) (Nat.le_of_ble_eq_true rfl)
  rw [lg_entry_eq]
  generalize (lg_sl ([.ref ob, .int a1, .int a2, .int a3]) ++ List.replicate (4 - (lg_sl ([.ref ob, .int a1, .int a2, .int a3])).length) Slot.unset).toArray = ls at hl ⊢
  have hl : lv_has ls 4 [(0, .ref ob), (1, .int a1), (2, .int a2), (3, .int a3)] := hl
  refine lv_aload_n hx hb dX9_round_0 rfl (lv_at hl 0 rfl) ?_
  refine lv_iload_n hx hb dX9_round_1 rfl (lv_at hl 1 rfl) ?_
  refine lv_iload_n hx hb dX9_round_2 rfl (lv_at hl 2 rfl) ?_
  refine cVi (As := [.int a1, .int a2]) (rest := []) ⟨hx, hb, hml, hown, hw0⟩ hA hK hP hD hS [0, 1, 2] [] [(ob, .inr (9, [.ref tp, .int 0, .ref rd, .ref sa, .ref im, .ref sl, .ref ro, .ref wy, .ref od, .ref ok])), (sa, .inr (6, [.ref tw, .ref co, .ref de, .ref dd, .ref kn, .int 0, .int 0, .ref fo])), (tw, .inr (7, [.int 0, tw_1, tw_2, tw_3, tw_4, tw_5, tw_6, tw_7, tw_8, tw_9, tw_10, tw_11]))] [] rfl rfl (by decide) (by decide) (by decide) (kX9_isOuting l G y _ ob a1 a2 tp rd sa im sl ro wy od ok tw co de dd kn fo (tw_1) (tw_2) (tw_3) (tw_4) (tw_5) (tw_6) (tw_7) (tw_8) (tw_9) (tw_10) (tw_11) ) ⟨(callB_of 2 hw0 (gA m_182) rfl rfl rfl (hw0 _ m_183) (hw0 _ m_194) (by decide +kernel) ⟨Nat.le_of_ble_eq_true rfl, Nat.le_of_ble_eq_true rfl⟩), (hw0 _ m_195), (hw0 _ m_196)⟩ (ci := 9) (q := (RX9, TX9, 10)) rfl rfl rfl hl.1 (Nat.le_of_ble_eq_true rfl) dX9_round_3 ⟨Nat.le_of_ble_eq_true rfl, Nat.le_of_ble_eq_true rfl⟩ (fun r_1 w_1 H locs hw_1 hP hD hS => ?_)
  obtain ⟨rfl, rfl⟩ := hw_1
  have hP : va_P G vwCl [(ob, .inr (9, [.ref tp, .int 0, .ref rd, .ref sa, .ref im, .ref sl, .ref ro, .ref wy, .ref od, .ref ok])), (sa, .inr (6, [.ref tw, .ref co, .ref de, .ref dd, .ref kn, .int 0, .int 0, .ref fo])), (tw, .inr (7, [.int 0, tw_1, tw_2, tw_3, tw_4, tw_5, tw_6, tw_7, tw_8, tw_9, tw_10, tw_11]))] H := hP
  have hD : va_D A [(ob, .inr (9, [.ref tp, .int 0, .ref rd, .ref sa, .ref im, .ref sl, .ref ro, .ref wy, .ref od, .ref ok])), (sa, .inr (6, [.ref tw, .ref co, .ref de, .ref dd, .ref kn, .int 0, .int 0, .ref fo])), (tw, .inr (7, [.int 0, tw_1, tw_2, tw_3, tw_4, tw_5, tw_6, tw_7, tw_8, tw_9, tw_10, tw_11]))] := hD
  refine lv_if_ne (tgt := 12) hx hb dX9_round_6 (by decide) (fun c9 => absurd (by decide) c9) (fun _ => ?_)
  refine lv_bipush (v := (-2)) hx hb dX9_round_9 (by decide) ?_
  refine W.widen (k := 0) (n := 0) (Nat.le_of_ble_eq_true rfl) (Nat.le_of_ble_eq_true rfl) ?_
  exact W.iret (v := (-2)) hx hb hr (fun t ht hW => ⟨⟨(-2), _, rfl, rfl, by rw [ht]; exact hP, hD⟩, hS.F ht⟩) hS.2.2 dX9_round_11

set_option maxHeartbeats 4000000 in
set_option maxRecDepth 100000 in
theorem kX9_over (l : Launch) (G : va_G) (y : Nat → ClassId) (sz : Nat) (ob : Nat) (a1 : Int32) (a2 : Int32) (tp : Nat) (rd : Nat) (sa : Nat) (im : Nat) (sl : Nat) (ro : Nat) (wy : Nat) (od : Nat) (ok : Nat) (tw : Nat) (co : Nat) (de : Nat) (dd : Nat) (kn : Nat) (fo : Nat) (tw_1 : Value) (tw_2 : Value) (tw_3 : Value) (tw_4 : Value) (tw_5 : Value) (tw_6 : Value) (tw_7 : Value) (tw_8 : Value) (tw_9 : Value) (tw_10 : Value) (tw_11 : Value)  : Met l yX9_over (Cond.code yX9_over cX9_over 3 (some .int) :: wAll) ({ frames := 2, cells := 0, slots := 0, locals := 43 }) (va_Pc [.ref ob, .int a1, .int a2] (kp G y sz [(ob, .inr (9, [.ref tp, .int 0, .ref rd, .ref sa, .ref im, .ref sl, .ref ro, .ref wy, .ref od, .ref ok])), (sa, .inr (6, [.ref tw, .ref co, .ref de, .ref dd, .ref kn, .int 0, .int 0, .ref fo])), (tw, .inr (7, [.int 0, tw_1, tw_2, tw_3, tw_4, tw_5, tw_6, tw_7, tw_8, tw_9, tw_10, tw_11]))])) (va_Qi (fun (r : Int32) (_ : va_W) => r = -2) (kq G (va_A [(ob, .inr (9, [.ref tp, .int 0, .ref rd, .ref sa, .ref im, .ref sl, .ref ro, .ref wy, .ref od, .ref ok])), (sa, .inr (6, [.ref tw, .ref co, .ref de, .ref dd, .ref kn, .int 0, .int 0, .ref fo])), (tw, .inr (7, [.int 0, tw_1, tw_2, tw_3, tw_4, tw_5, tw_6, tw_7, tw_8, tw_9, tw_10, tw_11]))] sz)) (va_A [(ob, .inr (9, [.ref tp, .int 0, .ref rd, .ref sa, .ref im, .ref sl, .ref ro, .ref wy, .ref od, .ref ok])), (sa, .inr (6, [.ref tw, .ref co, .ref de, .ref dd, .ref kn, .int 0, .int 0, .ref fo])), (tw, .inr (7, [.int 0, tw_1, tw_2, tw_3, tw_4, tw_5, tw_6, tw_7, tw_8, tw_9, tw_10, tw_11]))] sz)) 0 0 (va_A [(ob, .inr (9, [.ref tp, .int 0, .ref rd, .ref sa, .ref im, .ref sl, .ref ro, .ref wy, .ref od, .ref ok])), (sa, .inr (6, [.ref tw, .ref co, .ref de, .ref dd, .ref kn, .int 0, .int 0, .ref fo])), (tw, .inr (7, [.int 0, tw_1, tw_2, tw_3, tw_4, tw_5, tw_6, tw_7, tw_8, tw_9, tw_10, tw_11]))] sz) := by
  refine Met.ofW (cc := cX9_over) (maxL := 3) (ret := (some .int)) (by decide) rfl ?_
  intro p e s m args below meth c s₁ B hml hv
  obtain ⟨rfl, hsz, hP, hK, hD0⟩ := hv
  have hx := B.exec
  have hb := B.bytes
  have hr := B.returns
  have hw0 : ∀ w ∈ wAll, w.before _ s = true := fun w h => atoms_spec (ws := Cond.code yX9_over cX9_over 3 (some .int) :: wAll) B.pre w (List.mem_cons_of_mem _ h)
  have hown : s.vm.findClass RX9 = some m.cls := findClass_of_methodNamed B.named
  have hlocks := B.notSynchronized
  subst hsz
  have hD := hD0.self (sz := s.heap.size)
  generalize hAe : va_A [(ob, .inr (9, [.ref tp, .int 0, .ref rd, .ref sa, .ref im, .ref sl, .ref ro, .ref wy, .ref od, .ref ok])), (sa, .inr (6, [.ref tw, .ref co, .ref de, .ref dd, .ref kn, .int 0, .int 0, .ref fo])), (tw, .inr (7, [.int 0, tw_1, tw_2, tw_3, tw_4, tw_5, tw_6, tw_7, tw_8, tw_9, tw_10, tw_11]))] s.heap.size = A at hD ⊢
  have hA : ∀ q : Nat, s.heap.size ≤ q → A q := fun q h => by rw [← hAe]; exact Or.inr h
  have hS : va_S A s.heap s.heap [] := va_S.rf
  have hP : va_P G vwCl [(ob, .inr (9, [.ref tp, .int 0, .ref rd, .ref sa, .ref im, .ref sl, .ref ro, .ref wy, .ref od, .ref ok])), (sa, .inr (6, [.ref tw, .ref co, .ref de, .ref dd, .ref kn, .int 0, .int 0, .ref fo])), (tw, .inr (7, [.int 0, tw_1, tw_2, tw_3, tw_4, tw_5, tw_6, tw_7, tw_8, tw_9, tw_10, tw_11]))] s.heap := hP
  have hl := lv_entry ([.ref ob, .int a1, .int a2]) (n := 3) (Nat.le_of_ble_eq_true rfl)
  rw [lg_entry_eq]
  generalize (lg_sl ([.ref ob, .int a1, .int a2]) ++ List.replicate (3 - (lg_sl ([.ref ob, .int a1, .int a2])).length) Slot.unset).toArray = ls at hl ⊢
  have hl : lv_has ls 3 [(0, .ref ob), (1, .int a1), (2, .int a2)] := hl
  refine lv_aload_n hx hb dX9_over_0 rfl (lv_at hl 0 rfl) ?_
  refine lv_iload_n hx hb dX9_over_1 rfl (lv_at hl 1 rfl) ?_
  refine lv_iload_n hx hb dX9_over_2 rfl (lv_at hl 2 rfl) ?_
  refine cVi (As := [.int a1, .int a2]) (rest := []) ⟨hx, hb, hml, hown, hw0⟩ hA hK hP hD hS [0, 1, 2] [] [(ob, .inr (9, [.ref tp, .int 0, .ref rd, .ref sa, .ref im, .ref sl, .ref ro, .ref wy, .ref od, .ref ok])), (sa, .inr (6, [.ref tw, .ref co, .ref de, .ref dd, .ref kn, .int 0, .int 0, .ref fo])), (tw, .inr (7, [.int 0, tw_1, tw_2, tw_3, tw_4, tw_5, tw_6, tw_7, tw_8, tw_9, tw_10, tw_11]))] [] rfl rfl (by decide) (by decide) (by decide) (kX9_isOuting l G y _ ob a1 a2 tp rd sa im sl ro wy od ok tw co de dd kn fo (tw_1) (tw_2) (tw_3) (tw_4) (tw_5) (tw_6) (tw_7) (tw_8) (tw_9) (tw_10) (tw_11) ) ⟨(callB_of 2 hw0 (gA m_182) rfl rfl rfl (hw0 _ m_183) (hw0 _ m_194) (by decide +kernel) ⟨Nat.le_of_ble_eq_true rfl, Nat.le_of_ble_eq_true rfl⟩), (hw0 _ m_195), (hw0 _ m_196)⟩ (ci := 9) (q := (RX9, TX9, 10)) rfl rfl rfl hl.1 (Nat.le_of_ble_eq_true rfl) dX9_over_3 ⟨Nat.le_of_ble_eq_true rfl, Nat.le_of_ble_eq_true rfl⟩ (fun r_1 w_1 H locs hw_1 hP hD hS => ?_)
  obtain ⟨rfl, rfl⟩ := hw_1
  have hP : va_P G vwCl [(ob, .inr (9, [.ref tp, .int 0, .ref rd, .ref sa, .ref im, .ref sl, .ref ro, .ref wy, .ref od, .ref ok])), (sa, .inr (6, [.ref tw, .ref co, .ref de, .ref dd, .ref kn, .int 0, .int 0, .ref fo])), (tw, .inr (7, [.int 0, tw_1, tw_2, tw_3, tw_4, tw_5, tw_6, tw_7, tw_8, tw_9, tw_10, tw_11]))] H := hP
  have hD : va_D A [(ob, .inr (9, [.ref tp, .int 0, .ref rd, .ref sa, .ref im, .ref sl, .ref ro, .ref wy, .ref od, .ref ok])), (sa, .inr (6, [.ref tw, .ref co, .ref de, .ref dd, .ref kn, .int 0, .int 0, .ref fo])), (tw, .inr (7, [.int 0, tw_1, tw_2, tw_3, tw_4, tw_5, tw_6, tw_7, tw_8, tw_9, tw_10, tw_11]))] := hD
  refine lv_if_ne (tgt := 12) hx hb dX9_over_6 (by decide) (fun c9 => absurd (by decide) c9) (fun _ => ?_)
  refine lv_bipush (v := (-2)) hx hb dX9_over_9 (by decide) ?_
  refine W.widen (k := 0) (n := 0) (Nat.le_of_ble_eq_true rfl) (Nat.le_of_ble_eq_true rfl) ?_
  exact W.iret (v := (-2)) hx hb hr (fun t ht hW => ⟨⟨(-2), _, rfl, rfl, by rw [ht]; exact hP, hD⟩, hS.F ht⟩) hS.2.2 dX9_over_11

set_option maxHeartbeats 4000000 in
set_option maxRecDepth 100000 in
theorem kX9_may (l : Launch) (G : va_G) (y : Nat → ClassId) (sz : Nat) (ob : Nat) (a1 : Int32) (a2 : Int32) (a3 : Int32) (tp : Nat) (rd : Nat) (sa : Nat) (im : Nat) (sl : Nat) (ro : Nat) (wy : Nat) (od : Nat) (ok : Nat) (tw : Nat) (co : Nat) (de : Nat) (dd : Nat) (kn : Nat) (fo : Nat) (tw_1 : Value) (tw_2 : Value) (tw_3 : Value) (tw_4 : Value) (tw_5 : Value) (tw_6 : Value) (tw_7 : Value) (tw_8 : Value) (tw_9 : Value) (tw_10 : Value) (tw_11 : Value)  : Met l yX9_may (Cond.code yX9_may cX9_may 5 (some .int) :: wAll) ({ frames := 2, cells := 0, slots := 0, locals := 43 }) (va_Pc [.ref ob, .int a1, .int a2, .int a3] (kp G y sz [(ob, .inr (9, [.ref tp, .int 0, .ref rd, .ref sa, .ref im, .ref sl, .ref ro, .ref wy, .ref od, .ref ok])), (sa, .inr (6, [.ref tw, .ref co, .ref de, .ref dd, .ref kn, .int 0, .int 0, .ref fo])), (tw, .inr (7, [.int 0, tw_1, tw_2, tw_3, tw_4, tw_5, tw_6, tw_7, tw_8, tw_9, tw_10, tw_11]))])) (va_Qi (fun (r : Int32) (_ : va_W) => r = -2) (kq G (va_A [(ob, .inr (9, [.ref tp, .int 0, .ref rd, .ref sa, .ref im, .ref sl, .ref ro, .ref wy, .ref od, .ref ok])), (sa, .inr (6, [.ref tw, .ref co, .ref de, .ref dd, .ref kn, .int 0, .int 0, .ref fo])), (tw, .inr (7, [.int 0, tw_1, tw_2, tw_3, tw_4, tw_5, tw_6, tw_7, tw_8, tw_9, tw_10, tw_11]))] sz)) (va_A [(ob, .inr (9, [.ref tp, .int 0, .ref rd, .ref sa, .ref im, .ref sl, .ref ro, .ref wy, .ref od, .ref ok])), (sa, .inr (6, [.ref tw, .ref co, .ref de, .ref dd, .ref kn, .int 0, .int 0, .ref fo])), (tw, .inr (7, [.int 0, tw_1, tw_2, tw_3, tw_4, tw_5, tw_6, tw_7, tw_8, tw_9, tw_10, tw_11]))] sz)) 0 0 (va_A [(ob, .inr (9, [.ref tp, .int 0, .ref rd, .ref sa, .ref im, .ref sl, .ref ro, .ref wy, .ref od, .ref ok])), (sa, .inr (6, [.ref tw, .ref co, .ref de, .ref dd, .ref kn, .int 0, .int 0, .ref fo])), (tw, .inr (7, [.int 0, tw_1, tw_2, tw_3, tw_4, tw_5, tw_6, tw_7, tw_8, tw_9, tw_10, tw_11]))] sz) := by
  refine Met.ofW (cc := cX9_may) (maxL := 5) (ret := (some .int)) (by decide) rfl ?_
  intro p e s m args below meth c s₁ B hml hv
  obtain ⟨rfl, hsz, hP, hK, hD0⟩ := hv
  have hx := B.exec
  have hb := B.bytes
  have hr := B.returns
  have hw0 : ∀ w ∈ wAll, w.before _ s = true := fun w h => atoms_spec (ws := Cond.code yX9_may cX9_may 5 (some .int) :: wAll) B.pre w (List.mem_cons_of_mem _ h)
  have hown : s.vm.findClass RX9 = some m.cls := findClass_of_methodNamed B.named
  have hlocks := B.notSynchronized
  subst hsz
  have hD := hD0.self (sz := s.heap.size)
  generalize hAe : va_A [(ob, .inr (9, [.ref tp, .int 0, .ref rd, .ref sa, .ref im, .ref sl, .ref ro, .ref wy, .ref od, .ref ok])), (sa, .inr (6, [.ref tw, .ref co, .ref de, .ref dd, .ref kn, .int 0, .int 0, .ref fo])), (tw, .inr (7, [.int 0, tw_1, tw_2, tw_3, tw_4, tw_5, tw_6, tw_7, tw_8, tw_9, tw_10, tw_11]))] s.heap.size = A at hD ⊢
  have hA : ∀ q : Nat, s.heap.size ≤ q → A q := fun q h => by rw [← hAe]; exact Or.inr h
  have hS : va_S A s.heap s.heap [] := va_S.rf
  have hP : va_P G vwCl [(ob, .inr (9, [.ref tp, .int 0, .ref rd, .ref sa, .ref im, .ref sl, .ref ro, .ref wy, .ref od, .ref ok])), (sa, .inr (6, [.ref tw, .ref co, .ref de, .ref dd, .ref kn, .int 0, .int 0, .ref fo])), (tw, .inr (7, [.int 0, tw_1, tw_2, tw_3, tw_4, tw_5, tw_6, tw_7, tw_8, tw_9, tw_10, tw_11]))] s.heap := hP
  have hl := lv_entry ([.ref ob, .int a1, .int a2, .int a3]) (n := 5) (Nat.le_of_ble_eq_true rfl)
  rw [lg_entry_eq]
  generalize (lg_sl ([.ref ob, .int a1, .int a2, .int a3]) ++ List.replicate (5 - (lg_sl ([.ref ob, .int a1, .int a2, .int a3])).length) Slot.unset).toArray = ls at hl ⊢
  have hl : lv_has ls 5 [(0, .ref ob), (1, .int a1), (2, .int a2), (3, .int a3)] := hl
  refine lv_iload_n hx hb dX9_may_0 rfl (lv_at hl 1 rfl) ?_
  refine cSi (As := [.int a1]) (rest := []) ⟨hx, hb, hml, hown, hw0⟩ hA hK hP hD hS [] [0, 1, 2] [] [(ob, .inr (9, [.ref tp, .int 0, .ref rd, .ref sa, .ref im, .ref sl, .ref ro, .ref wy, .ref od, .ref ok])), (sa, .inr (6, [.ref tw, .ref co, .ref de, .ref dd, .ref kn, .int 0, .int 0, .ref fo])), (tw, .inr (7, [.int 0, tw_1, tw_2, tw_3, tw_4, tw_5, tw_6, tw_7, tw_8, tw_9, tw_10, tw_11]))] rfl rfl (by decide) (by decide) (by decide) (kX9_isSlot l G y _ a1 ) ⟨(callB_of 1 hw0 (gA m_162) rfl rfl rfl (hw0 _ m_183) (hw0 _ m_200) (by decide +kernel) ⟨Nat.le_of_ble_eq_true rfl, Nat.le_of_ble_eq_true rfl⟩), (hw0 _ m_201)⟩ rfl hl.1 (Nat.le_of_ble_eq_true rfl) dX9_may_1 ⟨Nat.le_of_ble_eq_true rfl, Nat.le_of_ble_eq_true rfl⟩ (fun r_1 w_1 H locs hw_1 hP hD hS => ?_)
  rcases hw_1 with ⟨c_2, rfl, rfl⟩ | ⟨c_3, rfl, rfl⟩
  · skip
    have hP : va_P G vwCl [(ob, .inr (9, [.ref tp, .int 0, .ref rd, .ref sa, .ref im, .ref sl, .ref ro, .ref wy, .ref od, .ref ok])), (sa, .inr (6, [.ref tw, .ref co, .ref de, .ref dd, .ref kn, .int 0, .int 0, .ref fo])), (tw, .inr (7, [.int 0, tw_1, tw_2, tw_3, tw_4, tw_5, tw_6, tw_7, tw_8, tw_9, tw_10, tw_11]))] H := hP
    have hD : va_D A [(ob, .inr (9, [.ref tp, .int 0, .ref rd, .ref sa, .ref im, .ref sl, .ref ro, .ref wy, .ref od, .ref ok])), (sa, .inr (6, [.ref tw, .ref co, .ref de, .ref dd, .ref kn, .int 0, .int 0, .ref fo])), (tw, .inr (7, [.int 0, tw_1, tw_2, tw_3, tw_4, tw_5, tw_6, tw_7, tw_8, tw_9, tw_10, tw_11]))] := hD
    refine lv_if_eq (tgt := 16) hx hb dX9_may_4 (by decide) (fun c9 => absurd c9 (by decide)) (fun _ => ?_)
    refine lv_aload_n hx hb dX9_may_7 rfl (lv_at hl 0 rfl) ?_
    refine lv_iload_n hx hb dX9_may_8 rfl (lv_at hl 2 rfl) ?_
    refine lv_iload_n hx hb dX9_may_9 rfl (lv_at hl 3 rfl) ?_
    refine cVi (As := [.int a2, .int a3]) (rest := []) ⟨hx, hb, hml, hown, hw0⟩ hA hK hP hD hS [0, 1, 2] [] [(ob, .inr (9, [.ref tp, .int 0, .ref rd, .ref sa, .ref im, .ref sl, .ref ro, .ref wy, .ref od, .ref ok])), (sa, .inr (6, [.ref tw, .ref co, .ref de, .ref dd, .ref kn, .int 0, .int 0, .ref fo])), (tw, .inr (7, [.int 0, tw_1, tw_2, tw_3, tw_4, tw_5, tw_6, tw_7, tw_8, tw_9, tw_10, tw_11]))] [] rfl rfl (by decide) (by decide) (by decide) (kX9_isOuting l G y _ ob a2 a3 tp rd sa im sl ro wy od ok tw co de dd kn fo (tw_1) (tw_2) (tw_3) (tw_4) (tw_5) (tw_6) (tw_7) (tw_8) (tw_9) (tw_10) (tw_11) ) ⟨(callB_of 2 hw0 (gA m_182) rfl rfl rfl (hw0 _ m_183) (hw0 _ m_194) (by decide +kernel) ⟨Nat.le_of_ble_eq_true rfl, Nat.le_of_ble_eq_true rfl⟩), (hw0 _ m_195), (hw0 _ m_196)⟩ (ci := 9) (q := (RX9, TX9, 10)) rfl rfl rfl hl.1 (Nat.le_of_ble_eq_true rfl) dX9_may_10 ⟨Nat.le_of_ble_eq_true rfl, Nat.le_of_ble_eq_true rfl⟩ (fun r_4 w_4 H locs hw_4 hP hD hS => ?_)
    obtain ⟨rfl, rfl⟩ := hw_4
    have hP : va_P G vwCl [(ob, .inr (9, [.ref tp, .int 0, .ref rd, .ref sa, .ref im, .ref sl, .ref ro, .ref wy, .ref od, .ref ok])), (sa, .inr (6, [.ref tw, .ref co, .ref de, .ref dd, .ref kn, .int 0, .int 0, .ref fo])), (tw, .inr (7, [.int 0, tw_1, tw_2, tw_3, tw_4, tw_5, tw_6, tw_7, tw_8, tw_9, tw_10, tw_11]))] H := hP
    have hD : va_D A [(ob, .inr (9, [.ref tp, .int 0, .ref rd, .ref sa, .ref im, .ref sl, .ref ro, .ref wy, .ref od, .ref ok])), (sa, .inr (6, [.ref tw, .ref co, .ref de, .ref dd, .ref kn, .int 0, .int 0, .ref fo])), (tw, .inr (7, [.int 0, tw_1, tw_2, tw_3, tw_4, tw_5, tw_6, tw_7, tw_8, tw_9, tw_10, tw_11]))] := hD
    refine lv_if_ne (tgt := 19) hx hb dX9_may_13 (by decide) (fun c9 => absurd (by decide) c9) (fun _ => ?_)
    refine lv_bipush (v := (-2)) hx hb dX9_may_16 (by decide) ?_
    refine W.widen (k := 0) (n := 0) (Nat.le_of_ble_eq_true rfl) (Nat.le_of_ble_eq_true rfl) ?_
    exact W.iret (v := (-2)) hx hb hr (fun t ht hW => ⟨⟨(-2), _, rfl, rfl, by rw [ht]; exact hP, hD⟩, hS.F ht⟩) hS.2.2 dX9_may_18
  · skip
    have hP : va_P G vwCl [(ob, .inr (9, [.ref tp, .int 0, .ref rd, .ref sa, .ref im, .ref sl, .ref ro, .ref wy, .ref od, .ref ok])), (sa, .inr (6, [.ref tw, .ref co, .ref de, .ref dd, .ref kn, .int 0, .int 0, .ref fo])), (tw, .inr (7, [.int 0, tw_1, tw_2, tw_3, tw_4, tw_5, tw_6, tw_7, tw_8, tw_9, tw_10, tw_11]))] H := hP
    have hD : va_D A [(ob, .inr (9, [.ref tp, .int 0, .ref rd, .ref sa, .ref im, .ref sl, .ref ro, .ref wy, .ref od, .ref ok])), (sa, .inr (6, [.ref tw, .ref co, .ref de, .ref dd, .ref kn, .int 0, .int 0, .ref fo])), (tw, .inr (7, [.int 0, tw_1, tw_2, tw_3, tw_4, tw_5, tw_6, tw_7, tw_8, tw_9, tw_10, tw_11]))] := hD
    refine lv_if_eq (tgt := 16) hx hb dX9_may_4 (by decide) (fun _ => ?_) (fun c9 => absurd (by decide) c9)
    refine lv_bipush (v := (-2)) hx hb dX9_may_16 (by decide) ?_
    refine W.widen (k := 0) (n := 0) (Nat.le_of_ble_eq_true rfl) (Nat.le_of_ble_eq_true rfl) ?_
    exact W.iret (v := (-2)) hx hb hr (fun t ht hW => ⟨⟨(-2), _, rfl, rfl, by rw [ht]; exact hP, hD⟩, hS.F ht⟩) hS.2.2 dX9_may_18

set_option maxHeartbeats 4000000 in
set_option maxRecDepth 100000 in
theorem kX9_fewest (l : Launch) (G : va_G) (y : Nat → ClassId) (sz : Nat) (ob : Nat) (a1 : Int32) (tp : Nat) (rd : Nat) (sa : Nat) (im : Nat) (sl : Nat) (ro : Nat) (wy : Nat) (od : Nat) (ok : Nat) (tw : Nat) (co : Nat) (de : Nat) (dd : Nat) (kn : Nat) (fo : Nat) (tw_1 : Value) (tw_2 : Value) (tw_3 : Value) (tw_4 : Value) (tw_5 : Value) (tw_6 : Value) (tw_7 : Value) (tw_8 : Value) (tw_9 : Value) (tw_10 : Value) (tw_11 : Value)  : Met l yX9_fewest (Cond.code yX9_fewest cX9_fewest 2 (some .int) :: wAll) ({ frames := 1, cells := 0, slots := 0, locals := 21 }) (va_Pc [.ref ob, .int a1] (kp G y sz [(ob, .inr (9, [.ref tp, .int 0, .ref rd, .ref sa, .ref im, .ref sl, .ref ro, .ref wy, .ref od, .ref ok])), (sa, .inr (6, [.ref tw, .ref co, .ref de, .ref dd, .ref kn, .int 0, .int 0, .ref fo])), (tw, .inr (7, [.int 0, tw_1, tw_2, tw_3, tw_4, tw_5, tw_6, tw_7, tw_8, tw_9, tw_10, tw_11]))])) (va_Qi (fun (r : Int32) (_ : va_W) => r = -2) (kq G (va_A [(ob, .inr (9, [.ref tp, .int 0, .ref rd, .ref sa, .ref im, .ref sl, .ref ro, .ref wy, .ref od, .ref ok])), (sa, .inr (6, [.ref tw, .ref co, .ref de, .ref dd, .ref kn, .int 0, .int 0, .ref fo])), (tw, .inr (7, [.int 0, tw_1, tw_2, tw_3, tw_4, tw_5, tw_6, tw_7, tw_8, tw_9, tw_10, tw_11]))] sz)) (va_A [(ob, .inr (9, [.ref tp, .int 0, .ref rd, .ref sa, .ref im, .ref sl, .ref ro, .ref wy, .ref od, .ref ok])), (sa, .inr (6, [.ref tw, .ref co, .ref de, .ref dd, .ref kn, .int 0, .int 0, .ref fo])), (tw, .inr (7, [.int 0, tw_1, tw_2, tw_3, tw_4, tw_5, tw_6, tw_7, tw_8, tw_9, tw_10, tw_11]))] sz)) 0 0 (va_A [(ob, .inr (9, [.ref tp, .int 0, .ref rd, .ref sa, .ref im, .ref sl, .ref ro, .ref wy, .ref od, .ref ok])), (sa, .inr (6, [.ref tw, .ref co, .ref de, .ref dd, .ref kn, .int 0, .int 0, .ref fo])), (tw, .inr (7, [.int 0, tw_1, tw_2, tw_3, tw_4, tw_5, tw_6, tw_7, tw_8, tw_9, tw_10, tw_11]))] sz) := by
  refine Met.ofW (cc := cX9_fewest) (maxL := 2) (ret := (some .int)) (by decide) rfl ?_
  intro p e s m args below meth c s₁ B hml hv
  obtain ⟨rfl, hsz, hP, hK, hD0⟩ := hv
  have hx := B.exec
  have hb := B.bytes
  have hr := B.returns
  have hw0 : ∀ w ∈ wAll, w.before _ s = true := fun w h => atoms_spec (ws := Cond.code yX9_fewest cX9_fewest 2 (some .int) :: wAll) B.pre w (List.mem_cons_of_mem _ h)
  have hown : s.vm.findClass RX9 = some m.cls := findClass_of_methodNamed B.named
  have hlocks := B.notSynchronized
  subst hsz
  have hD := hD0.self (sz := s.heap.size)
  generalize hAe : va_A [(ob, .inr (9, [.ref tp, .int 0, .ref rd, .ref sa, .ref im, .ref sl, .ref ro, .ref wy, .ref od, .ref ok])), (sa, .inr (6, [.ref tw, .ref co, .ref de, .ref dd, .ref kn, .int 0, .int 0, .ref fo])), (tw, .inr (7, [.int 0, tw_1, tw_2, tw_3, tw_4, tw_5, tw_6, tw_7, tw_8, tw_9, tw_10, tw_11]))] s.heap.size = A at hD ⊢
  have hA : ∀ q : Nat, s.heap.size ≤ q → A q := fun q h => by rw [← hAe]; exact Or.inr h
  have hS : va_S A s.heap s.heap [] := va_S.rf
  have hP : va_P G vwCl [(ob, .inr (9, [.ref tp, .int 0, .ref rd, .ref sa, .ref im, .ref sl, .ref ro, .ref wy, .ref od, .ref ok])), (sa, .inr (6, [.ref tw, .ref co, .ref de, .ref dd, .ref kn, .int 0, .int 0, .ref fo])), (tw, .inr (7, [.int 0, tw_1, tw_2, tw_3, tw_4, tw_5, tw_6, tw_7, tw_8, tw_9, tw_10, tw_11]))] s.heap := hP
  have hl := lv_entry ([.ref ob, .int a1]) (n := 2) (Nat.le_of_ble_eq_true rfl)
  rw [lg_entry_eq]
  generalize (lg_sl ([.ref ob, .int a1]) ++ List.replicate (2 - (lg_sl ([.ref ob, .int a1])).length) Slot.unset).toArray = ls at hl ⊢
  have hl : lv_has ls 2 [(0, .ref ob), (1, .int a1)] := hl
  refine lv_aload_n hx hb dX9_fewest_0 rfl (lv_at hl 0 rfl) ?_
  refine va_get (D := G) (ci := 9) (v := .ref sa) (C := RX9) (T := TX9) (N := 10) hx hb hw0 inA_wsX90 hown hK.1 hP 0 rfl rfl 3 (by decide) (hw0 _ m_110) (fun _ h9 => h9) rfl dX9_fewest_1 ?_
  refine va_get (D := G) (ci := 6) (v := .ref tw) (C := RX6) (T := TX6) (N := 8) hx hb hw0 inA_wsX60 hown hK.1 hP 1 rfl rfl 0 (by decide) (hw0 _ m_176) (fun _ h9 => h9) rfl dX9_fewest_4 ?_
  refine lv_iload_n hx hb dX9_fewest_7 rfl (lv_at hl 1 rfl) ?_
  refine cVi (As := [.int a1]) (rest := []) ⟨hx, hb, hml, hown, hw0⟩ hA hK hP hD hS [2] [0, 1] [(tw, .inr (7, [.int 0, tw_1, tw_2, tw_3, tw_4, tw_5, tw_6, tw_7, tw_8, tw_9, tw_10, tw_11]))] [(ob, .inr (9, [.ref tp, .int 0, .ref rd, .ref sa, .ref im, .ref sl, .ref ro, .ref wy, .ref od, .ref ok])), (sa, .inr (6, [.ref tw, .ref co, .ref de, .ref dd, .ref kn, .int 0, .int 0, .ref fo]))] rfl rfl (by decide) (by decide) (by decide) (kX7_has l G y _ tw a1 (tw_1) (tw_2) (tw_3) (tw_4) (tw_5) (tw_6) (tw_7) (tw_8) (tw_9) (tw_10) (tw_11) ) ⟨(callB_of 1 hw0 (gA m_171) rfl rfl rfl (hw0 _ m_70) (hw0 _ m_181) (by decide +kernel) ⟨Nat.le_of_ble_eq_true rfl, Nat.le_of_ble_eq_true rfl⟩), (hw0 _ m_173), (hw0 _ m_174)⟩ (ci := 7) (q := (RX7, TX7, 12)) rfl rfl rfl hl.1 (Nat.le_of_ble_eq_true rfl) dX9_fewest_8 ⟨Nat.le_of_ble_eq_true rfl, Nat.le_of_ble_eq_true rfl⟩ (fun r_1 w_1 H locs hw_1 hP hD hS => ?_)
  obtain ⟨rfl, rfl⟩ := hw_1
  have hP : va_P G vwCl [(ob, .inr (9, [.ref tp, .int 0, .ref rd, .ref sa, .ref im, .ref sl, .ref ro, .ref wy, .ref od, .ref ok])), (sa, .inr (6, [.ref tw, .ref co, .ref de, .ref dd, .ref kn, .int 0, .int 0, .ref fo])), (tw, .inr (7, [.int 0, tw_1, tw_2, tw_3, tw_4, tw_5, tw_6, tw_7, tw_8, tw_9, tw_10, tw_11]))] H := hP
  have hD : va_D A [(ob, .inr (9, [.ref tp, .int 0, .ref rd, .ref sa, .ref im, .ref sl, .ref ro, .ref wy, .ref od, .ref ok])), (sa, .inr (6, [.ref tw, .ref co, .ref de, .ref dd, .ref kn, .int 0, .int 0, .ref fo])), (tw, .inr (7, [.int 0, tw_1, tw_2, tw_3, tw_4, tw_5, tw_6, tw_7, tw_8, tw_9, tw_10, tw_11]))] := hD
  refine lv_if_eq (tgt := 29) hx hb dX9_fewest_11 (by decide) (fun _ => ?_) (fun c9 => absurd (by decide) c9)
  refine lv_bipush (v := (-2)) hx hb dX9_fewest_29 (by decide) ?_
  refine W.widen (k := 0) (n := 0) (Nat.le_of_ble_eq_true rfl) (Nat.le_of_ble_eq_true rfl) ?_
  exact W.iret (v := (-2)) hx hb hr (fun t ht hW => ⟨⟨(-2), _, rfl, rfl, by rw [ht]; exact hP, hD⟩, hS.F ht⟩) hS.2.2 dX9_fewest_31

set_option maxHeartbeats 4000000 in
set_option maxRecDepth 100000 in
theorem kX9_lost (l : Launch) (G : va_G) (y : Nat → ClassId) (sz : Nat) (ob : Nat) (a1 : Int32) (tp : Nat) (rd : Nat) (sa : Nat) (im : Nat) (sl : Nat) (ro : Nat) (wy : Nat) (od : Nat) (ok : Nat) (tw : Nat) (co : Nat) (de : Nat) (dd : Nat) (kn : Nat) (fo : Nat) (tw_1 : Value) (tw_2 : Value) (tw_3 : Value) (tw_4 : Value) (tw_5 : Value) (tw_6 : Value) (tw_7 : Value) (tw_8 : Value) (tw_9 : Value) (tw_10 : Value) (tw_11 : Value)  : Met l yX9_lost (Cond.code yX9_lost cX9_lost 2 (some .int) :: wAll) ({ frames := 1, cells := 0, slots := 0, locals := 21 }) (va_Pc [.ref ob, .int a1] (kp G y sz [(ob, .inr (9, [.ref tp, .int 0, .ref rd, .ref sa, .ref im, .ref sl, .ref ro, .ref wy, .ref od, .ref ok])), (sa, .inr (6, [.ref tw, .ref co, .ref de, .ref dd, .ref kn, .int 0, .int 0, .ref fo])), (tw, .inr (7, [.int 0, tw_1, tw_2, tw_3, tw_4, tw_5, tw_6, tw_7, tw_8, tw_9, tw_10, tw_11]))])) (va_Qi (fun (r : Int32) (_ : va_W) => r = -2) (kq G (va_A [(ob, .inr (9, [.ref tp, .int 0, .ref rd, .ref sa, .ref im, .ref sl, .ref ro, .ref wy, .ref od, .ref ok])), (sa, .inr (6, [.ref tw, .ref co, .ref de, .ref dd, .ref kn, .int 0, .int 0, .ref fo])), (tw, .inr (7, [.int 0, tw_1, tw_2, tw_3, tw_4, tw_5, tw_6, tw_7, tw_8, tw_9, tw_10, tw_11]))] sz)) (va_A [(ob, .inr (9, [.ref tp, .int 0, .ref rd, .ref sa, .ref im, .ref sl, .ref ro, .ref wy, .ref od, .ref ok])), (sa, .inr (6, [.ref tw, .ref co, .ref de, .ref dd, .ref kn, .int 0, .int 0, .ref fo])), (tw, .inr (7, [.int 0, tw_1, tw_2, tw_3, tw_4, tw_5, tw_6, tw_7, tw_8, tw_9, tw_10, tw_11]))] sz)) 0 0 (va_A [(ob, .inr (9, [.ref tp, .int 0, .ref rd, .ref sa, .ref im, .ref sl, .ref ro, .ref wy, .ref od, .ref ok])), (sa, .inr (6, [.ref tw, .ref co, .ref de, .ref dd, .ref kn, .int 0, .int 0, .ref fo])), (tw, .inr (7, [.int 0, tw_1, tw_2, tw_3, tw_4, tw_5, tw_6, tw_7, tw_8, tw_9, tw_10, tw_11]))] sz) := by
  refine Met.ofW (cc := cX9_lost) (maxL := 2) (ret := (some .int)) (by decide) rfl ?_
  intro p e s m args below meth c s₁ B hml hv
  obtain ⟨rfl, hsz, hP, hK, hD0⟩ := hv
  have hx := B.exec
  have hb := B.bytes
  have hr := B.returns
  have hw0 : ∀ w ∈ wAll, w.before _ s = true := fun w h => atoms_spec (ws := Cond.code yX9_lost cX9_lost 2 (some .int) :: wAll) B.pre w (List.mem_cons_of_mem _ h)
  have hown : s.vm.findClass RX9 = some m.cls := findClass_of_methodNamed B.named
  have hlocks := B.notSynchronized
  subst hsz
  have hD := hD0.self (sz := s.heap.size)
  generalize hAe : va_A [(ob, .inr (9, [.ref tp, .int 0, .ref rd, .ref sa, .ref im, .ref sl, .ref ro, .ref wy, .ref od, .ref ok])), (sa, .inr (6, [.ref tw, .ref co, .ref de, .ref dd, .ref kn, .int 0, .int 0, .ref fo])), (tw, .inr (7, [.int 0, tw_1, tw_2, tw_3, tw_4, tw_5, tw_6, tw_7, tw_8, tw_9, tw_10, tw_11]))] s.heap.size = A at hD ⊢
  have hA : ∀ q : Nat, s.heap.size ≤ q → A q := fun q h => by rw [← hAe]; exact Or.inr h
  have hS : va_S A s.heap s.heap [] := va_S.rf
  have hP : va_P G vwCl [(ob, .inr (9, [.ref tp, .int 0, .ref rd, .ref sa, .ref im, .ref sl, .ref ro, .ref wy, .ref od, .ref ok])), (sa, .inr (6, [.ref tw, .ref co, .ref de, .ref dd, .ref kn, .int 0, .int 0, .ref fo])), (tw, .inr (7, [.int 0, tw_1, tw_2, tw_3, tw_4, tw_5, tw_6, tw_7, tw_8, tw_9, tw_10, tw_11]))] s.heap := hP
  have hl := lv_entry ([.ref ob, .int a1]) (n := 2) (Nat.le_of_ble_eq_true rfl)
  rw [lg_entry_eq]
  generalize (lg_sl ([.ref ob, .int a1]) ++ List.replicate (2 - (lg_sl ([.ref ob, .int a1])).length) Slot.unset).toArray = ls at hl ⊢
  have hl : lv_has ls 2 [(0, .ref ob), (1, .int a1)] := hl
  refine lv_aload_n hx hb dX9_lost_0 rfl (lv_at hl 0 rfl) ?_
  refine va_get (D := G) (ci := 9) (v := .ref sa) (C := RX9) (T := TX9) (N := 10) hx hb hw0 inA_wsX90 hown hK.1 hP 0 rfl rfl 3 (by decide) (hw0 _ m_110) (fun _ h9 => h9) rfl dX9_lost_1 ?_
  refine va_get (D := G) (ci := 6) (v := .ref tw) (C := RX6) (T := TX6) (N := 8) hx hb hw0 inA_wsX60 hown hK.1 hP 1 rfl rfl 0 (by decide) (hw0 _ m_176) (fun _ h9 => h9) rfl dX9_lost_4 ?_
  refine lv_iload_n hx hb dX9_lost_7 rfl (lv_at hl 1 rfl) ?_
  refine cVi (As := [.int a1]) (rest := []) ⟨hx, hb, hml, hown, hw0⟩ hA hK hP hD hS [2] [0, 1] [(tw, .inr (7, [.int 0, tw_1, tw_2, tw_3, tw_4, tw_5, tw_6, tw_7, tw_8, tw_9, tw_10, tw_11]))] [(ob, .inr (9, [.ref tp, .int 0, .ref rd, .ref sa, .ref im, .ref sl, .ref ro, .ref wy, .ref od, .ref ok])), (sa, .inr (6, [.ref tw, .ref co, .ref de, .ref dd, .ref kn, .int 0, .int 0, .ref fo]))] rfl rfl (by decide) (by decide) (by decide) (kX7_has l G y _ tw a1 (tw_1) (tw_2) (tw_3) (tw_4) (tw_5) (tw_6) (tw_7) (tw_8) (tw_9) (tw_10) (tw_11) ) ⟨(callB_of 1 hw0 (gA m_171) rfl rfl rfl (hw0 _ m_70) (hw0 _ m_181) (by decide +kernel) ⟨Nat.le_of_ble_eq_true rfl, Nat.le_of_ble_eq_true rfl⟩), (hw0 _ m_173), (hw0 _ m_174)⟩ (ci := 7) (q := (RX7, TX7, 12)) rfl rfl rfl hl.1 (Nat.le_of_ble_eq_true rfl) dX9_lost_8 ⟨Nat.le_of_ble_eq_true rfl, Nat.le_of_ble_eq_true rfl⟩ (fun r_1 w_1 H locs hw_1 hP hD hS => ?_)
  obtain ⟨rfl, rfl⟩ := hw_1
  have hP : va_P G vwCl [(ob, .inr (9, [.ref tp, .int 0, .ref rd, .ref sa, .ref im, .ref sl, .ref ro, .ref wy, .ref od, .ref ok])), (sa, .inr (6, [.ref tw, .ref co, .ref de, .ref dd, .ref kn, .int 0, .int 0, .ref fo])), (tw, .inr (7, [.int 0, tw_1, tw_2, tw_3, tw_4, tw_5, tw_6, tw_7, tw_8, tw_9, tw_10, tw_11]))] H := hP
  have hD : va_D A [(ob, .inr (9, [.ref tp, .int 0, .ref rd, .ref sa, .ref im, .ref sl, .ref ro, .ref wy, .ref od, .ref ok])), (sa, .inr (6, [.ref tw, .ref co, .ref de, .ref dd, .ref kn, .int 0, .int 0, .ref fo])), (tw, .inr (7, [.int 0, tw_1, tw_2, tw_3, tw_4, tw_5, tw_6, tw_7, tw_8, tw_9, tw_10, tw_11]))] := hD
  refine lv_if_eq (tgt := 29) hx hb dX9_lost_11 (by decide) (fun _ => ?_) (fun c9 => absurd (by decide) c9)
  refine lv_bipush (v := (-2)) hx hb dX9_lost_29 (by decide) ?_
  refine W.widen (k := 0) (n := 0) (Nat.le_of_ble_eq_true rfl) (Nat.le_of_ble_eq_true rfl) ?_
  exact W.iret (v := (-2)) hx hb hr (fun t ht hW => ⟨⟨(-2), _, rfl, rfl, by rw [ht]; exact hP, hD⟩, hS.F ht⟩) hS.2.2 dX9_lost_31

set_option maxHeartbeats 4000000 in
set_option maxRecDepth 100000 in
theorem kX9_soon (l : Launch) (G : va_G) (y : Nat → ClassId) (sz : Nat) (ob : Nat) (a1 : Int32) (a2 : Int32) (tp : Nat) (rd : Nat) (sa : Nat) (im : Nat) (sl : Nat) (ro : Nat) (wy : Nat) (od : Nat) (ok : Nat) (tw : Nat) (co : Nat) (de : Nat) (dd : Nat) (kn : Nat) (fo : Nat) (tw_1 : Value) (tw_2 : Value) (tw_3 : Value) (tw_4 : Value) (tw_5 : Value) (tw_6 : Value) (tw_7 : Value) (tw_8 : Value) (tw_9 : Value) (tw_10 : Value) (tw_11 : Value)  : Met l yX9_soon (Cond.code yX9_soon cX9_soon 3 (some .int) :: wAll) ({ frames := 2, cells := 0, slots := 0, locals := 43 }) (va_Pc [.ref ob, .int a1, .int a2] (kp G y sz [(ob, .inr (9, [.ref tp, .int 0, .ref rd, .ref sa, .ref im, .ref sl, .ref ro, .ref wy, .ref od, .ref ok])), (sa, .inr (6, [.ref tw, .ref co, .ref de, .ref dd, .ref kn, .int 0, .int 0, .ref fo])), (tw, .inr (7, [.int 0, tw_1, tw_2, tw_3, tw_4, tw_5, tw_6, tw_7, tw_8, tw_9, tw_10, tw_11]))])) (va_Qi (fun (r : Int32) (_ : va_W) => r = -2) (kq G (va_A [(ob, .inr (9, [.ref tp, .int 0, .ref rd, .ref sa, .ref im, .ref sl, .ref ro, .ref wy, .ref od, .ref ok])), (sa, .inr (6, [.ref tw, .ref co, .ref de, .ref dd, .ref kn, .int 0, .int 0, .ref fo])), (tw, .inr (7, [.int 0, tw_1, tw_2, tw_3, tw_4, tw_5, tw_6, tw_7, tw_8, tw_9, tw_10, tw_11]))] sz)) (va_A [(ob, .inr (9, [.ref tp, .int 0, .ref rd, .ref sa, .ref im, .ref sl, .ref ro, .ref wy, .ref od, .ref ok])), (sa, .inr (6, [.ref tw, .ref co, .ref de, .ref dd, .ref kn, .int 0, .int 0, .ref fo])), (tw, .inr (7, [.int 0, tw_1, tw_2, tw_3, tw_4, tw_5, tw_6, tw_7, tw_8, tw_9, tw_10, tw_11]))] sz)) 0 0 (va_A [(ob, .inr (9, [.ref tp, .int 0, .ref rd, .ref sa, .ref im, .ref sl, .ref ro, .ref wy, .ref od, .ref ok])), (sa, .inr (6, [.ref tw, .ref co, .ref de, .ref dd, .ref kn, .int 0, .int 0, .ref fo])), (tw, .inr (7, [.int 0, tw_1, tw_2, tw_3, tw_4, tw_5, tw_6, tw_7, tw_8, tw_9, tw_10, tw_11]))] sz) := by
  refine Met.ofW (cc := cX9_soon) (maxL := 3) (ret := (some .int)) (by decide) rfl ?_
  intro p e s m args below meth c s₁ B hml hv
  obtain ⟨rfl, hsz, hP, hK, hD0⟩ := hv
  have hx := B.exec
  have hb := B.bytes
  have hr := B.returns
  have hw0 : ∀ w ∈ wAll, w.before _ s = true := fun w h => atoms_spec (ws := Cond.code yX9_soon cX9_soon 3 (some .int) :: wAll) B.pre w (List.mem_cons_of_mem _ h)
  have hown : s.vm.findClass RX9 = some m.cls := findClass_of_methodNamed B.named
  have hlocks := B.notSynchronized
  subst hsz
  have hD := hD0.self (sz := s.heap.size)
  generalize hAe : va_A [(ob, .inr (9, [.ref tp, .int 0, .ref rd, .ref sa, .ref im, .ref sl, .ref ro, .ref wy, .ref od, .ref ok])), (sa, .inr (6, [.ref tw, .ref co, .ref de, .ref dd, .ref kn, .int 0, .int 0, .ref fo])), (tw, .inr (7, [.int 0, tw_1, tw_2, tw_3, tw_4, tw_5, tw_6, tw_7, tw_8, tw_9, tw_10, tw_11]))] s.heap.size = A at hD ⊢
  have hA : ∀ q : Nat, s.heap.size ≤ q → A q := fun q h => by rw [← hAe]; exact Or.inr h
  have hS : va_S A s.heap s.heap [] := va_S.rf
  have hP : va_P G vwCl [(ob, .inr (9, [.ref tp, .int 0, .ref rd, .ref sa, .ref im, .ref sl, .ref ro, .ref wy, .ref od, .ref ok])), (sa, .inr (6, [.ref tw, .ref co, .ref de, .ref dd, .ref kn, .int 0, .int 0, .ref fo])), (tw, .inr (7, [.int 0, tw_1, tw_2, tw_3, tw_4, tw_5, tw_6, tw_7, tw_8, tw_9, tw_10, tw_11]))] s.heap := hP
  have hl := lv_entry ([.ref ob, .int a1, .int a2]) (n := 3) (Nat.le_of_ble_eq_true rfl)
  rw [lg_entry_eq]
  generalize (lg_sl ([.ref ob, .int a1, .int a2]) ++ List.replicate (3 - (lg_sl ([.ref ob, .int a1, .int a2])).length) Slot.unset).toArray = ls at hl ⊢
  have hl : lv_has ls 3 [(0, .ref ob), (1, .int a1), (2, .int a2)] := hl
  refine lv_aload_n hx hb dX9_soon_0 rfl (lv_at hl 0 rfl) ?_
  refine va_get (D := G) (ci := 9) (v := .ref sa) (C := RX9) (T := TX9) (N := 10) hx hb hw0 inA_wsX90 hown hK.1 hP 0 rfl rfl 3 (by decide) (hw0 _ m_110) (fun _ h9 => h9) rfl dX9_soon_1 ?_
  refine va_get (D := G) (ci := 6) (v := .ref tw) (C := RX6) (T := TX6) (N := 8) hx hb hw0 inA_wsX60 hown hK.1 hP 1 rfl rfl 0 (by decide) (hw0 _ m_176) (fun _ h9 => h9) rfl dX9_soon_4 ?_
  refine lv_iload_n hx hb dX9_soon_7 rfl (lv_at hl 1 rfl) ?_
  refine lv_iload_n hx hb dX9_soon_8 rfl (lv_at hl 2 rfl) ?_
  refine cVi (As := [.int a1, .int a2]) (rest := []) ⟨hx, hb, hml, hown, hw0⟩ hA hK hP hD hS [2] [0, 1] [(tw, .inr (7, [.int 0, tw_1, tw_2, tw_3, tw_4, tw_5, tw_6, tw_7, tw_8, tw_9, tw_10, tw_11]))] [(ob, .inr (9, [.ref tp, .int 0, .ref rd, .ref sa, .ref im, .ref sl, .ref ro, .ref wy, .ref od, .ref ok])), (sa, .inr (6, [.ref tw, .ref co, .ref de, .ref dd, .ref kn, .int 0, .int 0, .ref fo]))] rfl rfl (by decide) (by decide) (by decide) (kX7_hasPair l G y _ tw a1 a2 (tw_1) (tw_2) (tw_3) (tw_4) (tw_5) (tw_6) (tw_7) (tw_8) (tw_9) (tw_10) (tw_11) ) ⟨(callB_of 2 hw0 (gA m_175) rfl rfl rfl (hw0 _ m_70) (hw0 _ m_177) (by decide +kernel) ⟨Nat.le_of_ble_eq_true rfl, Nat.le_of_ble_eq_true rfl⟩), (hw0 _ m_178), (hw0 _ m_179)⟩ (ci := 7) (q := (RX7, TX7, 12)) rfl rfl rfl hl.1 (Nat.le_of_ble_eq_true rfl) dX9_soon_9 ⟨Nat.le_of_ble_eq_true rfl, Nat.le_of_ble_eq_true rfl⟩ (fun r_1 w_1 H locs hw_1 hP hD hS => ?_)
  obtain ⟨rfl, rfl⟩ := hw_1
  have hP : va_P G vwCl [(ob, .inr (9, [.ref tp, .int 0, .ref rd, .ref sa, .ref im, .ref sl, .ref ro, .ref wy, .ref od, .ref ok])), (sa, .inr (6, [.ref tw, .ref co, .ref de, .ref dd, .ref kn, .int 0, .int 0, .ref fo])), (tw, .inr (7, [.int 0, tw_1, tw_2, tw_3, tw_4, tw_5, tw_6, tw_7, tw_8, tw_9, tw_10, tw_11]))] H := hP
  have hD : va_D A [(ob, .inr (9, [.ref tp, .int 0, .ref rd, .ref sa, .ref im, .ref sl, .ref ro, .ref wy, .ref od, .ref ok])), (sa, .inr (6, [.ref tw, .ref co, .ref de, .ref dd, .ref kn, .int 0, .int 0, .ref fo])), (tw, .inr (7, [.int 0, tw_1, tw_2, tw_3, tw_4, tw_5, tw_6, tw_7, tw_8, tw_9, tw_10, tw_11]))] := hD
  refine lv_if_ne (tgt := 18) hx hb dX9_soon_12 (by decide) (fun c9 => absurd (by decide) c9) (fun _ => ?_)
  refine lv_bipush (v := (-2)) hx hb dX9_soon_15 (by decide) ?_
  refine W.widen (k := 0) (n := 0) (Nat.le_of_ble_eq_true rfl) (Nat.le_of_ble_eq_true rfl) ?_
  exact W.iret (v := (-2)) hx hb hr (fun t ht hW => ⟨⟨(-2), _, rfl, rfl, by rw [ht]; exact hP, hD⟩, hS.F ht⟩) hS.2.2 dX9_soon_17

set_option maxHeartbeats 4000000 in
set_option maxRecDepth 100000 in
theorem kX9_path (l : Launch) (G : va_G) (y : Nat → ClassId) (sz : Nat) (ob : Nat) (a1 : Int32) (a2 : Int32) (a3 : Int32) (tp : Nat) (rd : Nat) (sa : Nat) (im : Nat) (sl : Nat) (ro : Nat) (wy : Nat) (od : Nat) (ok : Nat) (tw : Nat) (co : Nat) (de : Nat) (dd : Nat) (kn : Nat) (fo : Nat) (tw_1 : Value) (tw_2 : Value) (tw_3 : Value) (tw_4 : Value) (tw_5 : Value) (tw_6 : Value) (tw_7 : Value) (tw_8 : Value) (tw_9 : Value) (tw_10 : Value) (tw_11 : Value)  : Met l yX9_path (Cond.code yX9_path cX9_path 4 (some .int) :: wAll) ({ frames := 2, cells := 0, slots := 0, locals := 43 }) (va_Pc [.ref ob, .int a1, .int a2, .int a3] (kp G y sz [(ob, .inr (9, [.ref tp, .int 0, .ref rd, .ref sa, .ref im, .ref sl, .ref ro, .ref wy, .ref od, .ref ok])), (sa, .inr (6, [.ref tw, .ref co, .ref de, .ref dd, .ref kn, .int 0, .int 0, .ref fo])), (tw, .inr (7, [.int 0, tw_1, tw_2, tw_3, tw_4, tw_5, tw_6, tw_7, tw_8, tw_9, tw_10, tw_11]))])) (va_Qi (fun (r : Int32) (_ : va_W) => r = -2) (kq G (va_A [(ob, .inr (9, [.ref tp, .int 0, .ref rd, .ref sa, .ref im, .ref sl, .ref ro, .ref wy, .ref od, .ref ok])), (sa, .inr (6, [.ref tw, .ref co, .ref de, .ref dd, .ref kn, .int 0, .int 0, .ref fo])), (tw, .inr (7, [.int 0, tw_1, tw_2, tw_3, tw_4, tw_5, tw_6, tw_7, tw_8, tw_9, tw_10, tw_11]))] sz)) (va_A [(ob, .inr (9, [.ref tp, .int 0, .ref rd, .ref sa, .ref im, .ref sl, .ref ro, .ref wy, .ref od, .ref ok])), (sa, .inr (6, [.ref tw, .ref co, .ref de, .ref dd, .ref kn, .int 0, .int 0, .ref fo])), (tw, .inr (7, [.int 0, tw_1, tw_2, tw_3, tw_4, tw_5, tw_6, tw_7, tw_8, tw_9, tw_10, tw_11]))] sz)) 0 0 (va_A [(ob, .inr (9, [.ref tp, .int 0, .ref rd, .ref sa, .ref im, .ref sl, .ref ro, .ref wy, .ref od, .ref ok])), (sa, .inr (6, [.ref tw, .ref co, .ref de, .ref dd, .ref kn, .int 0, .int 0, .ref fo])), (tw, .inr (7, [.int 0, tw_1, tw_2, tw_3, tw_4, tw_5, tw_6, tw_7, tw_8, tw_9, tw_10, tw_11]))] sz) := by
  refine Met.ofW (cc := cX9_path) (maxL := 4) (ret := (some .int)) (by decide) rfl ?_
  intro p e s m args below meth c s₁ B hml hv
  obtain ⟨rfl, hsz, hP, hK, hD0⟩ := hv
  have hx := B.exec
  have hb := B.bytes
  have hr := B.returns
  have hw0 : ∀ w ∈ wAll, w.before _ s = true := fun w h => atoms_spec (ws := Cond.code yX9_path cX9_path 4 (some .int) :: wAll) B.pre w (List.mem_cons_of_mem _ h)
  have hown : s.vm.findClass RX9 = some m.cls := findClass_of_methodNamed B.named
  have hlocks := B.notSynchronized
  subst hsz
  have hD := hD0.self (sz := s.heap.size)
  generalize hAe : va_A [(ob, .inr (9, [.ref tp, .int 0, .ref rd, .ref sa, .ref im, .ref sl, .ref ro, .ref wy, .ref od, .ref ok])), (sa, .inr (6, [.ref tw, .ref co, .ref de, .ref dd, .ref kn, .int 0, .int 0, .ref fo])), (tw, .inr (7, [.int 0, tw_1, tw_2, tw_3, tw_4, tw_5, tw_6, tw_7, tw_8, tw_9, tw_10, tw_11]))] s.heap.size = A at hD ⊢
  have hA : ∀ q : Nat, s.heap.size ≤ q → A q := fun q h => by rw [← hAe]; exact Or.inr h
  have hS : va_S A s.heap s.heap [] := va_S.rf
  have hP : va_P G vwCl [(ob, .inr (9, [.ref tp, .int 0, .ref rd, .ref sa, .ref im, .ref sl, .ref ro, .ref wy, .ref od, .ref ok])), (sa, .inr (6, [.ref tw, .ref co, .ref de, .ref dd, .ref kn, .int 0, .int 0, .ref fo])), (tw, .inr (7, [.int 0, tw_1, tw_2, tw_3, tw_4, tw_5, tw_6, tw_7, tw_8, tw_9, tw_10, tw_11]))] s.heap := hP
  have hl := lv_entry ([.ref ob, .int a1, .int a2, .int a3]) (n := 4) (Nat.le_of_ble_eq_true rfl)
  rw [lg_entry_eq]
  generalize (lg_sl ([.ref ob, .int a1, .int a2, .int a3]) ++ List.replicate (4 - (lg_sl ([.ref ob, .int a1, .int a2, .int a3])).length) Slot.unset).toArray = ls at hl ⊢
  have hl : lv_has ls 4 [(0, .ref ob), (1, .int a1), (2, .int a2), (3, .int a3)] := hl
  refine lv_aload_n hx hb dX9_path_0 rfl (lv_at hl 0 rfl) ?_
  refine va_get (D := G) (ci := 9) (v := .ref sa) (C := RX9) (T := TX9) (N := 10) hx hb hw0 inA_wsX90 hown hK.1 hP 0 rfl rfl 3 (by decide) (hw0 _ m_110) (fun _ h9 => h9) rfl dX9_path_1 ?_
  refine va_get (D := G) (ci := 6) (v := .ref tw) (C := RX6) (T := TX6) (N := 8) hx hb hw0 inA_wsX60 hown hK.1 hP 1 rfl rfl 0 (by decide) (hw0 _ m_176) (fun _ h9 => h9) rfl dX9_path_4 ?_
  refine lv_iload_n hx hb dX9_path_7 rfl (lv_at hl 1 rfl) ?_
  refine lv_iload_n hx hb dX9_path_8 rfl (lv_at hl 2 rfl) ?_
  refine cVi (As := [.int a1, .int a2]) (rest := []) ⟨hx, hb, hml, hown, hw0⟩ hA hK hP hD hS [2] [0, 1] [(tw, .inr (7, [.int 0, tw_1, tw_2, tw_3, tw_4, tw_5, tw_6, tw_7, tw_8, tw_9, tw_10, tw_11]))] [(ob, .inr (9, [.ref tp, .int 0, .ref rd, .ref sa, .ref im, .ref sl, .ref ro, .ref wy, .ref od, .ref ok])), (sa, .inr (6, [.ref tw, .ref co, .ref de, .ref dd, .ref kn, .int 0, .int 0, .ref fo]))] rfl rfl (by decide) (by decide) (by decide) (kX7_hasPair l G y _ tw a1 a2 (tw_1) (tw_2) (tw_3) (tw_4) (tw_5) (tw_6) (tw_7) (tw_8) (tw_9) (tw_10) (tw_11) ) ⟨(callB_of 2 hw0 (gA m_175) rfl rfl rfl (hw0 _ m_70) (hw0 _ m_177) (by decide +kernel) ⟨Nat.le_of_ble_eq_true rfl, Nat.le_of_ble_eq_true rfl⟩), (hw0 _ m_178), (hw0 _ m_179)⟩ (ci := 7) (q := (RX7, TX7, 12)) rfl rfl rfl hl.1 (Nat.le_of_ble_eq_true rfl) dX9_path_9 ⟨Nat.le_of_ble_eq_true rfl, Nat.le_of_ble_eq_true rfl⟩ (fun r_1 w_1 H locs hw_1 hP hD hS => ?_)
  obtain ⟨rfl, rfl⟩ := hw_1
  have hP : va_P G vwCl [(ob, .inr (9, [.ref tp, .int 0, .ref rd, .ref sa, .ref im, .ref sl, .ref ro, .ref wy, .ref od, .ref ok])), (sa, .inr (6, [.ref tw, .ref co, .ref de, .ref dd, .ref kn, .int 0, .int 0, .ref fo])), (tw, .inr (7, [.int 0, tw_1, tw_2, tw_3, tw_4, tw_5, tw_6, tw_7, tw_8, tw_9, tw_10, tw_11]))] H := hP
  have hD : va_D A [(ob, .inr (9, [.ref tp, .int 0, .ref rd, .ref sa, .ref im, .ref sl, .ref ro, .ref wy, .ref od, .ref ok])), (sa, .inr (6, [.ref tw, .ref co, .ref de, .ref dd, .ref kn, .int 0, .int 0, .ref fo])), (tw, .inr (7, [.int 0, tw_1, tw_2, tw_3, tw_4, tw_5, tw_6, tw_7, tw_8, tw_9, tw_10, tw_11]))] := hD
  refine lv_if_ne (tgt := 18) hx hb dX9_path_12 (by decide) (fun c9 => absurd (by decide) c9) (fun _ => ?_)
  refine lv_bipush (v := (-2)) hx hb dX9_path_15 (by decide) ?_
  refine W.widen (k := 0) (n := 0) (Nat.le_of_ble_eq_true rfl) (Nat.le_of_ble_eq_true rfl) ?_
  exact W.iret (v := (-2)) hx hb hr (fun t ht hW => ⟨⟨(-2), _, rfl, rfl, by rw [ht]; exact hP, hD⟩, hS.F ht⟩) hS.2.2 dX9_path_17

set_option maxHeartbeats 4000000 in
set_option maxRecDepth 100000 in
theorem kX9_reach (l : Launch) (G : va_G) (y : Nat → ClassId) (sz : Nat) (ob : Nat) (a1 : Int32) (tp : Nat) (rd : Nat) (sa : Nat) (im : Nat) (sl : Nat) (ro : Nat) (wy : Nat) (od : Nat) (ok : Nat) (tw : Nat) (co : Nat) (de : Nat) (dd : Nat) (kn : Nat) (fo : Nat) (tw_1 : Value) (tw_2 : Value) (tw_3 : Value) (tw_4 : Value) (tw_5 : Value) (tw_6 : Value) (tw_7 : Value) (tw_8 : Value) (tw_9 : Value) (tw_10 : Value) (tw_11 : Value)  : Met l yX9_reach (Cond.code yX9_reach cX9_reach 2 (some .int) :: wAll) ({ frames := 1, cells := 0, slots := 0, locals := 21 }) (va_Pc [.ref ob, .int a1] (kp G y sz [(ob, .inr (9, [.ref tp, .int 0, .ref rd, .ref sa, .ref im, .ref sl, .ref ro, .ref wy, .ref od, .ref ok])), (sa, .inr (6, [.ref tw, .ref co, .ref de, .ref dd, .ref kn, .int 0, .int 0, .ref fo])), (tw, .inr (7, [.int 0, tw_1, tw_2, tw_3, tw_4, tw_5, tw_6, tw_7, tw_8, tw_9, tw_10, tw_11]))])) (va_Qi (fun (r : Int32) (_ : va_W) => r = -2) (kq G (va_A [(ob, .inr (9, [.ref tp, .int 0, .ref rd, .ref sa, .ref im, .ref sl, .ref ro, .ref wy, .ref od, .ref ok])), (sa, .inr (6, [.ref tw, .ref co, .ref de, .ref dd, .ref kn, .int 0, .int 0, .ref fo])), (tw, .inr (7, [.int 0, tw_1, tw_2, tw_3, tw_4, tw_5, tw_6, tw_7, tw_8, tw_9, tw_10, tw_11]))] sz)) (va_A [(ob, .inr (9, [.ref tp, .int 0, .ref rd, .ref sa, .ref im, .ref sl, .ref ro, .ref wy, .ref od, .ref ok])), (sa, .inr (6, [.ref tw, .ref co, .ref de, .ref dd, .ref kn, .int 0, .int 0, .ref fo])), (tw, .inr (7, [.int 0, tw_1, tw_2, tw_3, tw_4, tw_5, tw_6, tw_7, tw_8, tw_9, tw_10, tw_11]))] sz)) 0 0 (va_A [(ob, .inr (9, [.ref tp, .int 0, .ref rd, .ref sa, .ref im, .ref sl, .ref ro, .ref wy, .ref od, .ref ok])), (sa, .inr (6, [.ref tw, .ref co, .ref de, .ref dd, .ref kn, .int 0, .int 0, .ref fo])), (tw, .inr (7, [.int 0, tw_1, tw_2, tw_3, tw_4, tw_5, tw_6, tw_7, tw_8, tw_9, tw_10, tw_11]))] sz) := by
  refine Met.ofW (cc := cX9_reach) (maxL := 2) (ret := (some .int)) (by decide) rfl ?_
  intro p e s m args below meth c s₁ B hml hv
  obtain ⟨rfl, hsz, hP, hK, hD0⟩ := hv
  have hx := B.exec
  have hb := B.bytes
  have hr := B.returns
  have hw0 : ∀ w ∈ wAll, w.before _ s = true := fun w h => atoms_spec (ws := Cond.code yX9_reach cX9_reach 2 (some .int) :: wAll) B.pre w (List.mem_cons_of_mem _ h)
  have hown : s.vm.findClass RX9 = some m.cls := findClass_of_methodNamed B.named
  have hlocks := B.notSynchronized
  subst hsz
  have hD := hD0.self (sz := s.heap.size)
  generalize hAe : va_A [(ob, .inr (9, [.ref tp, .int 0, .ref rd, .ref sa, .ref im, .ref sl, .ref ro, .ref wy, .ref od, .ref ok])), (sa, .inr (6, [.ref tw, .ref co, .ref de, .ref dd, .ref kn, .int 0, .int 0, .ref fo])), (tw, .inr (7, [.int 0, tw_1, tw_2, tw_3, tw_4, tw_5, tw_6, tw_7, tw_8, tw_9, tw_10, tw_11]))] s.heap.size = A at hD ⊢
  have hA : ∀ q : Nat, s.heap.size ≤ q → A q := fun q h => by rw [← hAe]; exact Or.inr h
  have hS : va_S A s.heap s.heap [] := va_S.rf
  have hP : va_P G vwCl [(ob, .inr (9, [.ref tp, .int 0, .ref rd, .ref sa, .ref im, .ref sl, .ref ro, .ref wy, .ref od, .ref ok])), (sa, .inr (6, [.ref tw, .ref co, .ref de, .ref dd, .ref kn, .int 0, .int 0, .ref fo])), (tw, .inr (7, [.int 0, tw_1, tw_2, tw_3, tw_4, tw_5, tw_6, tw_7, tw_8, tw_9, tw_10, tw_11]))] s.heap := hP
  have hl := lv_entry ([.ref ob, .int a1]) (n := 2) (Nat.le_of_ble_eq_true rfl)
  rw [lg_entry_eq]
  generalize (lg_sl ([.ref ob, .int a1]) ++ List.replicate (2 - (lg_sl ([.ref ob, .int a1])).length) Slot.unset).toArray = ls at hl ⊢
  have hl : lv_has ls 2 [(0, .ref ob), (1, .int a1)] := hl
  refine lv_aload_n hx hb dX9_reach_0 rfl (lv_at hl 0 rfl) ?_
  refine va_get (D := G) (ci := 9) (v := .ref sa) (C := RX9) (T := TX9) (N := 10) hx hb hw0 inA_wsX90 hown hK.1 hP 0 rfl rfl 3 (by decide) (hw0 _ m_110) (fun _ h9 => h9) rfl dX9_reach_1 ?_
  refine va_get (D := G) (ci := 6) (v := .ref tw) (C := RX6) (T := TX6) (N := 8) hx hb hw0 inA_wsX60 hown hK.1 hP 1 rfl rfl 0 (by decide) (hw0 _ m_176) (fun _ h9 => h9) rfl dX9_reach_4 ?_
  refine lv_iload_n hx hb dX9_reach_7 rfl (lv_at hl 1 rfl) ?_
  refine cVi (As := [.int a1]) (rest := []) ⟨hx, hb, hml, hown, hw0⟩ hA hK hP hD hS [2] [0, 1] [(tw, .inr (7, [.int 0, tw_1, tw_2, tw_3, tw_4, tw_5, tw_6, tw_7, tw_8, tw_9, tw_10, tw_11]))] [(ob, .inr (9, [.ref tp, .int 0, .ref rd, .ref sa, .ref im, .ref sl, .ref ro, .ref wy, .ref od, .ref ok])), (sa, .inr (6, [.ref tw, .ref co, .ref de, .ref dd, .ref kn, .int 0, .int 0, .ref fo]))] rfl rfl (by decide) (by decide) (by decide) (kX7_has l G y _ tw a1 (tw_1) (tw_2) (tw_3) (tw_4) (tw_5) (tw_6) (tw_7) (tw_8) (tw_9) (tw_10) (tw_11) ) ⟨(callB_of 1 hw0 (gA m_171) rfl rfl rfl (hw0 _ m_70) (hw0 _ m_181) (by decide +kernel) ⟨Nat.le_of_ble_eq_true rfl, Nat.le_of_ble_eq_true rfl⟩), (hw0 _ m_173), (hw0 _ m_174)⟩ (ci := 7) (q := (RX7, TX7, 12)) rfl rfl rfl hl.1 (Nat.le_of_ble_eq_true rfl) dX9_reach_8 ⟨Nat.le_of_ble_eq_true rfl, Nat.le_of_ble_eq_true rfl⟩ (fun r_1 w_1 H locs hw_1 hP hD hS => ?_)
  obtain ⟨rfl, rfl⟩ := hw_1
  have hP : va_P G vwCl [(ob, .inr (9, [.ref tp, .int 0, .ref rd, .ref sa, .ref im, .ref sl, .ref ro, .ref wy, .ref od, .ref ok])), (sa, .inr (6, [.ref tw, .ref co, .ref de, .ref dd, .ref kn, .int 0, .int 0, .ref fo])), (tw, .inr (7, [.int 0, tw_1, tw_2, tw_3, tw_4, tw_5, tw_6, tw_7, tw_8, tw_9, tw_10, tw_11]))] H := hP
  have hD : va_D A [(ob, .inr (9, [.ref tp, .int 0, .ref rd, .ref sa, .ref im, .ref sl, .ref ro, .ref wy, .ref od, .ref ok])), (sa, .inr (6, [.ref tw, .ref co, .ref de, .ref dd, .ref kn, .int 0, .int 0, .ref fo])), (tw, .inr (7, [.int 0, tw_1, tw_2, tw_3, tw_4, tw_5, tw_6, tw_7, tw_8, tw_9, tw_10, tw_11]))] := hD
  refine lv_if_eq (tgt := 26) hx hb dX9_reach_11 (by decide) (fun _ => ?_) (fun c9 => absurd (by decide) c9)
  refine lv_bipush (v := (-2)) hx hb dX9_reach_26 (by decide) ?_
  refine W.widen (k := 0) (n := 0) (Nat.le_of_ble_eq_true rfl) (Nat.le_of_ble_eq_true rfl) ?_
  exact W.iret (v := (-2)) hx hb hr (fun t ht hW => ⟨⟨(-2), _, rfl, rfl, by rw [ht]; exact hP, hD⟩, hS.F ht⟩) hS.2.2 dX9_reach_28

set_option maxHeartbeats 4000000 in
set_option maxRecDepth 100000 in
theorem kX9_drop (l : Launch) (G : va_G) (y : Nat → ClassId) (sz : Nat) (ob : Nat) (a1 : Int32) (tp : Nat) (rd : Nat) (sa : Nat) (im : Nat) (sl : Nat) (ro : Nat) (wy : Nat) (od : Nat) (ok : Nat) (tw : Nat) (co : Nat) (de : Nat) (dd : Nat) (kn : Nat) (fo : Nat) (tw_1 : Value) (tw_2 : Value) (tw_3 : Value) (tw_4 : Value) (tw_5 : Value) (tw_6 : Value) (tw_7 : Value) (tw_8 : Value) (tw_9 : Value) (tw_10 : Value) (tw_11 : Value)  : Met l yX9_drop (Cond.code yX9_drop cX9_drop 5 (some .int) :: wAll) ({ frames := 1, cells := 0, slots := 0, locals := 21 }) (va_Pc [.ref ob, .int a1] (kp G y sz [(ob, .inr (9, [.ref tp, .int 0, .ref rd, .ref sa, .ref im, .ref sl, .ref ro, .ref wy, .ref od, .ref ok])), (sa, .inr (6, [.ref tw, .ref co, .ref de, .ref dd, .ref kn, .int 0, .int 0, .ref fo])), (tw, .inr (7, [.int 0, tw_1, tw_2, tw_3, tw_4, tw_5, tw_6, tw_7, tw_8, tw_9, tw_10, tw_11]))])) (va_Qi (fun (r : Int32) (_ : va_W) => r = -2) (kq G (va_A [(ob, .inr (9, [.ref tp, .int 0, .ref rd, .ref sa, .ref im, .ref sl, .ref ro, .ref wy, .ref od, .ref ok])), (sa, .inr (6, [.ref tw, .ref co, .ref de, .ref dd, .ref kn, .int 0, .int 0, .ref fo])), (tw, .inr (7, [.int 0, tw_1, tw_2, tw_3, tw_4, tw_5, tw_6, tw_7, tw_8, tw_9, tw_10, tw_11]))] sz)) (va_A [(ob, .inr (9, [.ref tp, .int 0, .ref rd, .ref sa, .ref im, .ref sl, .ref ro, .ref wy, .ref od, .ref ok])), (sa, .inr (6, [.ref tw, .ref co, .ref de, .ref dd, .ref kn, .int 0, .int 0, .ref fo])), (tw, .inr (7, [.int 0, tw_1, tw_2, tw_3, tw_4, tw_5, tw_6, tw_7, tw_8, tw_9, tw_10, tw_11]))] sz)) 0 0 (va_A [(ob, .inr (9, [.ref tp, .int 0, .ref rd, .ref sa, .ref im, .ref sl, .ref ro, .ref wy, .ref od, .ref ok])), (sa, .inr (6, [.ref tw, .ref co, .ref de, .ref dd, .ref kn, .int 0, .int 0, .ref fo])), (tw, .inr (7, [.int 0, tw_1, tw_2, tw_3, tw_4, tw_5, tw_6, tw_7, tw_8, tw_9, tw_10, tw_11]))] sz) := by
  refine Met.ofW (cc := cX9_drop) (maxL := 5) (ret := (some .int)) (by decide) rfl ?_
  intro p e s m args below meth c s₁ B hml hv
  obtain ⟨rfl, hsz, hP, hK, hD0⟩ := hv
  have hx := B.exec
  have hb := B.bytes
  have hr := B.returns
  have hw0 : ∀ w ∈ wAll, w.before _ s = true := fun w h => atoms_spec (ws := Cond.code yX9_drop cX9_drop 5 (some .int) :: wAll) B.pre w (List.mem_cons_of_mem _ h)
  have hown : s.vm.findClass RX9 = some m.cls := findClass_of_methodNamed B.named
  have hlocks := B.notSynchronized
  subst hsz
  have hD := hD0.self (sz := s.heap.size)
  generalize hAe : va_A [(ob, .inr (9, [.ref tp, .int 0, .ref rd, .ref sa, .ref im, .ref sl, .ref ro, .ref wy, .ref od, .ref ok])), (sa, .inr (6, [.ref tw, .ref co, .ref de, .ref dd, .ref kn, .int 0, .int 0, .ref fo])), (tw, .inr (7, [.int 0, tw_1, tw_2, tw_3, tw_4, tw_5, tw_6, tw_7, tw_8, tw_9, tw_10, tw_11]))] s.heap.size = A at hD ⊢
  have hA : ∀ q : Nat, s.heap.size ≤ q → A q := fun q h => by rw [← hAe]; exact Or.inr h
  have hS : va_S A s.heap s.heap [] := va_S.rf
  have hP : va_P G vwCl [(ob, .inr (9, [.ref tp, .int 0, .ref rd, .ref sa, .ref im, .ref sl, .ref ro, .ref wy, .ref od, .ref ok])), (sa, .inr (6, [.ref tw, .ref co, .ref de, .ref dd, .ref kn, .int 0, .int 0, .ref fo])), (tw, .inr (7, [.int 0, tw_1, tw_2, tw_3, tw_4, tw_5, tw_6, tw_7, tw_8, tw_9, tw_10, tw_11]))] s.heap := hP
  have hl := lv_entry ([.ref ob, .int a1]) (n := 5) (Nat.le_of_ble_eq_true rfl)
  rw [lg_entry_eq]
  generalize (lg_sl ([.ref ob, .int a1]) ++ List.replicate (5 - (lg_sl ([.ref ob, .int a1])).length) Slot.unset).toArray = ls at hl ⊢
  have hl : lv_has ls 5 [(0, .ref ob), (1, .int a1)] := hl
  refine lv_aload_n hx hb dX9_drop_0 rfl (lv_at hl 0 rfl) ?_
  refine va_get (D := G) (ci := 9) (v := .ref sa) (C := RX9) (T := TX9) (N := 10) hx hb hw0 inA_wsX90 hown hK.1 hP 0 rfl rfl 3 (by decide) (hw0 _ m_110) (fun _ h9 => h9) rfl dX9_drop_1 ?_
  refine va_get (D := G) (ci := 6) (v := .ref tw) (C := RX6) (T := TX6) (N := 8) hx hb hw0 inA_wsX60 hown hK.1 hP 1 rfl rfl 0 (by decide) (hw0 _ m_176) (fun _ h9 => h9) rfl dX9_drop_4 ?_
  refine lv_iload_n hx hb dX9_drop_7 rfl (lv_at hl 1 rfl) ?_
  refine cVi (As := [.int a1]) (rest := []) ⟨hx, hb, hml, hown, hw0⟩ hA hK hP hD hS [2] [0, 1] [(tw, .inr (7, [.int 0, tw_1, tw_2, tw_3, tw_4, tw_5, tw_6, tw_7, tw_8, tw_9, tw_10, tw_11]))] [(ob, .inr (9, [.ref tp, .int 0, .ref rd, .ref sa, .ref im, .ref sl, .ref ro, .ref wy, .ref od, .ref ok])), (sa, .inr (6, [.ref tw, .ref co, .ref de, .ref dd, .ref kn, .int 0, .int 0, .ref fo]))] rfl rfl (by decide) (by decide) (by decide) (kX7_has l G y _ tw a1 (tw_1) (tw_2) (tw_3) (tw_4) (tw_5) (tw_6) (tw_7) (tw_8) (tw_9) (tw_10) (tw_11) ) ⟨(callB_of 1 hw0 (gA m_171) rfl rfl rfl (hw0 _ m_70) (hw0 _ m_181) (by decide +kernel) ⟨Nat.le_of_ble_eq_true rfl, Nat.le_of_ble_eq_true rfl⟩), (hw0 _ m_173), (hw0 _ m_174)⟩ (ci := 7) (q := (RX7, TX7, 12)) rfl rfl rfl hl.1 (Nat.le_of_ble_eq_true rfl) dX9_drop_8 ⟨Nat.le_of_ble_eq_true rfl, Nat.le_of_ble_eq_true rfl⟩ (fun r_1 w_1 H locs hw_1 hP hD hS => ?_)
  obtain ⟨rfl, rfl⟩ := hw_1
  have hP : va_P G vwCl [(ob, .inr (9, [.ref tp, .int 0, .ref rd, .ref sa, .ref im, .ref sl, .ref ro, .ref wy, .ref od, .ref ok])), (sa, .inr (6, [.ref tw, .ref co, .ref de, .ref dd, .ref kn, .int 0, .int 0, .ref fo])), (tw, .inr (7, [.int 0, tw_1, tw_2, tw_3, tw_4, tw_5, tw_6, tw_7, tw_8, tw_9, tw_10, tw_11]))] H := hP
  have hD : va_D A [(ob, .inr (9, [.ref tp, .int 0, .ref rd, .ref sa, .ref im, .ref sl, .ref ro, .ref wy, .ref od, .ref ok])), (sa, .inr (6, [.ref tw, .ref co, .ref de, .ref dd, .ref kn, .int 0, .int 0, .ref fo])), (tw, .inr (7, [.int 0, tw_1, tw_2, tw_3, tw_4, tw_5, tw_6, tw_7, tw_8, tw_9, tw_10, tw_11]))] := hD
  refine lv_if_ne (tgt := 17) hx hb dX9_drop_11 (by decide) (fun c9 => absurd (by decide) c9) (fun _ => ?_)
  refine lv_bipush (v := (-2)) hx hb dX9_drop_14 (by decide) ?_
  refine W.widen (k := 0) (n := 0) (Nat.le_of_ble_eq_true rfl) (Nat.le_of_ble_eq_true rfl) ?_
  exact W.iret (v := (-2)) hx hb hr (fun t ht hW => ⟨⟨(-2), _, rfl, rfl, by rw [ht]; exact hP, hD⟩, hS.F ht⟩) hS.2.2 dX9_drop_16

set_option maxHeartbeats 4000000 in
set_option maxRecDepth 100000 in
theorem kX9_tie (l : Launch) (G : va_G) (y : Nat → ClassId) (sz : Nat) (ob : Nat) (a1 : Int32) (a2 : Int32) (tp : Nat) (rd : Nat) (sa : Nat) (im : Nat) (sl : Nat) (ro : Nat) (wy : Nat) (od : Nat) (ok : Nat) (tw : Nat) (co : Nat) (de : Nat) (dd : Nat) (kn : Nat) (fo : Nat) (tw_1 : Value) (tw_2 : Value) (tw_3 : Value) (tw_4 : Value) (tw_5 : Value) (tw_6 : Value) (tw_7 : Value) (tw_8 : Value) (tw_9 : Value) (tw_10 : Value) (tw_11 : Value)  : Met l yX9_tie (Cond.code yX9_tie cX9_tie 3 (some .int) :: wAll) ({ frames := 2, cells := 0, slots := 0, locals := 43 }) (va_Pc [.ref ob, .int a1, .int a2] (kp G y sz [(ob, .inr (9, [.ref tp, .int 0, .ref rd, .ref sa, .ref im, .ref sl, .ref ro, .ref wy, .ref od, .ref ok])), (sa, .inr (6, [.ref tw, .ref co, .ref de, .ref dd, .ref kn, .int 0, .int 0, .ref fo])), (tw, .inr (7, [.int 0, tw_1, tw_2, tw_3, tw_4, tw_5, tw_6, tw_7, tw_8, tw_9, tw_10, tw_11]))])) (va_Qi (fun (r : Int32) (_ : va_W) => r = -2) (kq G (va_A [(ob, .inr (9, [.ref tp, .int 0, .ref rd, .ref sa, .ref im, .ref sl, .ref ro, .ref wy, .ref od, .ref ok])), (sa, .inr (6, [.ref tw, .ref co, .ref de, .ref dd, .ref kn, .int 0, .int 0, .ref fo])), (tw, .inr (7, [.int 0, tw_1, tw_2, tw_3, tw_4, tw_5, tw_6, tw_7, tw_8, tw_9, tw_10, tw_11]))] sz)) (va_A [(ob, .inr (9, [.ref tp, .int 0, .ref rd, .ref sa, .ref im, .ref sl, .ref ro, .ref wy, .ref od, .ref ok])), (sa, .inr (6, [.ref tw, .ref co, .ref de, .ref dd, .ref kn, .int 0, .int 0, .ref fo])), (tw, .inr (7, [.int 0, tw_1, tw_2, tw_3, tw_4, tw_5, tw_6, tw_7, tw_8, tw_9, tw_10, tw_11]))] sz)) 0 0 (va_A [(ob, .inr (9, [.ref tp, .int 0, .ref rd, .ref sa, .ref im, .ref sl, .ref ro, .ref wy, .ref od, .ref ok])), (sa, .inr (6, [.ref tw, .ref co, .ref de, .ref dd, .ref kn, .int 0, .int 0, .ref fo])), (tw, .inr (7, [.int 0, tw_1, tw_2, tw_3, tw_4, tw_5, tw_6, tw_7, tw_8, tw_9, tw_10, tw_11]))] sz) := by
  refine Met.ofW (cc := cX9_tie) (maxL := 3) (ret := (some .int)) (by decide) rfl ?_
  intro p e s m args below meth c s₁ B hml hv
  obtain ⟨rfl, hsz, hP, hK, hD0⟩ := hv
  have hx := B.exec
  have hb := B.bytes
  have hr := B.returns
  have hw0 : ∀ w ∈ wAll, w.before _ s = true := fun w h => atoms_spec (ws := Cond.code yX9_tie cX9_tie 3 (some .int) :: wAll) B.pre w (List.mem_cons_of_mem _ h)
  have hown : s.vm.findClass RX9 = some m.cls := findClass_of_methodNamed B.named
  have hlocks := B.notSynchronized
  subst hsz
  have hD := hD0.self (sz := s.heap.size)
  generalize hAe : va_A [(ob, .inr (9, [.ref tp, .int 0, .ref rd, .ref sa, .ref im, .ref sl, .ref ro, .ref wy, .ref od, .ref ok])), (sa, .inr (6, [.ref tw, .ref co, .ref de, .ref dd, .ref kn, .int 0, .int 0, .ref fo])), (tw, .inr (7, [.int 0, tw_1, tw_2, tw_3, tw_4, tw_5, tw_6, tw_7, tw_8, tw_9, tw_10, tw_11]))] s.heap.size = A at hD ⊢
  have hA : ∀ q : Nat, s.heap.size ≤ q → A q := fun q h => by rw [← hAe]; exact Or.inr h
  have hS : va_S A s.heap s.heap [] := va_S.rf
  have hP : va_P G vwCl [(ob, .inr (9, [.ref tp, .int 0, .ref rd, .ref sa, .ref im, .ref sl, .ref ro, .ref wy, .ref od, .ref ok])), (sa, .inr (6, [.ref tw, .ref co, .ref de, .ref dd, .ref kn, .int 0, .int 0, .ref fo])), (tw, .inr (7, [.int 0, tw_1, tw_2, tw_3, tw_4, tw_5, tw_6, tw_7, tw_8, tw_9, tw_10, tw_11]))] s.heap := hP
  have hl := lv_entry ([.ref ob, .int a1, .int a2]) (n := 3) (Nat.le_of_ble_eq_true rfl)
  rw [lg_entry_eq]
  generalize (lg_sl ([.ref ob, .int a1, .int a2]) ++ List.replicate (3 - (lg_sl ([.ref ob, .int a1, .int a2])).length) Slot.unset).toArray = ls at hl ⊢
  have hl : lv_has ls 3 [(0, .ref ob), (1, .int a1), (2, .int a2)] := hl
  refine lv_aload_n hx hb dX9_tie_0 rfl (lv_at hl 0 rfl) ?_
  refine va_get (D := G) (ci := 9) (v := .ref sa) (C := RX9) (T := TX9) (N := 10) hx hb hw0 inA_wsX90 hown hK.1 hP 0 rfl rfl 3 (by decide) (hw0 _ m_110) (fun _ h9 => h9) rfl dX9_tie_1 ?_
  refine va_get (D := G) (ci := 6) (v := .ref tw) (C := RX6) (T := TX6) (N := 8) hx hb hw0 inA_wsX60 hown hK.1 hP 1 rfl rfl 0 (by decide) (hw0 _ m_176) (fun _ h9 => h9) rfl dX9_tie_4 ?_
  refine lv_iload_n hx hb dX9_tie_7 rfl (lv_at hl 1 rfl) ?_
  refine lv_iload_n hx hb dX9_tie_8 rfl (lv_at hl 2 rfl) ?_
  refine cVi (As := [.int a1, .int a2]) (rest := []) ⟨hx, hb, hml, hown, hw0⟩ hA hK hP hD hS [2] [0, 1] [(tw, .inr (7, [.int 0, tw_1, tw_2, tw_3, tw_4, tw_5, tw_6, tw_7, tw_8, tw_9, tw_10, tw_11]))] [(ob, .inr (9, [.ref tp, .int 0, .ref rd, .ref sa, .ref im, .ref sl, .ref ro, .ref wy, .ref od, .ref ok])), (sa, .inr (6, [.ref tw, .ref co, .ref de, .ref dd, .ref kn, .int 0, .int 0, .ref fo]))] rfl rfl (by decide) (by decide) (by decide) (kX7_hasPair l G y _ tw a1 a2 (tw_1) (tw_2) (tw_3) (tw_4) (tw_5) (tw_6) (tw_7) (tw_8) (tw_9) (tw_10) (tw_11) ) ⟨(callB_of 2 hw0 (gA m_175) rfl rfl rfl (hw0 _ m_70) (hw0 _ m_177) (by decide +kernel) ⟨Nat.le_of_ble_eq_true rfl, Nat.le_of_ble_eq_true rfl⟩), (hw0 _ m_178), (hw0 _ m_179)⟩ (ci := 7) (q := (RX7, TX7, 12)) rfl rfl rfl hl.1 (Nat.le_of_ble_eq_true rfl) dX9_tie_9 ⟨Nat.le_of_ble_eq_true rfl, Nat.le_of_ble_eq_true rfl⟩ (fun r_1 w_1 H locs hw_1 hP hD hS => ?_)
  obtain ⟨rfl, rfl⟩ := hw_1
  have hP : va_P G vwCl [(ob, .inr (9, [.ref tp, .int 0, .ref rd, .ref sa, .ref im, .ref sl, .ref ro, .ref wy, .ref od, .ref ok])), (sa, .inr (6, [.ref tw, .ref co, .ref de, .ref dd, .ref kn, .int 0, .int 0, .ref fo])), (tw, .inr (7, [.int 0, tw_1, tw_2, tw_3, tw_4, tw_5, tw_6, tw_7, tw_8, tw_9, tw_10, tw_11]))] H := hP
  have hD : va_D A [(ob, .inr (9, [.ref tp, .int 0, .ref rd, .ref sa, .ref im, .ref sl, .ref ro, .ref wy, .ref od, .ref ok])), (sa, .inr (6, [.ref tw, .ref co, .ref de, .ref dd, .ref kn, .int 0, .int 0, .ref fo])), (tw, .inr (7, [.int 0, tw_1, tw_2, tw_3, tw_4, tw_5, tw_6, tw_7, tw_8, tw_9, tw_10, tw_11]))] := hD
  refine lv_if_ne (tgt := 18) hx hb dX9_tie_12 (by decide) (fun c9 => absurd (by decide) c9) (fun _ => ?_)
  refine lv_bipush (v := (-2)) hx hb dX9_tie_15 (by decide) ?_
  refine W.widen (k := 0) (n := 0) (Nat.le_of_ble_eq_true rfl) (Nat.le_of_ble_eq_true rfl) ?_
  exact W.iret (v := (-2)) hx hb hr (fun t ht hW => ⟨⟨(-2), _, rfl, rfl, by rw [ht]; exact hP, hD⟩, hS.F ht⟩) hS.2.2 dX9_tie_17

set_option maxHeartbeats 4000000 in
set_option maxRecDepth 100000 in
theorem kX9_ring (l : Launch) (G : va_G) (y : Nat → ClassId) (sz : Nat) (ob : Nat) (a1 : Int32) (tp : Nat) (rd : Nat) (sa : Nat) (im : Nat) (sl : Nat) (ro : Nat) (wy : Nat) (od : Nat) (ok : Nat) (tw : Nat) (co : Nat) (de : Nat) (dd : Nat) (kn : Nat) (fo : Nat) (tw_1 : Value) (tw_2 : Value) (tw_3 : Value) (tw_4 : Value) (tw_5 : Value) (tw_6 : Value) (tw_7 : Value) (tw_8 : Value) (tw_9 : Value) (tw_10 : Value) (tw_11 : Value)  : Met l yX9_ring (Cond.code yX9_ring cX9_ring 2 (some .int) :: wAll) ({ frames := 1, cells := 0, slots := 0, locals := 21 }) (va_Pc [.ref ob, .int a1] (kp G y sz [(ob, .inr (9, [.ref tp, .int 0, .ref rd, .ref sa, .ref im, .ref sl, .ref ro, .ref wy, .ref od, .ref ok])), (sa, .inr (6, [.ref tw, .ref co, .ref de, .ref dd, .ref kn, .int 0, .int 0, .ref fo])), (tw, .inr (7, [.int 0, tw_1, tw_2, tw_3, tw_4, tw_5, tw_6, tw_7, tw_8, tw_9, tw_10, tw_11]))])) (va_Qi (fun (r : Int32) (_ : va_W) => r = -2) (kq G (va_A [(ob, .inr (9, [.ref tp, .int 0, .ref rd, .ref sa, .ref im, .ref sl, .ref ro, .ref wy, .ref od, .ref ok])), (sa, .inr (6, [.ref tw, .ref co, .ref de, .ref dd, .ref kn, .int 0, .int 0, .ref fo])), (tw, .inr (7, [.int 0, tw_1, tw_2, tw_3, tw_4, tw_5, tw_6, tw_7, tw_8, tw_9, tw_10, tw_11]))] sz)) (va_A [(ob, .inr (9, [.ref tp, .int 0, .ref rd, .ref sa, .ref im, .ref sl, .ref ro, .ref wy, .ref od, .ref ok])), (sa, .inr (6, [.ref tw, .ref co, .ref de, .ref dd, .ref kn, .int 0, .int 0, .ref fo])), (tw, .inr (7, [.int 0, tw_1, tw_2, tw_3, tw_4, tw_5, tw_6, tw_7, tw_8, tw_9, tw_10, tw_11]))] sz)) 0 0 (va_A [(ob, .inr (9, [.ref tp, .int 0, .ref rd, .ref sa, .ref im, .ref sl, .ref ro, .ref wy, .ref od, .ref ok])), (sa, .inr (6, [.ref tw, .ref co, .ref de, .ref dd, .ref kn, .int 0, .int 0, .ref fo])), (tw, .inr (7, [.int 0, tw_1, tw_2, tw_3, tw_4, tw_5, tw_6, tw_7, tw_8, tw_9, tw_10, tw_11]))] sz) := by
  refine Met.ofW (cc := cX9_ring) (maxL := 2) (ret := (some .int)) (by decide) rfl ?_
  intro p e s m args below meth c s₁ B hml hv
  obtain ⟨rfl, hsz, hP, hK, hD0⟩ := hv
  have hx := B.exec
  have hb := B.bytes
  have hr := B.returns
  have hw0 : ∀ w ∈ wAll, w.before _ s = true := fun w h => atoms_spec (ws := Cond.code yX9_ring cX9_ring 2 (some .int) :: wAll) B.pre w (List.mem_cons_of_mem _ h)
  have hown : s.vm.findClass RX9 = some m.cls := findClass_of_methodNamed B.named
  have hlocks := B.notSynchronized
  subst hsz
  have hD := hD0.self (sz := s.heap.size)
  generalize hAe : va_A [(ob, .inr (9, [.ref tp, .int 0, .ref rd, .ref sa, .ref im, .ref sl, .ref ro, .ref wy, .ref od, .ref ok])), (sa, .inr (6, [.ref tw, .ref co, .ref de, .ref dd, .ref kn, .int 0, .int 0, .ref fo])), (tw, .inr (7, [.int 0, tw_1, tw_2, tw_3, tw_4, tw_5, tw_6, tw_7, tw_8, tw_9, tw_10, tw_11]))] s.heap.size = A at hD ⊢
  have hA : ∀ q : Nat, s.heap.size ≤ q → A q := fun q h => by rw [← hAe]; exact Or.inr h
  have hS : va_S A s.heap s.heap [] := va_S.rf
  have hP : va_P G vwCl [(ob, .inr (9, [.ref tp, .int 0, .ref rd, .ref sa, .ref im, .ref sl, .ref ro, .ref wy, .ref od, .ref ok])), (sa, .inr (6, [.ref tw, .ref co, .ref de, .ref dd, .ref kn, .int 0, .int 0, .ref fo])), (tw, .inr (7, [.int 0, tw_1, tw_2, tw_3, tw_4, tw_5, tw_6, tw_7, tw_8, tw_9, tw_10, tw_11]))] s.heap := hP
  have hl := lv_entry ([.ref ob, .int a1]) (n := 2) (Nat.le_of_ble_eq_true rfl)
  rw [lg_entry_eq]
  generalize (lg_sl ([.ref ob, .int a1]) ++ List.replicate (2 - (lg_sl ([.ref ob, .int a1])).length) Slot.unset).toArray = ls at hl ⊢
  have hl : lv_has ls 2 [(0, .ref ob), (1, .int a1)] := hl
  refine lv_aload_n hx hb dX9_ring_0 rfl (lv_at hl 0 rfl) ?_
  refine va_get (D := G) (ci := 9) (v := .ref sa) (C := RX9) (T := TX9) (N := 10) hx hb hw0 inA_wsX90 hown hK.1 hP 0 rfl rfl 3 (by decide) (hw0 _ m_110) (fun _ h9 => h9) rfl dX9_ring_1 ?_
  refine va_get (D := G) (ci := 6) (v := .ref tw) (C := RX6) (T := TX6) (N := 8) hx hb hw0 inA_wsX60 hown hK.1 hP 1 rfl rfl 0 (by decide) (hw0 _ m_176) (fun _ h9 => h9) rfl dX9_ring_4 ?_
  refine lv_iload_n hx hb dX9_ring_7 rfl (lv_at hl 1 rfl) ?_
  refine cVi (As := [.int a1]) (rest := []) ⟨hx, hb, hml, hown, hw0⟩ hA hK hP hD hS [2] [0, 1] [(tw, .inr (7, [.int 0, tw_1, tw_2, tw_3, tw_4, tw_5, tw_6, tw_7, tw_8, tw_9, tw_10, tw_11]))] [(ob, .inr (9, [.ref tp, .int 0, .ref rd, .ref sa, .ref im, .ref sl, .ref ro, .ref wy, .ref od, .ref ok])), (sa, .inr (6, [.ref tw, .ref co, .ref de, .ref dd, .ref kn, .int 0, .int 0, .ref fo]))] rfl rfl (by decide) (by decide) (by decide) (kX7_has l G y _ tw a1 (tw_1) (tw_2) (tw_3) (tw_4) (tw_5) (tw_6) (tw_7) (tw_8) (tw_9) (tw_10) (tw_11) ) ⟨(callB_of 1 hw0 (gA m_171) rfl rfl rfl (hw0 _ m_70) (hw0 _ m_181) (by decide +kernel) ⟨Nat.le_of_ble_eq_true rfl, Nat.le_of_ble_eq_true rfl⟩), (hw0 _ m_173), (hw0 _ m_174)⟩ (ci := 7) (q := (RX7, TX7, 12)) rfl rfl rfl hl.1 (Nat.le_of_ble_eq_true rfl) dX9_ring_8 ⟨Nat.le_of_ble_eq_true rfl, Nat.le_of_ble_eq_true rfl⟩ (fun r_1 w_1 H locs hw_1 hP hD hS => ?_)
  obtain ⟨rfl, rfl⟩ := hw_1
  have hP : va_P G vwCl [(ob, .inr (9, [.ref tp, .int 0, .ref rd, .ref sa, .ref im, .ref sl, .ref ro, .ref wy, .ref od, .ref ok])), (sa, .inr (6, [.ref tw, .ref co, .ref de, .ref dd, .ref kn, .int 0, .int 0, .ref fo])), (tw, .inr (7, [.int 0, tw_1, tw_2, tw_3, tw_4, tw_5, tw_6, tw_7, tw_8, tw_9, tw_10, tw_11]))] H := hP
  have hD : va_D A [(ob, .inr (9, [.ref tp, .int 0, .ref rd, .ref sa, .ref im, .ref sl, .ref ro, .ref wy, .ref od, .ref ok])), (sa, .inr (6, [.ref tw, .ref co, .ref de, .ref dd, .ref kn, .int 0, .int 0, .ref fo])), (tw, .inr (7, [.int 0, tw_1, tw_2, tw_3, tw_4, tw_5, tw_6, tw_7, tw_8, tw_9, tw_10, tw_11]))] := hD
  refine lv_if_ne (tgt := 17) hx hb dX9_ring_11 (by decide) (fun c9 => absurd (by decide) c9) (fun _ => ?_)
  refine lv_bipush (v := (-2)) hx hb dX9_ring_14 (by decide) ?_
  refine W.widen (k := 0) (n := 0) (Nat.le_of_ble_eq_true rfl) (Nat.le_of_ble_eq_true rfl) ?_
  exact W.iret (v := (-2)) hx hb hr (fun t ht hW => ⟨⟨(-2), _, rfl, rfl, by rw [ht]; exact hP, hD⟩, hS.F ht⟩) hS.2.2 dX9_ring_16

set_option maxHeartbeats 4000000 in
set_option maxRecDepth 100000 in
theorem kX9_debt (l : Launch) (G : va_G) (y : Nat → ClassId) (sz : Nat) (ob : Nat) (a1 : Int32) (a2 : Int32) (a3 : Int32) (tp : Nat) (rd : Nat) (sa : Nat) (im : Nat) (sl : Nat) (ro : Nat) (wy : Nat) (od : Nat) (ok : Nat) (tw : Nat) (co : Nat) (de : Nat) (dd : Nat) (kn : Nat) (fo : Nat) (tw_1 : Value) (tw_2 : Value) (tw_3 : Value) (tw_4 : Value) (tw_5 : Value) (tw_6 : Value) (tw_7 : Value) (tw_8 : Value) (tw_9 : Value) (tw_10 : Value) (tw_11 : Value)  : Met l yX9_debt (Cond.code yX9_debt cX9_debt 5 (some .int) :: wAll) ({ frames := 1, cells := 0, slots := 0, locals := 21 }) (va_Pc [.ref ob, .int a1, .int a2, .int a3] (kp G y sz [(ob, .inr (9, [.ref tp, .int 0, .ref rd, .ref sa, .ref im, .ref sl, .ref ro, .ref wy, .ref od, .ref ok])), (sa, .inr (6, [.ref tw, .ref co, .ref de, .ref dd, .ref kn, .int 0, .int 0, .ref fo])), (tw, .inr (7, [.int 0, tw_1, tw_2, tw_3, tw_4, tw_5, tw_6, tw_7, tw_8, tw_9, tw_10, tw_11]))])) (va_Qi (fun (r : Int32) (_ : va_W) => r = -1) (kq G (va_A [(ob, .inr (9, [.ref tp, .int 0, .ref rd, .ref sa, .ref im, .ref sl, .ref ro, .ref wy, .ref od, .ref ok])), (sa, .inr (6, [.ref tw, .ref co, .ref de, .ref dd, .ref kn, .int 0, .int 0, .ref fo])), (tw, .inr (7, [.int 0, tw_1, tw_2, tw_3, tw_4, tw_5, tw_6, tw_7, tw_8, tw_9, tw_10, tw_11]))] sz)) (va_A [(ob, .inr (9, [.ref tp, .int 0, .ref rd, .ref sa, .ref im, .ref sl, .ref ro, .ref wy, .ref od, .ref ok])), (sa, .inr (6, [.ref tw, .ref co, .ref de, .ref dd, .ref kn, .int 0, .int 0, .ref fo])), (tw, .inr (7, [.int 0, tw_1, tw_2, tw_3, tw_4, tw_5, tw_6, tw_7, tw_8, tw_9, tw_10, tw_11]))] sz)) 0 0 (va_A [(ob, .inr (9, [.ref tp, .int 0, .ref rd, .ref sa, .ref im, .ref sl, .ref ro, .ref wy, .ref od, .ref ok])), (sa, .inr (6, [.ref tw, .ref co, .ref de, .ref dd, .ref kn, .int 0, .int 0, .ref fo])), (tw, .inr (7, [.int 0, tw_1, tw_2, tw_3, tw_4, tw_5, tw_6, tw_7, tw_8, tw_9, tw_10, tw_11]))] sz) := by
  refine Met.ofW (cc := cX9_debt) (maxL := 5) (ret := (some .int)) (by decide) rfl ?_
  intro p e s m args below meth c s₁ B hml hv
  obtain ⟨rfl, hsz, hP, hK, hD0⟩ := hv
  have hx := B.exec
  have hb := B.bytes
  have hr := B.returns
  have hw0 : ∀ w ∈ wAll, w.before _ s = true := fun w h => atoms_spec (ws := Cond.code yX9_debt cX9_debt 5 (some .int) :: wAll) B.pre w (List.mem_cons_of_mem _ h)
  have hown : s.vm.findClass RX9 = some m.cls := findClass_of_methodNamed B.named
  have hlocks := B.notSynchronized
  subst hsz
  have hD := hD0.self (sz := s.heap.size)
  generalize hAe : va_A [(ob, .inr (9, [.ref tp, .int 0, .ref rd, .ref sa, .ref im, .ref sl, .ref ro, .ref wy, .ref od, .ref ok])), (sa, .inr (6, [.ref tw, .ref co, .ref de, .ref dd, .ref kn, .int 0, .int 0, .ref fo])), (tw, .inr (7, [.int 0, tw_1, tw_2, tw_3, tw_4, tw_5, tw_6, tw_7, tw_8, tw_9, tw_10, tw_11]))] s.heap.size = A at hD ⊢
  have hA : ∀ q : Nat, s.heap.size ≤ q → A q := fun q h => by rw [← hAe]; exact Or.inr h
  have hS : va_S A s.heap s.heap [] := va_S.rf
  have hP : va_P G vwCl [(ob, .inr (9, [.ref tp, .int 0, .ref rd, .ref sa, .ref im, .ref sl, .ref ro, .ref wy, .ref od, .ref ok])), (sa, .inr (6, [.ref tw, .ref co, .ref de, .ref dd, .ref kn, .int 0, .int 0, .ref fo])), (tw, .inr (7, [.int 0, tw_1, tw_2, tw_3, tw_4, tw_5, tw_6, tw_7, tw_8, tw_9, tw_10, tw_11]))] s.heap := hP
  have hl := lv_entry ([.ref ob, .int a1, .int a2, .int a3]) (n := 5) (Nat.le_of_ble_eq_true rfl)
  rw [lg_entry_eq]
  generalize (lg_sl ([.ref ob, .int a1, .int a2, .int a3]) ++ List.replicate (5 - (lg_sl ([.ref ob, .int a1, .int a2, .int a3])).length) Slot.unset).toArray = ls at hl ⊢
  have hl : lv_has ls 5 [(0, .ref ob), (1, .int a1), (2, .int a2), (3, .int a3)] := hl
  refine lv_aload_n hx hb dX9_debt_0 rfl (lv_at hl 0 rfl) ?_
  refine va_get (D := G) (ci := 9) (v := .ref sa) (C := RX9) (T := TX9) (N := 10) hx hb hw0 inA_wsX90 hown hK.1 hP 0 rfl rfl 3 (by decide) (hw0 _ m_110) (fun _ h9 => h9) rfl dX9_debt_1 ?_
  refine va_get (D := G) (ci := 6) (v := .ref tw) (C := RX6) (T := TX6) (N := 8) hx hb hw0 inA_wsX60 hown hK.1 hP 1 rfl rfl 0 (by decide) (hw0 _ m_176) (fun _ h9 => h9) rfl dX9_debt_4 ?_
  refine lv_iload_n hx hb dX9_debt_7 rfl (lv_at hl 1 rfl) ?_
  refine cVi (As := [.int a1]) (rest := []) ⟨hx, hb, hml, hown, hw0⟩ hA hK hP hD hS [2] [0, 1] [(tw, .inr (7, [.int 0, tw_1, tw_2, tw_3, tw_4, tw_5, tw_6, tw_7, tw_8, tw_9, tw_10, tw_11]))] [(ob, .inr (9, [.ref tp, .int 0, .ref rd, .ref sa, .ref im, .ref sl, .ref ro, .ref wy, .ref od, .ref ok])), (sa, .inr (6, [.ref tw, .ref co, .ref de, .ref dd, .ref kn, .int 0, .int 0, .ref fo]))] rfl rfl (by decide) (by decide) (by decide) (kX7_has l G y _ tw a1 (tw_1) (tw_2) (tw_3) (tw_4) (tw_5) (tw_6) (tw_7) (tw_8) (tw_9) (tw_10) (tw_11) ) ⟨(callB_of 1 hw0 (gA m_171) rfl rfl rfl (hw0 _ m_70) (hw0 _ m_181) (by decide +kernel) ⟨Nat.le_of_ble_eq_true rfl, Nat.le_of_ble_eq_true rfl⟩), (hw0 _ m_173), (hw0 _ m_174)⟩ (ci := 7) (q := (RX7, TX7, 12)) rfl rfl rfl hl.1 (Nat.le_of_ble_eq_true rfl) dX9_debt_8 ⟨Nat.le_of_ble_eq_true rfl, Nat.le_of_ble_eq_true rfl⟩ (fun r_1 w_1 H locs hw_1 hP hD hS => ?_)
  obtain ⟨rfl, rfl⟩ := hw_1
  have hP : va_P G vwCl [(ob, .inr (9, [.ref tp, .int 0, .ref rd, .ref sa, .ref im, .ref sl, .ref ro, .ref wy, .ref od, .ref ok])), (sa, .inr (6, [.ref tw, .ref co, .ref de, .ref dd, .ref kn, .int 0, .int 0, .ref fo])), (tw, .inr (7, [.int 0, tw_1, tw_2, tw_3, tw_4, tw_5, tw_6, tw_7, tw_8, tw_9, tw_10, tw_11]))] H := hP
  have hD : va_D A [(ob, .inr (9, [.ref tp, .int 0, .ref rd, .ref sa, .ref im, .ref sl, .ref ro, .ref wy, .ref od, .ref ok])), (sa, .inr (6, [.ref tw, .ref co, .ref de, .ref dd, .ref kn, .int 0, .int 0, .ref fo])), (tw, .inr (7, [.int 0, tw_1, tw_2, tw_3, tw_4, tw_5, tw_6, tw_7, tw_8, tw_9, tw_10, tw_11]))] := hD
  refine lv_if_ne (tgt := 16) hx hb dX9_debt_11 (by decide) (fun c9 => absurd (by decide) c9) (fun _ => ?_)
  refine lv_iconst (v := (-1)) hx hb dX9_debt_14 (by decide) ?_
  refine W.widen (k := 0) (n := 0) (Nat.le_of_ble_eq_true rfl) (Nat.le_of_ble_eq_true rfl) ?_
  exact W.iret (v := (-1)) hx hb hr (fun t ht hW => ⟨⟨(-1), _, rfl, rfl, by rw [ht]; exact hP, hD⟩, hS.F ht⟩) hS.2.2 dX9_debt_15

set_option maxHeartbeats 4000000 in
set_option maxRecDepth 100000 in
theorem kX9_first (l : Launch) (G : va_G) (y : Nat → ClassId) (sz : Nat) (ob : Nat) (tp : Nat) (rd : Nat) (sa : Nat) (im : Nat) (sl : Nat) (ro : Nat) (wy : Nat) (od : Nat) (ok : Nat) (tw : Nat) (co : Nat) (de : Nat) (dd : Nat) (kn : Nat) (fo : Nat) (tw_1 : Value) (tw_2 : Value) (tw_3 : Value) (tw_4 : Value) (tw_5 : Value) (tw_6 : Value) (tw_7 : Value) (tw_8 : Value) (tw_9 : Value) (tw_10 : Value) (tw_11 : Value)  : Met l yX9_first (Cond.code yX9_first cX9_first 6 (some .int) :: wAll) ({ frames := 0, cells := 0, slots := 0, locals := 0 }) (va_Pc [.ref ob] (kp G y sz [(ob, .inr (9, [.ref tp, .int 0, .ref rd, .ref sa, .ref im, .ref sl, .ref ro, .ref wy, .ref od, .ref ok])), (sa, .inr (6, [.ref tw, .ref co, .ref de, .ref dd, .ref kn, .int 0, .int 0, .ref fo])), (tw, .inr (7, [.int 0, tw_1, tw_2, tw_3, tw_4, tw_5, tw_6, tw_7, tw_8, tw_9, tw_10, tw_11]))])) (va_Qi (fun (r : Int32) (_ : va_W) => r = -1) (kq G (va_A [(ob, .inr (9, [.ref tp, .int 0, .ref rd, .ref sa, .ref im, .ref sl, .ref ro, .ref wy, .ref od, .ref ok])), (sa, .inr (6, [.ref tw, .ref co, .ref de, .ref dd, .ref kn, .int 0, .int 0, .ref fo])), (tw, .inr (7, [.int 0, tw_1, tw_2, tw_3, tw_4, tw_5, tw_6, tw_7, tw_8, tw_9, tw_10, tw_11]))] sz)) (va_A [(ob, .inr (9, [.ref tp, .int 0, .ref rd, .ref sa, .ref im, .ref sl, .ref ro, .ref wy, .ref od, .ref ok])), (sa, .inr (6, [.ref tw, .ref co, .ref de, .ref dd, .ref kn, .int 0, .int 0, .ref fo])), (tw, .inr (7, [.int 0, tw_1, tw_2, tw_3, tw_4, tw_5, tw_6, tw_7, tw_8, tw_9, tw_10, tw_11]))] sz)) 0 0 (va_A [(ob, .inr (9, [.ref tp, .int 0, .ref rd, .ref sa, .ref im, .ref sl, .ref ro, .ref wy, .ref od, .ref ok])), (sa, .inr (6, [.ref tw, .ref co, .ref de, .ref dd, .ref kn, .int 0, .int 0, .ref fo])), (tw, .inr (7, [.int 0, tw_1, tw_2, tw_3, tw_4, tw_5, tw_6, tw_7, tw_8, tw_9, tw_10, tw_11]))] sz) := by
  refine Met.ofW (cc := cX9_first) (maxL := 6) (ret := (some .int)) (by decide) rfl ?_
  intro p e s m args below meth c s₁ B hml hv
  obtain ⟨rfl, hsz, hP, hK, hD0⟩ := hv
  have hx := B.exec
  have hb := B.bytes
  have hr := B.returns
  have hw0 : ∀ w ∈ wAll, w.before _ s = true := fun w h => atoms_spec (ws := Cond.code yX9_first cX9_first 6 (some .int) :: wAll) B.pre w (List.mem_cons_of_mem _ h)
  have hown : s.vm.findClass RX9 = some m.cls := findClass_of_methodNamed B.named
  have hlocks := B.notSynchronized
  subst hsz
  have hD := hD0.self (sz := s.heap.size)
  generalize hAe : va_A [(ob, .inr (9, [.ref tp, .int 0, .ref rd, .ref sa, .ref im, .ref sl, .ref ro, .ref wy, .ref od, .ref ok])), (sa, .inr (6, [.ref tw, .ref co, .ref de, .ref dd, .ref kn, .int 0, .int 0, .ref fo])), (tw, .inr (7, [.int 0, tw_1, tw_2, tw_3, tw_4, tw_5, tw_6, tw_7, tw_8, tw_9, tw_10, tw_11]))] s.heap.size = A at hD ⊢
  have hA : ∀ q : Nat, s.heap.size ≤ q → A q := fun q h => by rw [← hAe]; exact Or.inr h
  have hS : va_S A s.heap s.heap [] := va_S.rf
  have hP : va_P G vwCl [(ob, .inr (9, [.ref tp, .int 0, .ref rd, .ref sa, .ref im, .ref sl, .ref ro, .ref wy, .ref od, .ref ok])), (sa, .inr (6, [.ref tw, .ref co, .ref de, .ref dd, .ref kn, .int 0, .int 0, .ref fo])), (tw, .inr (7, [.int 0, tw_1, tw_2, tw_3, tw_4, tw_5, tw_6, tw_7, tw_8, tw_9, tw_10, tw_11]))] s.heap := hP
  have hl := lv_entry ([.ref ob]) (n := 6) (Nat.le_of_ble_eq_true rfl)
  rw [lg_entry_eq]
  generalize (lg_sl ([.ref ob]) ++ List.replicate (6 - (lg_sl ([.ref ob])).length) Slot.unset).toArray = ls at hl ⊢
  have hl : lv_has ls 6 [(0, .ref ob)] := hl
  refine lv_iconst (v := 0) hx hb dX9_first_0 (by decide) ?_
  refine lv_istore_n (lv' := [(1, .int 0), (0, .ref ob)]) hx hb dX9_first_1 rfl hl (by decide) rfl (fun ls hl => ?_)
  refine lv_iconst (v := (-1)) hx hb dX9_first_2 (by decide) ?_
  refine lv_istore_n (lv' := [(2, .int (-1)), (1, .int 0), (0, .ref ob)]) hx hb dX9_first_3 rfl hl (by decide) rfl (fun ls hl => ?_)
  refine lv_iconst (v := 0) hx hb dX9_first_4 (by decide) ?_
  refine lv_istore_n (lv' := [(3, .int 0), (2, .int (-1)), (1, .int 0), (0, .ref ob)]) hx hb dX9_first_5 rfl hl (by decide) rfl (fun ls hl => ?_)
  refine lv_iload_n hx hb dX9_first_6 rfl (lv_at hl 0 rfl) ?_
  refine lv_aload_n hx hb dX9_first_7 rfl (lv_at hl 3 rfl) ?_
  refine va_get (D := G) (ci := 9) (v := .ref sa) (C := RX9) (T := TX9) (N := 10) hx hb hw0 inA_wsX90 hown hK.1 hP 0 rfl rfl 3 (by decide) (hw0 _ m_110) (fun _ h9 => h9) rfl dX9_first_8 ?_
  refine va_get (D := G) (ci := 6) (v := .ref tw) (C := RX6) (T := TX6) (N := 8) hx hb hw0 inA_wsX60 hown hK.1 hP 1 rfl rfl 0 (by decide) (hw0 _ m_176) (fun _ h9 => h9) rfl dX9_first_11 ?_
  refine va_get (D := G) (ci := 7) (v := .int 0) (C := RX7) (T := TX7) (N := 12) hx hb hw0 inA_wsX70 hown hK.1 hP 2 rfl rfl 0 (by decide) (hw0 _ m_212) (fun _ h9 => h9) rfl dX9_first_14 ?_
  refine lv_icmp_ge (tgt := 106) hx hb dX9_first_17 (by decide) (fun _ => ?_) (fun c9 => absurd (by decide) c9)
  refine lv_iload_n hx hb dX9_first_106 rfl (lv_at hl 1 rfl) ?_
  refine W.widen (k := 0) (n := 0) (Nat.le_of_ble_eq_true rfl) (Nat.le_of_ble_eq_true rfl) ?_
  exact W.iret (v := (-1)) hx hb hr (fun t ht hW => ⟨⟨(-1), _, rfl, rfl, by rw [ht]; exact hP, hD⟩, hS.F ht⟩) hS.2.2 dX9_first_107

set_option maxHeartbeats 4000000 in
set_option maxRecDepth 100000 in
theorem kX9_house (l : Launch) (G : va_G) (y : Nat → ClassId) (sz : Nat) (ob : Nat) (a1 : Int32) (a2 : Int32) (tp : Nat) (rd : Nat) (sa : Nat) (im : Nat) (sl : Nat) (ro : Nat) (wy : Nat) (od : Nat) (ok : Nat) (tw : Nat) (co : Nat) (de : Nat) (dd : Nat) (kn : Nat) (fo : Nat) (tw_1 : Value) (tw_2 : Value) (tw_3 : Value) (tw_4 : Value) (tw_5 : Value) (tw_6 : Value) (tw_7 : Value) (tw_8 : Value) (tw_9 : Value) (tw_10 : Value) (tw_11 : Value)  : Met l yX9_house (Cond.code yX9_house cX9_house 3 (some .int) :: wAll) ({ frames := 1, cells := 0, slots := 0, locals := 21 }) (va_Pc [.ref ob, .int a1, .int a2] (kp G y sz [(ob, .inr (9, [.ref tp, .int 0, .ref rd, .ref sa, .ref im, .ref sl, .ref ro, .ref wy, .ref od, .ref ok])), (sa, .inr (6, [.ref tw, .ref co, .ref de, .ref dd, .ref kn, .int 0, .int 0, .ref fo])), (tw, .inr (7, [.int 0, tw_1, tw_2, tw_3, tw_4, tw_5, tw_6, tw_7, tw_8, tw_9, tw_10, tw_11]))])) (va_Qi (fun (r : Int32) (_ : va_W) => r = -2000000000) (kq G (va_A [(ob, .inr (9, [.ref tp, .int 0, .ref rd, .ref sa, .ref im, .ref sl, .ref ro, .ref wy, .ref od, .ref ok])), (sa, .inr (6, [.ref tw, .ref co, .ref de, .ref dd, .ref kn, .int 0, .int 0, .ref fo])), (tw, .inr (7, [.int 0, tw_1, tw_2, tw_3, tw_4, tw_5, tw_6, tw_7, tw_8, tw_9, tw_10, tw_11]))] sz)) (va_A [(ob, .inr (9, [.ref tp, .int 0, .ref rd, .ref sa, .ref im, .ref sl, .ref ro, .ref wy, .ref od, .ref ok])), (sa, .inr (6, [.ref tw, .ref co, .ref de, .ref dd, .ref kn, .int 0, .int 0, .ref fo])), (tw, .inr (7, [.int 0, tw_1, tw_2, tw_3, tw_4, tw_5, tw_6, tw_7, tw_8, tw_9, tw_10, tw_11]))] sz)) 0 0 (va_A [(ob, .inr (9, [.ref tp, .int 0, .ref rd, .ref sa, .ref im, .ref sl, .ref ro, .ref wy, .ref od, .ref ok])), (sa, .inr (6, [.ref tw, .ref co, .ref de, .ref dd, .ref kn, .int 0, .int 0, .ref fo])), (tw, .inr (7, [.int 0, tw_1, tw_2, tw_3, tw_4, tw_5, tw_6, tw_7, tw_8, tw_9, tw_10, tw_11]))] sz) := by
  refine Met.ofW (cc := cX9_house) (maxL := 3) (ret := (some .int)) (by decide) rfl ?_
  intro p e s m args below meth c s₁ B hml hv
  obtain ⟨rfl, hsz, hP, hK, hD0⟩ := hv
  have hx := B.exec
  have hb := B.bytes
  have hr := B.returns
  have hw0 : ∀ w ∈ wAll, w.before _ s = true := fun w h => atoms_spec (ws := Cond.code yX9_house cX9_house 3 (some .int) :: wAll) B.pre w (List.mem_cons_of_mem _ h)
  have hown : s.vm.findClass RX9 = some m.cls := findClass_of_methodNamed B.named
  have hlocks := B.notSynchronized
  subst hsz
  have hD := hD0.self (sz := s.heap.size)
  generalize hAe : va_A [(ob, .inr (9, [.ref tp, .int 0, .ref rd, .ref sa, .ref im, .ref sl, .ref ro, .ref wy, .ref od, .ref ok])), (sa, .inr (6, [.ref tw, .ref co, .ref de, .ref dd, .ref kn, .int 0, .int 0, .ref fo])), (tw, .inr (7, [.int 0, tw_1, tw_2, tw_3, tw_4, tw_5, tw_6, tw_7, tw_8, tw_9, tw_10, tw_11]))] s.heap.size = A at hD ⊢
  have hA : ∀ q : Nat, s.heap.size ≤ q → A q := fun q h => by rw [← hAe]; exact Or.inr h
  have hS : va_S A s.heap s.heap [] := va_S.rf
  have hP : va_P G vwCl [(ob, .inr (9, [.ref tp, .int 0, .ref rd, .ref sa, .ref im, .ref sl, .ref ro, .ref wy, .ref od, .ref ok])), (sa, .inr (6, [.ref tw, .ref co, .ref de, .ref dd, .ref kn, .int 0, .int 0, .ref fo])), (tw, .inr (7, [.int 0, tw_1, tw_2, tw_3, tw_4, tw_5, tw_6, tw_7, tw_8, tw_9, tw_10, tw_11]))] s.heap := hP
  have hl := lv_entry ([.ref ob, .int a1, .int a2]) (n := 3) (Nat.le_of_ble_eq_true rfl)
  rw [lg_entry_eq]
  generalize (lg_sl ([.ref ob, .int a1, .int a2]) ++ List.replicate (3 - (lg_sl ([.ref ob, .int a1, .int a2])).length) Slot.unset).toArray = ls at hl ⊢
  have hl : lv_has ls 3 [(0, .ref ob), (1, .int a1), (2, .int a2)] := hl
  refine lv_aload_n hx hb dX9_house_0 rfl (lv_at hl 0 rfl) ?_
  refine va_get (D := G) (ci := 9) (v := .ref sa) (C := RX9) (T := TX9) (N := 10) hx hb hw0 inA_wsX90 hown hK.1 hP 0 rfl rfl 3 (by decide) (hw0 _ m_110) (fun _ h9 => h9) rfl dX9_house_1 ?_
  refine va_get (D := G) (ci := 6) (v := .ref tw) (C := RX6) (T := TX6) (N := 8) hx hb hw0 inA_wsX60 hown hK.1 hP 1 rfl rfl 0 (by decide) (hw0 _ m_176) (fun _ h9 => h9) rfl dX9_house_4 ?_
  refine lv_iload_n hx hb dX9_house_7 rfl (lv_at hl 1 rfl) ?_
  refine cVi (As := [.int a1]) (rest := []) ⟨hx, hb, hml, hown, hw0⟩ hA hK hP hD hS [2] [0, 1] [(tw, .inr (7, [.int 0, tw_1, tw_2, tw_3, tw_4, tw_5, tw_6, tw_7, tw_8, tw_9, tw_10, tw_11]))] [(ob, .inr (9, [.ref tp, .int 0, .ref rd, .ref sa, .ref im, .ref sl, .ref ro, .ref wy, .ref od, .ref ok])), (sa, .inr (6, [.ref tw, .ref co, .ref de, .ref dd, .ref kn, .int 0, .int 0, .ref fo]))] rfl rfl (by decide) (by decide) (by decide) (kX7_has l G y _ tw a1 (tw_1) (tw_2) (tw_3) (tw_4) (tw_5) (tw_6) (tw_7) (tw_8) (tw_9) (tw_10) (tw_11) ) ⟨(callB_of 1 hw0 (gA m_171) rfl rfl rfl (hw0 _ m_70) (hw0 _ m_181) (by decide +kernel) ⟨Nat.le_of_ble_eq_true rfl, Nat.le_of_ble_eq_true rfl⟩), (hw0 _ m_173), (hw0 _ m_174)⟩ (ci := 7) (q := (RX7, TX7, 12)) rfl rfl rfl hl.1 (Nat.le_of_ble_eq_true rfl) dX9_house_8 ⟨Nat.le_of_ble_eq_true rfl, Nat.le_of_ble_eq_true rfl⟩ (fun r_1 w_1 H locs hw_1 hP hD hS => ?_)
  obtain ⟨rfl, rfl⟩ := hw_1
  have hP : va_P G vwCl [(ob, .inr (9, [.ref tp, .int 0, .ref rd, .ref sa, .ref im, .ref sl, .ref ro, .ref wy, .ref od, .ref ok])), (sa, .inr (6, [.ref tw, .ref co, .ref de, .ref dd, .ref kn, .int 0, .int 0, .ref fo])), (tw, .inr (7, [.int 0, tw_1, tw_2, tw_3, tw_4, tw_5, tw_6, tw_7, tw_8, tw_9, tw_10, tw_11]))] H := hP
  have hD : va_D A [(ob, .inr (9, [.ref tp, .int 0, .ref rd, .ref sa, .ref im, .ref sl, .ref ro, .ref wy, .ref od, .ref ok])), (sa, .inr (6, [.ref tw, .ref co, .ref de, .ref dd, .ref kn, .int 0, .int 0, .ref fo])), (tw, .inr (7, [.int 0, tw_1, tw_2, tw_3, tw_4, tw_5, tw_6, tw_7, tw_8, tw_9, tw_10, tw_11]))] := hD
  refine lv_if_ne (tgt := 17) hx hb dX9_house_11 (by decide) (fun c9 => absurd (by decide) c9) (fun _ => ?_)
  refine lv_ldc (own := RX9) (v := (-2000000000)) hx hb hown (hw0 _ m_214) dX9_house_14 ?_
  refine W.widen (k := 0) (n := 0) (Nat.le_of_ble_eq_true rfl) (Nat.le_of_ble_eq_true rfl) ?_
  exact W.iret (v := (-2000000000)) hx hb hr (fun t ht hW => ⟨⟨(-2000000000), _, rfl, rfl, by rw [ht]; exact hP, hD⟩, hS.F ht⟩) hS.2.2 dX9_house_16

set_option maxHeartbeats 4000000 in
set_option maxRecDepth 100000 in
theorem kX9_end (l : Launch) (G : va_G) (y : Nat → ClassId) (sz : Nat) (ob : Nat) (a1 : Int32) (tp : Nat) (rd : Nat) (sa : Nat) (im : Nat) (sl : Nat) (ro : Nat) (wy : Nat) (od : Nat) (ok : Nat)  : Met l yX9_end (Cond.code yX9_end cX9_end 2 (some .int) :: wAll) ({ frames := 0, cells := 0, slots := 0, locals := 0 }) (va_Pc [.ref ob, .int a1] (kp G y sz [(ob, .inr (9, [.ref tp, .int 0, .ref rd, .ref sa, .ref im, .ref sl, .ref ro, .ref wy, .ref od, .ref ok]))])) (va_Qi (fun (r : Int32) (_ : va_W) => r = sp_end a1) (kq G (va_A [(ob, .inr (9, [.ref tp, .int 0, .ref rd, .ref sa, .ref im, .ref sl, .ref ro, .ref wy, .ref od, .ref ok]))] sz)) (va_A [(ob, .inr (9, [.ref tp, .int 0, .ref rd, .ref sa, .ref im, .ref sl, .ref ro, .ref wy, .ref od, .ref ok]))] sz)) 0 0 (va_A [(ob, .inr (9, [.ref tp, .int 0, .ref rd, .ref sa, .ref im, .ref sl, .ref ro, .ref wy, .ref od, .ref ok]))] sz) := by
  refine Met.ofW (cc := cX9_end) (maxL := 2) (ret := (some .int)) (by decide) rfl ?_
  intro p e s m args below meth c s₁ B hml hv
  obtain ⟨rfl, hsz, hP, hK, hD0⟩ := hv
  have hx := B.exec
  have hb := B.bytes
  have hr := B.returns
  have hw0 : ∀ w ∈ wAll, w.before _ s = true := fun w h => atoms_spec (ws := Cond.code yX9_end cX9_end 2 (some .int) :: wAll) B.pre w (List.mem_cons_of_mem _ h)
  have hown : s.vm.findClass RX9 = some m.cls := findClass_of_methodNamed B.named
  have hlocks := B.notSynchronized
  subst hsz
  have hD := hD0.self (sz := s.heap.size)
  generalize hAe : va_A [(ob, .inr (9, [.ref tp, .int 0, .ref rd, .ref sa, .ref im, .ref sl, .ref ro, .ref wy, .ref od, .ref ok]))] s.heap.size = A at hD ⊢
  have hA : ∀ q : Nat, s.heap.size ≤ q → A q := fun q h => by rw [← hAe]; exact Or.inr h
  have hS : va_S A s.heap s.heap [] := va_S.rf
  have hP : va_P G vwCl [(ob, .inr (9, [.ref tp, .int 0, .ref rd, .ref sa, .ref im, .ref sl, .ref ro, .ref wy, .ref od, .ref ok]))] s.heap := hP
  have hl := lv_entry ([.ref ob, .int a1]) (n := 2) (Nat.le_of_ble_eq_true rfl)
  rw [lg_entry_eq]
  generalize (lg_sl ([.ref ob, .int a1]) ++ List.replicate (2 - (lg_sl ([.ref ob, .int a1])).length) Slot.unset).toArray = ls at hl ⊢
  have hl : lv_has ls 2 [(0, .ref ob), (1, .int a1)] := hl
  refine lv_iload_n hx hb dX9_end_0 rfl (lv_at hl 1 rfl) ?_
  refine lv_if_lt (tgt := 12) hx hb dX9_end_1 (by decide) (fun c_1 => ?_) (fun c_1 => ?_)
  · skip
    have tc_1 : (a1.toInt : Int) < 0 := il_lt c_1 rfl (by decide)
    refine lv_iconst (v := (-1)) hx hb dX9_end_12 (by decide) ?_
    refine W.widen (k := 0) (n := 0) (Nat.le_of_ble_eq_true rfl) (Nat.le_of_ble_eq_true rfl) ?_
    exact W.iret (v := (-1)) hx hb hr (fun t ht hW => ⟨⟨(-1), _, rfl, (by first | rfl | decide | (simp only [sp_end]; (repeat' split) <;> first | rfl | (exfalso; omega))), by rw [ht]; exact hP, hD⟩, hS.F ht⟩) hS.2.2 dX9_end_13
  · skip
    have tc_1 : (a1.toInt : Int) ≥ 0 := il_nlt c_1 rfl (by decide)
    refine lv_iload_n hx hb dX9_end_4 rfl (lv_at hl 1 rfl) ?_
    refine lv_aload_n hx hb dX9_end_5 rfl (lv_at hl 0 rfl) ?_
    refine va_get (D := G) (ci := 9) (v := .int 0) (C := RX9) (T := TX9) (N := 10) hx hb hw0 inA_wsX90 hown hK.1 hP 0 rfl rfl 1 (by decide) (hw0 _ m_216) (fun _ h9 => h9) rfl dX9_end_6 ?_
    refine lv_icmp_le (tgt := 14) hx hb dX9_end_9 (by decide) (fun c_2 => ?_) (fun c_2 => ?_)
    · skip
      have tc_2 : (a1.toInt : Int) ≤ 0 := il_le c_2 rfl (by decide)
      refine lv_aload_n hx hb dX9_end_14 rfl (lv_at hl 0 rfl) ?_
      refine lv_iload_n hx hb dX9_end_15 rfl (lv_at hl 1 rfl) ?_
      refine va_put (D := G) (ci := 9) (v := .int a1) (ty := .int) (C := RX9) (T := TX9) (N := 10) hx hb hw0 inA_wsX90 tyX9 tyX9_ok nmX9 hown hK.1 hP hD hS 0 rfl rfl 1 (by decide) (hw0 _ m_216) (fun _ h9 => h9) rfl (by decide +kernel) rfl rfl (Nat.le_of_ble_eq_true rfl) dX9_end_16 (fun H locs hP hD hS => ?_)
      have hP : va_P G vwCl [(ob, .inr (9, [.ref tp, .int a1, .ref rd, .ref sa, .ref im, .ref sl, .ref ro, .ref wy, .ref od, .ref ok]))] H := hP
      have hD : va_D A [(ob, .inr (9, [.ref tp, .int a1, .ref rd, .ref sa, .ref im, .ref sl, .ref ro, .ref wy, .ref od, .ref ok]))] := hD
      refine lv_iload_n hx hb dX9_end_19 rfl (lv_at hl 1 rfl) ?_
      refine W.widen (k := 0) (n := 0) (Nat.le_of_ble_eq_true rfl) (Nat.le_of_ble_eq_true rfl) ?_
      exact W.iret (v := a1) hx hb hr (fun t ht hW => ⟨⟨a1, _, rfl, (by first | rfl | decide | (simp only [sp_end]; (repeat' split) <;> first | rfl | (exfalso; omega))), by rw [ht]; exact hP, hD⟩, hS.F ht⟩) hS.2.2 dX9_end_20
    · skip
      have tc_2 : (a1.toInt : Int) > 0 := il_nle c_2 rfl (by decide)
      refine lv_iconst (v := (-1)) hx hb dX9_end_12 (by decide) ?_
      refine W.widen (k := 0) (n := 0) (Nat.le_of_ble_eq_true rfl) (Nat.le_of_ble_eq_true rfl) ?_
      exact W.iret (v := (-1)) hx hb hr (fun t ht hW => ⟨⟨(-1), _, rfl, (by first | rfl | decide | (simp only [sp_end]; (repeat' split) <;> first | rfl | (exfalso; omega))), by rw [ht]; exact hP, hD⟩, hS.F ht⟩) hS.2.2 dX9_end_13

set_option maxHeartbeats 4000000 in
set_option maxRecDepth 100000 in
theorem kX9_fault (l : Launch) (G : va_G) (y : Nat → ClassId) (sz : Nat) (ob : Nat) (a1 : Int32) (tp : Nat) (rd : Nat) (sa : Nat) (im : Nat) (sl : Nat) (ro : Nat) (wy : Nat) (od : Nat) (ok : Nat) (rd_0 : Value) (rd_1 : Value) (rd_4 : Value) (rd_5 : Value) (rd_6 : Value) (rd_7 : Value) (rd_8 : Value) (rd_9 : Value)  : Met l yX9_fault (Cond.code yX9_fault cX9_fault 2 (some .int) :: wAll) ({ frames := 0, cells := 0, slots := 0, locals := 0 }) (va_Pc [.ref ob, .int a1] (kp G y sz [(ob, .inr (9, [.ref tp, .int 0, .ref rd, .ref sa, .ref im, .ref sl, .ref ro, .ref wy, .ref od, .ref ok])), (rd, .inr (3, [rd_0, rd_1, .int 0, .int (-1), rd_4, rd_5, rd_6, rd_7, rd_8, rd_9]))])) (va_Qi (fun (r : Int32) (_ : va_W) => r = sp_fault a1) (kq G (va_A [(ob, .inr (9, [.ref tp, .int 0, .ref rd, .ref sa, .ref im, .ref sl, .ref ro, .ref wy, .ref od, .ref ok])), (rd, .inr (3, [rd_0, rd_1, .int 0, .int (-1), rd_4, rd_5, rd_6, rd_7, rd_8, rd_9]))] sz)) (va_A [(ob, .inr (9, [.ref tp, .int 0, .ref rd, .ref sa, .ref im, .ref sl, .ref ro, .ref wy, .ref od, .ref ok])), (rd, .inr (3, [rd_0, rd_1, .int 0, .int (-1), rd_4, rd_5, rd_6, rd_7, rd_8, rd_9]))] sz)) 0 0 (va_A [(ob, .inr (9, [.ref tp, .int 0, .ref rd, .ref sa, .ref im, .ref sl, .ref ro, .ref wy, .ref od, .ref ok])), (rd, .inr (3, [rd_0, rd_1, .int 0, .int (-1), rd_4, rd_5, rd_6, rd_7, rd_8, rd_9]))] sz) := by
  refine Met.ofW (cc := cX9_fault) (maxL := 2) (ret := (some .int)) (by decide) rfl ?_
  intro p e s m args below meth c s₁ B hml hv
  obtain ⟨rfl, hsz, hP, hK, hD0⟩ := hv
  have hx := B.exec
  have hb := B.bytes
  have hr := B.returns
  have hw0 : ∀ w ∈ wAll, w.before _ s = true := fun w h => atoms_spec (ws := Cond.code yX9_fault cX9_fault 2 (some .int) :: wAll) B.pre w (List.mem_cons_of_mem _ h)
  have hown : s.vm.findClass RX9 = some m.cls := findClass_of_methodNamed B.named
  have hlocks := B.notSynchronized
  subst hsz
  have hD := hD0.self (sz := s.heap.size)
  generalize hAe : va_A [(ob, .inr (9, [.ref tp, .int 0, .ref rd, .ref sa, .ref im, .ref sl, .ref ro, .ref wy, .ref od, .ref ok])), (rd, .inr (3, [rd_0, rd_1, .int 0, .int (-1), rd_4, rd_5, rd_6, rd_7, rd_8, rd_9]))] s.heap.size = A at hD ⊢
  have hA : ∀ q : Nat, s.heap.size ≤ q → A q := fun q h => by rw [← hAe]; exact Or.inr h
  have hS : va_S A s.heap s.heap [] := va_S.rf
  have hP : va_P G vwCl [(ob, .inr (9, [.ref tp, .int 0, .ref rd, .ref sa, .ref im, .ref sl, .ref ro, .ref wy, .ref od, .ref ok])), (rd, .inr (3, [rd_0, rd_1, .int 0, .int (-1), rd_4, rd_5, rd_6, rd_7, rd_8, rd_9]))] s.heap := hP
  have hl := lv_entry ([.ref ob, .int a1]) (n := 2) (Nat.le_of_ble_eq_true rfl)
  rw [lg_entry_eq]
  generalize (lg_sl ([.ref ob, .int a1]) ++ List.replicate (2 - (lg_sl ([.ref ob, .int a1])).length) Slot.unset).toArray = ls at hl ⊢
  have hl : lv_has ls 2 [(0, .ref ob), (1, .int a1)] := hl
  refine lv_iload_n hx hb dX9_fault_0 rfl (lv_at hl 1 rfl) ?_
  refine lv_if_ne (tgt := 12) hx hb dX9_fault_1 (by decide) (fun c_1 => ?_) (fun c_1 => ?_)
  · skip
    have tc_1 : (a1.toInt : Int) ≠ 0 := il_neq c_1 rfl (by decide)
    refine lv_iload_n hx hb dX9_fault_12 rfl (lv_at hl 1 rfl) ?_
    refine lv_iconst (v := 1) hx hb dX9_fault_13 (by decide) ?_
    refine lv_icmp_ne (tgt := 27) hx hb dX9_fault_14 (by decide) (fun c_2 => ?_) (fun c_2 => ?_)
    · skip
      have tc_2 : (a1.toInt : Int) ≠ 1 := il_neq c_2 rfl (by decide)
      refine lv_iconst (v := (-1)) hx hb dX9_fault_27 (by decide) ?_
      refine W.widen (k := 0) (n := 0) (Nat.le_of_ble_eq_true rfl) (Nat.le_of_ble_eq_true rfl) ?_
      exact W.iret (v := (-1)) hx hb hr (fun t ht hW => ⟨⟨(-1), _, rfl, (by first | rfl | decide | (simp only [sp_fault]; (repeat' split) <;> first | rfl | (exfalso; omega))), by rw [ht]; exact hP, hD⟩, hS.F ht⟩) hS.2.2 dX9_fault_28
    · skip
      have tc_2 : (a1.toInt : Int) = 1 := il_eq c_2 rfl (by decide)
      refine lv_aload_n hx hb dX9_fault_17 rfl (lv_at hl 0 rfl) ?_
      refine va_get (D := G) (ci := 9) (v := .ref rd) (C := RX9) (T := TX9) (N := 10) hx hb hw0 inA_wsX90 hown hK.1 hP 0 rfl rfl 2 (by decide) (hw0 _ m_105) (fun _ h9 => h9) rfl dX9_fault_18 ?_
      refine va_get (D := G) (ci := 3) (v := .int (-1)) (C := RX3) (T := TX3) (N := 10) hx hb hw0 inA_wsX30 hown hK.1 hP 1 rfl rfl 3 (by decide) (hw0 _ m_218) (fun _ h9 => h9) rfl dX9_fault_21 ?_
      refine lv_goto (tgt := 28) hx hb dX9_fault_24 (by decide) ?_
      refine W.widen (k := 0) (n := 0) (Nat.le_of_ble_eq_true rfl) (Nat.le_of_ble_eq_true rfl) ?_
      exact W.iret (v := (-1)) hx hb hr (fun t ht hW => ⟨⟨(-1), _, rfl, (by first | rfl | decide | (simp only [sp_fault]; (repeat' split) <;> first | rfl | (exfalso; omega))), by rw [ht]; exact hP, hD⟩, hS.F ht⟩) hS.2.2 dX9_fault_28
  · skip
    have tc_1 : (a1.toInt : Int) = 0 := il_eq c_1 rfl (by decide)
    refine lv_aload_n hx hb dX9_fault_4 rfl (lv_at hl 0 rfl) ?_
    refine va_get (D := G) (ci := 9) (v := .ref rd) (C := RX9) (T := TX9) (N := 10) hx hb hw0 inA_wsX90 hown hK.1 hP 0 rfl rfl 2 (by decide) (hw0 _ m_105) (fun _ h9 => h9) rfl dX9_fault_5 ?_
    refine va_get (D := G) (ci := 3) (v := .int 0) (C := RX3) (T := TX3) (N := 10) hx hb hw0 inA_wsX30 hown hK.1 hP 1 rfl rfl 2 (by decide) (hw0 _ m_219) (fun _ h9 => h9) rfl dX9_fault_8 ?_
    refine W.widen (k := 0) (n := 0) (Nat.le_of_ble_eq_true rfl) (Nat.le_of_ble_eq_true rfl) ?_
    exact W.iret (v := 0) hx hb hr (fun t ht hW => ⟨⟨0, _, rfl, (by first | rfl | decide | (simp only [sp_fault]; (repeat' split) <;> first | rfl | (exfalso; omega))), by rw [ht]; exact hP, hD⟩, hS.F ht⟩) hS.2.2 dX9_fault_11

set_option maxHeartbeats 4000000 in
set_option maxRecDepth 100000 in
theorem kX9_forget (l : Launch) (G : va_G) (y : Nat → ClassId) (sz : Nat) (ob : Nat) (tp : Nat) (rd : Nat) (sa : Nat) (im : Nat) (sl : Nat) (ro : Nat) (wy : Nat) (od : Nat) (ok : Nat) (ro_0 : Value) (ro_1 : Value) (ro_2 : Value) (ro_3 : Value) (ro_4 : Value) (ro_5 : Value) (ro_6 : Value) (ro_7 : Value) (ro_8 : Value) (ro_9 : Value) (ro_10 : Value) (ro_11 : Value) (ro_12 : Value) (ro_13 : Value) (ro_14 : Value) (ro_15 : Value) (ro_16 : Value) (wy_0 : Value) (wy_1 : Value) (wy_2 : Value) (wy_3 : Value) (wy_4 : Value) (wy_5 : Value) (wy_6 : Value) (wy_7 : Value) (wy_8 : Value) (wy_9 : Value) (wy_10 : Value)  : Met l yX9_forget (Cond.code yX9_forget cX9_forget 1 none :: wAll) ({ frames := 0, cells := 0, slots := 0, locals := 0 }) (va_Pc [.ref ob] (kp G y sz [(ob, .inr (9, [.ref tp, .int 0, .ref rd, .ref sa, .ref im, .ref sl, .ref ro, .ref wy, .ref od, .ref ok])), (ro, .inr (4, [ro_0, ro_1, ro_2, ro_3, ro_4, ro_5, ro_6, ro_7, ro_8, ro_9, ro_10, ro_11, ro_12, ro_13, ro_14, ro_15, ro_16])), (wy, .inr (8, [wy_0, wy_1, wy_2, wy_3, wy_4, wy_5, wy_6, wy_7, wy_8, wy_9, wy_10]))])) (va_Qv (fun (w : va_W) => (w = [(ob, .inr (9, [.ref tp, .int 0, .ref rd, .ref sa, .ref im, .ref sl, .ref ro, .ref wy, .ref od, .ref ok])), (ro, .inr (4, [.int 0, ro_1, ro_2, ro_3, ro_4, ro_5, ro_6, ro_7, ro_8, ro_9, ro_10, ro_11, ro_12, ro_13, ro_14, ro_15, ro_16])), (wy, .inr (8, [.int 0, wy_1, wy_2, wy_3, wy_4, wy_5, wy_6, wy_7, wy_8, wy_9, wy_10]))])) (kq G (va_A [(ob, .inr (9, [.ref tp, .int 0, .ref rd, .ref sa, .ref im, .ref sl, .ref ro, .ref wy, .ref od, .ref ok])), (ro, .inr (4, [ro_0, ro_1, ro_2, ro_3, ro_4, ro_5, ro_6, ro_7, ro_8, ro_9, ro_10, ro_11, ro_12, ro_13, ro_14, ro_15, ro_16])), (wy, .inr (8, [wy_0, wy_1, wy_2, wy_3, wy_4, wy_5, wy_6, wy_7, wy_8, wy_9, wy_10]))] sz)) (va_A [(ob, .inr (9, [.ref tp, .int 0, .ref rd, .ref sa, .ref im, .ref sl, .ref ro, .ref wy, .ref od, .ref ok])), (ro, .inr (4, [ro_0, ro_1, ro_2, ro_3, ro_4, ro_5, ro_6, ro_7, ro_8, ro_9, ro_10, ro_11, ro_12, ro_13, ro_14, ro_15, ro_16])), (wy, .inr (8, [wy_0, wy_1, wy_2, wy_3, wy_4, wy_5, wy_6, wy_7, wy_8, wy_9, wy_10]))] sz)) 0 0 (va_A [(ob, .inr (9, [.ref tp, .int 0, .ref rd, .ref sa, .ref im, .ref sl, .ref ro, .ref wy, .ref od, .ref ok])), (ro, .inr (4, [ro_0, ro_1, ro_2, ro_3, ro_4, ro_5, ro_6, ro_7, ro_8, ro_9, ro_10, ro_11, ro_12, ro_13, ro_14, ro_15, ro_16])), (wy, .inr (8, [wy_0, wy_1, wy_2, wy_3, wy_4, wy_5, wy_6, wy_7, wy_8, wy_9, wy_10]))] sz) := by
  refine Met.ofW (cc := cX9_forget) (maxL := 1) (ret := none) (by decide) rfl ?_
  intro p e s m args below meth c s₁ B hml hv
  obtain ⟨rfl, hsz, hP, hK, hD0⟩ := hv
  have hx := B.exec
  have hb := B.bytes
  have hr := B.returns
  have hw0 : ∀ w ∈ wAll, w.before _ s = true := fun w h => atoms_spec (ws := Cond.code yX9_forget cX9_forget 1 none :: wAll) B.pre w (List.mem_cons_of_mem _ h)
  have hown : s.vm.findClass RX9 = some m.cls := findClass_of_methodNamed B.named
  have hlocks := B.notSynchronized
  subst hsz
  have hD := hD0.self (sz := s.heap.size)
  generalize hAe : va_A [(ob, .inr (9, [.ref tp, .int 0, .ref rd, .ref sa, .ref im, .ref sl, .ref ro, .ref wy, .ref od, .ref ok])), (ro, .inr (4, [ro_0, ro_1, ro_2, ro_3, ro_4, ro_5, ro_6, ro_7, ro_8, ro_9, ro_10, ro_11, ro_12, ro_13, ro_14, ro_15, ro_16])), (wy, .inr (8, [wy_0, wy_1, wy_2, wy_3, wy_4, wy_5, wy_6, wy_7, wy_8, wy_9, wy_10]))] s.heap.size = A at hD ⊢
  have hA : ∀ q : Nat, s.heap.size ≤ q → A q := fun q h => by rw [← hAe]; exact Or.inr h
  have hS : va_S A s.heap s.heap [] := va_S.rf
  have hP : va_P G vwCl [(ob, .inr (9, [.ref tp, .int 0, .ref rd, .ref sa, .ref im, .ref sl, .ref ro, .ref wy, .ref od, .ref ok])), (ro, .inr (4, [ro_0, ro_1, ro_2, ro_3, ro_4, ro_5, ro_6, ro_7, ro_8, ro_9, ro_10, ro_11, ro_12, ro_13, ro_14, ro_15, ro_16])), (wy, .inr (8, [wy_0, wy_1, wy_2, wy_3, wy_4, wy_5, wy_6, wy_7, wy_8, wy_9, wy_10]))] s.heap := hP
  have hl := lv_entry ([.ref ob]) (n := 1) (Nat.le_of_ble_eq_true rfl)
  rw [lg_entry_eq]
  generalize (lg_sl ([.ref ob]) ++ List.replicate (1 - (lg_sl ([.ref ob])).length) Slot.unset).toArray = ls at hl ⊢
  have hl : lv_has ls 1 [(0, .ref ob)] := hl
  refine lv_aload_n hx hb dX9_forget_0 rfl (lv_at hl 0 rfl) ?_
  refine va_get (D := G) (ci := 9) (v := .ref ro) (C := RX9) (T := TX9) (N := 10) hx hb hw0 inA_wsX90 hown hK.1 hP 0 rfl rfl 6 (by decide) (hw0 _ m_118) (fun _ h9 => h9) rfl dX9_forget_1 ?_
  refine lv_iconst (v := 0) hx hb dX9_forget_4 (by decide) ?_
  refine va_put (D := G) (ci := 4) (v := .int 0) (ty := .boolean) (C := RX4) (T := TX4) (N := 17) hx hb hw0 inA_wsX40 tyX4 tyX4_ok nmX4 hown hK.1 hP hD hS 1 rfl rfl 0 (by decide) (hw0 _ m_221) (fun _ h9 => h9) rfl (by decide +kernel) rfl rfl (Nat.le_of_ble_eq_true rfl) dX9_forget_5 (fun H locs hP hD hS => ?_)
  have hP : va_P G vwCl [(ob, .inr (9, [.ref tp, .int 0, .ref rd, .ref sa, .ref im, .ref sl, .ref ro, .ref wy, .ref od, .ref ok])), (ro, .inr (4, [.int 0, ro_1, ro_2, ro_3, ro_4, ro_5, ro_6, ro_7, ro_8, ro_9, ro_10, ro_11, ro_12, ro_13, ro_14, ro_15, ro_16])), (wy, .inr (8, [wy_0, wy_1, wy_2, wy_3, wy_4, wy_5, wy_6, wy_7, wy_8, wy_9, wy_10]))] H := hP
  have hD : va_D A [(ob, .inr (9, [.ref tp, .int 0, .ref rd, .ref sa, .ref im, .ref sl, .ref ro, .ref wy, .ref od, .ref ok])), (ro, .inr (4, [.int 0, ro_1, ro_2, ro_3, ro_4, ro_5, ro_6, ro_7, ro_8, ro_9, ro_10, ro_11, ro_12, ro_13, ro_14, ro_15, ro_16])), (wy, .inr (8, [wy_0, wy_1, wy_2, wy_3, wy_4, wy_5, wy_6, wy_7, wy_8, wy_9, wy_10]))] := hD
  refine lv_aload_n hx hb dX9_forget_8 rfl (lv_at hl 0 rfl) ?_
  refine va_get (D := G) (ci := 9) (v := .ref wy) (C := RX9) (T := TX9) (N := 10) hx hb hw0 inA_wsX90 hown hK.1 hP 0 rfl rfl 7 (by decide) (hw0 _ m_123) (fun _ h9 => h9) rfl dX9_forget_9 ?_
  refine lv_iconst (v := 0) hx hb dX9_forget_12 (by decide) ?_
  refine va_put (D := G) (ci := 8) (v := .int 0) (ty := .boolean) (C := RX8) (T := TX8) (N := 11) hx hb hw0 inA_wsX80 tyX8 tyX8_ok nmX8 hown hK.1 hP hD hS 2 rfl rfl 0 (by decide) (hw0 _ m_222) (fun _ h9 => h9) rfl (by decide +kernel) rfl rfl (Nat.le_of_ble_eq_true rfl) dX9_forget_13 (fun H locs hP hD hS => ?_)
  have hP : va_P G vwCl [(ob, .inr (9, [.ref tp, .int 0, .ref rd, .ref sa, .ref im, .ref sl, .ref ro, .ref wy, .ref od, .ref ok])), (ro, .inr (4, [.int 0, ro_1, ro_2, ro_3, ro_4, ro_5, ro_6, ro_7, ro_8, ro_9, ro_10, ro_11, ro_12, ro_13, ro_14, ro_15, ro_16])), (wy, .inr (8, [.int 0, wy_1, wy_2, wy_3, wy_4, wy_5, wy_6, wy_7, wy_8, wy_9, wy_10]))] H := hP
  have hD : va_D A [(ob, .inr (9, [.ref tp, .int 0, .ref rd, .ref sa, .ref im, .ref sl, .ref ro, .ref wy, .ref od, .ref ok])), (ro, .inr (4, [.int 0, ro_1, ro_2, ro_3, ro_4, ro_5, ro_6, ro_7, ro_8, ro_9, ro_10, ro_11, ro_12, ro_13, ro_14, ro_15, ro_16])), (wy, .inr (8, [.int 0, wy_1, wy_2, wy_3, wy_4, wy_5, wy_6, wy_7, wy_8, wy_9, wy_10]))] := hD
  refine W.widen (k := 0) (n := 0) (Nat.le_of_ble_eq_true rfl) (Nat.le_of_ble_eq_true rfl) ?_
  exact W.vret hx hb hr (fun t ht hW => ⟨⟨([(ob, .inr (9, [.ref tp, .int 0, .ref rd, .ref sa, .ref im, .ref sl, .ref ro, .ref wy, .ref od, .ref ok])), (ro, .inr (4, [.int 0, ro_1, ro_2, ro_3, ro_4, ro_5, ro_6, ro_7, ro_8, ro_9, ro_10, ro_11, ro_12, ro_13, ro_14, ro_15, ro_16])), (wy, .inr (8, [.int 0, wy_1, wy_2, wy_3, wy_4, wy_5, wy_6, wy_7, wy_8, wy_9, wy_10]))] : va_W), rfl, rfl, by rw [ht]; exact hP, hD⟩, hS.F ht⟩) hS.2.2 dX9_forget_16

set_option maxHeartbeats 4000000 in
set_option maxRecDepth 100000 in
theorem kX9_days (l : Launch) (G : va_G) (y : Nat → ClassId) (sz : Nat) (ob : Nat) (a1 : Int32) (tp : Nat) (rd : Nat) (sa : Nat) (im : Nat) (sl : Nat) (ro : Nat) (wy : Nat) (od : Nat) (ok : Nat) (tw : Nat) (co : Nat) (de : Nat) (dd : Nat) (kn : Nat) (fo : Nat) (ro_0 : Value) (ro_1 : Value) (ro_2 : Value) (ro_3 : Value) (ro_4 : Value) (ro_5 : Value) (ro_6 : Value) (ro_7 : Value) (ro_8 : Value) (ro_9 : Value) (ro_10 : Value) (ro_11 : Value) (ro_12 : Value) (ro_13 : Value) (ro_14 : Value) (ro_15 : Value) (ro_16 : Value) (wy_0 : Value) (wy_1 : Value) (wy_2 : Value) (wy_3 : Value) (wy_4 : Value) (wy_5 : Value) (wy_6 : Value) (wy_7 : Value) (wy_8 : Value) (wy_9 : Value) (wy_10 : Value)  : Met l yX9_days (Cond.code yX9_days cX9_days 2 (some .int) :: wAll) ({ frames := 1, cells := 0, slots := 0, locals := 20 }) (va_Pc [.ref ob, .int a1] (kp G y sz [(ob, .inr (9, [.ref tp, .int 0, .ref rd, .ref sa, .ref im, .ref sl, .ref ro, .ref wy, .ref od, .ref ok])), (sa, .inr (6, [.ref tw, .ref co, .ref de, .ref dd, .ref kn, .int 0, .int 0, .ref fo])), (ro, .inr (4, [ro_0, ro_1, ro_2, ro_3, ro_4, ro_5, ro_6, ro_7, ro_8, ro_9, ro_10, ro_11, ro_12, ro_13, ro_14, ro_15, ro_16])), (wy, .inr (8, [wy_0, wy_1, wy_2, wy_3, wy_4, wy_5, wy_6, wy_7, wy_8, wy_9, wy_10]))])) (va_Qi (fun (r : Int32) (_ : va_W) => r = sp_days a1) (kq G (va_A [(ob, .inr (9, [.ref tp, .int 0, .ref rd, .ref sa, .ref im, .ref sl, .ref ro, .ref wy, .ref od, .ref ok])), (sa, .inr (6, [.ref tw, .ref co, .ref de, .ref dd, .ref kn, .int 0, .int 0, .ref fo])), (ro, .inr (4, [ro_0, ro_1, ro_2, ro_3, ro_4, ro_5, ro_6, ro_7, ro_8, ro_9, ro_10, ro_11, ro_12, ro_13, ro_14, ro_15, ro_16])), (wy, .inr (8, [wy_0, wy_1, wy_2, wy_3, wy_4, wy_5, wy_6, wy_7, wy_8, wy_9, wy_10]))] sz)) (va_A [(ob, .inr (9, [.ref tp, .int 0, .ref rd, .ref sa, .ref im, .ref sl, .ref ro, .ref wy, .ref od, .ref ok])), (sa, .inr (6, [.ref tw, .ref co, .ref de, .ref dd, .ref kn, .int 0, .int 0, .ref fo])), (ro, .inr (4, [ro_0, ro_1, ro_2, ro_3, ro_4, ro_5, ro_6, ro_7, ro_8, ro_9, ro_10, ro_11, ro_12, ro_13, ro_14, ro_15, ro_16])), (wy, .inr (8, [wy_0, wy_1, wy_2, wy_3, wy_4, wy_5, wy_6, wy_7, wy_8, wy_9, wy_10]))] sz)) 0 0 (va_A [(ob, .inr (9, [.ref tp, .int 0, .ref rd, .ref sa, .ref im, .ref sl, .ref ro, .ref wy, .ref od, .ref ok])), (sa, .inr (6, [.ref tw, .ref co, .ref de, .ref dd, .ref kn, .int 0, .int 0, .ref fo])), (ro, .inr (4, [ro_0, ro_1, ro_2, ro_3, ro_4, ro_5, ro_6, ro_7, ro_8, ro_9, ro_10, ro_11, ro_12, ro_13, ro_14, ro_15, ro_16])), (wy, .inr (8, [wy_0, wy_1, wy_2, wy_3, wy_4, wy_5, wy_6, wy_7, wy_8, wy_9, wy_10]))] sz) := by
  refine Met.ofW (cc := cX9_days) (maxL := 2) (ret := (some .int)) (by decide) rfl ?_
  intro p e s m args below meth c s₁ B hml hv
  obtain ⟨rfl, hsz, hP, hK, hD0⟩ := hv
  have hx := B.exec
  have hb := B.bytes
  have hr := B.returns
  have hw0 : ∀ w ∈ wAll, w.before _ s = true := fun w h => atoms_spec (ws := Cond.code yX9_days cX9_days 2 (some .int) :: wAll) B.pre w (List.mem_cons_of_mem _ h)
  have hown : s.vm.findClass RX9 = some m.cls := findClass_of_methodNamed B.named
  have hlocks := B.notSynchronized
  subst hsz
  have hD := hD0.self (sz := s.heap.size)
  generalize hAe : va_A [(ob, .inr (9, [.ref tp, .int 0, .ref rd, .ref sa, .ref im, .ref sl, .ref ro, .ref wy, .ref od, .ref ok])), (sa, .inr (6, [.ref tw, .ref co, .ref de, .ref dd, .ref kn, .int 0, .int 0, .ref fo])), (ro, .inr (4, [ro_0, ro_1, ro_2, ro_3, ro_4, ro_5, ro_6, ro_7, ro_8, ro_9, ro_10, ro_11, ro_12, ro_13, ro_14, ro_15, ro_16])), (wy, .inr (8, [wy_0, wy_1, wy_2, wy_3, wy_4, wy_5, wy_6, wy_7, wy_8, wy_9, wy_10]))] s.heap.size = A at hD ⊢
  have hA : ∀ q : Nat, s.heap.size ≤ q → A q := fun q h => by rw [← hAe]; exact Or.inr h
  have hS : va_S A s.heap s.heap [] := va_S.rf
  have hP : va_P G vwCl [(ob, .inr (9, [.ref tp, .int 0, .ref rd, .ref sa, .ref im, .ref sl, .ref ro, .ref wy, .ref od, .ref ok])), (sa, .inr (6, [.ref tw, .ref co, .ref de, .ref dd, .ref kn, .int 0, .int 0, .ref fo])), (ro, .inr (4, [ro_0, ro_1, ro_2, ro_3, ro_4, ro_5, ro_6, ro_7, ro_8, ro_9, ro_10, ro_11, ro_12, ro_13, ro_14, ro_15, ro_16])), (wy, .inr (8, [wy_0, wy_1, wy_2, wy_3, wy_4, wy_5, wy_6, wy_7, wy_8, wy_9, wy_10]))] s.heap := hP
  have hl := lv_entry ([.ref ob, .int a1]) (n := 2) (Nat.le_of_ble_eq_true rfl)
  rw [lg_entry_eq]
  generalize (lg_sl ([.ref ob, .int a1]) ++ List.replicate (2 - (lg_sl ([.ref ob, .int a1])).length) Slot.unset).toArray = ls at hl ⊢
  have hl : lv_has ls 2 [(0, .ref ob), (1, .int a1)] := hl
  refine lv_iload_n hx hb dX9_days_0 rfl (lv_at hl 1 rfl) ?_
  refine lv_if_lt (tgt := 25) hx hb dX9_days_1 (by decide) (fun c_1 => ?_) (fun c_1 => ?_)
  · skip
    have tc_1 : (a1.toInt : Int) < 0 := il_lt c_1 rfl (by decide)
    refine lv_bipush (v := (-2)) hx hb dX9_days_25 (by decide) ?_
    refine W.widen (k := 0) (n := 0) (Nat.le_of_ble_eq_true rfl) (Nat.le_of_ble_eq_true rfl) ?_
    exact W.iret (v := (-2)) hx hb hr (fun t ht hW => ⟨⟨(-2), _, rfl, (by first | rfl | decide | (simp only [sp_days]; (repeat' split) <;> first | rfl | (exfalso; omega))), by rw [ht]; exact hP, hD⟩, hS.F ht⟩) hS.2.2 dX9_days_27
  · skip
    have tc_1 : (a1.toInt : Int) ≥ 0 := il_nlt c_1 rfl (by decide)
    refine lv_iload_n hx hb dX9_days_4 rfl (lv_at hl 1 rfl) ?_
    refine lv_bipush (v := 60) hx hb dX9_days_5 (by decide) ?_
    refine lv_icmp_gt (tgt := 25) hx hb dX9_days_7 (by decide) (fun c_2 => ?_) (fun c_2 => ?_)
    · skip
      have tc_2 : (60 : Int) < a1.toInt := il_lt c_2 (by decide) rfl
      refine lv_bipush (v := (-2)) hx hb dX9_days_25 (by decide) ?_
      refine W.widen (k := 0) (n := 0) (Nat.le_of_ble_eq_true rfl) (Nat.le_of_ble_eq_true rfl) ?_
      exact W.iret (v := (-2)) hx hb hr (fun t ht hW => ⟨⟨(-2), _, rfl, (by first | rfl | decide | (simp only [sp_days]; (repeat' split) <;> first | rfl | (exfalso; omega))), by rw [ht]; exact hP, hD⟩, hS.F ht⟩) hS.2.2 dX9_days_27
    · skip
      have tc_2 : (60 : Int) ≥ a1.toInt := il_nlt c_2 (by decide) rfl
      refine lv_aload_n hx hb dX9_days_10 rfl (lv_at hl 0 rfl) ?_
      refine va_get (D := G) (ci := 9) (v := .ref sa) (C := RX9) (T := TX9) (N := 10) hx hb hw0 inA_wsX90 hown hK.1 hP 0 rfl rfl 3 (by decide) (hw0 _ m_110) (fun _ h9 => h9) rfl dX9_days_11 ?_
      refine va_get (D := G) (ci := 6) (v := .int 0) (C := RX6) (T := TX6) (N := 8) hx hb hw0 inA_wsX60 hown hK.1 hP 1 rfl rfl 5 (by decide) (hw0 _ m_224) (fun _ h9 => h9) rfl dX9_days_14 ?_
      refine lv_iload_n hx hb dX9_days_17 rfl (lv_at hl 1 rfl) ?_
      refine lv_iadd hx hb dX9_days_18 ?_
      refine lv_topi (fun v_3 ev_3 => ?_)
      obtain rfl : a1 = v_3 := (ev_3.trans (Int32.zero_add _)).symm
      refine lv_sipush (v := 399) hx hb dX9_days_19 (by decide) ?_
      refine lv_icmp_le (tgt := 28) hx hb dX9_days_22 (by decide) (fun _ => ?_) (fun c9 => absurd (ir_le (a := a1.toInt) rfl (b := 399) (by decide) (by omega)) c9)
      refine lv_aload_n hx hb dX9_days_28 rfl (lv_at hl 0 rfl) ?_
      refine va_get (D := G) (ci := 9) (v := .ref sa) (C := RX9) (T := TX9) (N := 10) hx hb hw0 inA_wsX90 hown hK.1 hP 0 rfl rfl 3 (by decide) (hw0 _ m_110) (fun _ h9 => h9) rfl dX9_days_29 ?_
      refine lv_dup hx hb dX9_days_32 rfl ?_
      refine va_get (D := G) (ci := 6) (v := .int 0) (C := RX6) (T := TX6) (N := 8) hx hb hw0 inA_wsX60 hown hK.1 hP 1 rfl rfl 5 (by decide) (hw0 _ m_224) (fun _ h9 => h9) rfl dX9_days_33 ?_
      refine lv_iload_n hx hb dX9_days_36 rfl (lv_at hl 1 rfl) ?_
      refine lv_iadd hx hb dX9_days_37 ?_
      refine lv_topi (fun v_4 ev_4 => ?_)
      obtain rfl : a1 = v_4 := (ev_4.trans (Int32.zero_add _)).symm
      refine va_put (D := G) (ci := 6) (v := .int a1) (ty := .int) (C := RX6) (T := TX6) (N := 8) hx hb hw0 inA_wsX60 tyX6 tyX6_ok nmX6 hown hK.1 hP hD hS 1 rfl rfl 5 (by decide) (hw0 _ m_224) (fun _ h9 => h9) rfl (by decide +kernel) rfl rfl (Nat.le_of_ble_eq_true rfl) dX9_days_38 (fun H locs hP hD hS => ?_)
      have hP : va_P G vwCl [(ob, .inr (9, [.ref tp, .int 0, .ref rd, .ref sa, .ref im, .ref sl, .ref ro, .ref wy, .ref od, .ref ok])), (sa, .inr (6, [.ref tw, .ref co, .ref de, .ref dd, .ref kn, .int a1, .int 0, .ref fo])), (ro, .inr (4, [ro_0, ro_1, ro_2, ro_3, ro_4, ro_5, ro_6, ro_7, ro_8, ro_9, ro_10, ro_11, ro_12, ro_13, ro_14, ro_15, ro_16])), (wy, .inr (8, [wy_0, wy_1, wy_2, wy_3, wy_4, wy_5, wy_6, wy_7, wy_8, wy_9, wy_10]))] H := hP
      have hD : va_D A [(ob, .inr (9, [.ref tp, .int 0, .ref rd, .ref sa, .ref im, .ref sl, .ref ro, .ref wy, .ref od, .ref ok])), (sa, .inr (6, [.ref tw, .ref co, .ref de, .ref dd, .ref kn, .int a1, .int 0, .ref fo])), (ro, .inr (4, [ro_0, ro_1, ro_2, ro_3, ro_4, ro_5, ro_6, ro_7, ro_8, ro_9, ro_10, ro_11, ro_12, ro_13, ro_14, ro_15, ro_16])), (wy, .inr (8, [wy_0, wy_1, wy_2, wy_3, wy_4, wy_5, wy_6, wy_7, wy_8, wy_9, wy_10]))] := hD
      refine lv_aload_n hx hb dX9_days_41 rfl (lv_at hl 0 rfl) ?_
      refine cVv (As := []) (rest := []) ⟨hx, hb, hml, hown, hw0⟩ hA hK hP hD hS [0, 2, 3] [1] [(ob, .inr (9, [.ref tp, .int 0, .ref rd, .ref sa, .ref im, .ref sl, .ref ro, .ref wy, .ref od, .ref ok])), (ro, .inr (4, [ro_0, ro_1, ro_2, ro_3, ro_4, ro_5, ro_6, ro_7, ro_8, ro_9, ro_10, ro_11, ro_12, ro_13, ro_14, ro_15, ro_16])), (wy, .inr (8, [wy_0, wy_1, wy_2, wy_3, wy_4, wy_5, wy_6, wy_7, wy_8, wy_9, wy_10]))] [(sa, .inr (6, [.ref tw, .ref co, .ref de, .ref dd, .ref kn, .int a1, .int 0, .ref fo]))] rfl rfl (by decide) (by decide) (by decide) (kX9_forget l G y _ ob tp rd sa im sl ro wy od ok (ro_0) (ro_1) (ro_2) (ro_3) (ro_4) (ro_5) (ro_6) (ro_7) (ro_8) (ro_9) (ro_10) (ro_11) (ro_12) (ro_13) (ro_14) (ro_15) (ro_16) (wy_0) (wy_1) (wy_2) (wy_3) (wy_4) (wy_5) (wy_6) (wy_7) (wy_8) (wy_9) (wy_10) ) ⟨(callB_of 0 hw0 (gA m_223) rfl rfl rfl (hw0 _ m_183) (hw0 _ m_225) (by decide +kernel) ⟨Nat.le_of_ble_eq_true rfl, Nat.le_of_ble_eq_true rfl⟩), (hw0 _ m_226), (hw0 _ m_227)⟩ (ci := 9) (q := (RX9, TX9, 10)) rfl rfl rfl hl.1 (Nat.le_of_ble_eq_true rfl) dX9_days_42 ⟨Nat.le_of_ble_eq_true rfl, Nat.le_of_ble_eq_true rfl⟩ (fun w_5 H locs hw_5 hP hD hS => ?_)
      obtain rfl := hw_5
      have hP : va_P G vwCl [(sa, .inr (6, [.ref tw, .ref co, .ref de, .ref dd, .ref kn, .int a1, .int 0, .ref fo])), (ob, .inr (9, [.ref tp, .int 0, .ref rd, .ref sa, .ref im, .ref sl, .ref ro, .ref wy, .ref od, .ref ok])), (ro, .inr (4, [.int 0, ro_1, ro_2, ro_3, ro_4, ro_5, ro_6, ro_7, ro_8, ro_9, ro_10, ro_11, ro_12, ro_13, ro_14, ro_15, ro_16])), (wy, .inr (8, [.int 0, wy_1, wy_2, wy_3, wy_4, wy_5, wy_6, wy_7, wy_8, wy_9, wy_10]))] H := hP
      have hD : va_D A [(sa, .inr (6, [.ref tw, .ref co, .ref de, .ref dd, .ref kn, .int a1, .int 0, .ref fo])), (ob, .inr (9, [.ref tp, .int 0, .ref rd, .ref sa, .ref im, .ref sl, .ref ro, .ref wy, .ref od, .ref ok])), (ro, .inr (4, [.int 0, ro_1, ro_2, ro_3, ro_4, ro_5, ro_6, ro_7, ro_8, ro_9, ro_10, ro_11, ro_12, ro_13, ro_14, ro_15, ro_16])), (wy, .inr (8, [.int 0, wy_1, wy_2, wy_3, wy_4, wy_5, wy_6, wy_7, wy_8, wy_9, wy_10]))] := hD
      refine lv_aload_n hx hb dX9_days_45 rfl (lv_at hl 0 rfl) ?_
      refine va_get (D := G) (ci := 9) (v := .ref sa) (C := RX9) (T := TX9) (N := 10) hx hb hw0 inA_wsX90 hown hK.1 hP 1 rfl rfl 3 (by decide) (hw0 _ m_110) (fun _ h9 => h9) rfl dX9_days_46 ?_
      refine va_get (D := G) (ci := 6) (v := .int a1) (C := RX6) (T := TX6) (N := 8) hx hb hw0 inA_wsX60 hown hK.1 hP 0 rfl rfl 5 (by decide) (hw0 _ m_224) (fun _ h9 => h9) rfl dX9_days_49 ?_
      refine W.widen (k := 0) (n := 0) (Nat.le_of_ble_eq_true rfl) (Nat.le_of_ble_eq_true rfl) ?_
      exact W.iret (v := a1) hx hb hr (fun t ht hW => ⟨⟨a1, _, rfl, (by first | rfl | decide | (simp only [sp_days]; (repeat' split) <;> first | rfl | (exfalso; omega))), by rw [ht]; exact hP, hD⟩, hS.F ht⟩) hS.2.2 dX9_days_52

set_option maxHeartbeats 4000000 in
set_option maxRecDepth 100000 in
theorem kX9_beside (l : Launch) (G : va_G) (y : Nat → ClassId) (sz : Nat) (ob : Nat) (a1 : Int32) (tp : Nat) (rd : Nat) (sa : Nat) (im : Nat) (sl : Nat) (ro : Nat) (wy : Nat) (od : Nat) (ok : Nat)  : Met l yX9_beside (Cond.code yX9_beside cX9_beside 3 (some .int) :: wAll) ({ frames := 1, cells := 0, slots := 0, locals := 20 }) (va_Pc [.ref ob, .int a1] (kp G y sz [(ob, .inr (9, [.ref tp, .int 0, .ref rd, .ref sa, .ref im, .ref sl, .ref ro, .ref wy, .ref od, .ref ok])), (im, .inl (y 5, 3, .inr (.inr (.inr (.inr (fun _ => none))))))])) (va_Qi (fun (r : Int32) (_ : va_W) => r = sp_image a1) (kq G (va_A [(ob, .inr (9, [.ref tp, .int 0, .ref rd, .ref sa, .ref im, .ref sl, .ref ro, .ref wy, .ref od, .ref ok])), (im, .inl (y 5, 3, .inr (.inr (.inr (.inr (fun _ => none))))))] sz)) (va_A [(ob, .inr (9, [.ref tp, .int 0, .ref rd, .ref sa, .ref im, .ref sl, .ref ro, .ref wy, .ref od, .ref ok])), (im, .inl (y 5, 3, .inr (.inr (.inr (.inr (fun _ => none))))))] sz)) 0 0 (va_A [(ob, .inr (9, [.ref tp, .int 0, .ref rd, .ref sa, .ref im, .ref sl, .ref ro, .ref wy, .ref od, .ref ok])), (im, .inl (y 5, 3, .inr (.inr (.inr (.inr (fun _ => none))))))] sz) := by
  refine Met.ofW (cc := cX9_beside) (maxL := 3) (ret := (some .int)) (by decide) rfl ?_
  intro p e s m args below meth c s₁ B hml hv
  obtain ⟨rfl, hsz, hP, hK, hD0⟩ := hv
  have hx := B.exec
  have hb := B.bytes
  have hr := B.returns
  have hw0 : ∀ w ∈ wAll, w.before _ s = true := fun w h => atoms_spec (ws := Cond.code yX9_beside cX9_beside 3 (some .int) :: wAll) B.pre w (List.mem_cons_of_mem _ h)
  have hown : s.vm.findClass RX9 = some m.cls := findClass_of_methodNamed B.named
  have hlocks := B.notSynchronized
  subst hsz
  have hD := hD0.self (sz := s.heap.size)
  generalize hAe : va_A [(ob, .inr (9, [.ref tp, .int 0, .ref rd, .ref sa, .ref im, .ref sl, .ref ro, .ref wy, .ref od, .ref ok])), (im, .inl (y 5, 3, .inr (.inr (.inr (.inr (fun _ => none))))))] s.heap.size = A at hD ⊢
  have hA : ∀ q : Nat, s.heap.size ≤ q → A q := fun q h => by rw [← hAe]; exact Or.inr h
  have hS : va_S A s.heap s.heap [] := va_S.rf
  have hP : va_P G vwCl [(ob, .inr (9, [.ref tp, .int 0, .ref rd, .ref sa, .ref im, .ref sl, .ref ro, .ref wy, .ref od, .ref ok])), (im, .inl (y 5, 3, .inr (.inr (.inr (.inr (fun _ => none))))))] s.heap := hP
  have hl := lv_entry ([.ref ob, .int a1]) (n := 3) (Nat.le_of_ble_eq_true rfl)
  rw [lg_entry_eq]
  generalize (lg_sl ([.ref ob, .int a1]) ++ List.replicate (3 - (lg_sl ([.ref ob, .int a1])).length) Slot.unset).toArray = ls at hl ⊢
  have hl : lv_has ls 3 [(0, .ref ob), (1, .int a1)] := hl
  rcases im_cases a1 with rfl | rfl | rfl | t_a1
  · have hl : lv_has ls 3 [(0, .ref ob), (1, .int 0)] := hl
    refine lv_iload_n hx hb dX9_beside_0 rfl (lv_at hl 1 rfl) ?_
    refine cSi (As := [.int 0]) (rest := []) ⟨hx, hb, hml, hown, hw0⟩ hA hK hP hD hS [] [0, 1] [] [(ob, .inr (9, [.ref tp, .int 0, .ref rd, .ref sa, .ref im, .ref sl, .ref ro, .ref wy, .ref od, .ref ok])), (im, .inl (y 5, 3, .inr (.inr (.inr (.inr (fun _ => none))))))] rfl rfl (by decide) (by decide) (by decide) (kX9_isImage l G y _ 0 ) ⟨(callB_of 1 hw0 (gA m_163) rfl rfl rfl (hw0 _ m_183) (hw0 _ m_229) (by decide +kernel) ⟨Nat.le_of_ble_eq_true rfl, Nat.le_of_ble_eq_true rfl⟩), (hw0 _ m_230)⟩ rfl hl.1 (Nat.le_of_ble_eq_true rfl) dX9_beside_1 ⟨Nat.le_of_ble_eq_true rfl, Nat.le_of_ble_eq_true rfl⟩ (fun r_1 w_1 H locs hw_1 hP hD hS => ?_)
    rcases hw_1 with ⟨c_2, rfl, rfl⟩ | ⟨c_3, rfl, rfl⟩
    · skip
      have hP : va_P G vwCl [(ob, .inr (9, [.ref tp, .int 0, .ref rd, .ref sa, .ref im, .ref sl, .ref ro, .ref wy, .ref od, .ref ok])), (im, .inl (y 5, 3, .inr (.inr (.inr (.inr (fun _ => none))))))] H := hP
      have hD : va_D A [(ob, .inr (9, [.ref tp, .int 0, .ref rd, .ref sa, .ref im, .ref sl, .ref ro, .ref wy, .ref od, .ref ok])), (im, .inl (y 5, 3, .inr (.inr (.inr (.inr (fun _ => none))))))] := hD
      refine lv_if_ne (tgt := 10) hx hb dX9_beside_4 (by decide) (fun _ => ?_) (fun c9 => absurd c9 (by decide))
      refine lv_aload_n hx hb dX9_beside_10 rfl (lv_at hl 0 rfl) ?_
      refine va_get (D := G) (ci := 9) (v := .ref im) (C := RX9) (T := TX9) (N := 10) hx hb hw0 inA_wsX90 hown hK.1 hP 0 rfl rfl 4 (by decide) (hw0 _ m_111) (fun _ h9 => h9) rfl dX9_beside_11 ?_
      refine lv_iload_n hx hb dX9_beside_14 rfl (lv_at hl 1 rfl) ?_
      refine va_aldq hx hb hK.1 hP 1 5 rfl rfl (vp_in_nI (n := 0) (N := 3) (by decide) (by decide)) dX9_beside_15 ?_
      refine W.eq (g2 := F0 m 16 ls [.null]) rfl ?_
      refine lv_astore_nN (lv' := [(2, .null), (0, .ref ob), (1, .int 0)]) hx hb dX9_beside_16 rfl hl (by decide) rfl (fun ls hl => ?_)
      refine lv_aload_nN hx hb dX9_beside_17 rfl (lv_at hl 0 rfl) ?_
      refine lv_ifnonnullN hx hb dX9_beside_18 ?_
      refine lv_bipush (v := (-6)) hx hb dX9_beside_21 (by decide) ?_
      refine W.widen (k := 0) (n := 0) (Nat.le_of_ble_eq_true rfl) (Nat.le_of_ble_eq_true rfl) ?_
      exact W.iret (v := (-6)) hx hb hr (fun t ht hW => ⟨⟨(-6), _, rfl, (by first | rfl | decide | (simp only [sp_image]; (repeat' split) <;> first | rfl | (exfalso; omega))), by rw [ht]; exact hP, hD⟩, hS.F ht⟩) hS.2.2 dX9_beside_23
    · skip
      exact absurd c_3 (by decide)
  · have hl : lv_has ls 3 [(0, .ref ob), (1, .int 1)] := hl
    refine lv_iload_n hx hb dX9_beside_0 rfl (lv_at hl 1 rfl) ?_
    refine cSi (As := [.int 1]) (rest := []) ⟨hx, hb, hml, hown, hw0⟩ hA hK hP hD hS [] [0, 1] [] [(ob, .inr (9, [.ref tp, .int 0, .ref rd, .ref sa, .ref im, .ref sl, .ref ro, .ref wy, .ref od, .ref ok])), (im, .inl (y 5, 3, .inr (.inr (.inr (.inr (fun _ => none))))))] rfl rfl (by decide) (by decide) (by decide) (kX9_isImage l G y _ 1 ) ⟨(callB_of 1 hw0 (gA m_163) rfl rfl rfl (hw0 _ m_183) (hw0 _ m_229) (by decide +kernel) ⟨Nat.le_of_ble_eq_true rfl, Nat.le_of_ble_eq_true rfl⟩), (hw0 _ m_230)⟩ rfl hl.1 (Nat.le_of_ble_eq_true rfl) dX9_beside_1 ⟨Nat.le_of_ble_eq_true rfl, Nat.le_of_ble_eq_true rfl⟩ (fun r_4 w_4 H locs hw_4 hP hD hS => ?_)
    rcases hw_4 with ⟨c_5, rfl, rfl⟩ | ⟨c_6, rfl, rfl⟩
    · skip
      have hP : va_P G vwCl [(ob, .inr (9, [.ref tp, .int 0, .ref rd, .ref sa, .ref im, .ref sl, .ref ro, .ref wy, .ref od, .ref ok])), (im, .inl (y 5, 3, .inr (.inr (.inr (.inr (fun _ => none))))))] H := hP
      have hD : va_D A [(ob, .inr (9, [.ref tp, .int 0, .ref rd, .ref sa, .ref im, .ref sl, .ref ro, .ref wy, .ref od, .ref ok])), (im, .inl (y 5, 3, .inr (.inr (.inr (.inr (fun _ => none))))))] := hD
      refine lv_if_ne (tgt := 10) hx hb dX9_beside_4 (by decide) (fun _ => ?_) (fun c9 => absurd c9 (by decide))
      refine lv_aload_n hx hb dX9_beside_10 rfl (lv_at hl 0 rfl) ?_
      refine va_get (D := G) (ci := 9) (v := .ref im) (C := RX9) (T := TX9) (N := 10) hx hb hw0 inA_wsX90 hown hK.1 hP 0 rfl rfl 4 (by decide) (hw0 _ m_111) (fun _ h9 => h9) rfl dX9_beside_11 ?_
      refine lv_iload_n hx hb dX9_beside_14 rfl (lv_at hl 1 rfl) ?_
      refine va_aldq hx hb hK.1 hP 1 5 rfl rfl (vp_in_nI (n := 1) (N := 3) (by decide) (by decide)) dX9_beside_15 ?_
      refine W.eq (g2 := F0 m 16 ls [.null]) rfl ?_
      refine lv_astore_nN (lv' := [(2, .null), (0, .ref ob), (1, .int 1)]) hx hb dX9_beside_16 rfl hl (by decide) rfl (fun ls hl => ?_)
      refine lv_aload_nN hx hb dX9_beside_17 rfl (lv_at hl 0 rfl) ?_
      refine lv_ifnonnullN hx hb dX9_beside_18 ?_
      refine lv_bipush (v := (-6)) hx hb dX9_beside_21 (by decide) ?_
      refine W.widen (k := 0) (n := 0) (Nat.le_of_ble_eq_true rfl) (Nat.le_of_ble_eq_true rfl) ?_
      exact W.iret (v := (-6)) hx hb hr (fun t ht hW => ⟨⟨(-6), _, rfl, (by first | rfl | decide | (simp only [sp_image]; (repeat' split) <;> first | rfl | (exfalso; omega))), by rw [ht]; exact hP, hD⟩, hS.F ht⟩) hS.2.2 dX9_beside_23
    · skip
      exact absurd c_6 (by decide)
  · have hl : lv_has ls 3 [(0, .ref ob), (1, .int 2)] := hl
    refine lv_iload_n hx hb dX9_beside_0 rfl (lv_at hl 1 rfl) ?_
    refine cSi (As := [.int 2]) (rest := []) ⟨hx, hb, hml, hown, hw0⟩ hA hK hP hD hS [] [0, 1] [] [(ob, .inr (9, [.ref tp, .int 0, .ref rd, .ref sa, .ref im, .ref sl, .ref ro, .ref wy, .ref od, .ref ok])), (im, .inl (y 5, 3, .inr (.inr (.inr (.inr (fun _ => none))))))] rfl rfl (by decide) (by decide) (by decide) (kX9_isImage l G y _ 2 ) ⟨(callB_of 1 hw0 (gA m_163) rfl rfl rfl (hw0 _ m_183) (hw0 _ m_229) (by decide +kernel) ⟨Nat.le_of_ble_eq_true rfl, Nat.le_of_ble_eq_true rfl⟩), (hw0 _ m_230)⟩ rfl hl.1 (Nat.le_of_ble_eq_true rfl) dX9_beside_1 ⟨Nat.le_of_ble_eq_true rfl, Nat.le_of_ble_eq_true rfl⟩ (fun r_7 w_7 H locs hw_7 hP hD hS => ?_)
    rcases hw_7 with ⟨c_8, rfl, rfl⟩ | ⟨c_9, rfl, rfl⟩
    · skip
      have hP : va_P G vwCl [(ob, .inr (9, [.ref tp, .int 0, .ref rd, .ref sa, .ref im, .ref sl, .ref ro, .ref wy, .ref od, .ref ok])), (im, .inl (y 5, 3, .inr (.inr (.inr (.inr (fun _ => none))))))] H := hP
      have hD : va_D A [(ob, .inr (9, [.ref tp, .int 0, .ref rd, .ref sa, .ref im, .ref sl, .ref ro, .ref wy, .ref od, .ref ok])), (im, .inl (y 5, 3, .inr (.inr (.inr (.inr (fun _ => none))))))] := hD
      refine lv_if_ne (tgt := 10) hx hb dX9_beside_4 (by decide) (fun _ => ?_) (fun c9 => absurd c9 (by decide))
      refine lv_aload_n hx hb dX9_beside_10 rfl (lv_at hl 0 rfl) ?_
      refine va_get (D := G) (ci := 9) (v := .ref im) (C := RX9) (T := TX9) (N := 10) hx hb hw0 inA_wsX90 hown hK.1 hP 0 rfl rfl 4 (by decide) (hw0 _ m_111) (fun _ h9 => h9) rfl dX9_beside_11 ?_
      refine lv_iload_n hx hb dX9_beside_14 rfl (lv_at hl 1 rfl) ?_
      refine va_aldq hx hb hK.1 hP 1 5 rfl rfl (vp_in_nI (n := 2) (N := 3) (by decide) (by decide)) dX9_beside_15 ?_
      refine W.eq (g2 := F0 m 16 ls [.null]) rfl ?_
      refine lv_astore_nN (lv' := [(2, .null), (0, .ref ob), (1, .int 2)]) hx hb dX9_beside_16 rfl hl (by decide) rfl (fun ls hl => ?_)
      refine lv_aload_nN hx hb dX9_beside_17 rfl (lv_at hl 0 rfl) ?_
      refine lv_ifnonnullN hx hb dX9_beside_18 ?_
      refine lv_bipush (v := (-6)) hx hb dX9_beside_21 (by decide) ?_
      refine W.widen (k := 0) (n := 0) (Nat.le_of_ble_eq_true rfl) (Nat.le_of_ble_eq_true rfl) ?_
      exact W.iret (v := (-6)) hx hb hr (fun t ht hW => ⟨⟨(-6), _, rfl, (by first | rfl | decide | (simp only [sp_image]; (repeat' split) <;> first | rfl | (exfalso; omega))), by rw [ht]; exact hP, hD⟩, hS.F ht⟩) hS.2.2 dX9_beside_23
    · skip
      exact absurd c_9 (by decide)
  · have hl : lv_has ls 3 [(0, .ref ob), (1, .int a1)] := hl
    refine lv_iload_n hx hb dX9_beside_0 rfl (lv_at hl 1 rfl) ?_
    refine cSi (As := [.int a1]) (rest := []) ⟨hx, hb, hml, hown, hw0⟩ hA hK hP hD hS [] [0, 1] [] [(ob, .inr (9, [.ref tp, .int 0, .ref rd, .ref sa, .ref im, .ref sl, .ref ro, .ref wy, .ref od, .ref ok])), (im, .inl (y 5, 3, .inr (.inr (.inr (.inr (fun _ => none))))))] rfl rfl (by decide) (by decide) (by decide) (kX9_isImage l G y _ a1 ) ⟨(callB_of 1 hw0 (gA m_163) rfl rfl rfl (hw0 _ m_183) (hw0 _ m_229) (by decide +kernel) ⟨Nat.le_of_ble_eq_true rfl, Nat.le_of_ble_eq_true rfl⟩), (hw0 _ m_230)⟩ rfl hl.1 (Nat.le_of_ble_eq_true rfl) dX9_beside_1 ⟨Nat.le_of_ble_eq_true rfl, Nat.le_of_ble_eq_true rfl⟩ (fun r_10 w_10 H locs hw_10 hP hD hS => ?_)
    rcases hw_10 with ⟨c_11, rfl, rfl⟩ | ⟨c_12, rfl, rfl⟩
    · skip
      exfalso; omega
    · skip
      have hP : va_P G vwCl [(ob, .inr (9, [.ref tp, .int 0, .ref rd, .ref sa, .ref im, .ref sl, .ref ro, .ref wy, .ref od, .ref ok])), (im, .inl (y 5, 3, .inr (.inr (.inr (.inr (fun _ => none))))))] H := hP
      have hD : va_D A [(ob, .inr (9, [.ref tp, .int 0, .ref rd, .ref sa, .ref im, .ref sl, .ref ro, .ref wy, .ref od, .ref ok])), (im, .inl (y 5, 3, .inr (.inr (.inr (.inr (fun _ => none))))))] := hD
      refine lv_if_ne (tgt := 10) hx hb dX9_beside_4 (by decide) (fun c9 => absurd (by decide) c9) (fun _ => ?_)
      refine lv_bipush (v := (-2)) hx hb dX9_beside_7 (by decide) ?_
      refine W.widen (k := 0) (n := 0) (Nat.le_of_ble_eq_true rfl) (Nat.le_of_ble_eq_true rfl) ?_
      exact W.iret (v := (-2)) hx hb hr (fun t ht hW => ⟨⟨(-2), _, rfl, (by first | rfl | decide | (simp only [sp_image]; (repeat' split) <;> first | rfl | (exfalso; omega))), by rw [ht]; exact hP, hD⟩, hS.F ht⟩) hS.2.2 dX9_beside_9

set_option maxHeartbeats 4000000 in
set_option maxRecDepth 100000 in
theorem kX9_back (l : Launch) (G : va_G) (y : Nat → ClassId) (sz : Nat) (ob : Nat) (a1 : Int32) (tp : Nat) (rd : Nat) (sa : Nat) (im : Nat) (sl : Nat) (ro : Nat) (wy : Nat) (od : Nat) (ok : Nat)  : Met l yX9_back (Cond.code yX9_back cX9_back 3 (some .int) :: wAll) ({ frames := 1, cells := 0, slots := 0, locals := 20 }) (va_Pc [.ref ob, .int a1] (kp G y sz [(ob, .inr (9, [.ref tp, .int 0, .ref rd, .ref sa, .ref im, .ref sl, .ref ro, .ref wy, .ref od, .ref ok])), (im, .inl (y 5, 3, .inr (.inr (.inr (.inr (fun _ => none))))))])) (va_Qi (fun (r : Int32) (_ : va_W) => r = sp_image a1) (kq G (va_A [(ob, .inr (9, [.ref tp, .int 0, .ref rd, .ref sa, .ref im, .ref sl, .ref ro, .ref wy, .ref od, .ref ok])), (im, .inl (y 5, 3, .inr (.inr (.inr (.inr (fun _ => none))))))] sz)) (va_A [(ob, .inr (9, [.ref tp, .int 0, .ref rd, .ref sa, .ref im, .ref sl, .ref ro, .ref wy, .ref od, .ref ok])), (im, .inl (y 5, 3, .inr (.inr (.inr (.inr (fun _ => none))))))] sz)) 0 0 (va_A [(ob, .inr (9, [.ref tp, .int 0, .ref rd, .ref sa, .ref im, .ref sl, .ref ro, .ref wy, .ref od, .ref ok])), (im, .inl (y 5, 3, .inr (.inr (.inr (.inr (fun _ => none))))))] sz) := by
  refine Met.ofW (cc := cX9_back) (maxL := 3) (ret := (some .int)) (by decide) rfl ?_
  intro p e s m args below meth c s₁ B hml hv
  obtain ⟨rfl, hsz, hP, hK, hD0⟩ := hv
  have hx := B.exec
  have hb := B.bytes
  have hr := B.returns
  have hw0 : ∀ w ∈ wAll, w.before _ s = true := fun w h => atoms_spec (ws := Cond.code yX9_back cX9_back 3 (some .int) :: wAll) B.pre w (List.mem_cons_of_mem _ h)
  have hown : s.vm.findClass RX9 = some m.cls := findClass_of_methodNamed B.named
  have hlocks := B.notSynchronized
  subst hsz
  have hD := hD0.self (sz := s.heap.size)
  generalize hAe : va_A [(ob, .inr (9, [.ref tp, .int 0, .ref rd, .ref sa, .ref im, .ref sl, .ref ro, .ref wy, .ref od, .ref ok])), (im, .inl (y 5, 3, .inr (.inr (.inr (.inr (fun _ => none))))))] s.heap.size = A at hD ⊢
  have hA : ∀ q : Nat, s.heap.size ≤ q → A q := fun q h => by rw [← hAe]; exact Or.inr h
  have hS : va_S A s.heap s.heap [] := va_S.rf
  have hP : va_P G vwCl [(ob, .inr (9, [.ref tp, .int 0, .ref rd, .ref sa, .ref im, .ref sl, .ref ro, .ref wy, .ref od, .ref ok])), (im, .inl (y 5, 3, .inr (.inr (.inr (.inr (fun _ => none))))))] s.heap := hP
  have hl := lv_entry ([.ref ob, .int a1]) (n := 3) (Nat.le_of_ble_eq_true rfl)
  rw [lg_entry_eq]
  generalize (lg_sl ([.ref ob, .int a1]) ++ List.replicate (3 - (lg_sl ([.ref ob, .int a1])).length) Slot.unset).toArray = ls at hl ⊢
  have hl : lv_has ls 3 [(0, .ref ob), (1, .int a1)] := hl
  rcases im_cases a1 with rfl | rfl | rfl | t_a1
  · have hl : lv_has ls 3 [(0, .ref ob), (1, .int 0)] := hl
    refine lv_iload_n hx hb dX9_back_0 rfl (lv_at hl 1 rfl) ?_
    refine cSi (As := [.int 0]) (rest := []) ⟨hx, hb, hml, hown, hw0⟩ hA hK hP hD hS [] [0, 1] [] [(ob, .inr (9, [.ref tp, .int 0, .ref rd, .ref sa, .ref im, .ref sl, .ref ro, .ref wy, .ref od, .ref ok])), (im, .inl (y 5, 3, .inr (.inr (.inr (.inr (fun _ => none))))))] rfl rfl (by decide) (by decide) (by decide) (kX9_isImage l G y _ 0 ) ⟨(callB_of 1 hw0 (gA m_163) rfl rfl rfl (hw0 _ m_183) (hw0 _ m_229) (by decide +kernel) ⟨Nat.le_of_ble_eq_true rfl, Nat.le_of_ble_eq_true rfl⟩), (hw0 _ m_230)⟩ rfl hl.1 (Nat.le_of_ble_eq_true rfl) dX9_back_1 ⟨Nat.le_of_ble_eq_true rfl, Nat.le_of_ble_eq_true rfl⟩ (fun r_1 w_1 H locs hw_1 hP hD hS => ?_)
    rcases hw_1 with ⟨c_2, rfl, rfl⟩ | ⟨c_3, rfl, rfl⟩
    · skip
      have hP : va_P G vwCl [(ob, .inr (9, [.ref tp, .int 0, .ref rd, .ref sa, .ref im, .ref sl, .ref ro, .ref wy, .ref od, .ref ok])), (im, .inl (y 5, 3, .inr (.inr (.inr (.inr (fun _ => none))))))] H := hP
      have hD : va_D A [(ob, .inr (9, [.ref tp, .int 0, .ref rd, .ref sa, .ref im, .ref sl, .ref ro, .ref wy, .ref od, .ref ok])), (im, .inl (y 5, 3, .inr (.inr (.inr (.inr (fun _ => none))))))] := hD
      refine lv_if_ne (tgt := 10) hx hb dX9_back_4 (by decide) (fun _ => ?_) (fun c9 => absurd c9 (by decide))
      refine lv_aload_n hx hb dX9_back_10 rfl (lv_at hl 0 rfl) ?_
      refine va_get (D := G) (ci := 9) (v := .ref im) (C := RX9) (T := TX9) (N := 10) hx hb hw0 inA_wsX90 hown hK.1 hP 0 rfl rfl 4 (by decide) (hw0 _ m_111) (fun _ h9 => h9) rfl dX9_back_11 ?_
      refine lv_iload_n hx hb dX9_back_14 rfl (lv_at hl 1 rfl) ?_
      refine va_aldq hx hb hK.1 hP 1 5 rfl rfl (vp_in_nI (n := 0) (N := 3) (by decide) (by decide)) dX9_back_15 ?_
      refine W.eq (g2 := F0 m 16 ls [.null]) rfl ?_
      refine lv_astore_nN (lv' := [(2, .null), (0, .ref ob), (1, .int 0)]) hx hb dX9_back_16 rfl hl (by decide) rfl (fun ls hl => ?_)
      refine lv_aload_nN hx hb dX9_back_17 rfl (lv_at hl 0 rfl) ?_
      refine lv_ifnonnullN hx hb dX9_back_18 ?_
      refine lv_bipush (v := (-6)) hx hb dX9_back_21 (by decide) ?_
      refine W.widen (k := 0) (n := 0) (Nat.le_of_ble_eq_true rfl) (Nat.le_of_ble_eq_true rfl) ?_
      exact W.iret (v := (-6)) hx hb hr (fun t ht hW => ⟨⟨(-6), _, rfl, (by first | rfl | decide | (simp only [sp_image]; (repeat' split) <;> first | rfl | (exfalso; omega))), by rw [ht]; exact hP, hD⟩, hS.F ht⟩) hS.2.2 dX9_back_23
    · skip
      exact absurd c_3 (by decide)
  · have hl : lv_has ls 3 [(0, .ref ob), (1, .int 1)] := hl
    refine lv_iload_n hx hb dX9_back_0 rfl (lv_at hl 1 rfl) ?_
    refine cSi (As := [.int 1]) (rest := []) ⟨hx, hb, hml, hown, hw0⟩ hA hK hP hD hS [] [0, 1] [] [(ob, .inr (9, [.ref tp, .int 0, .ref rd, .ref sa, .ref im, .ref sl, .ref ro, .ref wy, .ref od, .ref ok])), (im, .inl (y 5, 3, .inr (.inr (.inr (.inr (fun _ => none))))))] rfl rfl (by decide) (by decide) (by decide) (kX9_isImage l G y _ 1 ) ⟨(callB_of 1 hw0 (gA m_163) rfl rfl rfl (hw0 _ m_183) (hw0 _ m_229) (by decide +kernel) ⟨Nat.le_of_ble_eq_true rfl, Nat.le_of_ble_eq_true rfl⟩), (hw0 _ m_230)⟩ rfl hl.1 (Nat.le_of_ble_eq_true rfl) dX9_back_1 ⟨Nat.le_of_ble_eq_true rfl, Nat.le_of_ble_eq_true rfl⟩ (fun r_4 w_4 H locs hw_4 hP hD hS => ?_)
    rcases hw_4 with ⟨c_5, rfl, rfl⟩ | ⟨c_6, rfl, rfl⟩
    · skip
      have hP : va_P G vwCl [(ob, .inr (9, [.ref tp, .int 0, .ref rd, .ref sa, .ref im, .ref sl, .ref ro, .ref wy, .ref od, .ref ok])), (im, .inl (y 5, 3, .inr (.inr (.inr (.inr (fun _ => none))))))] H := hP
      have hD : va_D A [(ob, .inr (9, [.ref tp, .int 0, .ref rd, .ref sa, .ref im, .ref sl, .ref ro, .ref wy, .ref od, .ref ok])), (im, .inl (y 5, 3, .inr (.inr (.inr (.inr (fun _ => none))))))] := hD
      refine lv_if_ne (tgt := 10) hx hb dX9_back_4 (by decide) (fun _ => ?_) (fun c9 => absurd c9 (by decide))
      refine lv_aload_n hx hb dX9_back_10 rfl (lv_at hl 0 rfl) ?_
      refine va_get (D := G) (ci := 9) (v := .ref im) (C := RX9) (T := TX9) (N := 10) hx hb hw0 inA_wsX90 hown hK.1 hP 0 rfl rfl 4 (by decide) (hw0 _ m_111) (fun _ h9 => h9) rfl dX9_back_11 ?_
      refine lv_iload_n hx hb dX9_back_14 rfl (lv_at hl 1 rfl) ?_
      refine va_aldq hx hb hK.1 hP 1 5 rfl rfl (vp_in_nI (n := 1) (N := 3) (by decide) (by decide)) dX9_back_15 ?_
      refine W.eq (g2 := F0 m 16 ls [.null]) rfl ?_
      refine lv_astore_nN (lv' := [(2, .null), (0, .ref ob), (1, .int 1)]) hx hb dX9_back_16 rfl hl (by decide) rfl (fun ls hl => ?_)
      refine lv_aload_nN hx hb dX9_back_17 rfl (lv_at hl 0 rfl) ?_
      refine lv_ifnonnullN hx hb dX9_back_18 ?_
      refine lv_bipush (v := (-6)) hx hb dX9_back_21 (by decide) ?_
      refine W.widen (k := 0) (n := 0) (Nat.le_of_ble_eq_true rfl) (Nat.le_of_ble_eq_true rfl) ?_
      exact W.iret (v := (-6)) hx hb hr (fun t ht hW => ⟨⟨(-6), _, rfl, (by first | rfl | decide | (simp only [sp_image]; (repeat' split) <;> first | rfl | (exfalso; omega))), by rw [ht]; exact hP, hD⟩, hS.F ht⟩) hS.2.2 dX9_back_23
    · skip
      exact absurd c_6 (by decide)
  · have hl : lv_has ls 3 [(0, .ref ob), (1, .int 2)] := hl
    refine lv_iload_n hx hb dX9_back_0 rfl (lv_at hl 1 rfl) ?_
    refine cSi (As := [.int 2]) (rest := []) ⟨hx, hb, hml, hown, hw0⟩ hA hK hP hD hS [] [0, 1] [] [(ob, .inr (9, [.ref tp, .int 0, .ref rd, .ref sa, .ref im, .ref sl, .ref ro, .ref wy, .ref od, .ref ok])), (im, .inl (y 5, 3, .inr (.inr (.inr (.inr (fun _ => none))))))] rfl rfl (by decide) (by decide) (by decide) (kX9_isImage l G y _ 2 ) ⟨(callB_of 1 hw0 (gA m_163) rfl rfl rfl (hw0 _ m_183) (hw0 _ m_229) (by decide +kernel) ⟨Nat.le_of_ble_eq_true rfl, Nat.le_of_ble_eq_true rfl⟩), (hw0 _ m_230)⟩ rfl hl.1 (Nat.le_of_ble_eq_true rfl) dX9_back_1 ⟨Nat.le_of_ble_eq_true rfl, Nat.le_of_ble_eq_true rfl⟩ (fun r_7 w_7 H locs hw_7 hP hD hS => ?_)
    rcases hw_7 with ⟨c_8, rfl, rfl⟩ | ⟨c_9, rfl, rfl⟩
    · skip
      have hP : va_P G vwCl [(ob, .inr (9, [.ref tp, .int 0, .ref rd, .ref sa, .ref im, .ref sl, .ref ro, .ref wy, .ref od, .ref ok])), (im, .inl (y 5, 3, .inr (.inr (.inr (.inr (fun _ => none))))))] H := hP
      have hD : va_D A [(ob, .inr (9, [.ref tp, .int 0, .ref rd, .ref sa, .ref im, .ref sl, .ref ro, .ref wy, .ref od, .ref ok])), (im, .inl (y 5, 3, .inr (.inr (.inr (.inr (fun _ => none))))))] := hD
      refine lv_if_ne (tgt := 10) hx hb dX9_back_4 (by decide) (fun _ => ?_) (fun c9 => absurd c9 (by decide))
      refine lv_aload_n hx hb dX9_back_10 rfl (lv_at hl 0 rfl) ?_
      refine va_get (D := G) (ci := 9) (v := .ref im) (C := RX9) (T := TX9) (N := 10) hx hb hw0 inA_wsX90 hown hK.1 hP 0 rfl rfl 4 (by decide) (hw0 _ m_111) (fun _ h9 => h9) rfl dX9_back_11 ?_
      refine lv_iload_n hx hb dX9_back_14 rfl (lv_at hl 1 rfl) ?_
      refine va_aldq hx hb hK.1 hP 1 5 rfl rfl (vp_in_nI (n := 2) (N := 3) (by decide) (by decide)) dX9_back_15 ?_
      refine W.eq (g2 := F0 m 16 ls [.null]) rfl ?_
      refine lv_astore_nN (lv' := [(2, .null), (0, .ref ob), (1, .int 2)]) hx hb dX9_back_16 rfl hl (by decide) rfl (fun ls hl => ?_)
      refine lv_aload_nN hx hb dX9_back_17 rfl (lv_at hl 0 rfl) ?_
      refine lv_ifnonnullN hx hb dX9_back_18 ?_
      refine lv_bipush (v := (-6)) hx hb dX9_back_21 (by decide) ?_
      refine W.widen (k := 0) (n := 0) (Nat.le_of_ble_eq_true rfl) (Nat.le_of_ble_eq_true rfl) ?_
      exact W.iret (v := (-6)) hx hb hr (fun t ht hW => ⟨⟨(-6), _, rfl, (by first | rfl | decide | (simp only [sp_image]; (repeat' split) <;> first | rfl | (exfalso; omega))), by rw [ht]; exact hP, hD⟩, hS.F ht⟩) hS.2.2 dX9_back_23
    · skip
      exact absurd c_9 (by decide)
  · have hl : lv_has ls 3 [(0, .ref ob), (1, .int a1)] := hl
    refine lv_iload_n hx hb dX9_back_0 rfl (lv_at hl 1 rfl) ?_
    refine cSi (As := [.int a1]) (rest := []) ⟨hx, hb, hml, hown, hw0⟩ hA hK hP hD hS [] [0, 1] [] [(ob, .inr (9, [.ref tp, .int 0, .ref rd, .ref sa, .ref im, .ref sl, .ref ro, .ref wy, .ref od, .ref ok])), (im, .inl (y 5, 3, .inr (.inr (.inr (.inr (fun _ => none))))))] rfl rfl (by decide) (by decide) (by decide) (kX9_isImage l G y _ a1 ) ⟨(callB_of 1 hw0 (gA m_163) rfl rfl rfl (hw0 _ m_183) (hw0 _ m_229) (by decide +kernel) ⟨Nat.le_of_ble_eq_true rfl, Nat.le_of_ble_eq_true rfl⟩), (hw0 _ m_230)⟩ rfl hl.1 (Nat.le_of_ble_eq_true rfl) dX9_back_1 ⟨Nat.le_of_ble_eq_true rfl, Nat.le_of_ble_eq_true rfl⟩ (fun r_10 w_10 H locs hw_10 hP hD hS => ?_)
    rcases hw_10 with ⟨c_11, rfl, rfl⟩ | ⟨c_12, rfl, rfl⟩
    · skip
      exfalso; omega
    · skip
      have hP : va_P G vwCl [(ob, .inr (9, [.ref tp, .int 0, .ref rd, .ref sa, .ref im, .ref sl, .ref ro, .ref wy, .ref od, .ref ok])), (im, .inl (y 5, 3, .inr (.inr (.inr (.inr (fun _ => none))))))] H := hP
      have hD : va_D A [(ob, .inr (9, [.ref tp, .int 0, .ref rd, .ref sa, .ref im, .ref sl, .ref ro, .ref wy, .ref od, .ref ok])), (im, .inl (y 5, 3, .inr (.inr (.inr (.inr (fun _ => none))))))] := hD
      refine lv_if_ne (tgt := 10) hx hb dX9_back_4 (by decide) (fun c9 => absurd (by decide) c9) (fun _ => ?_)
      refine lv_bipush (v := (-2)) hx hb dX9_back_7 (by decide) ?_
      refine W.widen (k := 0) (n := 0) (Nat.le_of_ble_eq_true rfl) (Nat.le_of_ble_eq_true rfl) ?_
      exact W.iret (v := (-2)) hx hb hr (fun t ht hW => ⟨⟨(-2), _, rfl, (by first | rfl | decide | (simp only [sp_image]; (repeat' split) <;> first | rfl | (exfalso; omega))), by rw [ht]; exact hP, hD⟩, hS.F ht⟩) hS.2.2 dX9_back_9

set_option maxHeartbeats 4000000 in
set_option maxRecDepth 100000 in
theorem kX9_done (l : Launch) (G : va_G) (y : Nat → ClassId) (sz : Nat) (ob : Nat) (a1 : Int32) (tp : Nat) (rd : Nat) (sa : Nat) (im : Nat) (sl : Nat) (ro : Nat) (wy : Nat) (od : Nat) (ok : Nat) (s0 : Nat) (s1 : Nat) (s2 : Nat) (s3 : Nat) (nu0 : Nat) (nu1 : Nat) (nu2 : Nat) (nu3 : Nat)  : Met l yX9_done (Cond.code yX9_done cX9_done 9 (some .int) :: wAll) ({ frames := 1, cells := 0, slots := 0, locals := 20 }) (va_Pc [.ref ob, .int a1] (kp G y sz [(ob, .inr (9, [.ref tp, .int 0, .ref rd, .ref sa, .ref im, .ref sl, .ref ro, .ref wy, .ref od, .ref ok])), (sl, .inl (y 4, 4, .inr (.inr (.inr (.inr (va_up (va_up (va_up (va_up (fun _ => none) 0 (some s0)) 1 (some s1)) 2 (some s2)) 3 (some s3))))))), (s0, .inr (5, [.int 0, .int 0, .int 0, .ref nu0])), (s1, .inr (5, [.int 0, .int 0, .int 0, .ref nu1])), (s2, .inr (5, [.int 0, .int 0, .int 0, .ref nu2])), (s3, .inr (5, [.int 0, .int 0, .int 0, .ref nu3]))])) (va_Qi (fun (r : Int32) (_ : va_W) => r = sp_slot a1) (kq G (va_A [(ob, .inr (9, [.ref tp, .int 0, .ref rd, .ref sa, .ref im, .ref sl, .ref ro, .ref wy, .ref od, .ref ok])), (sl, .inl (y 4, 4, .inr (.inr (.inr (.inr (va_up (va_up (va_up (va_up (fun _ => none) 0 (some s0)) 1 (some s1)) 2 (some s2)) 3 (some s3))))))), (s0, .inr (5, [.int 0, .int 0, .int 0, .ref nu0])), (s1, .inr (5, [.int 0, .int 0, .int 0, .ref nu1])), (s2, .inr (5, [.int 0, .int 0, .int 0, .ref nu2])), (s3, .inr (5, [.int 0, .int 0, .int 0, .ref nu3]))] sz)) (va_A [(ob, .inr (9, [.ref tp, .int 0, .ref rd, .ref sa, .ref im, .ref sl, .ref ro, .ref wy, .ref od, .ref ok])), (sl, .inl (y 4, 4, .inr (.inr (.inr (.inr (va_up (va_up (va_up (va_up (fun _ => none) 0 (some s0)) 1 (some s1)) 2 (some s2)) 3 (some s3))))))), (s0, .inr (5, [.int 0, .int 0, .int 0, .ref nu0])), (s1, .inr (5, [.int 0, .int 0, .int 0, .ref nu1])), (s2, .inr (5, [.int 0, .int 0, .int 0, .ref nu2])), (s3, .inr (5, [.int 0, .int 0, .int 0, .ref nu3]))] sz)) 0 0 (va_A [(ob, .inr (9, [.ref tp, .int 0, .ref rd, .ref sa, .ref im, .ref sl, .ref ro, .ref wy, .ref od, .ref ok])), (sl, .inl (y 4, 4, .inr (.inr (.inr (.inr (va_up (va_up (va_up (va_up (fun _ => none) 0 (some s0)) 1 (some s1)) 2 (some s2)) 3 (some s3))))))), (s0, .inr (5, [.int 0, .int 0, .int 0, .ref nu0])), (s1, .inr (5, [.int 0, .int 0, .int 0, .ref nu1])), (s2, .inr (5, [.int 0, .int 0, .int 0, .ref nu2])), (s3, .inr (5, [.int 0, .int 0, .int 0, .ref nu3]))] sz) := by
  refine Met.ofW (cc := cX9_done) (maxL := 9) (ret := (some .int)) (by decide) rfl ?_
  intro p e s m args below meth c s₁ B hml hv
  obtain ⟨rfl, hsz, hP, hK, hD0⟩ := hv
  have hx := B.exec
  have hb := B.bytes
  have hr := B.returns
  have hw0 : ∀ w ∈ wAll, w.before _ s = true := fun w h => atoms_spec (ws := Cond.code yX9_done cX9_done 9 (some .int) :: wAll) B.pre w (List.mem_cons_of_mem _ h)
  have hown : s.vm.findClass RX9 = some m.cls := findClass_of_methodNamed B.named
  have hlocks := B.notSynchronized
  subst hsz
  have hD := hD0.self (sz := s.heap.size)
  generalize hAe : va_A [(ob, .inr (9, [.ref tp, .int 0, .ref rd, .ref sa, .ref im, .ref sl, .ref ro, .ref wy, .ref od, .ref ok])), (sl, .inl (y 4, 4, .inr (.inr (.inr (.inr (va_up (va_up (va_up (va_up (fun _ => none) 0 (some s0)) 1 (some s1)) 2 (some s2)) 3 (some s3))))))), (s0, .inr (5, [.int 0, .int 0, .int 0, .ref nu0])), (s1, .inr (5, [.int 0, .int 0, .int 0, .ref nu1])), (s2, .inr (5, [.int 0, .int 0, .int 0, .ref nu2])), (s3, .inr (5, [.int 0, .int 0, .int 0, .ref nu3]))] s.heap.size = A at hD ⊢
  have hA : ∀ q : Nat, s.heap.size ≤ q → A q := fun q h => by rw [← hAe]; exact Or.inr h
  have hS : va_S A s.heap s.heap [] := va_S.rf
  have hP : va_P G vwCl [(ob, .inr (9, [.ref tp, .int 0, .ref rd, .ref sa, .ref im, .ref sl, .ref ro, .ref wy, .ref od, .ref ok])), (sl, .inl (y 4, 4, .inr (.inr (.inr (.inr (va_up (va_up (va_up (va_up (fun _ => none) 0 (some s0)) 1 (some s1)) 2 (some s2)) 3 (some s3))))))), (s0, .inr (5, [.int 0, .int 0, .int 0, .ref nu0])), (s1, .inr (5, [.int 0, .int 0, .int 0, .ref nu1])), (s2, .inr (5, [.int 0, .int 0, .int 0, .ref nu2])), (s3, .inr (5, [.int 0, .int 0, .int 0, .ref nu3]))] s.heap := hP
  have hl := lv_entry ([.ref ob, .int a1]) (n := 9) (Nat.le_of_ble_eq_true rfl)
  rw [lg_entry_eq]
  generalize (lg_sl ([.ref ob, .int a1]) ++ List.replicate (9 - (lg_sl ([.ref ob, .int a1])).length) Slot.unset).toArray = ls at hl ⊢
  have hl : lv_has ls 9 [(0, .ref ob), (1, .int a1)] := hl
  rcases sl_cases a1 with rfl | rfl | rfl | rfl | t_a1
  · have hl : lv_has ls 9 [(0, .ref ob), (1, .int 0)] := hl
    refine lv_iload_n hx hb dX9_done_0 rfl (lv_at hl 1 rfl) ?_
    refine cSi (As := [.int 0]) (rest := []) ⟨hx, hb, hml, hown, hw0⟩ hA hK hP hD hS [] [0, 1, 2, 3, 4, 5] [] [(ob, .inr (9, [.ref tp, .int 0, .ref rd, .ref sa, .ref im, .ref sl, .ref ro, .ref wy, .ref od, .ref ok])), (sl, .inl (y 4, 4, .inr (.inr (.inr (.inr (va_up (va_up (va_up (va_up (fun _ => none) 0 (some s0)) 1 (some s1)) 2 (some s2)) 3 (some s3))))))), (s0, .inr (5, [.int 0, .int 0, .int 0, .ref nu0])), (s1, .inr (5, [.int 0, .int 0, .int 0, .ref nu1])), (s2, .inr (5, [.int 0, .int 0, .int 0, .ref nu2])), (s3, .inr (5, [.int 0, .int 0, .int 0, .ref nu3]))] rfl rfl (by decide) (by decide) (by decide) (kX9_isSlot l G y _ 0 ) ⟨(callB_of 1 hw0 (gA m_162) rfl rfl rfl (hw0 _ m_183) (hw0 _ m_200) (by decide +kernel) ⟨Nat.le_of_ble_eq_true rfl, Nat.le_of_ble_eq_true rfl⟩), (hw0 _ m_201)⟩ rfl hl.1 (Nat.le_of_ble_eq_true rfl) dX9_done_1 ⟨Nat.le_of_ble_eq_true rfl, Nat.le_of_ble_eq_true rfl⟩ (fun r_1 w_1 H locs hw_1 hP hD hS => ?_)
    rcases hw_1 with ⟨c_2, rfl, rfl⟩ | ⟨c_3, rfl, rfl⟩
    · skip
      have hP : va_P G vwCl [(ob, .inr (9, [.ref tp, .int 0, .ref rd, .ref sa, .ref im, .ref sl, .ref ro, .ref wy, .ref od, .ref ok])), (sl, .inl (y 4, 4, .inr (.inr (.inr (.inr (va_up (va_up (va_up (va_up (fun _ => none) 0 (some s0)) 1 (some s1)) 2 (some s2)) 3 (some s3))))))), (s0, .inr (5, [.int 0, .int 0, .int 0, .ref nu0])), (s1, .inr (5, [.int 0, .int 0, .int 0, .ref nu1])), (s2, .inr (5, [.int 0, .int 0, .int 0, .ref nu2])), (s3, .inr (5, [.int 0, .int 0, .int 0, .ref nu3]))] H := hP
      have hD : va_D A [(ob, .inr (9, [.ref tp, .int 0, .ref rd, .ref sa, .ref im, .ref sl, .ref ro, .ref wy, .ref od, .ref ok])), (sl, .inl (y 4, 4, .inr (.inr (.inr (.inr (va_up (va_up (va_up (va_up (fun _ => none) 0 (some s0)) 1 (some s1)) 2 (some s2)) 3 (some s3))))))), (s0, .inr (5, [.int 0, .int 0, .int 0, .ref nu0])), (s1, .inr (5, [.int 0, .int 0, .int 0, .ref nu1])), (s2, .inr (5, [.int 0, .int 0, .int 0, .ref nu2])), (s3, .inr (5, [.int 0, .int 0, .int 0, .ref nu3]))] := hD
      refine lv_if_ne (tgt := 10) hx hb dX9_done_4 (by decide) (fun _ => ?_) (fun c9 => absurd c9 (by decide))
      refine lv_aload_n hx hb dX9_done_10 rfl (lv_at hl 0 rfl) ?_
      refine va_get (D := G) (ci := 9) (v := .ref sl) (C := RX9) (T := TX9) (N := 10) hx hb hw0 inA_wsX90 hown hK.1 hP 0 rfl rfl 5 (by decide) (hw0 _ m_113) (fun _ h9 => h9) rfl dX9_done_11 ?_
      refine lv_iload_n hx hb dX9_done_14 rfl (lv_at hl 1 rfl) ?_
      refine va_aldq hx hb hK.1 hP 1 4 rfl rfl (vp_in_nI (n := 0) (N := 4) (by decide) (by decide)) dX9_done_15 ?_
      refine W.eq (g2 := F0 m 16 ls [.ref s0]) rfl ?_
      refine lv_astore_n (lv' := [(2, .ref s0), (0, .ref ob), (1, .int 0)]) hx hb dX9_done_16 rfl hl (by decide) rfl (fun ls hl => ?_)
      refine lv_aload_n hx hb dX9_done_17 rfl (lv_at hl 0 rfl) ?_
      refine va_get (D := G) (ci := 5) (v := .int 0) (C := RX5) (T := TX5) (N := 4) hx hb hw0 inA_wsX50 hown hK.1 hP 2 rfl rfl 0 (by decide) (hw0 _ m_233) (fun _ h9 => h9) rfl dX9_done_18 ?_
      refine lv_if_ne (tgt := 27) hx hb dX9_done_21 (by decide) (fun c9 => absurd (by decide) c9) (fun _ => ?_)
      refine lv_bipush (v := (-6)) hx hb dX9_done_24 (by decide) ?_
      refine W.widen (k := 0) (n := 0) (Nat.le_of_ble_eq_true rfl) (Nat.le_of_ble_eq_true rfl) ?_
      exact W.iret (v := (-6)) hx hb hr (fun t ht hW => ⟨⟨(-6), _, rfl, (by first | rfl | decide | (simp only [sp_slot]; (repeat' split) <;> first | rfl | (exfalso; omega))), by rw [ht]; exact hP, hD⟩, hS.F ht⟩) hS.2.2 dX9_done_26
    · skip
      exact absurd c_3 (by decide)
  · have hl : lv_has ls 9 [(0, .ref ob), (1, .int 1)] := hl
    refine lv_iload_n hx hb dX9_done_0 rfl (lv_at hl 1 rfl) ?_
    refine cSi (As := [.int 1]) (rest := []) ⟨hx, hb, hml, hown, hw0⟩ hA hK hP hD hS [] [0, 1, 2, 3, 4, 5] [] [(ob, .inr (9, [.ref tp, .int 0, .ref rd, .ref sa, .ref im, .ref sl, .ref ro, .ref wy, .ref od, .ref ok])), (sl, .inl (y 4, 4, .inr (.inr (.inr (.inr (va_up (va_up (va_up (va_up (fun _ => none) 0 (some s0)) 1 (some s1)) 2 (some s2)) 3 (some s3))))))), (s0, .inr (5, [.int 0, .int 0, .int 0, .ref nu0])), (s1, .inr (5, [.int 0, .int 0, .int 0, .ref nu1])), (s2, .inr (5, [.int 0, .int 0, .int 0, .ref nu2])), (s3, .inr (5, [.int 0, .int 0, .int 0, .ref nu3]))] rfl rfl (by decide) (by decide) (by decide) (kX9_isSlot l G y _ 1 ) ⟨(callB_of 1 hw0 (gA m_162) rfl rfl rfl (hw0 _ m_183) (hw0 _ m_200) (by decide +kernel) ⟨Nat.le_of_ble_eq_true rfl, Nat.le_of_ble_eq_true rfl⟩), (hw0 _ m_201)⟩ rfl hl.1 (Nat.le_of_ble_eq_true rfl) dX9_done_1 ⟨Nat.le_of_ble_eq_true rfl, Nat.le_of_ble_eq_true rfl⟩ (fun r_4 w_4 H locs hw_4 hP hD hS => ?_)
    rcases hw_4 with ⟨c_5, rfl, rfl⟩ | ⟨c_6, rfl, rfl⟩
    · skip
      have hP : va_P G vwCl [(ob, .inr (9, [.ref tp, .int 0, .ref rd, .ref sa, .ref im, .ref sl, .ref ro, .ref wy, .ref od, .ref ok])), (sl, .inl (y 4, 4, .inr (.inr (.inr (.inr (va_up (va_up (va_up (va_up (fun _ => none) 0 (some s0)) 1 (some s1)) 2 (some s2)) 3 (some s3))))))), (s0, .inr (5, [.int 0, .int 0, .int 0, .ref nu0])), (s1, .inr (5, [.int 0, .int 0, .int 0, .ref nu1])), (s2, .inr (5, [.int 0, .int 0, .int 0, .ref nu2])), (s3, .inr (5, [.int 0, .int 0, .int 0, .ref nu3]))] H := hP
      have hD : va_D A [(ob, .inr (9, [.ref tp, .int 0, .ref rd, .ref sa, .ref im, .ref sl, .ref ro, .ref wy, .ref od, .ref ok])), (sl, .inl (y 4, 4, .inr (.inr (.inr (.inr (va_up (va_up (va_up (va_up (fun _ => none) 0 (some s0)) 1 (some s1)) 2 (some s2)) 3 (some s3))))))), (s0, .inr (5, [.int 0, .int 0, .int 0, .ref nu0])), (s1, .inr (5, [.int 0, .int 0, .int 0, .ref nu1])), (s2, .inr (5, [.int 0, .int 0, .int 0, .ref nu2])), (s3, .inr (5, [.int 0, .int 0, .int 0, .ref nu3]))] := hD
      refine lv_if_ne (tgt := 10) hx hb dX9_done_4 (by decide) (fun _ => ?_) (fun c9 => absurd c9 (by decide))
      refine lv_aload_n hx hb dX9_done_10 rfl (lv_at hl 0 rfl) ?_
      refine va_get (D := G) (ci := 9) (v := .ref sl) (C := RX9) (T := TX9) (N := 10) hx hb hw0 inA_wsX90 hown hK.1 hP 0 rfl rfl 5 (by decide) (hw0 _ m_113) (fun _ h9 => h9) rfl dX9_done_11 ?_
      refine lv_iload_n hx hb dX9_done_14 rfl (lv_at hl 1 rfl) ?_
      refine va_aldq hx hb hK.1 hP 1 4 rfl rfl (vp_in_nI (n := 1) (N := 4) (by decide) (by decide)) dX9_done_15 ?_
      refine W.eq (g2 := F0 m 16 ls [.ref s1]) rfl ?_
      refine lv_astore_n (lv' := [(2, .ref s1), (0, .ref ob), (1, .int 1)]) hx hb dX9_done_16 rfl hl (by decide) rfl (fun ls hl => ?_)
      refine lv_aload_n hx hb dX9_done_17 rfl (lv_at hl 0 rfl) ?_
      refine va_get (D := G) (ci := 5) (v := .int 0) (C := RX5) (T := TX5) (N := 4) hx hb hw0 inA_wsX50 hown hK.1 hP 3 rfl rfl 0 (by decide) (hw0 _ m_233) (fun _ h9 => h9) rfl dX9_done_18 ?_
      refine lv_if_ne (tgt := 27) hx hb dX9_done_21 (by decide) (fun c9 => absurd (by decide) c9) (fun _ => ?_)
      refine lv_bipush (v := (-6)) hx hb dX9_done_24 (by decide) ?_
      refine W.widen (k := 0) (n := 0) (Nat.le_of_ble_eq_true rfl) (Nat.le_of_ble_eq_true rfl) ?_
      exact W.iret (v := (-6)) hx hb hr (fun t ht hW => ⟨⟨(-6), _, rfl, (by first | rfl | decide | (simp only [sp_slot]; (repeat' split) <;> first | rfl | (exfalso; omega))), by rw [ht]; exact hP, hD⟩, hS.F ht⟩) hS.2.2 dX9_done_26
    · skip
      exact absurd c_6 (by decide)
  · have hl : lv_has ls 9 [(0, .ref ob), (1, .int 2)] := hl
    refine lv_iload_n hx hb dX9_done_0 rfl (lv_at hl 1 rfl) ?_
    refine cSi (As := [.int 2]) (rest := []) ⟨hx, hb, hml, hown, hw0⟩ hA hK hP hD hS [] [0, 1, 2, 3, 4, 5] [] [(ob, .inr (9, [.ref tp, .int 0, .ref rd, .ref sa, .ref im, .ref sl, .ref ro, .ref wy, .ref od, .ref ok])), (sl, .inl (y 4, 4, .inr (.inr (.inr (.inr (va_up (va_up (va_up (va_up (fun _ => none) 0 (some s0)) 1 (some s1)) 2 (some s2)) 3 (some s3))))))), (s0, .inr (5, [.int 0, .int 0, .int 0, .ref nu0])), (s1, .inr (5, [.int 0, .int 0, .int 0, .ref nu1])), (s2, .inr (5, [.int 0, .int 0, .int 0, .ref nu2])), (s3, .inr (5, [.int 0, .int 0, .int 0, .ref nu3]))] rfl rfl (by decide) (by decide) (by decide) (kX9_isSlot l G y _ 2 ) ⟨(callB_of 1 hw0 (gA m_162) rfl rfl rfl (hw0 _ m_183) (hw0 _ m_200) (by decide +kernel) ⟨Nat.le_of_ble_eq_true rfl, Nat.le_of_ble_eq_true rfl⟩), (hw0 _ m_201)⟩ rfl hl.1 (Nat.le_of_ble_eq_true rfl) dX9_done_1 ⟨Nat.le_of_ble_eq_true rfl, Nat.le_of_ble_eq_true rfl⟩ (fun r_7 w_7 H locs hw_7 hP hD hS => ?_)
    rcases hw_7 with ⟨c_8, rfl, rfl⟩ | ⟨c_9, rfl, rfl⟩
    · skip
      have hP : va_P G vwCl [(ob, .inr (9, [.ref tp, .int 0, .ref rd, .ref sa, .ref im, .ref sl, .ref ro, .ref wy, .ref od, .ref ok])), (sl, .inl (y 4, 4, .inr (.inr (.inr (.inr (va_up (va_up (va_up (va_up (fun _ => none) 0 (some s0)) 1 (some s1)) 2 (some s2)) 3 (some s3))))))), (s0, .inr (5, [.int 0, .int 0, .int 0, .ref nu0])), (s1, .inr (5, [.int 0, .int 0, .int 0, .ref nu1])), (s2, .inr (5, [.int 0, .int 0, .int 0, .ref nu2])), (s3, .inr (5, [.int 0, .int 0, .int 0, .ref nu3]))] H := hP
      have hD : va_D A [(ob, .inr (9, [.ref tp, .int 0, .ref rd, .ref sa, .ref im, .ref sl, .ref ro, .ref wy, .ref od, .ref ok])), (sl, .inl (y 4, 4, .inr (.inr (.inr (.inr (va_up (va_up (va_up (va_up (fun _ => none) 0 (some s0)) 1 (some s1)) 2 (some s2)) 3 (some s3))))))), (s0, .inr (5, [.int 0, .int 0, .int 0, .ref nu0])), (s1, .inr (5, [.int 0, .int 0, .int 0, .ref nu1])), (s2, .inr (5, [.int 0, .int 0, .int 0, .ref nu2])), (s3, .inr (5, [.int 0, .int 0, .int 0, .ref nu3]))] := hD
      refine lv_if_ne (tgt := 10) hx hb dX9_done_4 (by decide) (fun _ => ?_) (fun c9 => absurd c9 (by decide))
      refine lv_aload_n hx hb dX9_done_10 rfl (lv_at hl 0 rfl) ?_
      refine va_get (D := G) (ci := 9) (v := .ref sl) (C := RX9) (T := TX9) (N := 10) hx hb hw0 inA_wsX90 hown hK.1 hP 0 rfl rfl 5 (by decide) (hw0 _ m_113) (fun _ h9 => h9) rfl dX9_done_11 ?_
      refine lv_iload_n hx hb dX9_done_14 rfl (lv_at hl 1 rfl) ?_
      refine va_aldq hx hb hK.1 hP 1 4 rfl rfl (vp_in_nI (n := 2) (N := 4) (by decide) (by decide)) dX9_done_15 ?_
      refine W.eq (g2 := F0 m 16 ls [.ref s2]) rfl ?_
      refine lv_astore_n (lv' := [(2, .ref s2), (0, .ref ob), (1, .int 2)]) hx hb dX9_done_16 rfl hl (by decide) rfl (fun ls hl => ?_)
      refine lv_aload_n hx hb dX9_done_17 rfl (lv_at hl 0 rfl) ?_
      refine va_get (D := G) (ci := 5) (v := .int 0) (C := RX5) (T := TX5) (N := 4) hx hb hw0 inA_wsX50 hown hK.1 hP 4 rfl rfl 0 (by decide) (hw0 _ m_233) (fun _ h9 => h9) rfl dX9_done_18 ?_
      refine lv_if_ne (tgt := 27) hx hb dX9_done_21 (by decide) (fun c9 => absurd (by decide) c9) (fun _ => ?_)
      refine lv_bipush (v := (-6)) hx hb dX9_done_24 (by decide) ?_
      refine W.widen (k := 0) (n := 0) (Nat.le_of_ble_eq_true rfl) (Nat.le_of_ble_eq_true rfl) ?_
      exact W.iret (v := (-6)) hx hb hr (fun t ht hW => ⟨⟨(-6), _, rfl, (by first | rfl | decide | (simp only [sp_slot]; (repeat' split) <;> first | rfl | (exfalso; omega))), by rw [ht]; exact hP, hD⟩, hS.F ht⟩) hS.2.2 dX9_done_26
    · skip
      exact absurd c_9 (by decide)
  · have hl : lv_has ls 9 [(0, .ref ob), (1, .int 3)] := hl
    refine lv_iload_n hx hb dX9_done_0 rfl (lv_at hl 1 rfl) ?_
    refine cSi (As := [.int 3]) (rest := []) ⟨hx, hb, hml, hown, hw0⟩ hA hK hP hD hS [] [0, 1, 2, 3, 4, 5] [] [(ob, .inr (9, [.ref tp, .int 0, .ref rd, .ref sa, .ref im, .ref sl, .ref ro, .ref wy, .ref od, .ref ok])), (sl, .inl (y 4, 4, .inr (.inr (.inr (.inr (va_up (va_up (va_up (va_up (fun _ => none) 0 (some s0)) 1 (some s1)) 2 (some s2)) 3 (some s3))))))), (s0, .inr (5, [.int 0, .int 0, .int 0, .ref nu0])), (s1, .inr (5, [.int 0, .int 0, .int 0, .ref nu1])), (s2, .inr (5, [.int 0, .int 0, .int 0, .ref nu2])), (s3, .inr (5, [.int 0, .int 0, .int 0, .ref nu3]))] rfl rfl (by decide) (by decide) (by decide) (kX9_isSlot l G y _ 3 ) ⟨(callB_of 1 hw0 (gA m_162) rfl rfl rfl (hw0 _ m_183) (hw0 _ m_200) (by decide +kernel) ⟨Nat.le_of_ble_eq_true rfl, Nat.le_of_ble_eq_true rfl⟩), (hw0 _ m_201)⟩ rfl hl.1 (Nat.le_of_ble_eq_true rfl) dX9_done_1 ⟨Nat.le_of_ble_eq_true rfl, Nat.le_of_ble_eq_true rfl⟩ (fun r_10 w_10 H locs hw_10 hP hD hS => ?_)
    rcases hw_10 with ⟨c_11, rfl, rfl⟩ | ⟨c_12, rfl, rfl⟩
    · skip
      have hP : va_P G vwCl [(ob, .inr (9, [.ref tp, .int 0, .ref rd, .ref sa, .ref im, .ref sl, .ref ro, .ref wy, .ref od, .ref ok])), (sl, .inl (y 4, 4, .inr (.inr (.inr (.inr (va_up (va_up (va_up (va_up (fun _ => none) 0 (some s0)) 1 (some s1)) 2 (some s2)) 3 (some s3))))))), (s0, .inr (5, [.int 0, .int 0, .int 0, .ref nu0])), (s1, .inr (5, [.int 0, .int 0, .int 0, .ref nu1])), (s2, .inr (5, [.int 0, .int 0, .int 0, .ref nu2])), (s3, .inr (5, [.int 0, .int 0, .int 0, .ref nu3]))] H := hP
      have hD : va_D A [(ob, .inr (9, [.ref tp, .int 0, .ref rd, .ref sa, .ref im, .ref sl, .ref ro, .ref wy, .ref od, .ref ok])), (sl, .inl (y 4, 4, .inr (.inr (.inr (.inr (va_up (va_up (va_up (va_up (fun _ => none) 0 (some s0)) 1 (some s1)) 2 (some s2)) 3 (some s3))))))), (s0, .inr (5, [.int 0, .int 0, .int 0, .ref nu0])), (s1, .inr (5, [.int 0, .int 0, .int 0, .ref nu1])), (s2, .inr (5, [.int 0, .int 0, .int 0, .ref nu2])), (s3, .inr (5, [.int 0, .int 0, .int 0, .ref nu3]))] := hD
      refine lv_if_ne (tgt := 10) hx hb dX9_done_4 (by decide) (fun _ => ?_) (fun c9 => absurd c9 (by decide))
      refine lv_aload_n hx hb dX9_done_10 rfl (lv_at hl 0 rfl) ?_
      refine va_get (D := G) (ci := 9) (v := .ref sl) (C := RX9) (T := TX9) (N := 10) hx hb hw0 inA_wsX90 hown hK.1 hP 0 rfl rfl 5 (by decide) (hw0 _ m_113) (fun _ h9 => h9) rfl dX9_done_11 ?_
      refine lv_iload_n hx hb dX9_done_14 rfl (lv_at hl 1 rfl) ?_
      refine va_aldq hx hb hK.1 hP 1 4 rfl rfl (vp_in_nI (n := 3) (N := 4) (by decide) (by decide)) dX9_done_15 ?_
      refine W.eq (g2 := F0 m 16 ls [.ref s3]) rfl ?_
      refine lv_astore_n (lv' := [(2, .ref s3), (0, .ref ob), (1, .int 3)]) hx hb dX9_done_16 rfl hl (by decide) rfl (fun ls hl => ?_)
      refine lv_aload_n hx hb dX9_done_17 rfl (lv_at hl 0 rfl) ?_
      refine va_get (D := G) (ci := 5) (v := .int 0) (C := RX5) (T := TX5) (N := 4) hx hb hw0 inA_wsX50 hown hK.1 hP 5 rfl rfl 0 (by decide) (hw0 _ m_233) (fun _ h9 => h9) rfl dX9_done_18 ?_
      refine lv_if_ne (tgt := 27) hx hb dX9_done_21 (by decide) (fun c9 => absurd (by decide) c9) (fun _ => ?_)
      refine lv_bipush (v := (-6)) hx hb dX9_done_24 (by decide) ?_
      refine W.widen (k := 0) (n := 0) (Nat.le_of_ble_eq_true rfl) (Nat.le_of_ble_eq_true rfl) ?_
      exact W.iret (v := (-6)) hx hb hr (fun t ht hW => ⟨⟨(-6), _, rfl, (by first | rfl | decide | (simp only [sp_slot]; (repeat' split) <;> first | rfl | (exfalso; omega))), by rw [ht]; exact hP, hD⟩, hS.F ht⟩) hS.2.2 dX9_done_26
    · skip
      exact absurd c_12 (by decide)
  · have hl : lv_has ls 9 [(0, .ref ob), (1, .int a1)] := hl
    refine lv_iload_n hx hb dX9_done_0 rfl (lv_at hl 1 rfl) ?_
    refine cSi (As := [.int a1]) (rest := []) ⟨hx, hb, hml, hown, hw0⟩ hA hK hP hD hS [] [0, 1, 2, 3, 4, 5] [] [(ob, .inr (9, [.ref tp, .int 0, .ref rd, .ref sa, .ref im, .ref sl, .ref ro, .ref wy, .ref od, .ref ok])), (sl, .inl (y 4, 4, .inr (.inr (.inr (.inr (va_up (va_up (va_up (va_up (fun _ => none) 0 (some s0)) 1 (some s1)) 2 (some s2)) 3 (some s3))))))), (s0, .inr (5, [.int 0, .int 0, .int 0, .ref nu0])), (s1, .inr (5, [.int 0, .int 0, .int 0, .ref nu1])), (s2, .inr (5, [.int 0, .int 0, .int 0, .ref nu2])), (s3, .inr (5, [.int 0, .int 0, .int 0, .ref nu3]))] rfl rfl (by decide) (by decide) (by decide) (kX9_isSlot l G y _ a1 ) ⟨(callB_of 1 hw0 (gA m_162) rfl rfl rfl (hw0 _ m_183) (hw0 _ m_200) (by decide +kernel) ⟨Nat.le_of_ble_eq_true rfl, Nat.le_of_ble_eq_true rfl⟩), (hw0 _ m_201)⟩ rfl hl.1 (Nat.le_of_ble_eq_true rfl) dX9_done_1 ⟨Nat.le_of_ble_eq_true rfl, Nat.le_of_ble_eq_true rfl⟩ (fun r_13 w_13 H locs hw_13 hP hD hS => ?_)
    rcases hw_13 with ⟨c_14, rfl, rfl⟩ | ⟨c_15, rfl, rfl⟩
    · skip
      exfalso; omega
    · skip
      have hP : va_P G vwCl [(ob, .inr (9, [.ref tp, .int 0, .ref rd, .ref sa, .ref im, .ref sl, .ref ro, .ref wy, .ref od, .ref ok])), (sl, .inl (y 4, 4, .inr (.inr (.inr (.inr (va_up (va_up (va_up (va_up (fun _ => none) 0 (some s0)) 1 (some s1)) 2 (some s2)) 3 (some s3))))))), (s0, .inr (5, [.int 0, .int 0, .int 0, .ref nu0])), (s1, .inr (5, [.int 0, .int 0, .int 0, .ref nu1])), (s2, .inr (5, [.int 0, .int 0, .int 0, .ref nu2])), (s3, .inr (5, [.int 0, .int 0, .int 0, .ref nu3]))] H := hP
      have hD : va_D A [(ob, .inr (9, [.ref tp, .int 0, .ref rd, .ref sa, .ref im, .ref sl, .ref ro, .ref wy, .ref od, .ref ok])), (sl, .inl (y 4, 4, .inr (.inr (.inr (.inr (va_up (va_up (va_up (va_up (fun _ => none) 0 (some s0)) 1 (some s1)) 2 (some s2)) 3 (some s3))))))), (s0, .inr (5, [.int 0, .int 0, .int 0, .ref nu0])), (s1, .inr (5, [.int 0, .int 0, .int 0, .ref nu1])), (s2, .inr (5, [.int 0, .int 0, .int 0, .ref nu2])), (s3, .inr (5, [.int 0, .int 0, .int 0, .ref nu3]))] := hD
      refine lv_if_ne (tgt := 10) hx hb dX9_done_4 (by decide) (fun c9 => absurd (by decide) c9) (fun _ => ?_)
      refine lv_bipush (v := (-2)) hx hb dX9_done_7 (by decide) ?_
      refine W.widen (k := 0) (n := 0) (Nat.le_of_ble_eq_true rfl) (Nat.le_of_ble_eq_true rfl) ?_
      exact W.iret (v := (-2)) hx hb hr (fun t ht hW => ⟨⟨(-2), _, rfl, (by first | rfl | decide | (simp only [sp_slot]; (repeat' split) <;> first | rfl | (exfalso; omega))), by rw [ht]; exact hP, hD⟩, hS.F ht⟩) hS.2.2 dX9_done_9

set_option maxHeartbeats 4000000 in
set_option maxRecDepth 100000 in
theorem kX9_write (l : Launch) (G : va_G) (y : Nat → ClassId) (sz : Nat) (ob : Nat) (a1 : Int32) (a2 : Int32) (a3 : Int64) (tp : Nat) (rd : Nat) (sa : Nat) (im : Nat) (sl : Nat) (ro : Nat) (wy : Nat) (od : Nat) (ok : Nat) (s0 : Nat) (s1 : Nat) (s2 : Nat) (s3 : Nat) (nu0 : Nat) (nu1 : Nat) (nu2 : Nat) (nu3 : Nat)  : Met l yX9_write (Cond.code yX9_write cX9_write 6 (some .int) :: wAll) ({ frames := 1, cells := 0, slots := 0, locals := 20 }) (va_Pc [.ref ob, .int a1, .int a2, .long a3] (kp G y sz [(ob, .inr (9, [.ref tp, .int 0, .ref rd, .ref sa, .ref im, .ref sl, .ref ro, .ref wy, .ref od, .ref ok])), (sl, .inl (y 4, 4, .inr (.inr (.inr (.inr (va_up (va_up (va_up (va_up (fun _ => none) 0 (some s0)) 1 (some s1)) 2 (some s2)) 3 (some s3))))))), (s0, .inr (5, [.int 0, .int 0, .int 0, .ref nu0])), (s1, .inr (5, [.int 0, .int 0, .int 0, .ref nu1])), (s2, .inr (5, [.int 0, .int 0, .int 0, .ref nu2])), (s3, .inr (5, [.int 0, .int 0, .int 0, .ref nu3]))])) (va_Qi (fun (r : Int32) (_ : va_W) => r = sp_slot a1) (kq G (va_A [(ob, .inr (9, [.ref tp, .int 0, .ref rd, .ref sa, .ref im, .ref sl, .ref ro, .ref wy, .ref od, .ref ok])), (sl, .inl (y 4, 4, .inr (.inr (.inr (.inr (va_up (va_up (va_up (va_up (fun _ => none) 0 (some s0)) 1 (some s1)) 2 (some s2)) 3 (some s3))))))), (s0, .inr (5, [.int 0, .int 0, .int 0, .ref nu0])), (s1, .inr (5, [.int 0, .int 0, .int 0, .ref nu1])), (s2, .inr (5, [.int 0, .int 0, .int 0, .ref nu2])), (s3, .inr (5, [.int 0, .int 0, .int 0, .ref nu3]))] sz)) (va_A [(ob, .inr (9, [.ref tp, .int 0, .ref rd, .ref sa, .ref im, .ref sl, .ref ro, .ref wy, .ref od, .ref ok])), (sl, .inl (y 4, 4, .inr (.inr (.inr (.inr (va_up (va_up (va_up (va_up (fun _ => none) 0 (some s0)) 1 (some s1)) 2 (some s2)) 3 (some s3))))))), (s0, .inr (5, [.int 0, .int 0, .int 0, .ref nu0])), (s1, .inr (5, [.int 0, .int 0, .int 0, .ref nu1])), (s2, .inr (5, [.int 0, .int 0, .int 0, .ref nu2])), (s3, .inr (5, [.int 0, .int 0, .int 0, .ref nu3]))] sz)) 0 0 (va_A [(ob, .inr (9, [.ref tp, .int 0, .ref rd, .ref sa, .ref im, .ref sl, .ref ro, .ref wy, .ref od, .ref ok])), (sl, .inl (y 4, 4, .inr (.inr (.inr (.inr (va_up (va_up (va_up (va_up (fun _ => none) 0 (some s0)) 1 (some s1)) 2 (some s2)) 3 (some s3))))))), (s0, .inr (5, [.int 0, .int 0, .int 0, .ref nu0])), (s1, .inr (5, [.int 0, .int 0, .int 0, .ref nu1])), (s2, .inr (5, [.int 0, .int 0, .int 0, .ref nu2])), (s3, .inr (5, [.int 0, .int 0, .int 0, .ref nu3]))] sz) := by
  refine Met.ofW (cc := cX9_write) (maxL := 6) (ret := (some .int)) (by decide) rfl ?_
  intro p e s m args below meth c s₁ B hml hv
  obtain ⟨rfl, hsz, hP, hK, hD0⟩ := hv
  have hx := B.exec
  have hb := B.bytes
  have hr := B.returns
  have hw0 : ∀ w ∈ wAll, w.before _ s = true := fun w h => atoms_spec (ws := Cond.code yX9_write cX9_write 6 (some .int) :: wAll) B.pre w (List.mem_cons_of_mem _ h)
  have hown : s.vm.findClass RX9 = some m.cls := findClass_of_methodNamed B.named
  have hlocks := B.notSynchronized
  subst hsz
  have hD := hD0.self (sz := s.heap.size)
  generalize hAe : va_A [(ob, .inr (9, [.ref tp, .int 0, .ref rd, .ref sa, .ref im, .ref sl, .ref ro, .ref wy, .ref od, .ref ok])), (sl, .inl (y 4, 4, .inr (.inr (.inr (.inr (va_up (va_up (va_up (va_up (fun _ => none) 0 (some s0)) 1 (some s1)) 2 (some s2)) 3 (some s3))))))), (s0, .inr (5, [.int 0, .int 0, .int 0, .ref nu0])), (s1, .inr (5, [.int 0, .int 0, .int 0, .ref nu1])), (s2, .inr (5, [.int 0, .int 0, .int 0, .ref nu2])), (s3, .inr (5, [.int 0, .int 0, .int 0, .ref nu3]))] s.heap.size = A at hD ⊢
  have hA : ∀ q : Nat, s.heap.size ≤ q → A q := fun q h => by rw [← hAe]; exact Or.inr h
  have hS : va_S A s.heap s.heap [] := va_S.rf
  have hP : va_P G vwCl [(ob, .inr (9, [.ref tp, .int 0, .ref rd, .ref sa, .ref im, .ref sl, .ref ro, .ref wy, .ref od, .ref ok])), (sl, .inl (y 4, 4, .inr (.inr (.inr (.inr (va_up (va_up (va_up (va_up (fun _ => none) 0 (some s0)) 1 (some s1)) 2 (some s2)) 3 (some s3))))))), (s0, .inr (5, [.int 0, .int 0, .int 0, .ref nu0])), (s1, .inr (5, [.int 0, .int 0, .int 0, .ref nu1])), (s2, .inr (5, [.int 0, .int 0, .int 0, .ref nu2])), (s3, .inr (5, [.int 0, .int 0, .int 0, .ref nu3]))] s.heap := hP
  have hl := lv_entry ([.ref ob, .int a1, .int a2, .long a3]) (n := 6) (Nat.le_of_ble_eq_true rfl)
  rw [lg_entry_eq]
  generalize (lg_sl ([.ref ob, .int a1, .int a2, .long a3]) ++ List.replicate (6 - (lg_sl ([.ref ob, .int a1, .int a2, .long a3])).length) Slot.unset).toArray = ls at hl ⊢
  have hl : lv_has ls 6 [(0, .ref ob), (1, .int a1), (2, .int a2), (3, .long a3)] := hl
  rcases sl_cases a1 with rfl | rfl | rfl | rfl | t_a1
  · have hl : lv_has ls 6 [(0, .ref ob), (1, .int 0), (2, .int a2), (3, .long a3)] := hl
    refine lv_iload_n hx hb dX9_write_0 rfl (lv_at hl 1 rfl) ?_
    refine cSi (As := [.int 0]) (rest := []) ⟨hx, hb, hml, hown, hw0⟩ hA hK hP hD hS [] [0, 1, 2, 3, 4, 5] [] [(ob, .inr (9, [.ref tp, .int 0, .ref rd, .ref sa, .ref im, .ref sl, .ref ro, .ref wy, .ref od, .ref ok])), (sl, .inl (y 4, 4, .inr (.inr (.inr (.inr (va_up (va_up (va_up (va_up (fun _ => none) 0 (some s0)) 1 (some s1)) 2 (some s2)) 3 (some s3))))))), (s0, .inr (5, [.int 0, .int 0, .int 0, .ref nu0])), (s1, .inr (5, [.int 0, .int 0, .int 0, .ref nu1])), (s2, .inr (5, [.int 0, .int 0, .int 0, .ref nu2])), (s3, .inr (5, [.int 0, .int 0, .int 0, .ref nu3]))] rfl rfl (by decide) (by decide) (by decide) (kX9_isSlot l G y _ 0 ) ⟨(callB_of 1 hw0 (gA m_162) rfl rfl rfl (hw0 _ m_183) (hw0 _ m_200) (by decide +kernel) ⟨Nat.le_of_ble_eq_true rfl, Nat.le_of_ble_eq_true rfl⟩), (hw0 _ m_201)⟩ rfl hl.1 (Nat.le_of_ble_eq_true rfl) dX9_write_1 ⟨Nat.le_of_ble_eq_true rfl, Nat.le_of_ble_eq_true rfl⟩ (fun r_1 w_1 H locs hw_1 hP hD hS => ?_)
    rcases hw_1 with ⟨c_2, rfl, rfl⟩ | ⟨c_3, rfl, rfl⟩
    · skip
      have hP : va_P G vwCl [(ob, .inr (9, [.ref tp, .int 0, .ref rd, .ref sa, .ref im, .ref sl, .ref ro, .ref wy, .ref od, .ref ok])), (sl, .inl (y 4, 4, .inr (.inr (.inr (.inr (va_up (va_up (va_up (va_up (fun _ => none) 0 (some s0)) 1 (some s1)) 2 (some s2)) 3 (some s3))))))), (s0, .inr (5, [.int 0, .int 0, .int 0, .ref nu0])), (s1, .inr (5, [.int 0, .int 0, .int 0, .ref nu1])), (s2, .inr (5, [.int 0, .int 0, .int 0, .ref nu2])), (s3, .inr (5, [.int 0, .int 0, .int 0, .ref nu3]))] H := hP
      have hD : va_D A [(ob, .inr (9, [.ref tp, .int 0, .ref rd, .ref sa, .ref im, .ref sl, .ref ro, .ref wy, .ref od, .ref ok])), (sl, .inl (y 4, 4, .inr (.inr (.inr (.inr (va_up (va_up (va_up (va_up (fun _ => none) 0 (some s0)) 1 (some s1)) 2 (some s2)) 3 (some s3))))))), (s0, .inr (5, [.int 0, .int 0, .int 0, .ref nu0])), (s1, .inr (5, [.int 0, .int 0, .int 0, .ref nu1])), (s2, .inr (5, [.int 0, .int 0, .int 0, .ref nu2])), (s3, .inr (5, [.int 0, .int 0, .int 0, .ref nu3]))] := hD
      refine lv_if_ne (tgt := 10) hx hb dX9_write_4 (by decide) (fun _ => ?_) (fun c9 => absurd c9 (by decide))
      refine lv_aload_n hx hb dX9_write_10 rfl (lv_at hl 0 rfl) ?_
      refine va_get (D := G) (ci := 9) (v := .ref sl) (C := RX9) (T := TX9) (N := 10) hx hb hw0 inA_wsX90 hown hK.1 hP 0 rfl rfl 5 (by decide) (hw0 _ m_113) (fun _ h9 => h9) rfl dX9_write_11 ?_
      refine lv_iload_n hx hb dX9_write_14 rfl (lv_at hl 1 rfl) ?_
      refine va_aldq hx hb hK.1 hP 1 4 rfl rfl (vp_in_nI (n := 0) (N := 4) (by decide) (by decide)) dX9_write_15 ?_
      refine W.eq (g2 := F0 m 16 ls [.ref s0]) rfl ?_
      refine lv_astore (lv' := [(5, .ref s0), (0, .ref ob), (1, .int 0), (2, .int a2), (3, .long a3)]) hx hb dX9_write_16 hl (by decide) rfl (fun ls hl => ?_)
      refine lv_aload hx hb dX9_write_18 (lv_at hl 0 rfl) ?_
      refine va_get (D := G) (ci := 5) (v := .int 0) (C := RX5) (T := TX5) (N := 4) hx hb hw0 inA_wsX50 hown hK.1 hP 2 rfl rfl 0 (by decide) (hw0 _ m_233) (fun _ h9 => h9) rfl dX9_write_20 ?_
      refine lv_if_ne (tgt := 29) hx hb dX9_write_23 (by decide) (fun c9 => absurd (by decide) c9) (fun _ => ?_)
      refine lv_bipush (v := (-6)) hx hb dX9_write_26 (by decide) ?_
      refine W.widen (k := 0) (n := 0) (Nat.le_of_ble_eq_true rfl) (Nat.le_of_ble_eq_true rfl) ?_
      exact W.iret (v := (-6)) hx hb hr (fun t ht hW => ⟨⟨(-6), _, rfl, (by first | rfl | decide | (simp only [sp_slot]; (repeat' split) <;> first | rfl | (exfalso; omega))), by rw [ht]; exact hP, hD⟩, hS.F ht⟩) hS.2.2 dX9_write_28
    · skip
      exact absurd c_3 (by decide)
  · have hl : lv_has ls 6 [(0, .ref ob), (1, .int 1), (2, .int a2), (3, .long a3)] := hl
    refine lv_iload_n hx hb dX9_write_0 rfl (lv_at hl 1 rfl) ?_
    refine cSi (As := [.int 1]) (rest := []) ⟨hx, hb, hml, hown, hw0⟩ hA hK hP hD hS [] [0, 1, 2, 3, 4, 5] [] [(ob, .inr (9, [.ref tp, .int 0, .ref rd, .ref sa, .ref im, .ref sl, .ref ro, .ref wy, .ref od, .ref ok])), (sl, .inl (y 4, 4, .inr (.inr (.inr (.inr (va_up (va_up (va_up (va_up (fun _ => none) 0 (some s0)) 1 (some s1)) 2 (some s2)) 3 (some s3))))))), (s0, .inr (5, [.int 0, .int 0, .int 0, .ref nu0])), (s1, .inr (5, [.int 0, .int 0, .int 0, .ref nu1])), (s2, .inr (5, [.int 0, .int 0, .int 0, .ref nu2])), (s3, .inr (5, [.int 0, .int 0, .int 0, .ref nu3]))] rfl rfl (by decide) (by decide) (by decide) (kX9_isSlot l G y _ 1 ) ⟨(callB_of 1 hw0 (gA m_162) rfl rfl rfl (hw0 _ m_183) (hw0 _ m_200) (by decide +kernel) ⟨Nat.le_of_ble_eq_true rfl, Nat.le_of_ble_eq_true rfl⟩), (hw0 _ m_201)⟩ rfl hl.1 (Nat.le_of_ble_eq_true rfl) dX9_write_1 ⟨Nat.le_of_ble_eq_true rfl, Nat.le_of_ble_eq_true rfl⟩ (fun r_4 w_4 H locs hw_4 hP hD hS => ?_)
    rcases hw_4 with ⟨c_5, rfl, rfl⟩ | ⟨c_6, rfl, rfl⟩
    · skip
      have hP : va_P G vwCl [(ob, .inr (9, [.ref tp, .int 0, .ref rd, .ref sa, .ref im, .ref sl, .ref ro, .ref wy, .ref od, .ref ok])), (sl, .inl (y 4, 4, .inr (.inr (.inr (.inr (va_up (va_up (va_up (va_up (fun _ => none) 0 (some s0)) 1 (some s1)) 2 (some s2)) 3 (some s3))))))), (s0, .inr (5, [.int 0, .int 0, .int 0, .ref nu0])), (s1, .inr (5, [.int 0, .int 0, .int 0, .ref nu1])), (s2, .inr (5, [.int 0, .int 0, .int 0, .ref nu2])), (s3, .inr (5, [.int 0, .int 0, .int 0, .ref nu3]))] H := hP
      have hD : va_D A [(ob, .inr (9, [.ref tp, .int 0, .ref rd, .ref sa, .ref im, .ref sl, .ref ro, .ref wy, .ref od, .ref ok])), (sl, .inl (y 4, 4, .inr (.inr (.inr (.inr (va_up (va_up (va_up (va_up (fun _ => none) 0 (some s0)) 1 (some s1)) 2 (some s2)) 3 (some s3))))))), (s0, .inr (5, [.int 0, .int 0, .int 0, .ref nu0])), (s1, .inr (5, [.int 0, .int 0, .int 0, .ref nu1])), (s2, .inr (5, [.int 0, .int 0, .int 0, .ref nu2])), (s3, .inr (5, [.int 0, .int 0, .int 0, .ref nu3]))] := hD
      refine lv_if_ne (tgt := 10) hx hb dX9_write_4 (by decide) (fun _ => ?_) (fun c9 => absurd c9 (by decide))
      refine lv_aload_n hx hb dX9_write_10 rfl (lv_at hl 0 rfl) ?_
      refine va_get (D := G) (ci := 9) (v := .ref sl) (C := RX9) (T := TX9) (N := 10) hx hb hw0 inA_wsX90 hown hK.1 hP 0 rfl rfl 5 (by decide) (hw0 _ m_113) (fun _ h9 => h9) rfl dX9_write_11 ?_
      refine lv_iload_n hx hb dX9_write_14 rfl (lv_at hl 1 rfl) ?_
      refine va_aldq hx hb hK.1 hP 1 4 rfl rfl (vp_in_nI (n := 1) (N := 4) (by decide) (by decide)) dX9_write_15 ?_
      refine W.eq (g2 := F0 m 16 ls [.ref s1]) rfl ?_
      refine lv_astore (lv' := [(5, .ref s1), (0, .ref ob), (1, .int 1), (2, .int a2), (3, .long a3)]) hx hb dX9_write_16 hl (by decide) rfl (fun ls hl => ?_)
      refine lv_aload hx hb dX9_write_18 (lv_at hl 0 rfl) ?_
      refine va_get (D := G) (ci := 5) (v := .int 0) (C := RX5) (T := TX5) (N := 4) hx hb hw0 inA_wsX50 hown hK.1 hP 3 rfl rfl 0 (by decide) (hw0 _ m_233) (fun _ h9 => h9) rfl dX9_write_20 ?_
      refine lv_if_ne (tgt := 29) hx hb dX9_write_23 (by decide) (fun c9 => absurd (by decide) c9) (fun _ => ?_)
      refine lv_bipush (v := (-6)) hx hb dX9_write_26 (by decide) ?_
      refine W.widen (k := 0) (n := 0) (Nat.le_of_ble_eq_true rfl) (Nat.le_of_ble_eq_true rfl) ?_
      exact W.iret (v := (-6)) hx hb hr (fun t ht hW => ⟨⟨(-6), _, rfl, (by first | rfl | decide | (simp only [sp_slot]; (repeat' split) <;> first | rfl | (exfalso; omega))), by rw [ht]; exact hP, hD⟩, hS.F ht⟩) hS.2.2 dX9_write_28
    · skip
      exact absurd c_6 (by decide)
  · have hl : lv_has ls 6 [(0, .ref ob), (1, .int 2), (2, .int a2), (3, .long a3)] := hl
    refine lv_iload_n hx hb dX9_write_0 rfl (lv_at hl 1 rfl) ?_
    refine cSi (As := [.int 2]) (rest := []) ⟨hx, hb, hml, hown, hw0⟩ hA hK hP hD hS [] [0, 1, 2, 3, 4, 5] [] [(ob, .inr (9, [.ref tp, .int 0, .ref rd, .ref sa, .ref im, .ref sl, .ref ro, .ref wy, .ref od, .ref ok])), (sl, .inl (y 4, 4, .inr (.inr (.inr (.inr (va_up (va_up (va_up (va_up (fun _ => none) 0 (some s0)) 1 (some s1)) 2 (some s2)) 3 (some s3))))))), (s0, .inr (5, [.int 0, .int 0, .int 0, .ref nu0])), (s1, .inr (5, [.int 0, .int 0, .int 0, .ref nu1])), (s2, .inr (5, [.int 0, .int 0, .int 0, .ref nu2])), (s3, .inr (5, [.int 0, .int 0, .int 0, .ref nu3]))] rfl rfl (by decide) (by decide) (by decide) (kX9_isSlot l G y _ 2 ) ⟨(callB_of 1 hw0 (gA m_162) rfl rfl rfl (hw0 _ m_183) (hw0 _ m_200) (by decide +kernel) ⟨Nat.le_of_ble_eq_true rfl, Nat.le_of_ble_eq_true rfl⟩), (hw0 _ m_201)⟩ rfl hl.1 (Nat.le_of_ble_eq_true rfl) dX9_write_1 ⟨Nat.le_of_ble_eq_true rfl, Nat.le_of_ble_eq_true rfl⟩ (fun r_7 w_7 H locs hw_7 hP hD hS => ?_)
    rcases hw_7 with ⟨c_8, rfl, rfl⟩ | ⟨c_9, rfl, rfl⟩
    · skip
      have hP : va_P G vwCl [(ob, .inr (9, [.ref tp, .int 0, .ref rd, .ref sa, .ref im, .ref sl, .ref ro, .ref wy, .ref od, .ref ok])), (sl, .inl (y 4, 4, .inr (.inr (.inr (.inr (va_up (va_up (va_up (va_up (fun _ => none) 0 (some s0)) 1 (some s1)) 2 (some s2)) 3 (some s3))))))), (s0, .inr (5, [.int 0, .int 0, .int 0, .ref nu0])), (s1, .inr (5, [.int 0, .int 0, .int 0, .ref nu1])), (s2, .inr (5, [.int 0, .int 0, .int 0, .ref nu2])), (s3, .inr (5, [.int 0, .int 0, .int 0, .ref nu3]))] H := hP
      have hD : va_D A [(ob, .inr (9, [.ref tp, .int 0, .ref rd, .ref sa, .ref im, .ref sl, .ref ro, .ref wy, .ref od, .ref ok])), (sl, .inl (y 4, 4, .inr (.inr (.inr (.inr (va_up (va_up (va_up (va_up (fun _ => none) 0 (some s0)) 1 (some s1)) 2 (some s2)) 3 (some s3))))))), (s0, .inr (5, [.int 0, .int 0, .int 0, .ref nu0])), (s1, .inr (5, [.int 0, .int 0, .int 0, .ref nu1])), (s2, .inr (5, [.int 0, .int 0, .int 0, .ref nu2])), (s3, .inr (5, [.int 0, .int 0, .int 0, .ref nu3]))] := hD
      refine lv_if_ne (tgt := 10) hx hb dX9_write_4 (by decide) (fun _ => ?_) (fun c9 => absurd c9 (by decide))
      refine lv_aload_n hx hb dX9_write_10 rfl (lv_at hl 0 rfl) ?_
      refine va_get (D := G) (ci := 9) (v := .ref sl) (C := RX9) (T := TX9) (N := 10) hx hb hw0 inA_wsX90 hown hK.1 hP 0 rfl rfl 5 (by decide) (hw0 _ m_113) (fun _ h9 => h9) rfl dX9_write_11 ?_
      refine lv_iload_n hx hb dX9_write_14 rfl (lv_at hl 1 rfl) ?_
      refine va_aldq hx hb hK.1 hP 1 4 rfl rfl (vp_in_nI (n := 2) (N := 4) (by decide) (by decide)) dX9_write_15 ?_
      refine W.eq (g2 := F0 m 16 ls [.ref s2]) rfl ?_
      refine lv_astore (lv' := [(5, .ref s2), (0, .ref ob), (1, .int 2), (2, .int a2), (3, .long a3)]) hx hb dX9_write_16 hl (by decide) rfl (fun ls hl => ?_)
      refine lv_aload hx hb dX9_write_18 (lv_at hl 0 rfl) ?_
      refine va_get (D := G) (ci := 5) (v := .int 0) (C := RX5) (T := TX5) (N := 4) hx hb hw0 inA_wsX50 hown hK.1 hP 4 rfl rfl 0 (by decide) (hw0 _ m_233) (fun _ h9 => h9) rfl dX9_write_20 ?_
      refine lv_if_ne (tgt := 29) hx hb dX9_write_23 (by decide) (fun c9 => absurd (by decide) c9) (fun _ => ?_)
      refine lv_bipush (v := (-6)) hx hb dX9_write_26 (by decide) ?_
      refine W.widen (k := 0) (n := 0) (Nat.le_of_ble_eq_true rfl) (Nat.le_of_ble_eq_true rfl) ?_
      exact W.iret (v := (-6)) hx hb hr (fun t ht hW => ⟨⟨(-6), _, rfl, (by first | rfl | decide | (simp only [sp_slot]; (repeat' split) <;> first | rfl | (exfalso; omega))), by rw [ht]; exact hP, hD⟩, hS.F ht⟩) hS.2.2 dX9_write_28
    · skip
      exact absurd c_9 (by decide)
  · have hl : lv_has ls 6 [(0, .ref ob), (1, .int 3), (2, .int a2), (3, .long a3)] := hl
    refine lv_iload_n hx hb dX9_write_0 rfl (lv_at hl 1 rfl) ?_
    refine cSi (As := [.int 3]) (rest := []) ⟨hx, hb, hml, hown, hw0⟩ hA hK hP hD hS [] [0, 1, 2, 3, 4, 5] [] [(ob, .inr (9, [.ref tp, .int 0, .ref rd, .ref sa, .ref im, .ref sl, .ref ro, .ref wy, .ref od, .ref ok])), (sl, .inl (y 4, 4, .inr (.inr (.inr (.inr (va_up (va_up (va_up (va_up (fun _ => none) 0 (some s0)) 1 (some s1)) 2 (some s2)) 3 (some s3))))))), (s0, .inr (5, [.int 0, .int 0, .int 0, .ref nu0])), (s1, .inr (5, [.int 0, .int 0, .int 0, .ref nu1])), (s2, .inr (5, [.int 0, .int 0, .int 0, .ref nu2])), (s3, .inr (5, [.int 0, .int 0, .int 0, .ref nu3]))] rfl rfl (by decide) (by decide) (by decide) (kX9_isSlot l G y _ 3 ) ⟨(callB_of 1 hw0 (gA m_162) rfl rfl rfl (hw0 _ m_183) (hw0 _ m_200) (by decide +kernel) ⟨Nat.le_of_ble_eq_true rfl, Nat.le_of_ble_eq_true rfl⟩), (hw0 _ m_201)⟩ rfl hl.1 (Nat.le_of_ble_eq_true rfl) dX9_write_1 ⟨Nat.le_of_ble_eq_true rfl, Nat.le_of_ble_eq_true rfl⟩ (fun r_10 w_10 H locs hw_10 hP hD hS => ?_)
    rcases hw_10 with ⟨c_11, rfl, rfl⟩ | ⟨c_12, rfl, rfl⟩
    · skip
      have hP : va_P G vwCl [(ob, .inr (9, [.ref tp, .int 0, .ref rd, .ref sa, .ref im, .ref sl, .ref ro, .ref wy, .ref od, .ref ok])), (sl, .inl (y 4, 4, .inr (.inr (.inr (.inr (va_up (va_up (va_up (va_up (fun _ => none) 0 (some s0)) 1 (some s1)) 2 (some s2)) 3 (some s3))))))), (s0, .inr (5, [.int 0, .int 0, .int 0, .ref nu0])), (s1, .inr (5, [.int 0, .int 0, .int 0, .ref nu1])), (s2, .inr (5, [.int 0, .int 0, .int 0, .ref nu2])), (s3, .inr (5, [.int 0, .int 0, .int 0, .ref nu3]))] H := hP
      have hD : va_D A [(ob, .inr (9, [.ref tp, .int 0, .ref rd, .ref sa, .ref im, .ref sl, .ref ro, .ref wy, .ref od, .ref ok])), (sl, .inl (y 4, 4, .inr (.inr (.inr (.inr (va_up (va_up (va_up (va_up (fun _ => none) 0 (some s0)) 1 (some s1)) 2 (some s2)) 3 (some s3))))))), (s0, .inr (5, [.int 0, .int 0, .int 0, .ref nu0])), (s1, .inr (5, [.int 0, .int 0, .int 0, .ref nu1])), (s2, .inr (5, [.int 0, .int 0, .int 0, .ref nu2])), (s3, .inr (5, [.int 0, .int 0, .int 0, .ref nu3]))] := hD
      refine lv_if_ne (tgt := 10) hx hb dX9_write_4 (by decide) (fun _ => ?_) (fun c9 => absurd c9 (by decide))
      refine lv_aload_n hx hb dX9_write_10 rfl (lv_at hl 0 rfl) ?_
      refine va_get (D := G) (ci := 9) (v := .ref sl) (C := RX9) (T := TX9) (N := 10) hx hb hw0 inA_wsX90 hown hK.1 hP 0 rfl rfl 5 (by decide) (hw0 _ m_113) (fun _ h9 => h9) rfl dX9_write_11 ?_
      refine lv_iload_n hx hb dX9_write_14 rfl (lv_at hl 1 rfl) ?_
      refine va_aldq hx hb hK.1 hP 1 4 rfl rfl (vp_in_nI (n := 3) (N := 4) (by decide) (by decide)) dX9_write_15 ?_
      refine W.eq (g2 := F0 m 16 ls [.ref s3]) rfl ?_
      refine lv_astore (lv' := [(5, .ref s3), (0, .ref ob), (1, .int 3), (2, .int a2), (3, .long a3)]) hx hb dX9_write_16 hl (by decide) rfl (fun ls hl => ?_)
      refine lv_aload hx hb dX9_write_18 (lv_at hl 0 rfl) ?_
      refine va_get (D := G) (ci := 5) (v := .int 0) (C := RX5) (T := TX5) (N := 4) hx hb hw0 inA_wsX50 hown hK.1 hP 5 rfl rfl 0 (by decide) (hw0 _ m_233) (fun _ h9 => h9) rfl dX9_write_20 ?_
      refine lv_if_ne (tgt := 29) hx hb dX9_write_23 (by decide) (fun c9 => absurd (by decide) c9) (fun _ => ?_)
      refine lv_bipush (v := (-6)) hx hb dX9_write_26 (by decide) ?_
      refine W.widen (k := 0) (n := 0) (Nat.le_of_ble_eq_true rfl) (Nat.le_of_ble_eq_true rfl) ?_
      exact W.iret (v := (-6)) hx hb hr (fun t ht hW => ⟨⟨(-6), _, rfl, (by first | rfl | decide | (simp only [sp_slot]; (repeat' split) <;> first | rfl | (exfalso; omega))), by rw [ht]; exact hP, hD⟩, hS.F ht⟩) hS.2.2 dX9_write_28
    · skip
      exact absurd c_12 (by decide)
  · have hl : lv_has ls 6 [(0, .ref ob), (1, .int a1), (2, .int a2), (3, .long a3)] := hl
    refine lv_iload_n hx hb dX9_write_0 rfl (lv_at hl 1 rfl) ?_
    refine cSi (As := [.int a1]) (rest := []) ⟨hx, hb, hml, hown, hw0⟩ hA hK hP hD hS [] [0, 1, 2, 3, 4, 5] [] [(ob, .inr (9, [.ref tp, .int 0, .ref rd, .ref sa, .ref im, .ref sl, .ref ro, .ref wy, .ref od, .ref ok])), (sl, .inl (y 4, 4, .inr (.inr (.inr (.inr (va_up (va_up (va_up (va_up (fun _ => none) 0 (some s0)) 1 (some s1)) 2 (some s2)) 3 (some s3))))))), (s0, .inr (5, [.int 0, .int 0, .int 0, .ref nu0])), (s1, .inr (5, [.int 0, .int 0, .int 0, .ref nu1])), (s2, .inr (5, [.int 0, .int 0, .int 0, .ref nu2])), (s3, .inr (5, [.int 0, .int 0, .int 0, .ref nu3]))] rfl rfl (by decide) (by decide) (by decide) (kX9_isSlot l G y _ a1 ) ⟨(callB_of 1 hw0 (gA m_162) rfl rfl rfl (hw0 _ m_183) (hw0 _ m_200) (by decide +kernel) ⟨Nat.le_of_ble_eq_true rfl, Nat.le_of_ble_eq_true rfl⟩), (hw0 _ m_201)⟩ rfl hl.1 (Nat.le_of_ble_eq_true rfl) dX9_write_1 ⟨Nat.le_of_ble_eq_true rfl, Nat.le_of_ble_eq_true rfl⟩ (fun r_13 w_13 H locs hw_13 hP hD hS => ?_)
    rcases hw_13 with ⟨c_14, rfl, rfl⟩ | ⟨c_15, rfl, rfl⟩
    · skip
      exfalso; omega
    · skip
      have hP : va_P G vwCl [(ob, .inr (9, [.ref tp, .int 0, .ref rd, .ref sa, .ref im, .ref sl, .ref ro, .ref wy, .ref od, .ref ok])), (sl, .inl (y 4, 4, .inr (.inr (.inr (.inr (va_up (va_up (va_up (va_up (fun _ => none) 0 (some s0)) 1 (some s1)) 2 (some s2)) 3 (some s3))))))), (s0, .inr (5, [.int 0, .int 0, .int 0, .ref nu0])), (s1, .inr (5, [.int 0, .int 0, .int 0, .ref nu1])), (s2, .inr (5, [.int 0, .int 0, .int 0, .ref nu2])), (s3, .inr (5, [.int 0, .int 0, .int 0, .ref nu3]))] H := hP
      have hD : va_D A [(ob, .inr (9, [.ref tp, .int 0, .ref rd, .ref sa, .ref im, .ref sl, .ref ro, .ref wy, .ref od, .ref ok])), (sl, .inl (y 4, 4, .inr (.inr (.inr (.inr (va_up (va_up (va_up (va_up (fun _ => none) 0 (some s0)) 1 (some s1)) 2 (some s2)) 3 (some s3))))))), (s0, .inr (5, [.int 0, .int 0, .int 0, .ref nu0])), (s1, .inr (5, [.int 0, .int 0, .int 0, .ref nu1])), (s2, .inr (5, [.int 0, .int 0, .int 0, .ref nu2])), (s3, .inr (5, [.int 0, .int 0, .int 0, .ref nu3]))] := hD
      refine lv_if_ne (tgt := 10) hx hb dX9_write_4 (by decide) (fun c9 => absurd (by decide) c9) (fun _ => ?_)
      refine lv_bipush (v := (-2)) hx hb dX9_write_7 (by decide) ?_
      refine W.widen (k := 0) (n := 0) (Nat.le_of_ble_eq_true rfl) (Nat.le_of_ble_eq_true rfl) ?_
      exact W.iret (v := (-2)) hx hb hr (fun t ht hW => ⟨⟨(-2), _, rfl, (by first | rfl | decide | (simp only [sp_slot]; (repeat' split) <;> first | rfl | (exfalso; omega))), by rw [ht]; exact hP, hD⟩, hS.F ht⟩) hS.2.2 dX9_write_9

set_option maxHeartbeats 4000000 in
set_option maxRecDepth 100000 in
theorem kX9_paste (l : Launch) (G : va_G) (y : Nat → ClassId) (sz : Nat) (ob : Nat) (a1 : Int32) (a2 : Int32) (a3 : Int32) (a4 : Int32) (a5 : Int32) (tp : Nat) (rd : Nat) (sa : Nat) (im : Nat) (sl : Nat) (ro : Nat) (wy : Nat) (od : Nat) (ok : Nat) (s0 : Nat) (s1 : Nat) (s2 : Nat) (s3 : Nat) (nu0 : Nat) (nu1 : Nat) (nu2 : Nat) (nu3 : Nat)  : Met l yX9_paste (Cond.code yX9_paste cX9_paste 8 (some .int) :: wAll) ({ frames := 1, cells := 0, slots := 0, locals := 20 }) (va_Pc [.ref ob, .int a1, .int a2, .int a3, .int a4, .int a5] (kp G y sz [(ob, .inr (9, [.ref tp, .int 0, .ref rd, .ref sa, .ref im, .ref sl, .ref ro, .ref wy, .ref od, .ref ok])), (sl, .inl (y 4, 4, .inr (.inr (.inr (.inr (va_up (va_up (va_up (va_up (fun _ => none) 0 (some s0)) 1 (some s1)) 2 (some s2)) 3 (some s3))))))), (s0, .inr (5, [.int 0, .int 0, .int 0, .ref nu0])), (s1, .inr (5, [.int 0, .int 0, .int 0, .ref nu1])), (s2, .inr (5, [.int 0, .int 0, .int 0, .ref nu2])), (s3, .inr (5, [.int 0, .int 0, .int 0, .ref nu3]))])) (va_Qi (fun (r : Int32) (_ : va_W) => r = sp_paste a1 a3) (kq G (va_A [(ob, .inr (9, [.ref tp, .int 0, .ref rd, .ref sa, .ref im, .ref sl, .ref ro, .ref wy, .ref od, .ref ok])), (sl, .inl (y 4, 4, .inr (.inr (.inr (.inr (va_up (va_up (va_up (va_up (fun _ => none) 0 (some s0)) 1 (some s1)) 2 (some s2)) 3 (some s3))))))), (s0, .inr (5, [.int 0, .int 0, .int 0, .ref nu0])), (s1, .inr (5, [.int 0, .int 0, .int 0, .ref nu1])), (s2, .inr (5, [.int 0, .int 0, .int 0, .ref nu2])), (s3, .inr (5, [.int 0, .int 0, .int 0, .ref nu3]))] sz)) (va_A [(ob, .inr (9, [.ref tp, .int 0, .ref rd, .ref sa, .ref im, .ref sl, .ref ro, .ref wy, .ref od, .ref ok])), (sl, .inl (y 4, 4, .inr (.inr (.inr (.inr (va_up (va_up (va_up (va_up (fun _ => none) 0 (some s0)) 1 (some s1)) 2 (some s2)) 3 (some s3))))))), (s0, .inr (5, [.int 0, .int 0, .int 0, .ref nu0])), (s1, .inr (5, [.int 0, .int 0, .int 0, .ref nu1])), (s2, .inr (5, [.int 0, .int 0, .int 0, .ref nu2])), (s3, .inr (5, [.int 0, .int 0, .int 0, .ref nu3]))] sz)) 0 0 (va_A [(ob, .inr (9, [.ref tp, .int 0, .ref rd, .ref sa, .ref im, .ref sl, .ref ro, .ref wy, .ref od, .ref ok])), (sl, .inl (y 4, 4, .inr (.inr (.inr (.inr (va_up (va_up (va_up (va_up (fun _ => none) 0 (some s0)) 1 (some s1)) 2 (some s2)) 3 (some s3))))))), (s0, .inr (5, [.int 0, .int 0, .int 0, .ref nu0])), (s1, .inr (5, [.int 0, .int 0, .int 0, .ref nu1])), (s2, .inr (5, [.int 0, .int 0, .int 0, .ref nu2])), (s3, .inr (5, [.int 0, .int 0, .int 0, .ref nu3]))] sz) := by
  refine Met.ofW (cc := cX9_paste) (maxL := 8) (ret := (some .int)) (by decide) rfl ?_
  intro p e s m args below meth c s₁ B hml hv
  obtain ⟨rfl, hsz, hP, hK, hD0⟩ := hv
  have hx := B.exec
  have hb := B.bytes
  have hr := B.returns
  have hw0 : ∀ w ∈ wAll, w.before _ s = true := fun w h => atoms_spec (ws := Cond.code yX9_paste cX9_paste 8 (some .int) :: wAll) B.pre w (List.mem_cons_of_mem _ h)
  have hown : s.vm.findClass RX9 = some m.cls := findClass_of_methodNamed B.named
  have hlocks := B.notSynchronized
  subst hsz
  have hD := hD0.self (sz := s.heap.size)
  generalize hAe : va_A [(ob, .inr (9, [.ref tp, .int 0, .ref rd, .ref sa, .ref im, .ref sl, .ref ro, .ref wy, .ref od, .ref ok])), (sl, .inl (y 4, 4, .inr (.inr (.inr (.inr (va_up (va_up (va_up (va_up (fun _ => none) 0 (some s0)) 1 (some s1)) 2 (some s2)) 3 (some s3))))))), (s0, .inr (5, [.int 0, .int 0, .int 0, .ref nu0])), (s1, .inr (5, [.int 0, .int 0, .int 0, .ref nu1])), (s2, .inr (5, [.int 0, .int 0, .int 0, .ref nu2])), (s3, .inr (5, [.int 0, .int 0, .int 0, .ref nu3]))] s.heap.size = A at hD ⊢
  have hA : ∀ q : Nat, s.heap.size ≤ q → A q := fun q h => by rw [← hAe]; exact Or.inr h
  have hS : va_S A s.heap s.heap [] := va_S.rf
  have hP : va_P G vwCl [(ob, .inr (9, [.ref tp, .int 0, .ref rd, .ref sa, .ref im, .ref sl, .ref ro, .ref wy, .ref od, .ref ok])), (sl, .inl (y 4, 4, .inr (.inr (.inr (.inr (va_up (va_up (va_up (va_up (fun _ => none) 0 (some s0)) 1 (some s1)) 2 (some s2)) 3 (some s3))))))), (s0, .inr (5, [.int 0, .int 0, .int 0, .ref nu0])), (s1, .inr (5, [.int 0, .int 0, .int 0, .ref nu1])), (s2, .inr (5, [.int 0, .int 0, .int 0, .ref nu2])), (s3, .inr (5, [.int 0, .int 0, .int 0, .ref nu3]))] s.heap := hP
  have hl := lv_entry ([.ref ob, .int a1, .int a2, .int a3, .int a4, .int a5]) (n := 8) (Nat.le_of_ble_eq_true rfl)
  rw [lg_entry_eq]
  generalize (lg_sl ([.ref ob, .int a1, .int a2, .int a3, .int a4, .int a5]) ++ List.replicate (8 - (lg_sl ([.ref ob, .int a1, .int a2, .int a3, .int a4, .int a5])).length) Slot.unset).toArray = ls at hl ⊢
  have hl : lv_has ls 8 [(0, .ref ob), (1, .int a1), (2, .int a2), (3, .int a3), (4, .int a4), (5, .int a5)] := hl
  rcases sl_cases a1 with rfl | rfl | rfl | rfl | t_a1
  · have hl : lv_has ls 8 [(0, .ref ob), (1, .int 0), (2, .int a2), (3, .int a3), (4, .int a4), (5, .int a5)] := hl
    rcases sl_cases a3 with rfl | rfl | rfl | rfl | t_a3
    · have hl : lv_has ls 8 [(0, .ref ob), (1, .int 0), (2, .int a2), (3, .int 0), (4, .int a4), (5, .int a5)] := hl
      refine lv_iload_n hx hb dX9_paste_0 rfl (lv_at hl 1 rfl) ?_
      refine cSi (As := [.int 0]) (rest := []) ⟨hx, hb, hml, hown, hw0⟩ hA hK hP hD hS [] [0, 1, 2, 3, 4, 5] [] [(ob, .inr (9, [.ref tp, .int 0, .ref rd, .ref sa, .ref im, .ref sl, .ref ro, .ref wy, .ref od, .ref ok])), (sl, .inl (y 4, 4, .inr (.inr (.inr (.inr (va_up (va_up (va_up (va_up (fun _ => none) 0 (some s0)) 1 (some s1)) 2 (some s2)) 3 (some s3))))))), (s0, .inr (5, [.int 0, .int 0, .int 0, .ref nu0])), (s1, .inr (5, [.int 0, .int 0, .int 0, .ref nu1])), (s2, .inr (5, [.int 0, .int 0, .int 0, .ref nu2])), (s3, .inr (5, [.int 0, .int 0, .int 0, .ref nu3]))] rfl rfl (by decide) (by decide) (by decide) (kX9_isSlot l G y _ 0 ) ⟨(callB_of 1 hw0 (gA m_162) rfl rfl rfl (hw0 _ m_183) (hw0 _ m_200) (by decide +kernel) ⟨Nat.le_of_ble_eq_true rfl, Nat.le_of_ble_eq_true rfl⟩), (hw0 _ m_201)⟩ rfl hl.1 (Nat.le_of_ble_eq_true rfl) dX9_paste_1 ⟨Nat.le_of_ble_eq_true rfl, Nat.le_of_ble_eq_true rfl⟩ (fun r_1 w_1 H locs hw_1 hP hD hS => ?_)
      rcases hw_1 with ⟨c_2, rfl, rfl⟩ | ⟨c_3, rfl, rfl⟩
      · skip
        have hP : va_P G vwCl [(ob, .inr (9, [.ref tp, .int 0, .ref rd, .ref sa, .ref im, .ref sl, .ref ro, .ref wy, .ref od, .ref ok])), (sl, .inl (y 4, 4, .inr (.inr (.inr (.inr (va_up (va_up (va_up (va_up (fun _ => none) 0 (some s0)) 1 (some s1)) 2 (some s2)) 3 (some s3))))))), (s0, .inr (5, [.int 0, .int 0, .int 0, .ref nu0])), (s1, .inr (5, [.int 0, .int 0, .int 0, .ref nu1])), (s2, .inr (5, [.int 0, .int 0, .int 0, .ref nu2])), (s3, .inr (5, [.int 0, .int 0, .int 0, .ref nu3]))] H := hP
        have hD : va_D A [(ob, .inr (9, [.ref tp, .int 0, .ref rd, .ref sa, .ref im, .ref sl, .ref ro, .ref wy, .ref od, .ref ok])), (sl, .inl (y 4, 4, .inr (.inr (.inr (.inr (va_up (va_up (va_up (va_up (fun _ => none) 0 (some s0)) 1 (some s1)) 2 (some s2)) 3 (some s3))))))), (s0, .inr (5, [.int 0, .int 0, .int 0, .ref nu0])), (s1, .inr (5, [.int 0, .int 0, .int 0, .ref nu1])), (s2, .inr (5, [.int 0, .int 0, .int 0, .ref nu2])), (s3, .inr (5, [.int 0, .int 0, .int 0, .ref nu3]))] := hD
        refine lv_if_eq (tgt := 14) hx hb dX9_paste_4 (by decide) (fun c9 => absurd c9 (by decide)) (fun _ => ?_)
        refine lv_iload_n hx hb dX9_paste_7 rfl (lv_at hl 3 rfl) ?_
        refine cSi (As := [.int 0]) (rest := []) ⟨hx, hb, hml, hown, hw0⟩ hA hK hP hD hS [] [0, 1, 2, 3, 4, 5] [] [(ob, .inr (9, [.ref tp, .int 0, .ref rd, .ref sa, .ref im, .ref sl, .ref ro, .ref wy, .ref od, .ref ok])), (sl, .inl (y 4, 4, .inr (.inr (.inr (.inr (va_up (va_up (va_up (va_up (fun _ => none) 0 (some s0)) 1 (some s1)) 2 (some s2)) 3 (some s3))))))), (s0, .inr (5, [.int 0, .int 0, .int 0, .ref nu0])), (s1, .inr (5, [.int 0, .int 0, .int 0, .ref nu1])), (s2, .inr (5, [.int 0, .int 0, .int 0, .ref nu2])), (s3, .inr (5, [.int 0, .int 0, .int 0, .ref nu3]))] rfl rfl (by decide) (by decide) (by decide) (kX9_isSlot l G y _ 0 ) ⟨(callB_of 1 hw0 (gA m_162) rfl rfl rfl (hw0 _ m_183) (hw0 _ m_200) (by decide +kernel) ⟨Nat.le_of_ble_eq_true rfl, Nat.le_of_ble_eq_true rfl⟩), (hw0 _ m_201)⟩ rfl hl.1 (Nat.le_of_ble_eq_true rfl) dX9_paste_8 ⟨Nat.le_of_ble_eq_true rfl, Nat.le_of_ble_eq_true rfl⟩ (fun r_4 w_4 H locs hw_4 hP hD hS => ?_)
        rcases hw_4 with ⟨c_5, rfl, rfl⟩ | ⟨c_6, rfl, rfl⟩
        · skip
          have hP : va_P G vwCl [(ob, .inr (9, [.ref tp, .int 0, .ref rd, .ref sa, .ref im, .ref sl, .ref ro, .ref wy, .ref od, .ref ok])), (sl, .inl (y 4, 4, .inr (.inr (.inr (.inr (va_up (va_up (va_up (va_up (fun _ => none) 0 (some s0)) 1 (some s1)) 2 (some s2)) 3 (some s3))))))), (s0, .inr (5, [.int 0, .int 0, .int 0, .ref nu0])), (s1, .inr (5, [.int 0, .int 0, .int 0, .ref nu1])), (s2, .inr (5, [.int 0, .int 0, .int 0, .ref nu2])), (s3, .inr (5, [.int 0, .int 0, .int 0, .ref nu3]))] H := hP
          have hD : va_D A [(ob, .inr (9, [.ref tp, .int 0, .ref rd, .ref sa, .ref im, .ref sl, .ref ro, .ref wy, .ref od, .ref ok])), (sl, .inl (y 4, 4, .inr (.inr (.inr (.inr (va_up (va_up (va_up (va_up (fun _ => none) 0 (some s0)) 1 (some s1)) 2 (some s2)) 3 (some s3))))))), (s0, .inr (5, [.int 0, .int 0, .int 0, .ref nu0])), (s1, .inr (5, [.int 0, .int 0, .int 0, .ref nu1])), (s2, .inr (5, [.int 0, .int 0, .int 0, .ref nu2])), (s3, .inr (5, [.int 0, .int 0, .int 0, .ref nu3]))] := hD
          refine lv_if_ne (tgt := 17) hx hb dX9_paste_11 (by decide) (fun _ => ?_) (fun c9 => absurd c9 (by decide))
          refine lv_aload_n hx hb dX9_paste_17 rfl (lv_at hl 0 rfl) ?_
          refine va_get (D := G) (ci := 9) (v := .ref sl) (C := RX9) (T := TX9) (N := 10) hx hb hw0 inA_wsX90 hown hK.1 hP 0 rfl rfl 5 (by decide) (hw0 _ m_113) (fun _ h9 => h9) rfl dX9_paste_18 ?_
          refine lv_iload_n hx hb dX9_paste_21 rfl (lv_at hl 1 rfl) ?_
          refine va_aldq hx hb hK.1 hP 1 4 rfl rfl (vp_in_nI (n := 0) (N := 4) (by decide) (by decide)) dX9_paste_22 ?_
          refine W.eq (g2 := F0 m 23 ls [.ref s0]) rfl ?_
          refine lv_astore (lv' := [(6, .ref s0), (0, .ref ob), (1, .int 0), (2, .int a2), (3, .int 0), (4, .int a4), (5, .int a5)]) hx hb dX9_paste_23 hl (by decide) rfl (fun ls hl => ?_)
          refine lv_aload_n hx hb dX9_paste_25 rfl (lv_at hl 1 rfl) ?_
          refine va_get (D := G) (ci := 9) (v := .ref sl) (C := RX9) (T := TX9) (N := 10) hx hb hw0 inA_wsX90 hown hK.1 hP 0 rfl rfl 5 (by decide) (hw0 _ m_113) (fun _ h9 => h9) rfl dX9_paste_26 ?_
          refine lv_iload_n hx hb dX9_paste_29 rfl (lv_at hl 4 rfl) ?_
          refine va_aldq hx hb hK.1 hP 1 4 rfl rfl (vp_in_nI (n := 0) (N := 4) (by decide) (by decide)) dX9_paste_30 ?_
          refine W.eq (g2 := F0 m 31 ls [.ref s0]) rfl ?_
          refine lv_astore (lv' := [(7, .ref s0), (6, .ref s0), (0, .ref ob), (1, .int 0), (2, .int a2), (3, .int 0), (4, .int a4), (5, .int a5)]) hx hb dX9_paste_31 hl (by decide) rfl (fun ls hl => ?_)
          refine lv_aload hx hb dX9_paste_33 (lv_at hl 1 rfl) ?_
          refine va_get (D := G) (ci := 5) (v := .int 0) (C := RX5) (T := TX5) (N := 4) hx hb hw0 inA_wsX50 hown hK.1 hP 2 rfl rfl 0 (by decide) (hw0 _ m_233) (fun _ h9 => h9) rfl dX9_paste_35 ?_
          refine lv_if_eq (tgt := 49) hx hb dX9_paste_38 (by decide) (fun _ => ?_) (fun c9 => absurd (by decide) c9)
          refine lv_bipush (v := (-6)) hx hb dX9_paste_49 (by decide) ?_
          refine W.widen (k := 0) (n := 0) (Nat.le_of_ble_eq_true rfl) (Nat.le_of_ble_eq_true rfl) ?_
          exact W.iret (v := (-6)) hx hb hr (fun t ht hW => ⟨⟨(-6), _, rfl, (by first | rfl | decide | (simp only [sp_paste]; (repeat' split) <;> first | rfl | (exfalso; omega))), by rw [ht]; exact hP, hD⟩, hS.F ht⟩) hS.2.2 dX9_paste_51
        · skip
          exact absurd c_6 (by decide)
      · skip
        exact absurd c_3 (by decide)
    · have hl : lv_has ls 8 [(0, .ref ob), (1, .int 0), (2, .int a2), (3, .int 1), (4, .int a4), (5, .int a5)] := hl
      refine lv_iload_n hx hb dX9_paste_0 rfl (lv_at hl 1 rfl) ?_
      refine cSi (As := [.int 0]) (rest := []) ⟨hx, hb, hml, hown, hw0⟩ hA hK hP hD hS [] [0, 1, 2, 3, 4, 5] [] [(ob, .inr (9, [.ref tp, .int 0, .ref rd, .ref sa, .ref im, .ref sl, .ref ro, .ref wy, .ref od, .ref ok])), (sl, .inl (y 4, 4, .inr (.inr (.inr (.inr (va_up (va_up (va_up (va_up (fun _ => none) 0 (some s0)) 1 (some s1)) 2 (some s2)) 3 (some s3))))))), (s0, .inr (5, [.int 0, .int 0, .int 0, .ref nu0])), (s1, .inr (5, [.int 0, .int 0, .int 0, .ref nu1])), (s2, .inr (5, [.int 0, .int 0, .int 0, .ref nu2])), (s3, .inr (5, [.int 0, .int 0, .int 0, .ref nu3]))] rfl rfl (by decide) (by decide) (by decide) (kX9_isSlot l G y _ 0 ) ⟨(callB_of 1 hw0 (gA m_162) rfl rfl rfl (hw0 _ m_183) (hw0 _ m_200) (by decide +kernel) ⟨Nat.le_of_ble_eq_true rfl, Nat.le_of_ble_eq_true rfl⟩), (hw0 _ m_201)⟩ rfl hl.1 (Nat.le_of_ble_eq_true rfl) dX9_paste_1 ⟨Nat.le_of_ble_eq_true rfl, Nat.le_of_ble_eq_true rfl⟩ (fun r_7 w_7 H locs hw_7 hP hD hS => ?_)
      rcases hw_7 with ⟨c_8, rfl, rfl⟩ | ⟨c_9, rfl, rfl⟩
      · skip
        have hP : va_P G vwCl [(ob, .inr (9, [.ref tp, .int 0, .ref rd, .ref sa, .ref im, .ref sl, .ref ro, .ref wy, .ref od, .ref ok])), (sl, .inl (y 4, 4, .inr (.inr (.inr (.inr (va_up (va_up (va_up (va_up (fun _ => none) 0 (some s0)) 1 (some s1)) 2 (some s2)) 3 (some s3))))))), (s0, .inr (5, [.int 0, .int 0, .int 0, .ref nu0])), (s1, .inr (5, [.int 0, .int 0, .int 0, .ref nu1])), (s2, .inr (5, [.int 0, .int 0, .int 0, .ref nu2])), (s3, .inr (5, [.int 0, .int 0, .int 0, .ref nu3]))] H := hP
        have hD : va_D A [(ob, .inr (9, [.ref tp, .int 0, .ref rd, .ref sa, .ref im, .ref sl, .ref ro, .ref wy, .ref od, .ref ok])), (sl, .inl (y 4, 4, .inr (.inr (.inr (.inr (va_up (va_up (va_up (va_up (fun _ => none) 0 (some s0)) 1 (some s1)) 2 (some s2)) 3 (some s3))))))), (s0, .inr (5, [.int 0, .int 0, .int 0, .ref nu0])), (s1, .inr (5, [.int 0, .int 0, .int 0, .ref nu1])), (s2, .inr (5, [.int 0, .int 0, .int 0, .ref nu2])), (s3, .inr (5, [.int 0, .int 0, .int 0, .ref nu3]))] := hD
        refine lv_if_eq (tgt := 14) hx hb dX9_paste_4 (by decide) (fun c9 => absurd c9 (by decide)) (fun _ => ?_)
        refine lv_iload_n hx hb dX9_paste_7 rfl (lv_at hl 3 rfl) ?_
        refine cSi (As := [.int 1]) (rest := []) ⟨hx, hb, hml, hown, hw0⟩ hA hK hP hD hS [] [0, 1, 2, 3, 4, 5] [] [(ob, .inr (9, [.ref tp, .int 0, .ref rd, .ref sa, .ref im, .ref sl, .ref ro, .ref wy, .ref od, .ref ok])), (sl, .inl (y 4, 4, .inr (.inr (.inr (.inr (va_up (va_up (va_up (va_up (fun _ => none) 0 (some s0)) 1 (some s1)) 2 (some s2)) 3 (some s3))))))), (s0, .inr (5, [.int 0, .int 0, .int 0, .ref nu0])), (s1, .inr (5, [.int 0, .int 0, .int 0, .ref nu1])), (s2, .inr (5, [.int 0, .int 0, .int 0, .ref nu2])), (s3, .inr (5, [.int 0, .int 0, .int 0, .ref nu3]))] rfl rfl (by decide) (by decide) (by decide) (kX9_isSlot l G y _ 1 ) ⟨(callB_of 1 hw0 (gA m_162) rfl rfl rfl (hw0 _ m_183) (hw0 _ m_200) (by decide +kernel) ⟨Nat.le_of_ble_eq_true rfl, Nat.le_of_ble_eq_true rfl⟩), (hw0 _ m_201)⟩ rfl hl.1 (Nat.le_of_ble_eq_true rfl) dX9_paste_8 ⟨Nat.le_of_ble_eq_true rfl, Nat.le_of_ble_eq_true rfl⟩ (fun r_10 w_10 H locs hw_10 hP hD hS => ?_)
        rcases hw_10 with ⟨c_11, rfl, rfl⟩ | ⟨c_12, rfl, rfl⟩
        · skip
          have hP : va_P G vwCl [(ob, .inr (9, [.ref tp, .int 0, .ref rd, .ref sa, .ref im, .ref sl, .ref ro, .ref wy, .ref od, .ref ok])), (sl, .inl (y 4, 4, .inr (.inr (.inr (.inr (va_up (va_up (va_up (va_up (fun _ => none) 0 (some s0)) 1 (some s1)) 2 (some s2)) 3 (some s3))))))), (s0, .inr (5, [.int 0, .int 0, .int 0, .ref nu0])), (s1, .inr (5, [.int 0, .int 0, .int 0, .ref nu1])), (s2, .inr (5, [.int 0, .int 0, .int 0, .ref nu2])), (s3, .inr (5, [.int 0, .int 0, .int 0, .ref nu3]))] H := hP
          have hD : va_D A [(ob, .inr (9, [.ref tp, .int 0, .ref rd, .ref sa, .ref im, .ref sl, .ref ro, .ref wy, .ref od, .ref ok])), (sl, .inl (y 4, 4, .inr (.inr (.inr (.inr (va_up (va_up (va_up (va_up (fun _ => none) 0 (some s0)) 1 (some s1)) 2 (some s2)) 3 (some s3))))))), (s0, .inr (5, [.int 0, .int 0, .int 0, .ref nu0])), (s1, .inr (5, [.int 0, .int 0, .int 0, .ref nu1])), (s2, .inr (5, [.int 0, .int 0, .int 0, .ref nu2])), (s3, .inr (5, [.int 0, .int 0, .int 0, .ref nu3]))] := hD
          refine lv_if_ne (tgt := 17) hx hb dX9_paste_11 (by decide) (fun _ => ?_) (fun c9 => absurd c9 (by decide))
          refine lv_aload_n hx hb dX9_paste_17 rfl (lv_at hl 0 rfl) ?_
          refine va_get (D := G) (ci := 9) (v := .ref sl) (C := RX9) (T := TX9) (N := 10) hx hb hw0 inA_wsX90 hown hK.1 hP 0 rfl rfl 5 (by decide) (hw0 _ m_113) (fun _ h9 => h9) rfl dX9_paste_18 ?_
          refine lv_iload_n hx hb dX9_paste_21 rfl (lv_at hl 1 rfl) ?_
          refine va_aldq hx hb hK.1 hP 1 4 rfl rfl (vp_in_nI (n := 0) (N := 4) (by decide) (by decide)) dX9_paste_22 ?_
          refine W.eq (g2 := F0 m 23 ls [.ref s0]) rfl ?_
          refine lv_astore (lv' := [(6, .ref s0), (0, .ref ob), (1, .int 0), (2, .int a2), (3, .int 1), (4, .int a4), (5, .int a5)]) hx hb dX9_paste_23 hl (by decide) rfl (fun ls hl => ?_)
          refine lv_aload_n hx hb dX9_paste_25 rfl (lv_at hl 1 rfl) ?_
          refine va_get (D := G) (ci := 9) (v := .ref sl) (C := RX9) (T := TX9) (N := 10) hx hb hw0 inA_wsX90 hown hK.1 hP 0 rfl rfl 5 (by decide) (hw0 _ m_113) (fun _ h9 => h9) rfl dX9_paste_26 ?_
          refine lv_iload_n hx hb dX9_paste_29 rfl (lv_at hl 4 rfl) ?_
          refine va_aldq hx hb hK.1 hP 1 4 rfl rfl (vp_in_nI (n := 1) (N := 4) (by decide) (by decide)) dX9_paste_30 ?_
          refine W.eq (g2 := F0 m 31 ls [.ref s1]) rfl ?_
          refine lv_astore (lv' := [(7, .ref s1), (6, .ref s0), (0, .ref ob), (1, .int 0), (2, .int a2), (3, .int 1), (4, .int a4), (5, .int a5)]) hx hb dX9_paste_31 hl (by decide) rfl (fun ls hl => ?_)
          refine lv_aload hx hb dX9_paste_33 (lv_at hl 1 rfl) ?_
          refine va_get (D := G) (ci := 5) (v := .int 0) (C := RX5) (T := TX5) (N := 4) hx hb hw0 inA_wsX50 hown hK.1 hP 2 rfl rfl 0 (by decide) (hw0 _ m_233) (fun _ h9 => h9) rfl dX9_paste_35 ?_
          refine lv_if_eq (tgt := 49) hx hb dX9_paste_38 (by decide) (fun _ => ?_) (fun c9 => absurd (by decide) c9)
          refine lv_bipush (v := (-6)) hx hb dX9_paste_49 (by decide) ?_
          refine W.widen (k := 0) (n := 0) (Nat.le_of_ble_eq_true rfl) (Nat.le_of_ble_eq_true rfl) ?_
          exact W.iret (v := (-6)) hx hb hr (fun t ht hW => ⟨⟨(-6), _, rfl, (by first | rfl | decide | (simp only [sp_paste]; (repeat' split) <;> first | rfl | (exfalso; omega))), by rw [ht]; exact hP, hD⟩, hS.F ht⟩) hS.2.2 dX9_paste_51
        · skip
          exact absurd c_12 (by decide)
      · skip
        exact absurd c_9 (by decide)
    · have hl : lv_has ls 8 [(0, .ref ob), (1, .int 0), (2, .int a2), (3, .int 2), (4, .int a4), (5, .int a5)] := hl
      refine lv_iload_n hx hb dX9_paste_0 rfl (lv_at hl 1 rfl) ?_
      refine cSi (As := [.int 0]) (rest := []) ⟨hx, hb, hml, hown, hw0⟩ hA hK hP hD hS [] [0, 1, 2, 3, 4, 5] [] [(ob, .inr (9, [.ref tp, .int 0, .ref rd, .ref sa, .ref im, .ref sl, .ref ro, .ref wy, .ref od, .ref ok])), (sl, .inl (y 4, 4, .inr (.inr (.inr (.inr (va_up (va_up (va_up (va_up (fun _ => none) 0 (some s0)) 1 (some s1)) 2 (some s2)) 3 (some s3))))))), (s0, .inr (5, [.int 0, .int 0, .int 0, .ref nu0])), (s1, .inr (5, [.int 0, .int 0, .int 0, .ref nu1])), (s2, .inr (5, [.int 0, .int 0, .int 0, .ref nu2])), (s3, .inr (5, [.int 0, .int 0, .int 0, .ref nu3]))] rfl rfl (by decide) (by decide) (by decide) (kX9_isSlot l G y _ 0 ) ⟨(callB_of 1 hw0 (gA m_162) rfl rfl rfl (hw0 _ m_183) (hw0 _ m_200) (by decide +kernel) ⟨Nat.le_of_ble_eq_true rfl, Nat.le_of_ble_eq_true rfl⟩), (hw0 _ m_201)⟩ rfl hl.1 (Nat.le_of_ble_eq_true rfl) dX9_paste_1 ⟨Nat.le_of_ble_eq_true rfl, Nat.le_of_ble_eq_true rfl⟩ (fun r_13 w_13 H locs hw_13 hP hD hS => ?_)
      rcases hw_13 with ⟨c_14, rfl, rfl⟩ | ⟨c_15, rfl, rfl⟩
      · skip
        have hP : va_P G vwCl [(ob, .inr (9, [.ref tp, .int 0, .ref rd, .ref sa, .ref im, .ref sl, .ref ro, .ref wy, .ref od, .ref ok])), (sl, .inl (y 4, 4, .inr (.inr (.inr (.inr (va_up (va_up (va_up (va_up (fun _ => none) 0 (some s0)) 1 (some s1)) 2 (some s2)) 3 (some s3))))))), (s0, .inr (5, [.int 0, .int 0, .int 0, .ref nu0])), (s1, .inr (5, [.int 0, .int 0, .int 0, .ref nu1])), (s2, .inr (5, [.int 0, .int 0, .int 0, .ref nu2])), (s3, .inr (5, [.int 0, .int 0, .int 0, .ref nu3]))] H := hP
        have hD : va_D A [(ob, .inr (9, [.ref tp, .int 0, .ref rd, .ref sa, .ref im, .ref sl, .ref ro, .ref wy, .ref od, .ref ok])), (sl, .inl (y 4, 4, .inr (.inr (.inr (.inr (va_up (va_up (va_up (va_up (fun _ => none) 0 (some s0)) 1 (some s1)) 2 (some s2)) 3 (some s3))))))), (s0, .inr (5, [.int 0, .int 0, .int 0, .ref nu0])), (s1, .inr (5, [.int 0, .int 0, .int 0, .ref nu1])), (s2, .inr (5, [.int 0, .int 0, .int 0, .ref nu2])), (s3, .inr (5, [.int 0, .int 0, .int 0, .ref nu3]))] := hD
        refine lv_if_eq (tgt := 14) hx hb dX9_paste_4 (by decide) (fun c9 => absurd c9 (by decide)) (fun _ => ?_)
        refine lv_iload_n hx hb dX9_paste_7 rfl (lv_at hl 3 rfl) ?_
        refine cSi (As := [.int 2]) (rest := []) ⟨hx, hb, hml, hown, hw0⟩ hA hK hP hD hS [] [0, 1, 2, 3, 4, 5] [] [(ob, .inr (9, [.ref tp, .int 0, .ref rd, .ref sa, .ref im, .ref sl, .ref ro, .ref wy, .ref od, .ref ok])), (sl, .inl (y 4, 4, .inr (.inr (.inr (.inr (va_up (va_up (va_up (va_up (fun _ => none) 0 (some s0)) 1 (some s1)) 2 (some s2)) 3 (some s3))))))), (s0, .inr (5, [.int 0, .int 0, .int 0, .ref nu0])), (s1, .inr (5, [.int 0, .int 0, .int 0, .ref nu1])), (s2, .inr (5, [.int 0, .int 0, .int 0, .ref nu2])), (s3, .inr (5, [.int 0, .int 0, .int 0, .ref nu3]))] rfl rfl (by decide) (by decide) (by decide) (kX9_isSlot l G y _ 2 ) ⟨(callB_of 1 hw0 (gA m_162) rfl rfl rfl (hw0 _ m_183) (hw0 _ m_200) (by decide +kernel) ⟨Nat.le_of_ble_eq_true rfl, Nat.le_of_ble_eq_true rfl⟩), (hw0 _ m_201)⟩ rfl hl.1 (Nat.le_of_ble_eq_true rfl) dX9_paste_8 ⟨Nat.le_of_ble_eq_true rfl, Nat.le_of_ble_eq_true rfl⟩ (fun r_16 w_16 H locs hw_16 hP hD hS => ?_)
        rcases hw_16 with ⟨c_17, rfl, rfl⟩ | ⟨c_18, rfl, rfl⟩
        · skip
          have hP : va_P G vwCl [(ob, .inr (9, [.ref tp, .int 0, .ref rd, .ref sa, .ref im, .ref sl, .ref ro, .ref wy, .ref od, .ref ok])), (sl, .inl (y 4, 4, .inr (.inr (.inr (.inr (va_up (va_up (va_up (va_up (fun _ => none) 0 (some s0)) 1 (some s1)) 2 (some s2)) 3 (some s3))))))), (s0, .inr (5, [.int 0, .int 0, .int 0, .ref nu0])), (s1, .inr (5, [.int 0, .int 0, .int 0, .ref nu1])), (s2, .inr (5, [.int 0, .int 0, .int 0, .ref nu2])), (s3, .inr (5, [.int 0, .int 0, .int 0, .ref nu3]))] H := hP
          have hD : va_D A [(ob, .inr (9, [.ref tp, .int 0, .ref rd, .ref sa, .ref im, .ref sl, .ref ro, .ref wy, .ref od, .ref ok])), (sl, .inl (y 4, 4, .inr (.inr (.inr (.inr (va_up (va_up (va_up (va_up (fun _ => none) 0 (some s0)) 1 (some s1)) 2 (some s2)) 3 (some s3))))))), (s0, .inr (5, [.int 0, .int 0, .int 0, .ref nu0])), (s1, .inr (5, [.int 0, .int 0, .int 0, .ref nu1])), (s2, .inr (5, [.int 0, .int 0, .int 0, .ref nu2])), (s3, .inr (5, [.int 0, .int 0, .int 0, .ref nu3]))] := hD
          refine lv_if_ne (tgt := 17) hx hb dX9_paste_11 (by decide) (fun _ => ?_) (fun c9 => absurd c9 (by decide))
          refine lv_aload_n hx hb dX9_paste_17 rfl (lv_at hl 0 rfl) ?_
          refine va_get (D := G) (ci := 9) (v := .ref sl) (C := RX9) (T := TX9) (N := 10) hx hb hw0 inA_wsX90 hown hK.1 hP 0 rfl rfl 5 (by decide) (hw0 _ m_113) (fun _ h9 => h9) rfl dX9_paste_18 ?_
          refine lv_iload_n hx hb dX9_paste_21 rfl (lv_at hl 1 rfl) ?_
          refine va_aldq hx hb hK.1 hP 1 4 rfl rfl (vp_in_nI (n := 0) (N := 4) (by decide) (by decide)) dX9_paste_22 ?_
          refine W.eq (g2 := F0 m 23 ls [.ref s0]) rfl ?_
          refine lv_astore (lv' := [(6, .ref s0), (0, .ref ob), (1, .int 0), (2, .int a2), (3, .int 2), (4, .int a4), (5, .int a5)]) hx hb dX9_paste_23 hl (by decide) rfl (fun ls hl => ?_)
          refine lv_aload_n hx hb dX9_paste_25 rfl (lv_at hl 1 rfl) ?_
          refine va_get (D := G) (ci := 9) (v := .ref sl) (C := RX9) (T := TX9) (N := 10) hx hb hw0 inA_wsX90 hown hK.1 hP 0 rfl rfl 5 (by decide) (hw0 _ m_113) (fun _ h9 => h9) rfl dX9_paste_26 ?_
          refine lv_iload_n hx hb dX9_paste_29 rfl (lv_at hl 4 rfl) ?_
          refine va_aldq hx hb hK.1 hP 1 4 rfl rfl (vp_in_nI (n := 2) (N := 4) (by decide) (by decide)) dX9_paste_30 ?_
          refine W.eq (g2 := F0 m 31 ls [.ref s2]) rfl ?_
          refine lv_astore (lv' := [(7, .ref s2), (6, .ref s0), (0, .ref ob), (1, .int 0), (2, .int a2), (3, .int 2), (4, .int a4), (5, .int a5)]) hx hb dX9_paste_31 hl (by decide) rfl (fun ls hl => ?_)
          refine lv_aload hx hb dX9_paste_33 (lv_at hl 1 rfl) ?_
          refine va_get (D := G) (ci := 5) (v := .int 0) (C := RX5) (T := TX5) (N := 4) hx hb hw0 inA_wsX50 hown hK.1 hP 2 rfl rfl 0 (by decide) (hw0 _ m_233) (fun _ h9 => h9) rfl dX9_paste_35 ?_
          refine lv_if_eq (tgt := 49) hx hb dX9_paste_38 (by decide) (fun _ => ?_) (fun c9 => absurd (by decide) c9)
          refine lv_bipush (v := (-6)) hx hb dX9_paste_49 (by decide) ?_
          refine W.widen (k := 0) (n := 0) (Nat.le_of_ble_eq_true rfl) (Nat.le_of_ble_eq_true rfl) ?_
          exact W.iret (v := (-6)) hx hb hr (fun t ht hW => ⟨⟨(-6), _, rfl, (by first | rfl | decide | (simp only [sp_paste]; (repeat' split) <;> first | rfl | (exfalso; omega))), by rw [ht]; exact hP, hD⟩, hS.F ht⟩) hS.2.2 dX9_paste_51
        · skip
          exact absurd c_18 (by decide)
      · skip
        exact absurd c_15 (by decide)
    · have hl : lv_has ls 8 [(0, .ref ob), (1, .int 0), (2, .int a2), (3, .int 3), (4, .int a4), (5, .int a5)] := hl
      refine lv_iload_n hx hb dX9_paste_0 rfl (lv_at hl 1 rfl) ?_
      refine cSi (As := [.int 0]) (rest := []) ⟨hx, hb, hml, hown, hw0⟩ hA hK hP hD hS [] [0, 1, 2, 3, 4, 5] [] [(ob, .inr (9, [.ref tp, .int 0, .ref rd, .ref sa, .ref im, .ref sl, .ref ro, .ref wy, .ref od, .ref ok])), (sl, .inl (y 4, 4, .inr (.inr (.inr (.inr (va_up (va_up (va_up (va_up (fun _ => none) 0 (some s0)) 1 (some s1)) 2 (some s2)) 3 (some s3))))))), (s0, .inr (5, [.int 0, .int 0, .int 0, .ref nu0])), (s1, .inr (5, [.int 0, .int 0, .int 0, .ref nu1])), (s2, .inr (5, [.int 0, .int 0, .int 0, .ref nu2])), (s3, .inr (5, [.int 0, .int 0, .int 0, .ref nu3]))] rfl rfl (by decide) (by decide) (by decide) (kX9_isSlot l G y _ 0 ) ⟨(callB_of 1 hw0 (gA m_162) rfl rfl rfl (hw0 _ m_183) (hw0 _ m_200) (by decide +kernel) ⟨Nat.le_of_ble_eq_true rfl, Nat.le_of_ble_eq_true rfl⟩), (hw0 _ m_201)⟩ rfl hl.1 (Nat.le_of_ble_eq_true rfl) dX9_paste_1 ⟨Nat.le_of_ble_eq_true rfl, Nat.le_of_ble_eq_true rfl⟩ (fun r_19 w_19 H locs hw_19 hP hD hS => ?_)
      rcases hw_19 with ⟨c_20, rfl, rfl⟩ | ⟨c_21, rfl, rfl⟩
      · skip
        have hP : va_P G vwCl [(ob, .inr (9, [.ref tp, .int 0, .ref rd, .ref sa, .ref im, .ref sl, .ref ro, .ref wy, .ref od, .ref ok])), (sl, .inl (y 4, 4, .inr (.inr (.inr (.inr (va_up (va_up (va_up (va_up (fun _ => none) 0 (some s0)) 1 (some s1)) 2 (some s2)) 3 (some s3))))))), (s0, .inr (5, [.int 0, .int 0, .int 0, .ref nu0])), (s1, .inr (5, [.int 0, .int 0, .int 0, .ref nu1])), (s2, .inr (5, [.int 0, .int 0, .int 0, .ref nu2])), (s3, .inr (5, [.int 0, .int 0, .int 0, .ref nu3]))] H := hP
        have hD : va_D A [(ob, .inr (9, [.ref tp, .int 0, .ref rd, .ref sa, .ref im, .ref sl, .ref ro, .ref wy, .ref od, .ref ok])), (sl, .inl (y 4, 4, .inr (.inr (.inr (.inr (va_up (va_up (va_up (va_up (fun _ => none) 0 (some s0)) 1 (some s1)) 2 (some s2)) 3 (some s3))))))), (s0, .inr (5, [.int 0, .int 0, .int 0, .ref nu0])), (s1, .inr (5, [.int 0, .int 0, .int 0, .ref nu1])), (s2, .inr (5, [.int 0, .int 0, .int 0, .ref nu2])), (s3, .inr (5, [.int 0, .int 0, .int 0, .ref nu3]))] := hD
        refine lv_if_eq (tgt := 14) hx hb dX9_paste_4 (by decide) (fun c9 => absurd c9 (by decide)) (fun _ => ?_)
        refine lv_iload_n hx hb dX9_paste_7 rfl (lv_at hl 3 rfl) ?_
        refine cSi (As := [.int 3]) (rest := []) ⟨hx, hb, hml, hown, hw0⟩ hA hK hP hD hS [] [0, 1, 2, 3, 4, 5] [] [(ob, .inr (9, [.ref tp, .int 0, .ref rd, .ref sa, .ref im, .ref sl, .ref ro, .ref wy, .ref od, .ref ok])), (sl, .inl (y 4, 4, .inr (.inr (.inr (.inr (va_up (va_up (va_up (va_up (fun _ => none) 0 (some s0)) 1 (some s1)) 2 (some s2)) 3 (some s3))))))), (s0, .inr (5, [.int 0, .int 0, .int 0, .ref nu0])), (s1, .inr (5, [.int 0, .int 0, .int 0, .ref nu1])), (s2, .inr (5, [.int 0, .int 0, .int 0, .ref nu2])), (s3, .inr (5, [.int 0, .int 0, .int 0, .ref nu3]))] rfl rfl (by decide) (by decide) (by decide) (kX9_isSlot l G y _ 3 ) ⟨(callB_of 1 hw0 (gA m_162) rfl rfl rfl (hw0 _ m_183) (hw0 _ m_200) (by decide +kernel) ⟨Nat.le_of_ble_eq_true rfl, Nat.le_of_ble_eq_true rfl⟩), (hw0 _ m_201)⟩ rfl hl.1 (Nat.le_of_ble_eq_true rfl) dX9_paste_8 ⟨Nat.le_of_ble_eq_true rfl, Nat.le_of_ble_eq_true rfl⟩ (fun r_22 w_22 H locs hw_22 hP hD hS => ?_)
        rcases hw_22 with ⟨c_23, rfl, rfl⟩ | ⟨c_24, rfl, rfl⟩
        · skip
          have hP : va_P G vwCl [(ob, .inr (9, [.ref tp, .int 0, .ref rd, .ref sa, .ref im, .ref sl, .ref ro, .ref wy, .ref od, .ref ok])), (sl, .inl (y 4, 4, .inr (.inr (.inr (.inr (va_up (va_up (va_up (va_up (fun _ => none) 0 (some s0)) 1 (some s1)) 2 (some s2)) 3 (some s3))))))), (s0, .inr (5, [.int 0, .int 0, .int 0, .ref nu0])), (s1, .inr (5, [.int 0, .int 0, .int 0, .ref nu1])), (s2, .inr (5, [.int 0, .int 0, .int 0, .ref nu2])), (s3, .inr (5, [.int 0, .int 0, .int 0, .ref nu3]))] H := hP
          have hD : va_D A [(ob, .inr (9, [.ref tp, .int 0, .ref rd, .ref sa, .ref im, .ref sl, .ref ro, .ref wy, .ref od, .ref ok])), (sl, .inl (y 4, 4, .inr (.inr (.inr (.inr (va_up (va_up (va_up (va_up (fun _ => none) 0 (some s0)) 1 (some s1)) 2 (some s2)) 3 (some s3))))))), (s0, .inr (5, [.int 0, .int 0, .int 0, .ref nu0])), (s1, .inr (5, [.int 0, .int 0, .int 0, .ref nu1])), (s2, .inr (5, [.int 0, .int 0, .int 0, .ref nu2])), (s3, .inr (5, [.int 0, .int 0, .int 0, .ref nu3]))] := hD
          refine lv_if_ne (tgt := 17) hx hb dX9_paste_11 (by decide) (fun _ => ?_) (fun c9 => absurd c9 (by decide))
          refine lv_aload_n hx hb dX9_paste_17 rfl (lv_at hl 0 rfl) ?_
          refine va_get (D := G) (ci := 9) (v := .ref sl) (C := RX9) (T := TX9) (N := 10) hx hb hw0 inA_wsX90 hown hK.1 hP 0 rfl rfl 5 (by decide) (hw0 _ m_113) (fun _ h9 => h9) rfl dX9_paste_18 ?_
          refine lv_iload_n hx hb dX9_paste_21 rfl (lv_at hl 1 rfl) ?_
          refine va_aldq hx hb hK.1 hP 1 4 rfl rfl (vp_in_nI (n := 0) (N := 4) (by decide) (by decide)) dX9_paste_22 ?_
          refine W.eq (g2 := F0 m 23 ls [.ref s0]) rfl ?_
          refine lv_astore (lv' := [(6, .ref s0), (0, .ref ob), (1, .int 0), (2, .int a2), (3, .int 3), (4, .int a4), (5, .int a5)]) hx hb dX9_paste_23 hl (by decide) rfl (fun ls hl => ?_)
          refine lv_aload_n hx hb dX9_paste_25 rfl (lv_at hl 1 rfl) ?_
          refine va_get (D := G) (ci := 9) (v := .ref sl) (C := RX9) (T := TX9) (N := 10) hx hb hw0 inA_wsX90 hown hK.1 hP 0 rfl rfl 5 (by decide) (hw0 _ m_113) (fun _ h9 => h9) rfl dX9_paste_26 ?_
          refine lv_iload_n hx hb dX9_paste_29 rfl (lv_at hl 4 rfl) ?_
          refine va_aldq hx hb hK.1 hP 1 4 rfl rfl (vp_in_nI (n := 3) (N := 4) (by decide) (by decide)) dX9_paste_30 ?_
          refine W.eq (g2 := F0 m 31 ls [.ref s3]) rfl ?_
          refine lv_astore (lv' := [(7, .ref s3), (6, .ref s0), (0, .ref ob), (1, .int 0), (2, .int a2), (3, .int 3), (4, .int a4), (5, .int a5)]) hx hb dX9_paste_31 hl (by decide) rfl (fun ls hl => ?_)
          refine lv_aload hx hb dX9_paste_33 (lv_at hl 1 rfl) ?_
          refine va_get (D := G) (ci := 5) (v := .int 0) (C := RX5) (T := TX5) (N := 4) hx hb hw0 inA_wsX50 hown hK.1 hP 2 rfl rfl 0 (by decide) (hw0 _ m_233) (fun _ h9 => h9) rfl dX9_paste_35 ?_
          refine lv_if_eq (tgt := 49) hx hb dX9_paste_38 (by decide) (fun _ => ?_) (fun c9 => absurd (by decide) c9)
          refine lv_bipush (v := (-6)) hx hb dX9_paste_49 (by decide) ?_
          refine W.widen (k := 0) (n := 0) (Nat.le_of_ble_eq_true rfl) (Nat.le_of_ble_eq_true rfl) ?_
          exact W.iret (v := (-6)) hx hb hr (fun t ht hW => ⟨⟨(-6), _, rfl, (by first | rfl | decide | (simp only [sp_paste]; (repeat' split) <;> first | rfl | (exfalso; omega))), by rw [ht]; exact hP, hD⟩, hS.F ht⟩) hS.2.2 dX9_paste_51
        · skip
          exact absurd c_24 (by decide)
      · skip
        exact absurd c_21 (by decide)
    · have hl : lv_has ls 8 [(0, .ref ob), (1, .int 0), (2, .int a2), (3, .int a3), (4, .int a4), (5, .int a5)] := hl
      refine lv_iload_n hx hb dX9_paste_0 rfl (lv_at hl 1 rfl) ?_
      refine cSi (As := [.int 0]) (rest := []) ⟨hx, hb, hml, hown, hw0⟩ hA hK hP hD hS [] [0, 1, 2, 3, 4, 5] [] [(ob, .inr (9, [.ref tp, .int 0, .ref rd, .ref sa, .ref im, .ref sl, .ref ro, .ref wy, .ref od, .ref ok])), (sl, .inl (y 4, 4, .inr (.inr (.inr (.inr (va_up (va_up (va_up (va_up (fun _ => none) 0 (some s0)) 1 (some s1)) 2 (some s2)) 3 (some s3))))))), (s0, .inr (5, [.int 0, .int 0, .int 0, .ref nu0])), (s1, .inr (5, [.int 0, .int 0, .int 0, .ref nu1])), (s2, .inr (5, [.int 0, .int 0, .int 0, .ref nu2])), (s3, .inr (5, [.int 0, .int 0, .int 0, .ref nu3]))] rfl rfl (by decide) (by decide) (by decide) (kX9_isSlot l G y _ 0 ) ⟨(callB_of 1 hw0 (gA m_162) rfl rfl rfl (hw0 _ m_183) (hw0 _ m_200) (by decide +kernel) ⟨Nat.le_of_ble_eq_true rfl, Nat.le_of_ble_eq_true rfl⟩), (hw0 _ m_201)⟩ rfl hl.1 (Nat.le_of_ble_eq_true rfl) dX9_paste_1 ⟨Nat.le_of_ble_eq_true rfl, Nat.le_of_ble_eq_true rfl⟩ (fun r_25 w_25 H locs hw_25 hP hD hS => ?_)
      rcases hw_25 with ⟨c_26, rfl, rfl⟩ | ⟨c_27, rfl, rfl⟩
      · skip
        have hP : va_P G vwCl [(ob, .inr (9, [.ref tp, .int 0, .ref rd, .ref sa, .ref im, .ref sl, .ref ro, .ref wy, .ref od, .ref ok])), (sl, .inl (y 4, 4, .inr (.inr (.inr (.inr (va_up (va_up (va_up (va_up (fun _ => none) 0 (some s0)) 1 (some s1)) 2 (some s2)) 3 (some s3))))))), (s0, .inr (5, [.int 0, .int 0, .int 0, .ref nu0])), (s1, .inr (5, [.int 0, .int 0, .int 0, .ref nu1])), (s2, .inr (5, [.int 0, .int 0, .int 0, .ref nu2])), (s3, .inr (5, [.int 0, .int 0, .int 0, .ref nu3]))] H := hP
        have hD : va_D A [(ob, .inr (9, [.ref tp, .int 0, .ref rd, .ref sa, .ref im, .ref sl, .ref ro, .ref wy, .ref od, .ref ok])), (sl, .inl (y 4, 4, .inr (.inr (.inr (.inr (va_up (va_up (va_up (va_up (fun _ => none) 0 (some s0)) 1 (some s1)) 2 (some s2)) 3 (some s3))))))), (s0, .inr (5, [.int 0, .int 0, .int 0, .ref nu0])), (s1, .inr (5, [.int 0, .int 0, .int 0, .ref nu1])), (s2, .inr (5, [.int 0, .int 0, .int 0, .ref nu2])), (s3, .inr (5, [.int 0, .int 0, .int 0, .ref nu3]))] := hD
        refine lv_if_eq (tgt := 14) hx hb dX9_paste_4 (by decide) (fun c9 => absurd c9 (by decide)) (fun _ => ?_)
        refine lv_iload_n hx hb dX9_paste_7 rfl (lv_at hl 3 rfl) ?_
        refine cSi (As := [.int a3]) (rest := []) ⟨hx, hb, hml, hown, hw0⟩ hA hK hP hD hS [] [0, 1, 2, 3, 4, 5] [] [(ob, .inr (9, [.ref tp, .int 0, .ref rd, .ref sa, .ref im, .ref sl, .ref ro, .ref wy, .ref od, .ref ok])), (sl, .inl (y 4, 4, .inr (.inr (.inr (.inr (va_up (va_up (va_up (va_up (fun _ => none) 0 (some s0)) 1 (some s1)) 2 (some s2)) 3 (some s3))))))), (s0, .inr (5, [.int 0, .int 0, .int 0, .ref nu0])), (s1, .inr (5, [.int 0, .int 0, .int 0, .ref nu1])), (s2, .inr (5, [.int 0, .int 0, .int 0, .ref nu2])), (s3, .inr (5, [.int 0, .int 0, .int 0, .ref nu3]))] rfl rfl (by decide) (by decide) (by decide) (kX9_isSlot l G y _ a3 ) ⟨(callB_of 1 hw0 (gA m_162) rfl rfl rfl (hw0 _ m_183) (hw0 _ m_200) (by decide +kernel) ⟨Nat.le_of_ble_eq_true rfl, Nat.le_of_ble_eq_true rfl⟩), (hw0 _ m_201)⟩ rfl hl.1 (Nat.le_of_ble_eq_true rfl) dX9_paste_8 ⟨Nat.le_of_ble_eq_true rfl, Nat.le_of_ble_eq_true rfl⟩ (fun r_28 w_28 H locs hw_28 hP hD hS => ?_)
        rcases hw_28 with ⟨c_29, rfl, rfl⟩ | ⟨c_30, rfl, rfl⟩
        · skip
          exfalso; omega
        · skip
          have hP : va_P G vwCl [(ob, .inr (9, [.ref tp, .int 0, .ref rd, .ref sa, .ref im, .ref sl, .ref ro, .ref wy, .ref od, .ref ok])), (sl, .inl (y 4, 4, .inr (.inr (.inr (.inr (va_up (va_up (va_up (va_up (fun _ => none) 0 (some s0)) 1 (some s1)) 2 (some s2)) 3 (some s3))))))), (s0, .inr (5, [.int 0, .int 0, .int 0, .ref nu0])), (s1, .inr (5, [.int 0, .int 0, .int 0, .ref nu1])), (s2, .inr (5, [.int 0, .int 0, .int 0, .ref nu2])), (s3, .inr (5, [.int 0, .int 0, .int 0, .ref nu3]))] H := hP
          have hD : va_D A [(ob, .inr (9, [.ref tp, .int 0, .ref rd, .ref sa, .ref im, .ref sl, .ref ro, .ref wy, .ref od, .ref ok])), (sl, .inl (y 4, 4, .inr (.inr (.inr (.inr (va_up (va_up (va_up (va_up (fun _ => none) 0 (some s0)) 1 (some s1)) 2 (some s2)) 3 (some s3))))))), (s0, .inr (5, [.int 0, .int 0, .int 0, .ref nu0])), (s1, .inr (5, [.int 0, .int 0, .int 0, .ref nu1])), (s2, .inr (5, [.int 0, .int 0, .int 0, .ref nu2])), (s3, .inr (5, [.int 0, .int 0, .int 0, .ref nu3]))] := hD
          refine lv_if_ne (tgt := 17) hx hb dX9_paste_11 (by decide) (fun c9 => absurd (by decide) c9) (fun _ => ?_)
          refine lv_bipush (v := (-2)) hx hb dX9_paste_14 (by decide) ?_
          refine W.widen (k := 0) (n := 0) (Nat.le_of_ble_eq_true rfl) (Nat.le_of_ble_eq_true rfl) ?_
          exact W.iret (v := (-2)) hx hb hr (fun t ht hW => ⟨⟨(-2), _, rfl, (by first | rfl | decide | (simp only [sp_paste]; (repeat' split) <;> first | rfl | (exfalso; omega))), by rw [ht]; exact hP, hD⟩, hS.F ht⟩) hS.2.2 dX9_paste_16
      · skip
        exact absurd c_27 (by decide)
  · have hl : lv_has ls 8 [(0, .ref ob), (1, .int 1), (2, .int a2), (3, .int a3), (4, .int a4), (5, .int a5)] := hl
    rcases sl_cases a3 with rfl | rfl | rfl | rfl | t_a3
    · have hl : lv_has ls 8 [(0, .ref ob), (1, .int 1), (2, .int a2), (3, .int 0), (4, .int a4), (5, .int a5)] := hl
      refine lv_iload_n hx hb dX9_paste_0 rfl (lv_at hl 1 rfl) ?_
      refine cSi (As := [.int 1]) (rest := []) ⟨hx, hb, hml, hown, hw0⟩ hA hK hP hD hS [] [0, 1, 2, 3, 4, 5] [] [(ob, .inr (9, [.ref tp, .int 0, .ref rd, .ref sa, .ref im, .ref sl, .ref ro, .ref wy, .ref od, .ref ok])), (sl, .inl (y 4, 4, .inr (.inr (.inr (.inr (va_up (va_up (va_up (va_up (fun _ => none) 0 (some s0)) 1 (some s1)) 2 (some s2)) 3 (some s3))))))), (s0, .inr (5, [.int 0, .int 0, .int 0, .ref nu0])), (s1, .inr (5, [.int 0, .int 0, .int 0, .ref nu1])), (s2, .inr (5, [.int 0, .int 0, .int 0, .ref nu2])), (s3, .inr (5, [.int 0, .int 0, .int 0, .ref nu3]))] rfl rfl (by decide) (by decide) (by decide) (kX9_isSlot l G y _ 1 ) ⟨(callB_of 1 hw0 (gA m_162) rfl rfl rfl (hw0 _ m_183) (hw0 _ m_200) (by decide +kernel) ⟨Nat.le_of_ble_eq_true rfl, Nat.le_of_ble_eq_true rfl⟩), (hw0 _ m_201)⟩ rfl hl.1 (Nat.le_of_ble_eq_true rfl) dX9_paste_1 ⟨Nat.le_of_ble_eq_true rfl, Nat.le_of_ble_eq_true rfl⟩ (fun r_31 w_31 H locs hw_31 hP hD hS => ?_)
      rcases hw_31 with ⟨c_32, rfl, rfl⟩ | ⟨c_33, rfl, rfl⟩
      · skip
        have hP : va_P G vwCl [(ob, .inr (9, [.ref tp, .int 0, .ref rd, .ref sa, .ref im, .ref sl, .ref ro, .ref wy, .ref od, .ref ok])), (sl, .inl (y 4, 4, .inr (.inr (.inr (.inr (va_up (va_up (va_up (va_up (fun _ => none) 0 (some s0)) 1 (some s1)) 2 (some s2)) 3 (some s3))))))), (s0, .inr (5, [.int 0, .int 0, .int 0, .ref nu0])), (s1, .inr (5, [.int 0, .int 0, .int 0, .ref nu1])), (s2, .inr (5, [.int 0, .int 0, .int 0, .ref nu2])), (s3, .inr (5, [.int 0, .int 0, .int 0, .ref nu3]))] H := hP
        have hD : va_D A [(ob, .inr (9, [.ref tp, .int 0, .ref rd, .ref sa, .ref im, .ref sl, .ref ro, .ref wy, .ref od, .ref ok])), (sl, .inl (y 4, 4, .inr (.inr (.inr (.inr (va_up (va_up (va_up (va_up (fun _ => none) 0 (some s0)) 1 (some s1)) 2 (some s2)) 3 (some s3))))))), (s0, .inr (5, [.int 0, .int 0, .int 0, .ref nu0])), (s1, .inr (5, [.int 0, .int 0, .int 0, .ref nu1])), (s2, .inr (5, [.int 0, .int 0, .int 0, .ref nu2])), (s3, .inr (5, [.int 0, .int 0, .int 0, .ref nu3]))] := hD
        refine lv_if_eq (tgt := 14) hx hb dX9_paste_4 (by decide) (fun c9 => absurd c9 (by decide)) (fun _ => ?_)
        refine lv_iload_n hx hb dX9_paste_7 rfl (lv_at hl 3 rfl) ?_
        refine cSi (As := [.int 0]) (rest := []) ⟨hx, hb, hml, hown, hw0⟩ hA hK hP hD hS [] [0, 1, 2, 3, 4, 5] [] [(ob, .inr (9, [.ref tp, .int 0, .ref rd, .ref sa, .ref im, .ref sl, .ref ro, .ref wy, .ref od, .ref ok])), (sl, .inl (y 4, 4, .inr (.inr (.inr (.inr (va_up (va_up (va_up (va_up (fun _ => none) 0 (some s0)) 1 (some s1)) 2 (some s2)) 3 (some s3))))))), (s0, .inr (5, [.int 0, .int 0, .int 0, .ref nu0])), (s1, .inr (5, [.int 0, .int 0, .int 0, .ref nu1])), (s2, .inr (5, [.int 0, .int 0, .int 0, .ref nu2])), (s3, .inr (5, [.int 0, .int 0, .int 0, .ref nu3]))] rfl rfl (by decide) (by decide) (by decide) (kX9_isSlot l G y _ 0 ) ⟨(callB_of 1 hw0 (gA m_162) rfl rfl rfl (hw0 _ m_183) (hw0 _ m_200) (by decide +kernel) ⟨Nat.le_of_ble_eq_true rfl, Nat.le_of_ble_eq_true rfl⟩), (hw0 _ m_201)⟩ rfl hl.1 (Nat.le_of_ble_eq_true rfl) dX9_paste_8 ⟨Nat.le_of_ble_eq_true rfl, Nat.le_of_ble_eq_true rfl⟩ (fun r_34 w_34 H locs hw_34 hP hD hS => ?_)
        rcases hw_34 with ⟨c_35, rfl, rfl⟩ | ⟨c_36, rfl, rfl⟩
        · skip
          have hP : va_P G vwCl [(ob, .inr (9, [.ref tp, .int 0, .ref rd, .ref sa, .ref im, .ref sl, .ref ro, .ref wy, .ref od, .ref ok])), (sl, .inl (y 4, 4, .inr (.inr (.inr (.inr (va_up (va_up (va_up (va_up (fun _ => none) 0 (some s0)) 1 (some s1)) 2 (some s2)) 3 (some s3))))))), (s0, .inr (5, [.int 0, .int 0, .int 0, .ref nu0])), (s1, .inr (5, [.int 0, .int 0, .int 0, .ref nu1])), (s2, .inr (5, [.int 0, .int 0, .int 0, .ref nu2])), (s3, .inr (5, [.int 0, .int 0, .int 0, .ref nu3]))] H := hP
          have hD : va_D A [(ob, .inr (9, [.ref tp, .int 0, .ref rd, .ref sa, .ref im, .ref sl, .ref ro, .ref wy, .ref od, .ref ok])), (sl, .inl (y 4, 4, .inr (.inr (.inr (.inr (va_up (va_up (va_up (va_up (fun _ => none) 0 (some s0)) 1 (some s1)) 2 (some s2)) 3 (some s3))))))), (s0, .inr (5, [.int 0, .int 0, .int 0, .ref nu0])), (s1, .inr (5, [.int 0, .int 0, .int 0, .ref nu1])), (s2, .inr (5, [.int 0, .int 0, .int 0, .ref nu2])), (s3, .inr (5, [.int 0, .int 0, .int 0, .ref nu3]))] := hD
          refine lv_if_ne (tgt := 17) hx hb dX9_paste_11 (by decide) (fun _ => ?_) (fun c9 => absurd c9 (by decide))
          refine lv_aload_n hx hb dX9_paste_17 rfl (lv_at hl 0 rfl) ?_
          refine va_get (D := G) (ci := 9) (v := .ref sl) (C := RX9) (T := TX9) (N := 10) hx hb hw0 inA_wsX90 hown hK.1 hP 0 rfl rfl 5 (by decide) (hw0 _ m_113) (fun _ h9 => h9) rfl dX9_paste_18 ?_
          refine lv_iload_n hx hb dX9_paste_21 rfl (lv_at hl 1 rfl) ?_
          refine va_aldq hx hb hK.1 hP 1 4 rfl rfl (vp_in_nI (n := 1) (N := 4) (by decide) (by decide)) dX9_paste_22 ?_
          refine W.eq (g2 := F0 m 23 ls [.ref s1]) rfl ?_
          refine lv_astore (lv' := [(6, .ref s1), (0, .ref ob), (1, .int 1), (2, .int a2), (3, .int 0), (4, .int a4), (5, .int a5)]) hx hb dX9_paste_23 hl (by decide) rfl (fun ls hl => ?_)
          refine lv_aload_n hx hb dX9_paste_25 rfl (lv_at hl 1 rfl) ?_
          refine va_get (D := G) (ci := 9) (v := .ref sl) (C := RX9) (T := TX9) (N := 10) hx hb hw0 inA_wsX90 hown hK.1 hP 0 rfl rfl 5 (by decide) (hw0 _ m_113) (fun _ h9 => h9) rfl dX9_paste_26 ?_
          refine lv_iload_n hx hb dX9_paste_29 rfl (lv_at hl 4 rfl) ?_
          refine va_aldq hx hb hK.1 hP 1 4 rfl rfl (vp_in_nI (n := 0) (N := 4) (by decide) (by decide)) dX9_paste_30 ?_
          refine W.eq (g2 := F0 m 31 ls [.ref s0]) rfl ?_
          refine lv_astore (lv' := [(7, .ref s0), (6, .ref s1), (0, .ref ob), (1, .int 1), (2, .int a2), (3, .int 0), (4, .int a4), (5, .int a5)]) hx hb dX9_paste_31 hl (by decide) rfl (fun ls hl => ?_)
          refine lv_aload hx hb dX9_paste_33 (lv_at hl 1 rfl) ?_
          refine va_get (D := G) (ci := 5) (v := .int 0) (C := RX5) (T := TX5) (N := 4) hx hb hw0 inA_wsX50 hown hK.1 hP 3 rfl rfl 0 (by decide) (hw0 _ m_233) (fun _ h9 => h9) rfl dX9_paste_35 ?_
          refine lv_if_eq (tgt := 49) hx hb dX9_paste_38 (by decide) (fun _ => ?_) (fun c9 => absurd (by decide) c9)
          refine lv_bipush (v := (-6)) hx hb dX9_paste_49 (by decide) ?_
          refine W.widen (k := 0) (n := 0) (Nat.le_of_ble_eq_true rfl) (Nat.le_of_ble_eq_true rfl) ?_
          exact W.iret (v := (-6)) hx hb hr (fun t ht hW => ⟨⟨(-6), _, rfl, (by first | rfl | decide | (simp only [sp_paste]; (repeat' split) <;> first | rfl | (exfalso; omega))), by rw [ht]; exact hP, hD⟩, hS.F ht⟩) hS.2.2 dX9_paste_51
        · skip
          exact absurd c_36 (by decide)
      · skip
        exact absurd c_33 (by decide)
    · have hl : lv_has ls 8 [(0, .ref ob), (1, .int 1), (2, .int a2), (3, .int 1), (4, .int a4), (5, .int a5)] := hl
      refine lv_iload_n hx hb dX9_paste_0 rfl (lv_at hl 1 rfl) ?_
      refine cSi (As := [.int 1]) (rest := []) ⟨hx, hb, hml, hown, hw0⟩ hA hK hP hD hS [] [0, 1, 2, 3, 4, 5] [] [(ob, .inr (9, [.ref tp, .int 0, .ref rd, .ref sa, .ref im, .ref sl, .ref ro, .ref wy, .ref od, .ref ok])), (sl, .inl (y 4, 4, .inr (.inr (.inr (.inr (va_up (va_up (va_up (va_up (fun _ => none) 0 (some s0)) 1 (some s1)) 2 (some s2)) 3 (some s3))))))), (s0, .inr (5, [.int 0, .int 0, .int 0, .ref nu0])), (s1, .inr (5, [.int 0, .int 0, .int 0, .ref nu1])), (s2, .inr (5, [.int 0, .int 0, .int 0, .ref nu2])), (s3, .inr (5, [.int 0, .int 0, .int 0, .ref nu3]))] rfl rfl (by decide) (by decide) (by decide) (kX9_isSlot l G y _ 1 ) ⟨(callB_of 1 hw0 (gA m_162) rfl rfl rfl (hw0 _ m_183) (hw0 _ m_200) (by decide +kernel) ⟨Nat.le_of_ble_eq_true rfl, Nat.le_of_ble_eq_true rfl⟩), (hw0 _ m_201)⟩ rfl hl.1 (Nat.le_of_ble_eq_true rfl) dX9_paste_1 ⟨Nat.le_of_ble_eq_true rfl, Nat.le_of_ble_eq_true rfl⟩ (fun r_37 w_37 H locs hw_37 hP hD hS => ?_)
      rcases hw_37 with ⟨c_38, rfl, rfl⟩ | ⟨c_39, rfl, rfl⟩
      · skip
        have hP : va_P G vwCl [(ob, .inr (9, [.ref tp, .int 0, .ref rd, .ref sa, .ref im, .ref sl, .ref ro, .ref wy, .ref od, .ref ok])), (sl, .inl (y 4, 4, .inr (.inr (.inr (.inr (va_up (va_up (va_up (va_up (fun _ => none) 0 (some s0)) 1 (some s1)) 2 (some s2)) 3 (some s3))))))), (s0, .inr (5, [.int 0, .int 0, .int 0, .ref nu0])), (s1, .inr (5, [.int 0, .int 0, .int 0, .ref nu1])), (s2, .inr (5, [.int 0, .int 0, .int 0, .ref nu2])), (s3, .inr (5, [.int 0, .int 0, .int 0, .ref nu3]))] H := hP
        have hD : va_D A [(ob, .inr (9, [.ref tp, .int 0, .ref rd, .ref sa, .ref im, .ref sl, .ref ro, .ref wy, .ref od, .ref ok])), (sl, .inl (y 4, 4, .inr (.inr (.inr (.inr (va_up (va_up (va_up (va_up (fun _ => none) 0 (some s0)) 1 (some s1)) 2 (some s2)) 3 (some s3))))))), (s0, .inr (5, [.int 0, .int 0, .int 0, .ref nu0])), (s1, .inr (5, [.int 0, .int 0, .int 0, .ref nu1])), (s2, .inr (5, [.int 0, .int 0, .int 0, .ref nu2])), (s3, .inr (5, [.int 0, .int 0, .int 0, .ref nu3]))] := hD
        refine lv_if_eq (tgt := 14) hx hb dX9_paste_4 (by decide) (fun c9 => absurd c9 (by decide)) (fun _ => ?_)
        refine lv_iload_n hx hb dX9_paste_7 rfl (lv_at hl 3 rfl) ?_
        refine cSi (As := [.int 1]) (rest := []) ⟨hx, hb, hml, hown, hw0⟩ hA hK hP hD hS [] [0, 1, 2, 3, 4, 5] [] [(ob, .inr (9, [.ref tp, .int 0, .ref rd, .ref sa, .ref im, .ref sl, .ref ro, .ref wy, .ref od, .ref ok])), (sl, .inl (y 4, 4, .inr (.inr (.inr (.inr (va_up (va_up (va_up (va_up (fun _ => none) 0 (some s0)) 1 (some s1)) 2 (some s2)) 3 (some s3))))))), (s0, .inr (5, [.int 0, .int 0, .int 0, .ref nu0])), (s1, .inr (5, [.int 0, .int 0, .int 0, .ref nu1])), (s2, .inr (5, [.int 0, .int 0, .int 0, .ref nu2])), (s3, .inr (5, [.int 0, .int 0, .int 0, .ref nu3]))] rfl rfl (by decide) (by decide) (by decide) (kX9_isSlot l G y _ 1 ) ⟨(callB_of 1 hw0 (gA m_162) rfl rfl rfl (hw0 _ m_183) (hw0 _ m_200) (by decide +kernel) ⟨Nat.le_of_ble_eq_true rfl, Nat.le_of_ble_eq_true rfl⟩), (hw0 _ m_201)⟩ rfl hl.1 (Nat.le_of_ble_eq_true rfl) dX9_paste_8 ⟨Nat.le_of_ble_eq_true rfl, Nat.le_of_ble_eq_true rfl⟩ (fun r_40 w_40 H locs hw_40 hP hD hS => ?_)
        rcases hw_40 with ⟨c_41, rfl, rfl⟩ | ⟨c_42, rfl, rfl⟩
        · skip
          have hP : va_P G vwCl [(ob, .inr (9, [.ref tp, .int 0, .ref rd, .ref sa, .ref im, .ref sl, .ref ro, .ref wy, .ref od, .ref ok])), (sl, .inl (y 4, 4, .inr (.inr (.inr (.inr (va_up (va_up (va_up (va_up (fun _ => none) 0 (some s0)) 1 (some s1)) 2 (some s2)) 3 (some s3))))))), (s0, .inr (5, [.int 0, .int 0, .int 0, .ref nu0])), (s1, .inr (5, [.int 0, .int 0, .int 0, .ref nu1])), (s2, .inr (5, [.int 0, .int 0, .int 0, .ref nu2])), (s3, .inr (5, [.int 0, .int 0, .int 0, .ref nu3]))] H := hP
          have hD : va_D A [(ob, .inr (9, [.ref tp, .int 0, .ref rd, .ref sa, .ref im, .ref sl, .ref ro, .ref wy, .ref od, .ref ok])), (sl, .inl (y 4, 4, .inr (.inr (.inr (.inr (va_up (va_up (va_up (va_up (fun _ => none) 0 (some s0)) 1 (some s1)) 2 (some s2)) 3 (some s3))))))), (s0, .inr (5, [.int 0, .int 0, .int 0, .ref nu0])), (s1, .inr (5, [.int 0, .int 0, .int 0, .ref nu1])), (s2, .inr (5, [.int 0, .int 0, .int 0, .ref nu2])), (s3, .inr (5, [.int 0, .int 0, .int 0, .ref nu3]))] := hD
          refine lv_if_ne (tgt := 17) hx hb dX9_paste_11 (by decide) (fun _ => ?_) (fun c9 => absurd c9 (by decide))
          refine lv_aload_n hx hb dX9_paste_17 rfl (lv_at hl 0 rfl) ?_
          refine va_get (D := G) (ci := 9) (v := .ref sl) (C := RX9) (T := TX9) (N := 10) hx hb hw0 inA_wsX90 hown hK.1 hP 0 rfl rfl 5 (by decide) (hw0 _ m_113) (fun _ h9 => h9) rfl dX9_paste_18 ?_
          refine lv_iload_n hx hb dX9_paste_21 rfl (lv_at hl 1 rfl) ?_
          refine va_aldq hx hb hK.1 hP 1 4 rfl rfl (vp_in_nI (n := 1) (N := 4) (by decide) (by decide)) dX9_paste_22 ?_
          refine W.eq (g2 := F0 m 23 ls [.ref s1]) rfl ?_
          refine lv_astore (lv' := [(6, .ref s1), (0, .ref ob), (1, .int 1), (2, .int a2), (3, .int 1), (4, .int a4), (5, .int a5)]) hx hb dX9_paste_23 hl (by decide) rfl (fun ls hl => ?_)
          refine lv_aload_n hx hb dX9_paste_25 rfl (lv_at hl 1 rfl) ?_
          refine va_get (D := G) (ci := 9) (v := .ref sl) (C := RX9) (T := TX9) (N := 10) hx hb hw0 inA_wsX90 hown hK.1 hP 0 rfl rfl 5 (by decide) (hw0 _ m_113) (fun _ h9 => h9) rfl dX9_paste_26 ?_
          refine lv_iload_n hx hb dX9_paste_29 rfl (lv_at hl 4 rfl) ?_
          refine va_aldq hx hb hK.1 hP 1 4 rfl rfl (vp_in_nI (n := 1) (N := 4) (by decide) (by decide)) dX9_paste_30 ?_
          refine W.eq (g2 := F0 m 31 ls [.ref s1]) rfl ?_
          refine lv_astore (lv' := [(7, .ref s1), (6, .ref s1), (0, .ref ob), (1, .int 1), (2, .int a2), (3, .int 1), (4, .int a4), (5, .int a5)]) hx hb dX9_paste_31 hl (by decide) rfl (fun ls hl => ?_)
          refine lv_aload hx hb dX9_paste_33 (lv_at hl 1 rfl) ?_
          refine va_get (D := G) (ci := 5) (v := .int 0) (C := RX5) (T := TX5) (N := 4) hx hb hw0 inA_wsX50 hown hK.1 hP 3 rfl rfl 0 (by decide) (hw0 _ m_233) (fun _ h9 => h9) rfl dX9_paste_35 ?_
          refine lv_if_eq (tgt := 49) hx hb dX9_paste_38 (by decide) (fun _ => ?_) (fun c9 => absurd (by decide) c9)
          refine lv_bipush (v := (-6)) hx hb dX9_paste_49 (by decide) ?_
          refine W.widen (k := 0) (n := 0) (Nat.le_of_ble_eq_true rfl) (Nat.le_of_ble_eq_true rfl) ?_
          exact W.iret (v := (-6)) hx hb hr (fun t ht hW => ⟨⟨(-6), _, rfl, (by first | rfl | decide | (simp only [sp_paste]; (repeat' split) <;> first | rfl | (exfalso; omega))), by rw [ht]; exact hP, hD⟩, hS.F ht⟩) hS.2.2 dX9_paste_51
        · skip
          exact absurd c_42 (by decide)
      · skip
        exact absurd c_39 (by decide)
    · have hl : lv_has ls 8 [(0, .ref ob), (1, .int 1), (2, .int a2), (3, .int 2), (4, .int a4), (5, .int a5)] := hl
      refine lv_iload_n hx hb dX9_paste_0 rfl (lv_at hl 1 rfl) ?_
      refine cSi (As := [.int 1]) (rest := []) ⟨hx, hb, hml, hown, hw0⟩ hA hK hP hD hS [] [0, 1, 2, 3, 4, 5] [] [(ob, .inr (9, [.ref tp, .int 0, .ref rd, .ref sa, .ref im, .ref sl, .ref ro, .ref wy, .ref od, .ref ok])), (sl, .inl (y 4, 4, .inr (.inr (.inr (.inr (va_up (va_up (va_up (va_up (fun _ => none) 0 (some s0)) 1 (some s1)) 2 (some s2)) 3 (some s3))))))), (s0, .inr (5, [.int 0, .int 0, .int 0, .ref nu0])), (s1, .inr (5, [.int 0, .int 0, .int 0, .ref nu1])), (s2, .inr (5, [.int 0, .int 0, .int 0, .ref nu2])), (s3, .inr (5, [.int 0, .int 0, .int 0, .ref nu3]))] rfl rfl (by decide) (by decide) (by decide) (kX9_isSlot l G y _ 1 ) ⟨(callB_of 1 hw0 (gA m_162) rfl rfl rfl (hw0 _ m_183) (hw0 _ m_200) (by decide +kernel) ⟨Nat.le_of_ble_eq_true rfl, Nat.le_of_ble_eq_true rfl⟩), (hw0 _ m_201)⟩ rfl hl.1 (Nat.le_of_ble_eq_true rfl) dX9_paste_1 ⟨Nat.le_of_ble_eq_true rfl, Nat.le_of_ble_eq_true rfl⟩ (fun r_43 w_43 H locs hw_43 hP hD hS => ?_)
      rcases hw_43 with ⟨c_44, rfl, rfl⟩ | ⟨c_45, rfl, rfl⟩
      · skip
        have hP : va_P G vwCl [(ob, .inr (9, [.ref tp, .int 0, .ref rd, .ref sa, .ref im, .ref sl, .ref ro, .ref wy, .ref od, .ref ok])), (sl, .inl (y 4, 4, .inr (.inr (.inr (.inr (va_up (va_up (va_up (va_up (fun _ => none) 0 (some s0)) 1 (some s1)) 2 (some s2)) 3 (some s3))))))), (s0, .inr (5, [.int 0, .int 0, .int 0, .ref nu0])), (s1, .inr (5, [.int 0, .int 0, .int 0, .ref nu1])), (s2, .inr (5, [.int 0, .int 0, .int 0, .ref nu2])), (s3, .inr (5, [.int 0, .int 0, .int 0, .ref nu3]))] H := hP
        have hD : va_D A [(ob, .inr (9, [.ref tp, .int 0, .ref rd, .ref sa, .ref im, .ref sl, .ref ro, .ref wy, .ref od, .ref ok])), (sl, .inl (y 4, 4, .inr (.inr (.inr (.inr (va_up (va_up (va_up (va_up (fun _ => none) 0 (some s0)) 1 (some s1)) 2 (some s2)) 3 (some s3))))))), (s0, .inr (5, [.int 0, .int 0, .int 0, .ref nu0])), (s1, .inr (5, [.int 0, .int 0, .int 0, .ref nu1])), (s2, .inr (5, [.int 0, .int 0, .int 0, .ref nu2])), (s3, .inr (5, [.int 0, .int 0, .int 0, .ref nu3]))] := hD
        refine lv_if_eq (tgt := 14) hx hb dX9_paste_4 (by decide) (fun c9 => absurd c9 (by decide)) (fun _ => ?_)
        refine lv_iload_n hx hb dX9_paste_7 rfl (lv_at hl 3 rfl) ?_
        refine cSi (As := [.int 2]) (rest := []) ⟨hx, hb, hml, hown, hw0⟩ hA hK hP hD hS [] [0, 1, 2, 3, 4, 5] [] [(ob, .inr (9, [.ref tp, .int 0, .ref rd, .ref sa, .ref im, .ref sl, .ref ro, .ref wy, .ref od, .ref ok])), (sl, .inl (y 4, 4, .inr (.inr (.inr (.inr (va_up (va_up (va_up (va_up (fun _ => none) 0 (some s0)) 1 (some s1)) 2 (some s2)) 3 (some s3))))))), (s0, .inr (5, [.int 0, .int 0, .int 0, .ref nu0])), (s1, .inr (5, [.int 0, .int 0, .int 0, .ref nu1])), (s2, .inr (5, [.int 0, .int 0, .int 0, .ref nu2])), (s3, .inr (5, [.int 0, .int 0, .int 0, .ref nu3]))] rfl rfl (by decide) (by decide) (by decide) (kX9_isSlot l G y _ 2 ) ⟨(callB_of 1 hw0 (gA m_162) rfl rfl rfl (hw0 _ m_183) (hw0 _ m_200) (by decide +kernel) ⟨Nat.le_of_ble_eq_true rfl, Nat.le_of_ble_eq_true rfl⟩), (hw0 _ m_201)⟩ rfl hl.1 (Nat.le_of_ble_eq_true rfl) dX9_paste_8 ⟨Nat.le_of_ble_eq_true rfl, Nat.le_of_ble_eq_true rfl⟩ (fun r_46 w_46 H locs hw_46 hP hD hS => ?_)
        rcases hw_46 with ⟨c_47, rfl, rfl⟩ | ⟨c_48, rfl, rfl⟩
        · skip
          have hP : va_P G vwCl [(ob, .inr (9, [.ref tp, .int 0, .ref rd, .ref sa, .ref im, .ref sl, .ref ro, .ref wy, .ref od, .ref ok])), (sl, .inl (y 4, 4, .inr (.inr (.inr (.inr (va_up (va_up (va_up (va_up (fun _ => none) 0 (some s0)) 1 (some s1)) 2 (some s2)) 3 (some s3))))))), (s0, .inr (5, [.int 0, .int 0, .int 0, .ref nu0])), (s1, .inr (5, [.int 0, .int 0, .int 0, .ref nu1])), (s2, .inr (5, [.int 0, .int 0, .int 0, .ref nu2])), (s3, .inr (5, [.int 0, .int 0, .int 0, .ref nu3]))] H := hP
          have hD : va_D A [(ob, .inr (9, [.ref tp, .int 0, .ref rd, .ref sa, .ref im, .ref sl, .ref ro, .ref wy, .ref od, .ref ok])), (sl, .inl (y 4, 4, .inr (.inr (.inr (.inr (va_up (va_up (va_up (va_up (fun _ => none) 0 (some s0)) 1 (some s1)) 2 (some s2)) 3 (some s3))))))), (s0, .inr (5, [.int 0, .int 0, .int 0, .ref nu0])), (s1, .inr (5, [.int 0, .int 0, .int 0, .ref nu1])), (s2, .inr (5, [.int 0, .int 0, .int 0, .ref nu2])), (s3, .inr (5, [.int 0, .int 0, .int 0, .ref nu3]))] := hD
          refine lv_if_ne (tgt := 17) hx hb dX9_paste_11 (by decide) (fun _ => ?_) (fun c9 => absurd c9 (by decide))
          refine lv_aload_n hx hb dX9_paste_17 rfl (lv_at hl 0 rfl) ?_
          refine va_get (D := G) (ci := 9) (v := .ref sl) (C := RX9) (T := TX9) (N := 10) hx hb hw0 inA_wsX90 hown hK.1 hP 0 rfl rfl 5 (by decide) (hw0 _ m_113) (fun _ h9 => h9) rfl dX9_paste_18 ?_
          refine lv_iload_n hx hb dX9_paste_21 rfl (lv_at hl 1 rfl) ?_
          refine va_aldq hx hb hK.1 hP 1 4 rfl rfl (vp_in_nI (n := 1) (N := 4) (by decide) (by decide)) dX9_paste_22 ?_
          refine W.eq (g2 := F0 m 23 ls [.ref s1]) rfl ?_
          refine lv_astore (lv' := [(6, .ref s1), (0, .ref ob), (1, .int 1), (2, .int a2), (3, .int 2), (4, .int a4), (5, .int a5)]) hx hb dX9_paste_23 hl (by decide) rfl (fun ls hl => ?_)
          refine lv_aload_n hx hb dX9_paste_25 rfl (lv_at hl 1 rfl) ?_
          refine va_get (D := G) (ci := 9) (v := .ref sl) (C := RX9) (T := TX9) (N := 10) hx hb hw0 inA_wsX90 hown hK.1 hP 0 rfl rfl 5 (by decide) (hw0 _ m_113) (fun _ h9 => h9) rfl dX9_paste_26 ?_
          refine lv_iload_n hx hb dX9_paste_29 rfl (lv_at hl 4 rfl) ?_
          refine va_aldq hx hb hK.1 hP 1 4 rfl rfl (vp_in_nI (n := 2) (N := 4) (by decide) (by decide)) dX9_paste_30 ?_
          refine W.eq (g2 := F0 m 31 ls [.ref s2]) rfl ?_
          refine lv_astore (lv' := [(7, .ref s2), (6, .ref s1), (0, .ref ob), (1, .int 1), (2, .int a2), (3, .int 2), (4, .int a4), (5, .int a5)]) hx hb dX9_paste_31 hl (by decide) rfl (fun ls hl => ?_)
          refine lv_aload hx hb dX9_paste_33 (lv_at hl 1 rfl) ?_
          refine va_get (D := G) (ci := 5) (v := .int 0) (C := RX5) (T := TX5) (N := 4) hx hb hw0 inA_wsX50 hown hK.1 hP 3 rfl rfl 0 (by decide) (hw0 _ m_233) (fun _ h9 => h9) rfl dX9_paste_35 ?_
          refine lv_if_eq (tgt := 49) hx hb dX9_paste_38 (by decide) (fun _ => ?_) (fun c9 => absurd (by decide) c9)
          refine lv_bipush (v := (-6)) hx hb dX9_paste_49 (by decide) ?_
          refine W.widen (k := 0) (n := 0) (Nat.le_of_ble_eq_true rfl) (Nat.le_of_ble_eq_true rfl) ?_
          exact W.iret (v := (-6)) hx hb hr (fun t ht hW => ⟨⟨(-6), _, rfl, (by first | rfl | decide | (simp only [sp_paste]; (repeat' split) <;> first | rfl | (exfalso; omega))), by rw [ht]; exact hP, hD⟩, hS.F ht⟩) hS.2.2 dX9_paste_51
        · skip
          exact absurd c_48 (by decide)
      · skip
        exact absurd c_45 (by decide)
    · have hl : lv_has ls 8 [(0, .ref ob), (1, .int 1), (2, .int a2), (3, .int 3), (4, .int a4), (5, .int a5)] := hl
      refine lv_iload_n hx hb dX9_paste_0 rfl (lv_at hl 1 rfl) ?_
      refine cSi (As := [.int 1]) (rest := []) ⟨hx, hb, hml, hown, hw0⟩ hA hK hP hD hS [] [0, 1, 2, 3, 4, 5] [] [(ob, .inr (9, [.ref tp, .int 0, .ref rd, .ref sa, .ref im, .ref sl, .ref ro, .ref wy, .ref od, .ref ok])), (sl, .inl (y 4, 4, .inr (.inr (.inr (.inr (va_up (va_up (va_up (va_up (fun _ => none) 0 (some s0)) 1 (some s1)) 2 (some s2)) 3 (some s3))))))), (s0, .inr (5, [.int 0, .int 0, .int 0, .ref nu0])), (s1, .inr (5, [.int 0, .int 0, .int 0, .ref nu1])), (s2, .inr (5, [.int 0, .int 0, .int 0, .ref nu2])), (s3, .inr (5, [.int 0, .int 0, .int 0, .ref nu3]))] rfl rfl (by decide) (by decide) (by decide) (kX9_isSlot l G y _ 1 ) ⟨(callB_of 1 hw0 (gA m_162) rfl rfl rfl (hw0 _ m_183) (hw0 _ m_200) (by decide +kernel) ⟨Nat.le_of_ble_eq_true rfl, Nat.le_of_ble_eq_true rfl⟩), (hw0 _ m_201)⟩ rfl hl.1 (Nat.le_of_ble_eq_true rfl) dX9_paste_1 ⟨Nat.le_of_ble_eq_true rfl, Nat.le_of_ble_eq_true rfl⟩ (fun r_49 w_49 H locs hw_49 hP hD hS => ?_)
      rcases hw_49 with ⟨c_50, rfl, rfl⟩ | ⟨c_51, rfl, rfl⟩
      · skip
        have hP : va_P G vwCl [(ob, .inr (9, [.ref tp, .int 0, .ref rd, .ref sa, .ref im, .ref sl, .ref ro, .ref wy, .ref od, .ref ok])), (sl, .inl (y 4, 4, .inr (.inr (.inr (.inr (va_up (va_up (va_up (va_up (fun _ => none) 0 (some s0)) 1 (some s1)) 2 (some s2)) 3 (some s3))))))), (s0, .inr (5, [.int 0, .int 0, .int 0, .ref nu0])), (s1, .inr (5, [.int 0, .int 0, .int 0, .ref nu1])), (s2, .inr (5, [.int 0, .int 0, .int 0, .ref nu2])), (s3, .inr (5, [.int 0, .int 0, .int 0, .ref nu3]))] H := hP
        have hD : va_D A [(ob, .inr (9, [.ref tp, .int 0, .ref rd, .ref sa, .ref im, .ref sl, .ref ro, .ref wy, .ref od, .ref ok])), (sl, .inl (y 4, 4, .inr (.inr (.inr (.inr (va_up (va_up (va_up (va_up (fun _ => none) 0 (some s0)) 1 (some s1)) 2 (some s2)) 3 (some s3))))))), (s0, .inr (5, [.int 0, .int 0, .int 0, .ref nu0])), (s1, .inr (5, [.int 0, .int 0, .int 0, .ref nu1])), (s2, .inr (5, [.int 0, .int 0, .int 0, .ref nu2])), (s3, .inr (5, [.int 0, .int 0, .int 0, .ref nu3]))] := hD
        refine lv_if_eq (tgt := 14) hx hb dX9_paste_4 (by decide) (fun c9 => absurd c9 (by decide)) (fun _ => ?_)
        refine lv_iload_n hx hb dX9_paste_7 rfl (lv_at hl 3 rfl) ?_
        refine cSi (As := [.int 3]) (rest := []) ⟨hx, hb, hml, hown, hw0⟩ hA hK hP hD hS [] [0, 1, 2, 3, 4, 5] [] [(ob, .inr (9, [.ref tp, .int 0, .ref rd, .ref sa, .ref im, .ref sl, .ref ro, .ref wy, .ref od, .ref ok])), (sl, .inl (y 4, 4, .inr (.inr (.inr (.inr (va_up (va_up (va_up (va_up (fun _ => none) 0 (some s0)) 1 (some s1)) 2 (some s2)) 3 (some s3))))))), (s0, .inr (5, [.int 0, .int 0, .int 0, .ref nu0])), (s1, .inr (5, [.int 0, .int 0, .int 0, .ref nu1])), (s2, .inr (5, [.int 0, .int 0, .int 0, .ref nu2])), (s3, .inr (5, [.int 0, .int 0, .int 0, .ref nu3]))] rfl rfl (by decide) (by decide) (by decide) (kX9_isSlot l G y _ 3 ) ⟨(callB_of 1 hw0 (gA m_162) rfl rfl rfl (hw0 _ m_183) (hw0 _ m_200) (by decide +kernel) ⟨Nat.le_of_ble_eq_true rfl, Nat.le_of_ble_eq_true rfl⟩), (hw0 _ m_201)⟩ rfl hl.1 (Nat.le_of_ble_eq_true rfl) dX9_paste_8 ⟨Nat.le_of_ble_eq_true rfl, Nat.le_of_ble_eq_true rfl⟩ (fun r_52 w_52 H locs hw_52 hP hD hS => ?_)
        rcases hw_52 with ⟨c_53, rfl, rfl⟩ | ⟨c_54, rfl, rfl⟩
        · skip
          have hP : va_P G vwCl [(ob, .inr (9, [.ref tp, .int 0, .ref rd, .ref sa, .ref im, .ref sl, .ref ro, .ref wy, .ref od, .ref ok])), (sl, .inl (y 4, 4, .inr (.inr (.inr (.inr (va_up (va_up (va_up (va_up (fun _ => none) 0 (some s0)) 1 (some s1)) 2 (some s2)) 3 (some s3))))))), (s0, .inr (5, [.int 0, .int 0, .int 0, .ref nu0])), (s1, .inr (5, [.int 0, .int 0, .int 0, .ref nu1])), (s2, .inr (5, [.int 0, .int 0, .int 0, .ref nu2])), (s3, .inr (5, [.int 0, .int 0, .int 0, .ref nu3]))] H := hP
          have hD : va_D A [(ob, .inr (9, [.ref tp, .int 0, .ref rd, .ref sa, .ref im, .ref sl, .ref ro, .ref wy, .ref od, .ref ok])), (sl, .inl (y 4, 4, .inr (.inr (.inr (.inr (va_up (va_up (va_up (va_up (fun _ => none) 0 (some s0)) 1 (some s1)) 2 (some s2)) 3 (some s3))))))), (s0, .inr (5, [.int 0, .int 0, .int 0, .ref nu0])), (s1, .inr (5, [.int 0, .int 0, .int 0, .ref nu1])), (s2, .inr (5, [.int 0, .int 0, .int 0, .ref nu2])), (s3, .inr (5, [.int 0, .int 0, .int 0, .ref nu3]))] := hD
          refine lv_if_ne (tgt := 17) hx hb dX9_paste_11 (by decide) (fun _ => ?_) (fun c9 => absurd c9 (by decide))
          refine lv_aload_n hx hb dX9_paste_17 rfl (lv_at hl 0 rfl) ?_
          refine va_get (D := G) (ci := 9) (v := .ref sl) (C := RX9) (T := TX9) (N := 10) hx hb hw0 inA_wsX90 hown hK.1 hP 0 rfl rfl 5 (by decide) (hw0 _ m_113) (fun _ h9 => h9) rfl dX9_paste_18 ?_
          refine lv_iload_n hx hb dX9_paste_21 rfl (lv_at hl 1 rfl) ?_
          refine va_aldq hx hb hK.1 hP 1 4 rfl rfl (vp_in_nI (n := 1) (N := 4) (by decide) (by decide)) dX9_paste_22 ?_
          refine W.eq (g2 := F0 m 23 ls [.ref s1]) rfl ?_
          refine lv_astore (lv' := [(6, .ref s1), (0, .ref ob), (1, .int 1), (2, .int a2), (3, .int 3), (4, .int a4), (5, .int a5)]) hx hb dX9_paste_23 hl (by decide) rfl (fun ls hl => ?_)
          refine lv_aload_n hx hb dX9_paste_25 rfl (lv_at hl 1 rfl) ?_
          refine va_get (D := G) (ci := 9) (v := .ref sl) (C := RX9) (T := TX9) (N := 10) hx hb hw0 inA_wsX90 hown hK.1 hP 0 rfl rfl 5 (by decide) (hw0 _ m_113) (fun _ h9 => h9) rfl dX9_paste_26 ?_
          refine lv_iload_n hx hb dX9_paste_29 rfl (lv_at hl 4 rfl) ?_
          refine va_aldq hx hb hK.1 hP 1 4 rfl rfl (vp_in_nI (n := 3) (N := 4) (by decide) (by decide)) dX9_paste_30 ?_
          refine W.eq (g2 := F0 m 31 ls [.ref s3]) rfl ?_
          refine lv_astore (lv' := [(7, .ref s3), (6, .ref s1), (0, .ref ob), (1, .int 1), (2, .int a2), (3, .int 3), (4, .int a4), (5, .int a5)]) hx hb dX9_paste_31 hl (by decide) rfl (fun ls hl => ?_)
          refine lv_aload hx hb dX9_paste_33 (lv_at hl 1 rfl) ?_
          refine va_get (D := G) (ci := 5) (v := .int 0) (C := RX5) (T := TX5) (N := 4) hx hb hw0 inA_wsX50 hown hK.1 hP 3 rfl rfl 0 (by decide) (hw0 _ m_233) (fun _ h9 => h9) rfl dX9_paste_35 ?_
          refine lv_if_eq (tgt := 49) hx hb dX9_paste_38 (by decide) (fun _ => ?_) (fun c9 => absurd (by decide) c9)
          refine lv_bipush (v := (-6)) hx hb dX9_paste_49 (by decide) ?_
          refine W.widen (k := 0) (n := 0) (Nat.le_of_ble_eq_true rfl) (Nat.le_of_ble_eq_true rfl) ?_
          exact W.iret (v := (-6)) hx hb hr (fun t ht hW => ⟨⟨(-6), _, rfl, (by first | rfl | decide | (simp only [sp_paste]; (repeat' split) <;> first | rfl | (exfalso; omega))), by rw [ht]; exact hP, hD⟩, hS.F ht⟩) hS.2.2 dX9_paste_51
        · skip
          exact absurd c_54 (by decide)
      · skip
        exact absurd c_51 (by decide)
    · have hl : lv_has ls 8 [(0, .ref ob), (1, .int 1), (2, .int a2), (3, .int a3), (4, .int a4), (5, .int a5)] := hl
      refine lv_iload_n hx hb dX9_paste_0 rfl (lv_at hl 1 rfl) ?_
      refine cSi (As := [.int 1]) (rest := []) ⟨hx, hb, hml, hown, hw0⟩ hA hK hP hD hS [] [0, 1, 2, 3, 4, 5] [] [(ob, .inr (9, [.ref tp, .int 0, .ref rd, .ref sa, .ref im, .ref sl, .ref ro, .ref wy, .ref od, .ref ok])), (sl, .inl (y 4, 4, .inr (.inr (.inr (.inr (va_up (va_up (va_up (va_up (fun _ => none) 0 (some s0)) 1 (some s1)) 2 (some s2)) 3 (some s3))))))), (s0, .inr (5, [.int 0, .int 0, .int 0, .ref nu0])), (s1, .inr (5, [.int 0, .int 0, .int 0, .ref nu1])), (s2, .inr (5, [.int 0, .int 0, .int 0, .ref nu2])), (s3, .inr (5, [.int 0, .int 0, .int 0, .ref nu3]))] rfl rfl (by decide) (by decide) (by decide) (kX9_isSlot l G y _ 1 ) ⟨(callB_of 1 hw0 (gA m_162) rfl rfl rfl (hw0 _ m_183) (hw0 _ m_200) (by decide +kernel) ⟨Nat.le_of_ble_eq_true rfl, Nat.le_of_ble_eq_true rfl⟩), (hw0 _ m_201)⟩ rfl hl.1 (Nat.le_of_ble_eq_true rfl) dX9_paste_1 ⟨Nat.le_of_ble_eq_true rfl, Nat.le_of_ble_eq_true rfl⟩ (fun r_55 w_55 H locs hw_55 hP hD hS => ?_)
      rcases hw_55 with ⟨c_56, rfl, rfl⟩ | ⟨c_57, rfl, rfl⟩
      · skip
        have hP : va_P G vwCl [(ob, .inr (9, [.ref tp, .int 0, .ref rd, .ref sa, .ref im, .ref sl, .ref ro, .ref wy, .ref od, .ref ok])), (sl, .inl (y 4, 4, .inr (.inr (.inr (.inr (va_up (va_up (va_up (va_up (fun _ => none) 0 (some s0)) 1 (some s1)) 2 (some s2)) 3 (some s3))))))), (s0, .inr (5, [.int 0, .int 0, .int 0, .ref nu0])), (s1, .inr (5, [.int 0, .int 0, .int 0, .ref nu1])), (s2, .inr (5, [.int 0, .int 0, .int 0, .ref nu2])), (s3, .inr (5, [.int 0, .int 0, .int 0, .ref nu3]))] H := hP
        have hD : va_D A [(ob, .inr (9, [.ref tp, .int 0, .ref rd, .ref sa, .ref im, .ref sl, .ref ro, .ref wy, .ref od, .ref ok])), (sl, .inl (y 4, 4, .inr (.inr (.inr (.inr (va_up (va_up (va_up (va_up (fun _ => none) 0 (some s0)) 1 (some s1)) 2 (some s2)) 3 (some s3))))))), (s0, .inr (5, [.int 0, .int 0, .int 0, .ref nu0])), (s1, .inr (5, [.int 0, .int 0, .int 0, .ref nu1])), (s2, .inr (5, [.int 0, .int 0, .int 0, .ref nu2])), (s3, .inr (5, [.int 0, .int 0, .int 0, .ref nu3]))] := hD
        refine lv_if_eq (tgt := 14) hx hb dX9_paste_4 (by decide) (fun c9 => absurd c9 (by decide)) (fun _ => ?_)
        refine lv_iload_n hx hb dX9_paste_7 rfl (lv_at hl 3 rfl) ?_
        refine cSi (As := [.int a3]) (rest := []) ⟨hx, hb, hml, hown, hw0⟩ hA hK hP hD hS [] [0, 1, 2, 3, 4, 5] [] [(ob, .inr (9, [.ref tp, .int 0, .ref rd, .ref sa, .ref im, .ref sl, .ref ro, .ref wy, .ref od, .ref ok])), (sl, .inl (y 4, 4, .inr (.inr (.inr (.inr (va_up (va_up (va_up (va_up (fun _ => none) 0 (some s0)) 1 (some s1)) 2 (some s2)) 3 (some s3))))))), (s0, .inr (5, [.int 0, .int 0, .int 0, .ref nu0])), (s1, .inr (5, [.int 0, .int 0, .int 0, .ref nu1])), (s2, .inr (5, [.int 0, .int 0, .int 0, .ref nu2])), (s3, .inr (5, [.int 0, .int 0, .int 0, .ref nu3]))] rfl rfl (by decide) (by decide) (by decide) (kX9_isSlot l G y _ a3 ) ⟨(callB_of 1 hw0 (gA m_162) rfl rfl rfl (hw0 _ m_183) (hw0 _ m_200) (by decide +kernel) ⟨Nat.le_of_ble_eq_true rfl, Nat.le_of_ble_eq_true rfl⟩), (hw0 _ m_201)⟩ rfl hl.1 (Nat.le_of_ble_eq_true rfl) dX9_paste_8 ⟨Nat.le_of_ble_eq_true rfl, Nat.le_of_ble_eq_true rfl⟩ (fun r_58 w_58 H locs hw_58 hP hD hS => ?_)
        rcases hw_58 with ⟨c_59, rfl, rfl⟩ | ⟨c_60, rfl, rfl⟩
        · skip
          exfalso; omega
        · skip
          have hP : va_P G vwCl [(ob, .inr (9, [.ref tp, .int 0, .ref rd, .ref sa, .ref im, .ref sl, .ref ro, .ref wy, .ref od, .ref ok])), (sl, .inl (y 4, 4, .inr (.inr (.inr (.inr (va_up (va_up (va_up (va_up (fun _ => none) 0 (some s0)) 1 (some s1)) 2 (some s2)) 3 (some s3))))))), (s0, .inr (5, [.int 0, .int 0, .int 0, .ref nu0])), (s1, .inr (5, [.int 0, .int 0, .int 0, .ref nu1])), (s2, .inr (5, [.int 0, .int 0, .int 0, .ref nu2])), (s3, .inr (5, [.int 0, .int 0, .int 0, .ref nu3]))] H := hP
          have hD : va_D A [(ob, .inr (9, [.ref tp, .int 0, .ref rd, .ref sa, .ref im, .ref sl, .ref ro, .ref wy, .ref od, .ref ok])), (sl, .inl (y 4, 4, .inr (.inr (.inr (.inr (va_up (va_up (va_up (va_up (fun _ => none) 0 (some s0)) 1 (some s1)) 2 (some s2)) 3 (some s3))))))), (s0, .inr (5, [.int 0, .int 0, .int 0, .ref nu0])), (s1, .inr (5, [.int 0, .int 0, .int 0, .ref nu1])), (s2, .inr (5, [.int 0, .int 0, .int 0, .ref nu2])), (s3, .inr (5, [.int 0, .int 0, .int 0, .ref nu3]))] := hD
          refine lv_if_ne (tgt := 17) hx hb dX9_paste_11 (by decide) (fun c9 => absurd (by decide) c9) (fun _ => ?_)
          refine lv_bipush (v := (-2)) hx hb dX9_paste_14 (by decide) ?_
          refine W.widen (k := 0) (n := 0) (Nat.le_of_ble_eq_true rfl) (Nat.le_of_ble_eq_true rfl) ?_
          exact W.iret (v := (-2)) hx hb hr (fun t ht hW => ⟨⟨(-2), _, rfl, (by first | rfl | decide | (simp only [sp_paste]; (repeat' split) <;> first | rfl | (exfalso; omega))), by rw [ht]; exact hP, hD⟩, hS.F ht⟩) hS.2.2 dX9_paste_16
      · skip
        exact absurd c_57 (by decide)
  · have hl : lv_has ls 8 [(0, .ref ob), (1, .int 2), (2, .int a2), (3, .int a3), (4, .int a4), (5, .int a5)] := hl
    rcases sl_cases a3 with rfl | rfl | rfl | rfl | t_a3
    · have hl : lv_has ls 8 [(0, .ref ob), (1, .int 2), (2, .int a2), (3, .int 0), (4, .int a4), (5, .int a5)] := hl
      refine lv_iload_n hx hb dX9_paste_0 rfl (lv_at hl 1 rfl) ?_
      refine cSi (As := [.int 2]) (rest := []) ⟨hx, hb, hml, hown, hw0⟩ hA hK hP hD hS [] [0, 1, 2, 3, 4, 5] [] [(ob, .inr (9, [.ref tp, .int 0, .ref rd, .ref sa, .ref im, .ref sl, .ref ro, .ref wy, .ref od, .ref ok])), (sl, .inl (y 4, 4, .inr (.inr (.inr (.inr (va_up (va_up (va_up (va_up (fun _ => none) 0 (some s0)) 1 (some s1)) 2 (some s2)) 3 (some s3))))))), (s0, .inr (5, [.int 0, .int 0, .int 0, .ref nu0])), (s1, .inr (5, [.int 0, .int 0, .int 0, .ref nu1])), (s2, .inr (5, [.int 0, .int 0, .int 0, .ref nu2])), (s3, .inr (5, [.int 0, .int 0, .int 0, .ref nu3]))] rfl rfl (by decide) (by decide) (by decide) (kX9_isSlot l G y _ 2 ) ⟨(callB_of 1 hw0 (gA m_162) rfl rfl rfl (hw0 _ m_183) (hw0 _ m_200) (by decide +kernel) ⟨Nat.le_of_ble_eq_true rfl, Nat.le_of_ble_eq_true rfl⟩), (hw0 _ m_201)⟩ rfl hl.1 (Nat.le_of_ble_eq_true rfl) dX9_paste_1 ⟨Nat.le_of_ble_eq_true rfl, Nat.le_of_ble_eq_true rfl⟩ (fun r_61 w_61 H locs hw_61 hP hD hS => ?_)
      rcases hw_61 with ⟨c_62, rfl, rfl⟩ | ⟨c_63, rfl, rfl⟩
      · skip
        have hP : va_P G vwCl [(ob, .inr (9, [.ref tp, .int 0, .ref rd, .ref sa, .ref im, .ref sl, .ref ro, .ref wy, .ref od, .ref ok])), (sl, .inl (y 4, 4, .inr (.inr (.inr (.inr (va_up (va_up (va_up (va_up (fun _ => none) 0 (some s0)) 1 (some s1)) 2 (some s2)) 3 (some s3))))))), (s0, .inr (5, [.int 0, .int 0, .int 0, .ref nu0])), (s1, .inr (5, [.int 0, .int 0, .int 0, .ref nu1])), (s2, .inr (5, [.int 0, .int 0, .int 0, .ref nu2])), (s3, .inr (5, [.int 0, .int 0, .int 0, .ref nu3]))] H := hP
        have hD : va_D A [(ob, .inr (9, [.ref tp, .int 0, .ref rd, .ref sa, .ref im, .ref sl, .ref ro, .ref wy, .ref od, .ref ok])), (sl, .inl (y 4, 4, .inr (.inr (.inr (.inr (va_up (va_up (va_up (va_up (fun _ => none) 0 (some s0)) 1 (some s1)) 2 (some s2)) 3 (some s3))))))), (s0, .inr (5, [.int 0, .int 0, .int 0, .ref nu0])), (s1, .inr (5, [.int 0, .int 0, .int 0, .ref nu1])), (s2, .inr (5, [.int 0, .int 0, .int 0, .ref nu2])), (s3, .inr (5, [.int 0, .int 0, .int 0, .ref nu3]))] := hD
        refine lv_if_eq (tgt := 14) hx hb dX9_paste_4 (by decide) (fun c9 => absurd c9 (by decide)) (fun _ => ?_)
        refine lv_iload_n hx hb dX9_paste_7 rfl (lv_at hl 3 rfl) ?_
        refine cSi (As := [.int 0]) (rest := []) ⟨hx, hb, hml, hown, hw0⟩ hA hK hP hD hS [] [0, 1, 2, 3, 4, 5] [] [(ob, .inr (9, [.ref tp, .int 0, .ref rd, .ref sa, .ref im, .ref sl, .ref ro, .ref wy, .ref od, .ref ok])), (sl, .inl (y 4, 4, .inr (.inr (.inr (.inr (va_up (va_up (va_up (va_up (fun _ => none) 0 (some s0)) 1 (some s1)) 2 (some s2)) 3 (some s3))))))), (s0, .inr (5, [.int 0, .int 0, .int 0, .ref nu0])), (s1, .inr (5, [.int 0, .int 0, .int 0, .ref nu1])), (s2, .inr (5, [.int 0, .int 0, .int 0, .ref nu2])), (s3, .inr (5, [.int 0, .int 0, .int 0, .ref nu3]))] rfl rfl (by decide) (by decide) (by decide) (kX9_isSlot l G y _ 0 ) ⟨(callB_of 1 hw0 (gA m_162) rfl rfl rfl (hw0 _ m_183) (hw0 _ m_200) (by decide +kernel) ⟨Nat.le_of_ble_eq_true rfl, Nat.le_of_ble_eq_true rfl⟩), (hw0 _ m_201)⟩ rfl hl.1 (Nat.le_of_ble_eq_true rfl) dX9_paste_8 ⟨Nat.le_of_ble_eq_true rfl, Nat.le_of_ble_eq_true rfl⟩ (fun r_64 w_64 H locs hw_64 hP hD hS => ?_)
        rcases hw_64 with ⟨c_65, rfl, rfl⟩ | ⟨c_66, rfl, rfl⟩
        · skip
          have hP : va_P G vwCl [(ob, .inr (9, [.ref tp, .int 0, .ref rd, .ref sa, .ref im, .ref sl, .ref ro, .ref wy, .ref od, .ref ok])), (sl, .inl (y 4, 4, .inr (.inr (.inr (.inr (va_up (va_up (va_up (va_up (fun _ => none) 0 (some s0)) 1 (some s1)) 2 (some s2)) 3 (some s3))))))), (s0, .inr (5, [.int 0, .int 0, .int 0, .ref nu0])), (s1, .inr (5, [.int 0, .int 0, .int 0, .ref nu1])), (s2, .inr (5, [.int 0, .int 0, .int 0, .ref nu2])), (s3, .inr (5, [.int 0, .int 0, .int 0, .ref nu3]))] H := hP
          have hD : va_D A [(ob, .inr (9, [.ref tp, .int 0, .ref rd, .ref sa, .ref im, .ref sl, .ref ro, .ref wy, .ref od, .ref ok])), (sl, .inl (y 4, 4, .inr (.inr (.inr (.inr (va_up (va_up (va_up (va_up (fun _ => none) 0 (some s0)) 1 (some s1)) 2 (some s2)) 3 (some s3))))))), (s0, .inr (5, [.int 0, .int 0, .int 0, .ref nu0])), (s1, .inr (5, [.int 0, .int 0, .int 0, .ref nu1])), (s2, .inr (5, [.int 0, .int 0, .int 0, .ref nu2])), (s3, .inr (5, [.int 0, .int 0, .int 0, .ref nu3]))] := hD
          refine lv_if_ne (tgt := 17) hx hb dX9_paste_11 (by decide) (fun _ => ?_) (fun c9 => absurd c9 (by decide))
          refine lv_aload_n hx hb dX9_paste_17 rfl (lv_at hl 0 rfl) ?_
          refine va_get (D := G) (ci := 9) (v := .ref sl) (C := RX9) (T := TX9) (N := 10) hx hb hw0 inA_wsX90 hown hK.1 hP 0 rfl rfl 5 (by decide) (hw0 _ m_113) (fun _ h9 => h9) rfl dX9_paste_18 ?_
          refine lv_iload_n hx hb dX9_paste_21 rfl (lv_at hl 1 rfl) ?_
          refine va_aldq hx hb hK.1 hP 1 4 rfl rfl (vp_in_nI (n := 2) (N := 4) (by decide) (by decide)) dX9_paste_22 ?_
          refine W.eq (g2 := F0 m 23 ls [.ref s2]) rfl ?_
          refine lv_astore (lv' := [(6, .ref s2), (0, .ref ob), (1, .int 2), (2, .int a2), (3, .int 0), (4, .int a4), (5, .int a5)]) hx hb dX9_paste_23 hl (by decide) rfl (fun ls hl => ?_)
          refine lv_aload_n hx hb dX9_paste_25 rfl (lv_at hl 1 rfl) ?_
          refine va_get (D := G) (ci := 9) (v := .ref sl) (C := RX9) (T := TX9) (N := 10) hx hb hw0 inA_wsX90 hown hK.1 hP 0 rfl rfl 5 (by decide) (hw0 _ m_113) (fun _ h9 => h9) rfl dX9_paste_26 ?_
          refine lv_iload_n hx hb dX9_paste_29 rfl (lv_at hl 4 rfl) ?_
          refine va_aldq hx hb hK.1 hP 1 4 rfl rfl (vp_in_nI (n := 0) (N := 4) (by decide) (by decide)) dX9_paste_30 ?_
          refine W.eq (g2 := F0 m 31 ls [.ref s0]) rfl ?_
          refine lv_astore (lv' := [(7, .ref s0), (6, .ref s2), (0, .ref ob), (1, .int 2), (2, .int a2), (3, .int 0), (4, .int a4), (5, .int a5)]) hx hb dX9_paste_31 hl (by decide) rfl (fun ls hl => ?_)
          refine lv_aload hx hb dX9_paste_33 (lv_at hl 1 rfl) ?_
          refine va_get (D := G) (ci := 5) (v := .int 0) (C := RX5) (T := TX5) (N := 4) hx hb hw0 inA_wsX50 hown hK.1 hP 4 rfl rfl 0 (by decide) (hw0 _ m_233) (fun _ h9 => h9) rfl dX9_paste_35 ?_
          refine lv_if_eq (tgt := 49) hx hb dX9_paste_38 (by decide) (fun _ => ?_) (fun c9 => absurd (by decide) c9)
          refine lv_bipush (v := (-6)) hx hb dX9_paste_49 (by decide) ?_
          refine W.widen (k := 0) (n := 0) (Nat.le_of_ble_eq_true rfl) (Nat.le_of_ble_eq_true rfl) ?_
          exact W.iret (v := (-6)) hx hb hr (fun t ht hW => ⟨⟨(-6), _, rfl, (by first | rfl | decide | (simp only [sp_paste]; (repeat' split) <;> first | rfl | (exfalso; omega))), by rw [ht]; exact hP, hD⟩, hS.F ht⟩) hS.2.2 dX9_paste_51
        · skip
          exact absurd c_66 (by decide)
      · skip
        exact absurd c_63 (by decide)
    · have hl : lv_has ls 8 [(0, .ref ob), (1, .int 2), (2, .int a2), (3, .int 1), (4, .int a4), (5, .int a5)] := hl
      refine lv_iload_n hx hb dX9_paste_0 rfl (lv_at hl 1 rfl) ?_
      refine cSi (As := [.int 2]) (rest := []) ⟨hx, hb, hml, hown, hw0⟩ hA hK hP hD hS [] [0, 1, 2, 3, 4, 5] [] [(ob, .inr (9, [.ref tp, .int 0, .ref rd, .ref sa, .ref im, .ref sl, .ref ro, .ref wy, .ref od, .ref ok])), (sl, .inl (y 4, 4, .inr (.inr (.inr (.inr (va_up (va_up (va_up (va_up (fun _ => none) 0 (some s0)) 1 (some s1)) 2 (some s2)) 3 (some s3))))))), (s0, .inr (5, [.int 0, .int 0, .int 0, .ref nu0])), (s1, .inr (5, [.int 0, .int 0, .int 0, .ref nu1])), (s2, .inr (5, [.int 0, .int 0, .int 0, .ref nu2])), (s3, .inr (5, [.int 0, .int 0, .int 0, .ref nu3]))] rfl rfl (by decide) (by decide) (by decide) (kX9_isSlot l G y _ 2 ) ⟨(callB_of 1 hw0 (gA m_162) rfl rfl rfl (hw0 _ m_183) (hw0 _ m_200) (by decide +kernel) ⟨Nat.le_of_ble_eq_true rfl, Nat.le_of_ble_eq_true rfl⟩), (hw0 _ m_201)⟩ rfl hl.1 (Nat.le_of_ble_eq_true rfl) dX9_paste_1 ⟨Nat.le_of_ble_eq_true rfl, Nat.le_of_ble_eq_true rfl⟩ (fun r_67 w_67 H locs hw_67 hP hD hS => ?_)
      rcases hw_67 with ⟨c_68, rfl, rfl⟩ | ⟨c_69, rfl, rfl⟩
      · skip
        have hP : va_P G vwCl [(ob, .inr (9, [.ref tp, .int 0, .ref rd, .ref sa, .ref im, .ref sl, .ref ro, .ref wy, .ref od, .ref ok])), (sl, .inl (y 4, 4, .inr (.inr (.inr (.inr (va_up (va_up (va_up (va_up (fun _ => none) 0 (some s0)) 1 (some s1)) 2 (some s2)) 3 (some s3))))))), (s0, .inr (5, [.int 0, .int 0, .int 0, .ref nu0])), (s1, .inr (5, [.int 0, .int 0, .int 0, .ref nu1])), (s2, .inr (5, [.int 0, .int 0, .int 0, .ref nu2])), (s3, .inr (5, [.int 0, .int 0, .int 0, .ref nu3]))] H := hP
        have hD : va_D A [(ob, .inr (9, [.ref tp, .int 0, .ref rd, .ref sa, .ref im, .ref sl, .ref ro, .ref wy, .ref od, .ref ok])), (sl, .inl (y 4, 4, .inr (.inr (.inr (.inr (va_up (va_up (va_up (va_up (fun _ => none) 0 (some s0)) 1 (some s1)) 2 (some s2)) 3 (some s3))))))), (s0, .inr (5, [.int 0, .int 0, .int 0, .ref nu0])), (s1, .inr (5, [.int 0, .int 0, .int 0, .ref nu1])), (s2, .inr (5, [.int 0, .int 0, .int 0, .ref nu2])), (s3, .inr (5, [.int 0, .int 0, .int 0, .ref nu3]))] := hD
        refine lv_if_eq (tgt := 14) hx hb dX9_paste_4 (by decide) (fun c9 => absurd c9 (by decide)) (fun _ => ?_)
        refine lv_iload_n hx hb dX9_paste_7 rfl (lv_at hl 3 rfl) ?_
        refine cSi (As := [.int 1]) (rest := []) ⟨hx, hb, hml, hown, hw0⟩ hA hK hP hD hS [] [0, 1, 2, 3, 4, 5] [] [(ob, .inr (9, [.ref tp, .int 0, .ref rd, .ref sa, .ref im, .ref sl, .ref ro, .ref wy, .ref od, .ref ok])), (sl, .inl (y 4, 4, .inr (.inr (.inr (.inr (va_up (va_up (va_up (va_up (fun _ => none) 0 (some s0)) 1 (some s1)) 2 (some s2)) 3 (some s3))))))), (s0, .inr (5, [.int 0, .int 0, .int 0, .ref nu0])), (s1, .inr (5, [.int 0, .int 0, .int 0, .ref nu1])), (s2, .inr (5, [.int 0, .int 0, .int 0, .ref nu2])), (s3, .inr (5, [.int 0, .int 0, .int 0, .ref nu3]))] rfl rfl (by decide) (by decide) (by decide) (kX9_isSlot l G y _ 1 ) ⟨(callB_of 1 hw0 (gA m_162) rfl rfl rfl (hw0 _ m_183) (hw0 _ m_200) (by decide +kernel) ⟨Nat.le_of_ble_eq_true rfl, Nat.le_of_ble_eq_true rfl⟩), (hw0 _ m_201)⟩ rfl hl.1 (Nat.le_of_ble_eq_true rfl) dX9_paste_8 ⟨Nat.le_of_ble_eq_true rfl, Nat.le_of_ble_eq_true rfl⟩ (fun r_70 w_70 H locs hw_70 hP hD hS => ?_)
        rcases hw_70 with ⟨c_71, rfl, rfl⟩ | ⟨c_72, rfl, rfl⟩
        · skip
          have hP : va_P G vwCl [(ob, .inr (9, [.ref tp, .int 0, .ref rd, .ref sa, .ref im, .ref sl, .ref ro, .ref wy, .ref od, .ref ok])), (sl, .inl (y 4, 4, .inr (.inr (.inr (.inr (va_up (va_up (va_up (va_up (fun _ => none) 0 (some s0)) 1 (some s1)) 2 (some s2)) 3 (some s3))))))), (s0, .inr (5, [.int 0, .int 0, .int 0, .ref nu0])), (s1, .inr (5, [.int 0, .int 0, .int 0, .ref nu1])), (s2, .inr (5, [.int 0, .int 0, .int 0, .ref nu2])), (s3, .inr (5, [.int 0, .int 0, .int 0, .ref nu3]))] H := hP
          have hD : va_D A [(ob, .inr (9, [.ref tp, .int 0, .ref rd, .ref sa, .ref im, .ref sl, .ref ro, .ref wy, .ref od, .ref ok])), (sl, .inl (y 4, 4, .inr (.inr (.inr (.inr (va_up (va_up (va_up (va_up (fun _ => none) 0 (some s0)) 1 (some s1)) 2 (some s2)) 3 (some s3))))))), (s0, .inr (5, [.int 0, .int 0, .int 0, .ref nu0])), (s1, .inr (5, [.int 0, .int 0, .int 0, .ref nu1])), (s2, .inr (5, [.int 0, .int 0, .int 0, .ref nu2])), (s3, .inr (5, [.int 0, .int 0, .int 0, .ref nu3]))] := hD
          refine lv_if_ne (tgt := 17) hx hb dX9_paste_11 (by decide) (fun _ => ?_) (fun c9 => absurd c9 (by decide))
          refine lv_aload_n hx hb dX9_paste_17 rfl (lv_at hl 0 rfl) ?_
          refine va_get (D := G) (ci := 9) (v := .ref sl) (C := RX9) (T := TX9) (N := 10) hx hb hw0 inA_wsX90 hown hK.1 hP 0 rfl rfl 5 (by decide) (hw0 _ m_113) (fun _ h9 => h9) rfl dX9_paste_18 ?_
          refine lv_iload_n hx hb dX9_paste_21 rfl (lv_at hl 1 rfl) ?_
          refine va_aldq hx hb hK.1 hP 1 4 rfl rfl (vp_in_nI (n := 2) (N := 4) (by decide) (by decide)) dX9_paste_22 ?_
          refine W.eq (g2 := F0 m 23 ls [.ref s2]) rfl ?_
          refine lv_astore (lv' := [(6, .ref s2), (0, .ref ob), (1, .int 2), (2, .int a2), (3, .int 1), (4, .int a4), (5, .int a5)]) hx hb dX9_paste_23 hl (by decide) rfl (fun ls hl => ?_)
          refine lv_aload_n hx hb dX9_paste_25 rfl (lv_at hl 1 rfl) ?_
          refine va_get (D := G) (ci := 9) (v := .ref sl) (C := RX9) (T := TX9) (N := 10) hx hb hw0 inA_wsX90 hown hK.1 hP 0 rfl rfl 5 (by decide) (hw0 _ m_113) (fun _ h9 => h9) rfl dX9_paste_26 ?_
          refine lv_iload_n hx hb dX9_paste_29 rfl (lv_at hl 4 rfl) ?_
          refine va_aldq hx hb hK.1 hP 1 4 rfl rfl (vp_in_nI (n := 1) (N := 4) (by decide) (by decide)) dX9_paste_30 ?_
          refine W.eq (g2 := F0 m 31 ls [.ref s1]) rfl ?_
          refine lv_astore (lv' := [(7, .ref s1), (6, .ref s2), (0, .ref ob), (1, .int 2), (2, .int a2), (3, .int 1), (4, .int a4), (5, .int a5)]) hx hb dX9_paste_31 hl (by decide) rfl (fun ls hl => ?_)
          refine lv_aload hx hb dX9_paste_33 (lv_at hl 1 rfl) ?_
          refine va_get (D := G) (ci := 5) (v := .int 0) (C := RX5) (T := TX5) (N := 4) hx hb hw0 inA_wsX50 hown hK.1 hP 4 rfl rfl 0 (by decide) (hw0 _ m_233) (fun _ h9 => h9) rfl dX9_paste_35 ?_
          refine lv_if_eq (tgt := 49) hx hb dX9_paste_38 (by decide) (fun _ => ?_) (fun c9 => absurd (by decide) c9)
          refine lv_bipush (v := (-6)) hx hb dX9_paste_49 (by decide) ?_
          refine W.widen (k := 0) (n := 0) (Nat.le_of_ble_eq_true rfl) (Nat.le_of_ble_eq_true rfl) ?_
          exact W.iret (v := (-6)) hx hb hr (fun t ht hW => ⟨⟨(-6), _, rfl, (by first | rfl | decide | (simp only [sp_paste]; (repeat' split) <;> first | rfl | (exfalso; omega))), by rw [ht]; exact hP, hD⟩, hS.F ht⟩) hS.2.2 dX9_paste_51
        · skip
          exact absurd c_72 (by decide)
      · skip
        exact absurd c_69 (by decide)
    · have hl : lv_has ls 8 [(0, .ref ob), (1, .int 2), (2, .int a2), (3, .int 2), (4, .int a4), (5, .int a5)] := hl
      refine lv_iload_n hx hb dX9_paste_0 rfl (lv_at hl 1 rfl) ?_
      refine cSi (As := [.int 2]) (rest := []) ⟨hx, hb, hml, hown, hw0⟩ hA hK hP hD hS [] [0, 1, 2, 3, 4, 5] [] [(ob, .inr (9, [.ref tp, .int 0, .ref rd, .ref sa, .ref im, .ref sl, .ref ro, .ref wy, .ref od, .ref ok])), (sl, .inl (y 4, 4, .inr (.inr (.inr (.inr (va_up (va_up (va_up (va_up (fun _ => none) 0 (some s0)) 1 (some s1)) 2 (some s2)) 3 (some s3))))))), (s0, .inr (5, [.int 0, .int 0, .int 0, .ref nu0])), (s1, .inr (5, [.int 0, .int 0, .int 0, .ref nu1])), (s2, .inr (5, [.int 0, .int 0, .int 0, .ref nu2])), (s3, .inr (5, [.int 0, .int 0, .int 0, .ref nu3]))] rfl rfl (by decide) (by decide) (by decide) (kX9_isSlot l G y _ 2 ) ⟨(callB_of 1 hw0 (gA m_162) rfl rfl rfl (hw0 _ m_183) (hw0 _ m_200) (by decide +kernel) ⟨Nat.le_of_ble_eq_true rfl, Nat.le_of_ble_eq_true rfl⟩), (hw0 _ m_201)⟩ rfl hl.1 (Nat.le_of_ble_eq_true rfl) dX9_paste_1 ⟨Nat.le_of_ble_eq_true rfl, Nat.le_of_ble_eq_true rfl⟩ (fun r_73 w_73 H locs hw_73 hP hD hS => ?_)
      rcases hw_73 with ⟨c_74, rfl, rfl⟩ | ⟨c_75, rfl, rfl⟩
      · skip
        have hP : va_P G vwCl [(ob, .inr (9, [.ref tp, .int 0, .ref rd, .ref sa, .ref im, .ref sl, .ref ro, .ref wy, .ref od, .ref ok])), (sl, .inl (y 4, 4, .inr (.inr (.inr (.inr (va_up (va_up (va_up (va_up (fun _ => none) 0 (some s0)) 1 (some s1)) 2 (some s2)) 3 (some s3))))))), (s0, .inr (5, [.int 0, .int 0, .int 0, .ref nu0])), (s1, .inr (5, [.int 0, .int 0, .int 0, .ref nu1])), (s2, .inr (5, [.int 0, .int 0, .int 0, .ref nu2])), (s3, .inr (5, [.int 0, .int 0, .int 0, .ref nu3]))] H := hP
        have hD : va_D A [(ob, .inr (9, [.ref tp, .int 0, .ref rd, .ref sa, .ref im, .ref sl, .ref ro, .ref wy, .ref od, .ref ok])), (sl, .inl (y 4, 4, .inr (.inr (.inr (.inr (va_up (va_up (va_up (va_up (fun _ => none) 0 (some s0)) 1 (some s1)) 2 (some s2)) 3 (some s3))))))), (s0, .inr (5, [.int 0, .int 0, .int 0, .ref nu0])), (s1, .inr (5, [.int 0, .int 0, .int 0, .ref nu1])), (s2, .inr (5, [.int 0, .int 0, .int 0, .ref nu2])), (s3, .inr (5, [.int 0, .int 0, .int 0, .ref nu3]))] := hD
        refine lv_if_eq (tgt := 14) hx hb dX9_paste_4 (by decide) (fun c9 => absurd c9 (by decide)) (fun _ => ?_)
        refine lv_iload_n hx hb dX9_paste_7 rfl (lv_at hl 3 rfl) ?_
        refine cSi (As := [.int 2]) (rest := []) ⟨hx, hb, hml, hown, hw0⟩ hA hK hP hD hS [] [0, 1, 2, 3, 4, 5] [] [(ob, .inr (9, [.ref tp, .int 0, .ref rd, .ref sa, .ref im, .ref sl, .ref ro, .ref wy, .ref od, .ref ok])), (sl, .inl (y 4, 4, .inr (.inr (.inr (.inr (va_up (va_up (va_up (va_up (fun _ => none) 0 (some s0)) 1 (some s1)) 2 (some s2)) 3 (some s3))))))), (s0, .inr (5, [.int 0, .int 0, .int 0, .ref nu0])), (s1, .inr (5, [.int 0, .int 0, .int 0, .ref nu1])), (s2, .inr (5, [.int 0, .int 0, .int 0, .ref nu2])), (s3, .inr (5, [.int 0, .int 0, .int 0, .ref nu3]))] rfl rfl (by decide) (by decide) (by decide) (kX9_isSlot l G y _ 2 ) ⟨(callB_of 1 hw0 (gA m_162) rfl rfl rfl (hw0 _ m_183) (hw0 _ m_200) (by decide +kernel) ⟨Nat.le_of_ble_eq_true rfl, Nat.le_of_ble_eq_true rfl⟩), (hw0 _ m_201)⟩ rfl hl.1 (Nat.le_of_ble_eq_true rfl) dX9_paste_8 ⟨Nat.le_of_ble_eq_true rfl, Nat.le_of_ble_eq_true rfl⟩ (fun r_76 w_76 H locs hw_76 hP hD hS => ?_)
        rcases hw_76 with ⟨c_77, rfl, rfl⟩ | ⟨c_78, rfl, rfl⟩
        · skip
          have hP : va_P G vwCl [(ob, .inr (9, [.ref tp, .int 0, .ref rd, .ref sa, .ref im, .ref sl, .ref ro, .ref wy, .ref od, .ref ok])), (sl, .inl (y 4, 4, .inr (.inr (.inr (.inr (va_up (va_up (va_up (va_up (fun _ => none) 0 (some s0)) 1 (some s1)) 2 (some s2)) 3 (some s3))))))), (s0, .inr (5, [.int 0, .int 0, .int 0, .ref nu0])), (s1, .inr (5, [.int 0, .int 0, .int 0, .ref nu1])), (s2, .inr (5, [.int 0, .int 0, .int 0, .ref nu2])), (s3, .inr (5, [.int 0, .int 0, .int 0, .ref nu3]))] H := hP
          have hD : va_D A [(ob, .inr (9, [.ref tp, .int 0, .ref rd, .ref sa, .ref im, .ref sl, .ref ro, .ref wy, .ref od, .ref ok])), (sl, .inl (y 4, 4, .inr (.inr (.inr (.inr (va_up (va_up (va_up (va_up (fun _ => none) 0 (some s0)) 1 (some s1)) 2 (some s2)) 3 (some s3))))))), (s0, .inr (5, [.int 0, .int 0, .int 0, .ref nu0])), (s1, .inr (5, [.int 0, .int 0, .int 0, .ref nu1])), (s2, .inr (5, [.int 0, .int 0, .int 0, .ref nu2])), (s3, .inr (5, [.int 0, .int 0, .int 0, .ref nu3]))] := hD
          refine lv_if_ne (tgt := 17) hx hb dX9_paste_11 (by decide) (fun _ => ?_) (fun c9 => absurd c9 (by decide))
          refine lv_aload_n hx hb dX9_paste_17 rfl (lv_at hl 0 rfl) ?_
          refine va_get (D := G) (ci := 9) (v := .ref sl) (C := RX9) (T := TX9) (N := 10) hx hb hw0 inA_wsX90 hown hK.1 hP 0 rfl rfl 5 (by decide) (hw0 _ m_113) (fun _ h9 => h9) rfl dX9_paste_18 ?_
          refine lv_iload_n hx hb dX9_paste_21 rfl (lv_at hl 1 rfl) ?_
          refine va_aldq hx hb hK.1 hP 1 4 rfl rfl (vp_in_nI (n := 2) (N := 4) (by decide) (by decide)) dX9_paste_22 ?_
          refine W.eq (g2 := F0 m 23 ls [.ref s2]) rfl ?_
          refine lv_astore (lv' := [(6, .ref s2), (0, .ref ob), (1, .int 2), (2, .int a2), (3, .int 2), (4, .int a4), (5, .int a5)]) hx hb dX9_paste_23 hl (by decide) rfl (fun ls hl => ?_)
          refine lv_aload_n hx hb dX9_paste_25 rfl (lv_at hl 1 rfl) ?_
          refine va_get (D := G) (ci := 9) (v := .ref sl) (C := RX9) (T := TX9) (N := 10) hx hb hw0 inA_wsX90 hown hK.1 hP 0 rfl rfl 5 (by decide) (hw0 _ m_113) (fun _ h9 => h9) rfl dX9_paste_26 ?_
          refine lv_iload_n hx hb dX9_paste_29 rfl (lv_at hl 4 rfl) ?_
          refine va_aldq hx hb hK.1 hP 1 4 rfl rfl (vp_in_nI (n := 2) (N := 4) (by decide) (by decide)) dX9_paste_30 ?_
          refine W.eq (g2 := F0 m 31 ls [.ref s2]) rfl ?_
          refine lv_astore (lv' := [(7, .ref s2), (6, .ref s2), (0, .ref ob), (1, .int 2), (2, .int a2), (3, .int 2), (4, .int a4), (5, .int a5)]) hx hb dX9_paste_31 hl (by decide) rfl (fun ls hl => ?_)
          refine lv_aload hx hb dX9_paste_33 (lv_at hl 1 rfl) ?_
          refine va_get (D := G) (ci := 5) (v := .int 0) (C := RX5) (T := TX5) (N := 4) hx hb hw0 inA_wsX50 hown hK.1 hP 4 rfl rfl 0 (by decide) (hw0 _ m_233) (fun _ h9 => h9) rfl dX9_paste_35 ?_
          refine lv_if_eq (tgt := 49) hx hb dX9_paste_38 (by decide) (fun _ => ?_) (fun c9 => absurd (by decide) c9)
          refine lv_bipush (v := (-6)) hx hb dX9_paste_49 (by decide) ?_
          refine W.widen (k := 0) (n := 0) (Nat.le_of_ble_eq_true rfl) (Nat.le_of_ble_eq_true rfl) ?_
          exact W.iret (v := (-6)) hx hb hr (fun t ht hW => ⟨⟨(-6), _, rfl, (by first | rfl | decide | (simp only [sp_paste]; (repeat' split) <;> first | rfl | (exfalso; omega))), by rw [ht]; exact hP, hD⟩, hS.F ht⟩) hS.2.2 dX9_paste_51
        · skip
          exact absurd c_78 (by decide)
      · skip
        exact absurd c_75 (by decide)
    · have hl : lv_has ls 8 [(0, .ref ob), (1, .int 2), (2, .int a2), (3, .int 3), (4, .int a4), (5, .int a5)] := hl
      refine lv_iload_n hx hb dX9_paste_0 rfl (lv_at hl 1 rfl) ?_
      refine cSi (As := [.int 2]) (rest := []) ⟨hx, hb, hml, hown, hw0⟩ hA hK hP hD hS [] [0, 1, 2, 3, 4, 5] [] [(ob, .inr (9, [.ref tp, .int 0, .ref rd, .ref sa, .ref im, .ref sl, .ref ro, .ref wy, .ref od, .ref ok])), (sl, .inl (y 4, 4, .inr (.inr (.inr (.inr (va_up (va_up (va_up (va_up (fun _ => none) 0 (some s0)) 1 (some s1)) 2 (some s2)) 3 (some s3))))))), (s0, .inr (5, [.int 0, .int 0, .int 0, .ref nu0])), (s1, .inr (5, [.int 0, .int 0, .int 0, .ref nu1])), (s2, .inr (5, [.int 0, .int 0, .int 0, .ref nu2])), (s3, .inr (5, [.int 0, .int 0, .int 0, .ref nu3]))] rfl rfl (by decide) (by decide) (by decide) (kX9_isSlot l G y _ 2 ) ⟨(callB_of 1 hw0 (gA m_162) rfl rfl rfl (hw0 _ m_183) (hw0 _ m_200) (by decide +kernel) ⟨Nat.le_of_ble_eq_true rfl, Nat.le_of_ble_eq_true rfl⟩), (hw0 _ m_201)⟩ rfl hl.1 (Nat.le_of_ble_eq_true rfl) dX9_paste_1 ⟨Nat.le_of_ble_eq_true rfl, Nat.le_of_ble_eq_true rfl⟩ (fun r_79 w_79 H locs hw_79 hP hD hS => ?_)
      rcases hw_79 with ⟨c_80, rfl, rfl⟩ | ⟨c_81, rfl, rfl⟩
      · skip
        have hP : va_P G vwCl [(ob, .inr (9, [.ref tp, .int 0, .ref rd, .ref sa, .ref im, .ref sl, .ref ro, .ref wy, .ref od, .ref ok])), (sl, .inl (y 4, 4, .inr (.inr (.inr (.inr (va_up (va_up (va_up (va_up (fun _ => none) 0 (some s0)) 1 (some s1)) 2 (some s2)) 3 (some s3))))))), (s0, .inr (5, [.int 0, .int 0, .int 0, .ref nu0])), (s1, .inr (5, [.int 0, .int 0, .int 0, .ref nu1])), (s2, .inr (5, [.int 0, .int 0, .int 0, .ref nu2])), (s3, .inr (5, [.int 0, .int 0, .int 0, .ref nu3]))] H := hP
        have hD : va_D A [(ob, .inr (9, [.ref tp, .int 0, .ref rd, .ref sa, .ref im, .ref sl, .ref ro, .ref wy, .ref od, .ref ok])), (sl, .inl (y 4, 4, .inr (.inr (.inr (.inr (va_up (va_up (va_up (va_up (fun _ => none) 0 (some s0)) 1 (some s1)) 2 (some s2)) 3 (some s3))))))), (s0, .inr (5, [.int 0, .int 0, .int 0, .ref nu0])), (s1, .inr (5, [.int 0, .int 0, .int 0, .ref nu1])), (s2, .inr (5, [.int 0, .int 0, .int 0, .ref nu2])), (s3, .inr (5, [.int 0, .int 0, .int 0, .ref nu3]))] := hD
        refine lv_if_eq (tgt := 14) hx hb dX9_paste_4 (by decide) (fun c9 => absurd c9 (by decide)) (fun _ => ?_)
        refine lv_iload_n hx hb dX9_paste_7 rfl (lv_at hl 3 rfl) ?_
        refine cSi (As := [.int 3]) (rest := []) ⟨hx, hb, hml, hown, hw0⟩ hA hK hP hD hS [] [0, 1, 2, 3, 4, 5] [] [(ob, .inr (9, [.ref tp, .int 0, .ref rd, .ref sa, .ref im, .ref sl, .ref ro, .ref wy, .ref od, .ref ok])), (sl, .inl (y 4, 4, .inr (.inr (.inr (.inr (va_up (va_up (va_up (va_up (fun _ => none) 0 (some s0)) 1 (some s1)) 2 (some s2)) 3 (some s3))))))), (s0, .inr (5, [.int 0, .int 0, .int 0, .ref nu0])), (s1, .inr (5, [.int 0, .int 0, .int 0, .ref nu1])), (s2, .inr (5, [.int 0, .int 0, .int 0, .ref nu2])), (s3, .inr (5, [.int 0, .int 0, .int 0, .ref nu3]))] rfl rfl (by decide) (by decide) (by decide) (kX9_isSlot l G y _ 3 ) ⟨(callB_of 1 hw0 (gA m_162) rfl rfl rfl (hw0 _ m_183) (hw0 _ m_200) (by decide +kernel) ⟨Nat.le_of_ble_eq_true rfl, Nat.le_of_ble_eq_true rfl⟩), (hw0 _ m_201)⟩ rfl hl.1 (Nat.le_of_ble_eq_true rfl) dX9_paste_8 ⟨Nat.le_of_ble_eq_true rfl, Nat.le_of_ble_eq_true rfl⟩ (fun r_82 w_82 H locs hw_82 hP hD hS => ?_)
        rcases hw_82 with ⟨c_83, rfl, rfl⟩ | ⟨c_84, rfl, rfl⟩
        · skip
          have hP : va_P G vwCl [(ob, .inr (9, [.ref tp, .int 0, .ref rd, .ref sa, .ref im, .ref sl, .ref ro, .ref wy, .ref od, .ref ok])), (sl, .inl (y 4, 4, .inr (.inr (.inr (.inr (va_up (va_up (va_up (va_up (fun _ => none) 0 (some s0)) 1 (some s1)) 2 (some s2)) 3 (some s3))))))), (s0, .inr (5, [.int 0, .int 0, .int 0, .ref nu0])), (s1, .inr (5, [.int 0, .int 0, .int 0, .ref nu1])), (s2, .inr (5, [.int 0, .int 0, .int 0, .ref nu2])), (s3, .inr (5, [.int 0, .int 0, .int 0, .ref nu3]))] H := hP
          have hD : va_D A [(ob, .inr (9, [.ref tp, .int 0, .ref rd, .ref sa, .ref im, .ref sl, .ref ro, .ref wy, .ref od, .ref ok])), (sl, .inl (y 4, 4, .inr (.inr (.inr (.inr (va_up (va_up (va_up (va_up (fun _ => none) 0 (some s0)) 1 (some s1)) 2 (some s2)) 3 (some s3))))))), (s0, .inr (5, [.int 0, .int 0, .int 0, .ref nu0])), (s1, .inr (5, [.int 0, .int 0, .int 0, .ref nu1])), (s2, .inr (5, [.int 0, .int 0, .int 0, .ref nu2])), (s3, .inr (5, [.int 0, .int 0, .int 0, .ref nu3]))] := hD
          refine lv_if_ne (tgt := 17) hx hb dX9_paste_11 (by decide) (fun _ => ?_) (fun c9 => absurd c9 (by decide))
          refine lv_aload_n hx hb dX9_paste_17 rfl (lv_at hl 0 rfl) ?_
          refine va_get (D := G) (ci := 9) (v := .ref sl) (C := RX9) (T := TX9) (N := 10) hx hb hw0 inA_wsX90 hown hK.1 hP 0 rfl rfl 5 (by decide) (hw0 _ m_113) (fun _ h9 => h9) rfl dX9_paste_18 ?_
          refine lv_iload_n hx hb dX9_paste_21 rfl (lv_at hl 1 rfl) ?_
          refine va_aldq hx hb hK.1 hP 1 4 rfl rfl (vp_in_nI (n := 2) (N := 4) (by decide) (by decide)) dX9_paste_22 ?_
          refine W.eq (g2 := F0 m 23 ls [.ref s2]) rfl ?_
          refine lv_astore (lv' := [(6, .ref s2), (0, .ref ob), (1, .int 2), (2, .int a2), (3, .int 3), (4, .int a4), (5, .int a5)]) hx hb dX9_paste_23 hl (by decide) rfl (fun ls hl => ?_)
          refine lv_aload_n hx hb dX9_paste_25 rfl (lv_at hl 1 rfl) ?_
          refine va_get (D := G) (ci := 9) (v := .ref sl) (C := RX9) (T := TX9) (N := 10) hx hb hw0 inA_wsX90 hown hK.1 hP 0 rfl rfl 5 (by decide) (hw0 _ m_113) (fun _ h9 => h9) rfl dX9_paste_26 ?_
          refine lv_iload_n hx hb dX9_paste_29 rfl (lv_at hl 4 rfl) ?_
          refine va_aldq hx hb hK.1 hP 1 4 rfl rfl (vp_in_nI (n := 3) (N := 4) (by decide) (by decide)) dX9_paste_30 ?_
          refine W.eq (g2 := F0 m 31 ls [.ref s3]) rfl ?_
          refine lv_astore (lv' := [(7, .ref s3), (6, .ref s2), (0, .ref ob), (1, .int 2), (2, .int a2), (3, .int 3), (4, .int a4), (5, .int a5)]) hx hb dX9_paste_31 hl (by decide) rfl (fun ls hl => ?_)
          refine lv_aload hx hb dX9_paste_33 (lv_at hl 1 rfl) ?_
          refine va_get (D := G) (ci := 5) (v := .int 0) (C := RX5) (T := TX5) (N := 4) hx hb hw0 inA_wsX50 hown hK.1 hP 4 rfl rfl 0 (by decide) (hw0 _ m_233) (fun _ h9 => h9) rfl dX9_paste_35 ?_
          refine lv_if_eq (tgt := 49) hx hb dX9_paste_38 (by decide) (fun _ => ?_) (fun c9 => absurd (by decide) c9)
          refine lv_bipush (v := (-6)) hx hb dX9_paste_49 (by decide) ?_
          refine W.widen (k := 0) (n := 0) (Nat.le_of_ble_eq_true rfl) (Nat.le_of_ble_eq_true rfl) ?_
          exact W.iret (v := (-6)) hx hb hr (fun t ht hW => ⟨⟨(-6), _, rfl, (by first | rfl | decide | (simp only [sp_paste]; (repeat' split) <;> first | rfl | (exfalso; omega))), by rw [ht]; exact hP, hD⟩, hS.F ht⟩) hS.2.2 dX9_paste_51
        · skip
          exact absurd c_84 (by decide)
      · skip
        exact absurd c_81 (by decide)
    · have hl : lv_has ls 8 [(0, .ref ob), (1, .int 2), (2, .int a2), (3, .int a3), (4, .int a4), (5, .int a5)] := hl
      refine lv_iload_n hx hb dX9_paste_0 rfl (lv_at hl 1 rfl) ?_
      refine cSi (As := [.int 2]) (rest := []) ⟨hx, hb, hml, hown, hw0⟩ hA hK hP hD hS [] [0, 1, 2, 3, 4, 5] [] [(ob, .inr (9, [.ref tp, .int 0, .ref rd, .ref sa, .ref im, .ref sl, .ref ro, .ref wy, .ref od, .ref ok])), (sl, .inl (y 4, 4, .inr (.inr (.inr (.inr (va_up (va_up (va_up (va_up (fun _ => none) 0 (some s0)) 1 (some s1)) 2 (some s2)) 3 (some s3))))))), (s0, .inr (5, [.int 0, .int 0, .int 0, .ref nu0])), (s1, .inr (5, [.int 0, .int 0, .int 0, .ref nu1])), (s2, .inr (5, [.int 0, .int 0, .int 0, .ref nu2])), (s3, .inr (5, [.int 0, .int 0, .int 0, .ref nu3]))] rfl rfl (by decide) (by decide) (by decide) (kX9_isSlot l G y _ 2 ) ⟨(callB_of 1 hw0 (gA m_162) rfl rfl rfl (hw0 _ m_183) (hw0 _ m_200) (by decide +kernel) ⟨Nat.le_of_ble_eq_true rfl, Nat.le_of_ble_eq_true rfl⟩), (hw0 _ m_201)⟩ rfl hl.1 (Nat.le_of_ble_eq_true rfl) dX9_paste_1 ⟨Nat.le_of_ble_eq_true rfl, Nat.le_of_ble_eq_true rfl⟩ (fun r_85 w_85 H locs hw_85 hP hD hS => ?_)
      rcases hw_85 with ⟨c_86, rfl, rfl⟩ | ⟨c_87, rfl, rfl⟩
      · skip
        have hP : va_P G vwCl [(ob, .inr (9, [.ref tp, .int 0, .ref rd, .ref sa, .ref im, .ref sl, .ref ro, .ref wy, .ref od, .ref ok])), (sl, .inl (y 4, 4, .inr (.inr (.inr (.inr (va_up (va_up (va_up (va_up (fun _ => none) 0 (some s0)) 1 (some s1)) 2 (some s2)) 3 (some s3))))))), (s0, .inr (5, [.int 0, .int 0, .int 0, .ref nu0])), (s1, .inr (5, [.int 0, .int 0, .int 0, .ref nu1])), (s2, .inr (5, [.int 0, .int 0, .int 0, .ref nu2])), (s3, .inr (5, [.int 0, .int 0, .int 0, .ref nu3]))] H := hP
        have hD : va_D A [(ob, .inr (9, [.ref tp, .int 0, .ref rd, .ref sa, .ref im, .ref sl, .ref ro, .ref wy, .ref od, .ref ok])), (sl, .inl (y 4, 4, .inr (.inr (.inr (.inr (va_up (va_up (va_up (va_up (fun _ => none) 0 (some s0)) 1 (some s1)) 2 (some s2)) 3 (some s3))))))), (s0, .inr (5, [.int 0, .int 0, .int 0, .ref nu0])), (s1, .inr (5, [.int 0, .int 0, .int 0, .ref nu1])), (s2, .inr (5, [.int 0, .int 0, .int 0, .ref nu2])), (s3, .inr (5, [.int 0, .int 0, .int 0, .ref nu3]))] := hD
        refine lv_if_eq (tgt := 14) hx hb dX9_paste_4 (by decide) (fun c9 => absurd c9 (by decide)) (fun _ => ?_)
        refine lv_iload_n hx hb dX9_paste_7 rfl (lv_at hl 3 rfl) ?_
        refine cSi (As := [.int a3]) (rest := []) ⟨hx, hb, hml, hown, hw0⟩ hA hK hP hD hS [] [0, 1, 2, 3, 4, 5] [] [(ob, .inr (9, [.ref tp, .int 0, .ref rd, .ref sa, .ref im, .ref sl, .ref ro, .ref wy, .ref od, .ref ok])), (sl, .inl (y 4, 4, .inr (.inr (.inr (.inr (va_up (va_up (va_up (va_up (fun _ => none) 0 (some s0)) 1 (some s1)) 2 (some s2)) 3 (some s3))))))), (s0, .inr (5, [.int 0, .int 0, .int 0, .ref nu0])), (s1, .inr (5, [.int 0, .int 0, .int 0, .ref nu1])), (s2, .inr (5, [.int 0, .int 0, .int 0, .ref nu2])), (s3, .inr (5, [.int 0, .int 0, .int 0, .ref nu3]))] rfl rfl (by decide) (by decide) (by decide) (kX9_isSlot l G y _ a3 ) ⟨(callB_of 1 hw0 (gA m_162) rfl rfl rfl (hw0 _ m_183) (hw0 _ m_200) (by decide +kernel) ⟨Nat.le_of_ble_eq_true rfl, Nat.le_of_ble_eq_true rfl⟩), (hw0 _ m_201)⟩ rfl hl.1 (Nat.le_of_ble_eq_true rfl) dX9_paste_8 ⟨Nat.le_of_ble_eq_true rfl, Nat.le_of_ble_eq_true rfl⟩ (fun r_88 w_88 H locs hw_88 hP hD hS => ?_)
        rcases hw_88 with ⟨c_89, rfl, rfl⟩ | ⟨c_90, rfl, rfl⟩
        · skip
          exfalso; omega
        · skip
          have hP : va_P G vwCl [(ob, .inr (9, [.ref tp, .int 0, .ref rd, .ref sa, .ref im, .ref sl, .ref ro, .ref wy, .ref od, .ref ok])), (sl, .inl (y 4, 4, .inr (.inr (.inr (.inr (va_up (va_up (va_up (va_up (fun _ => none) 0 (some s0)) 1 (some s1)) 2 (some s2)) 3 (some s3))))))), (s0, .inr (5, [.int 0, .int 0, .int 0, .ref nu0])), (s1, .inr (5, [.int 0, .int 0, .int 0, .ref nu1])), (s2, .inr (5, [.int 0, .int 0, .int 0, .ref nu2])), (s3, .inr (5, [.int 0, .int 0, .int 0, .ref nu3]))] H := hP
          have hD : va_D A [(ob, .inr (9, [.ref tp, .int 0, .ref rd, .ref sa, .ref im, .ref sl, .ref ro, .ref wy, .ref od, .ref ok])), (sl, .inl (y 4, 4, .inr (.inr (.inr (.inr (va_up (va_up (va_up (va_up (fun _ => none) 0 (some s0)) 1 (some s1)) 2 (some s2)) 3 (some s3))))))), (s0, .inr (5, [.int 0, .int 0, .int 0, .ref nu0])), (s1, .inr (5, [.int 0, .int 0, .int 0, .ref nu1])), (s2, .inr (5, [.int 0, .int 0, .int 0, .ref nu2])), (s3, .inr (5, [.int 0, .int 0, .int 0, .ref nu3]))] := hD
          refine lv_if_ne (tgt := 17) hx hb dX9_paste_11 (by decide) (fun c9 => absurd (by decide) c9) (fun _ => ?_)
          refine lv_bipush (v := (-2)) hx hb dX9_paste_14 (by decide) ?_
          refine W.widen (k := 0) (n := 0) (Nat.le_of_ble_eq_true rfl) (Nat.le_of_ble_eq_true rfl) ?_
          exact W.iret (v := (-2)) hx hb hr (fun t ht hW => ⟨⟨(-2), _, rfl, (by first | rfl | decide | (simp only [sp_paste]; (repeat' split) <;> first | rfl | (exfalso; omega))), by rw [ht]; exact hP, hD⟩, hS.F ht⟩) hS.2.2 dX9_paste_16
      · skip
        exact absurd c_87 (by decide)
  · have hl : lv_has ls 8 [(0, .ref ob), (1, .int 3), (2, .int a2), (3, .int a3), (4, .int a4), (5, .int a5)] := hl
    rcases sl_cases a3 with rfl | rfl | rfl | rfl | t_a3
    · have hl : lv_has ls 8 [(0, .ref ob), (1, .int 3), (2, .int a2), (3, .int 0), (4, .int a4), (5, .int a5)] := hl
      refine lv_iload_n hx hb dX9_paste_0 rfl (lv_at hl 1 rfl) ?_
      refine cSi (As := [.int 3]) (rest := []) ⟨hx, hb, hml, hown, hw0⟩ hA hK hP hD hS [] [0, 1, 2, 3, 4, 5] [] [(ob, .inr (9, [.ref tp, .int 0, .ref rd, .ref sa, .ref im, .ref sl, .ref ro, .ref wy, .ref od, .ref ok])), (sl, .inl (y 4, 4, .inr (.inr (.inr (.inr (va_up (va_up (va_up (va_up (fun _ => none) 0 (some s0)) 1 (some s1)) 2 (some s2)) 3 (some s3))))))), (s0, .inr (5, [.int 0, .int 0, .int 0, .ref nu0])), (s1, .inr (5, [.int 0, .int 0, .int 0, .ref nu1])), (s2, .inr (5, [.int 0, .int 0, .int 0, .ref nu2])), (s3, .inr (5, [.int 0, .int 0, .int 0, .ref nu3]))] rfl rfl (by decide) (by decide) (by decide) (kX9_isSlot l G y _ 3 ) ⟨(callB_of 1 hw0 (gA m_162) rfl rfl rfl (hw0 _ m_183) (hw0 _ m_200) (by decide +kernel) ⟨Nat.le_of_ble_eq_true rfl, Nat.le_of_ble_eq_true rfl⟩), (hw0 _ m_201)⟩ rfl hl.1 (Nat.le_of_ble_eq_true rfl) dX9_paste_1 ⟨Nat.le_of_ble_eq_true rfl, Nat.le_of_ble_eq_true rfl⟩ (fun r_91 w_91 H locs hw_91 hP hD hS => ?_)
      rcases hw_91 with ⟨c_92, rfl, rfl⟩ | ⟨c_93, rfl, rfl⟩
      · skip
        have hP : va_P G vwCl [(ob, .inr (9, [.ref tp, .int 0, .ref rd, .ref sa, .ref im, .ref sl, .ref ro, .ref wy, .ref od, .ref ok])), (sl, .inl (y 4, 4, .inr (.inr (.inr (.inr (va_up (va_up (va_up (va_up (fun _ => none) 0 (some s0)) 1 (some s1)) 2 (some s2)) 3 (some s3))))))), (s0, .inr (5, [.int 0, .int 0, .int 0, .ref nu0])), (s1, .inr (5, [.int 0, .int 0, .int 0, .ref nu1])), (s2, .inr (5, [.int 0, .int 0, .int 0, .ref nu2])), (s3, .inr (5, [.int 0, .int 0, .int 0, .ref nu3]))] H := hP
        have hD : va_D A [(ob, .inr (9, [.ref tp, .int 0, .ref rd, .ref sa, .ref im, .ref sl, .ref ro, .ref wy, .ref od, .ref ok])), (sl, .inl (y 4, 4, .inr (.inr (.inr (.inr (va_up (va_up (va_up (va_up (fun _ => none) 0 (some s0)) 1 (some s1)) 2 (some s2)) 3 (some s3))))))), (s0, .inr (5, [.int 0, .int 0, .int 0, .ref nu0])), (s1, .inr (5, [.int 0, .int 0, .int 0, .ref nu1])), (s2, .inr (5, [.int 0, .int 0, .int 0, .ref nu2])), (s3, .inr (5, [.int 0, .int 0, .int 0, .ref nu3]))] := hD
        refine lv_if_eq (tgt := 14) hx hb dX9_paste_4 (by decide) (fun c9 => absurd c9 (by decide)) (fun _ => ?_)
        refine lv_iload_n hx hb dX9_paste_7 rfl (lv_at hl 3 rfl) ?_
        refine cSi (As := [.int 0]) (rest := []) ⟨hx, hb, hml, hown, hw0⟩ hA hK hP hD hS [] [0, 1, 2, 3, 4, 5] [] [(ob, .inr (9, [.ref tp, .int 0, .ref rd, .ref sa, .ref im, .ref sl, .ref ro, .ref wy, .ref od, .ref ok])), (sl, .inl (y 4, 4, .inr (.inr (.inr (.inr (va_up (va_up (va_up (va_up (fun _ => none) 0 (some s0)) 1 (some s1)) 2 (some s2)) 3 (some s3))))))), (s0, .inr (5, [.int 0, .int 0, .int 0, .ref nu0])), (s1, .inr (5, [.int 0, .int 0, .int 0, .ref nu1])), (s2, .inr (5, [.int 0, .int 0, .int 0, .ref nu2])), (s3, .inr (5, [.int 0, .int 0, .int 0, .ref nu3]))] rfl rfl (by decide) (by decide) (by decide) (kX9_isSlot l G y _ 0 ) ⟨(callB_of 1 hw0 (gA m_162) rfl rfl rfl (hw0 _ m_183) (hw0 _ m_200) (by decide +kernel) ⟨Nat.le_of_ble_eq_true rfl, Nat.le_of_ble_eq_true rfl⟩), (hw0 _ m_201)⟩ rfl hl.1 (Nat.le_of_ble_eq_true rfl) dX9_paste_8 ⟨Nat.le_of_ble_eq_true rfl, Nat.le_of_ble_eq_true rfl⟩ (fun r_94 w_94 H locs hw_94 hP hD hS => ?_)
        rcases hw_94 with ⟨c_95, rfl, rfl⟩ | ⟨c_96, rfl, rfl⟩
        · skip
          have hP : va_P G vwCl [(ob, .inr (9, [.ref tp, .int 0, .ref rd, .ref sa, .ref im, .ref sl, .ref ro, .ref wy, .ref od, .ref ok])), (sl, .inl (y 4, 4, .inr (.inr (.inr (.inr (va_up (va_up (va_up (va_up (fun _ => none) 0 (some s0)) 1 (some s1)) 2 (some s2)) 3 (some s3))))))), (s0, .inr (5, [.int 0, .int 0, .int 0, .ref nu0])), (s1, .inr (5, [.int 0, .int 0, .int 0, .ref nu1])), (s2, .inr (5, [.int 0, .int 0, .int 0, .ref nu2])), (s3, .inr (5, [.int 0, .int 0, .int 0, .ref nu3]))] H := hP
          have hD : va_D A [(ob, .inr (9, [.ref tp, .int 0, .ref rd, .ref sa, .ref im, .ref sl, .ref ro, .ref wy, .ref od, .ref ok])), (sl, .inl (y 4, 4, .inr (.inr (.inr (.inr (va_up (va_up (va_up (va_up (fun _ => none) 0 (some s0)) 1 (some s1)) 2 (some s2)) 3 (some s3))))))), (s0, .inr (5, [.int 0, .int 0, .int 0, .ref nu0])), (s1, .inr (5, [.int 0, .int 0, .int 0, .ref nu1])), (s2, .inr (5, [.int 0, .int 0, .int 0, .ref nu2])), (s3, .inr (5, [.int 0, .int 0, .int 0, .ref nu3]))] := hD
          refine lv_if_ne (tgt := 17) hx hb dX9_paste_11 (by decide) (fun _ => ?_) (fun c9 => absurd c9 (by decide))
          refine lv_aload_n hx hb dX9_paste_17 rfl (lv_at hl 0 rfl) ?_
          refine va_get (D := G) (ci := 9) (v := .ref sl) (C := RX9) (T := TX9) (N := 10) hx hb hw0 inA_wsX90 hown hK.1 hP 0 rfl rfl 5 (by decide) (hw0 _ m_113) (fun _ h9 => h9) rfl dX9_paste_18 ?_
          refine lv_iload_n hx hb dX9_paste_21 rfl (lv_at hl 1 rfl) ?_
          refine va_aldq hx hb hK.1 hP 1 4 rfl rfl (vp_in_nI (n := 3) (N := 4) (by decide) (by decide)) dX9_paste_22 ?_
          refine W.eq (g2 := F0 m 23 ls [.ref s3]) rfl ?_
          refine lv_astore (lv' := [(6, .ref s3), (0, .ref ob), (1, .int 3), (2, .int a2), (3, .int 0), (4, .int a4), (5, .int a5)]) hx hb dX9_paste_23 hl (by decide) rfl (fun ls hl => ?_)
          refine lv_aload_n hx hb dX9_paste_25 rfl (lv_at hl 1 rfl) ?_
          refine va_get (D := G) (ci := 9) (v := .ref sl) (C := RX9) (T := TX9) (N := 10) hx hb hw0 inA_wsX90 hown hK.1 hP 0 rfl rfl 5 (by decide) (hw0 _ m_113) (fun _ h9 => h9) rfl dX9_paste_26 ?_
          refine lv_iload_n hx hb dX9_paste_29 rfl (lv_at hl 4 rfl) ?_
          refine va_aldq hx hb hK.1 hP 1 4 rfl rfl (vp_in_nI (n := 0) (N := 4) (by decide) (by decide)) dX9_paste_30 ?_
          refine W.eq (g2 := F0 m 31 ls [.ref s0]) rfl ?_
          refine lv_astore (lv' := [(7, .ref s0), (6, .ref s3), (0, .ref ob), (1, .int 3), (2, .int a2), (3, .int 0), (4, .int a4), (5, .int a5)]) hx hb dX9_paste_31 hl (by decide) rfl (fun ls hl => ?_)
          refine lv_aload hx hb dX9_paste_33 (lv_at hl 1 rfl) ?_
          refine va_get (D := G) (ci := 5) (v := .int 0) (C := RX5) (T := TX5) (N := 4) hx hb hw0 inA_wsX50 hown hK.1 hP 5 rfl rfl 0 (by decide) (hw0 _ m_233) (fun _ h9 => h9) rfl dX9_paste_35 ?_
          refine lv_if_eq (tgt := 49) hx hb dX9_paste_38 (by decide) (fun _ => ?_) (fun c9 => absurd (by decide) c9)
          refine lv_bipush (v := (-6)) hx hb dX9_paste_49 (by decide) ?_
          refine W.widen (k := 0) (n := 0) (Nat.le_of_ble_eq_true rfl) (Nat.le_of_ble_eq_true rfl) ?_
          exact W.iret (v := (-6)) hx hb hr (fun t ht hW => ⟨⟨(-6), _, rfl, (by first | rfl | decide | (simp only [sp_paste]; (repeat' split) <;> first | rfl | (exfalso; omega))), by rw [ht]; exact hP, hD⟩, hS.F ht⟩) hS.2.2 dX9_paste_51
        · skip
          exact absurd c_96 (by decide)
      · skip
        exact absurd c_93 (by decide)
    · have hl : lv_has ls 8 [(0, .ref ob), (1, .int 3), (2, .int a2), (3, .int 1), (4, .int a4), (5, .int a5)] := hl
      refine lv_iload_n hx hb dX9_paste_0 rfl (lv_at hl 1 rfl) ?_
      refine cSi (As := [.int 3]) (rest := []) ⟨hx, hb, hml, hown, hw0⟩ hA hK hP hD hS [] [0, 1, 2, 3, 4, 5] [] [(ob, .inr (9, [.ref tp, .int 0, .ref rd, .ref sa, .ref im, .ref sl, .ref ro, .ref wy, .ref od, .ref ok])), (sl, .inl (y 4, 4, .inr (.inr (.inr (.inr (va_up (va_up (va_up (va_up (fun _ => none) 0 (some s0)) 1 (some s1)) 2 (some s2)) 3 (some s3))))))), (s0, .inr (5, [.int 0, .int 0, .int 0, .ref nu0])), (s1, .inr (5, [.int 0, .int 0, .int 0, .ref nu1])), (s2, .inr (5, [.int 0, .int 0, .int 0, .ref nu2])), (s3, .inr (5, [.int 0, .int 0, .int 0, .ref nu3]))] rfl rfl (by decide) (by decide) (by decide) (kX9_isSlot l G y _ 3 ) ⟨(callB_of 1 hw0 (gA m_162) rfl rfl rfl (hw0 _ m_183) (hw0 _ m_200) (by decide +kernel) ⟨Nat.le_of_ble_eq_true rfl, Nat.le_of_ble_eq_true rfl⟩), (hw0 _ m_201)⟩ rfl hl.1 (Nat.le_of_ble_eq_true rfl) dX9_paste_1 ⟨Nat.le_of_ble_eq_true rfl, Nat.le_of_ble_eq_true rfl⟩ (fun r_97 w_97 H locs hw_97 hP hD hS => ?_)
      rcases hw_97 with ⟨c_98, rfl, rfl⟩ | ⟨c_99, rfl, rfl⟩
      · skip
        have hP : va_P G vwCl [(ob, .inr (9, [.ref tp, .int 0, .ref rd, .ref sa, .ref im, .ref sl, .ref ro, .ref wy, .ref od, .ref ok])), (sl, .inl (y 4, 4, .inr (.inr (.inr (.inr (va_up (va_up (va_up (va_up (fun _ => none) 0 (some s0)) 1 (some s1)) 2 (some s2)) 3 (some s3))))))), (s0, .inr (5, [.int 0, .int 0, .int 0, .ref nu0])), (s1, .inr (5, [.int 0, .int 0, .int 0, .ref nu1])), (s2, .inr (5, [.int 0, .int 0, .int 0, .ref nu2])), (s3, .inr (5, [.int 0, .int 0, .int 0, .ref nu3]))] H := hP
        have hD : va_D A [(ob, .inr (9, [.ref tp, .int 0, .ref rd, .ref sa, .ref im, .ref sl, .ref ro, .ref wy, .ref od, .ref ok])), (sl, .inl (y 4, 4, .inr (.inr (.inr (.inr (va_up (va_up (va_up (va_up (fun _ => none) 0 (some s0)) 1 (some s1)) 2 (some s2)) 3 (some s3))))))), (s0, .inr (5, [.int 0, .int 0, .int 0, .ref nu0])), (s1, .inr (5, [.int 0, .int 0, .int 0, .ref nu1])), (s2, .inr (5, [.int 0, .int 0, .int 0, .ref nu2])), (s3, .inr (5, [.int 0, .int 0, .int 0, .ref nu3]))] := hD
        refine lv_if_eq (tgt := 14) hx hb dX9_paste_4 (by decide) (fun c9 => absurd c9 (by decide)) (fun _ => ?_)
        refine lv_iload_n hx hb dX9_paste_7 rfl (lv_at hl 3 rfl) ?_
        refine cSi (As := [.int 1]) (rest := []) ⟨hx, hb, hml, hown, hw0⟩ hA hK hP hD hS [] [0, 1, 2, 3, 4, 5] [] [(ob, .inr (9, [.ref tp, .int 0, .ref rd, .ref sa, .ref im, .ref sl, .ref ro, .ref wy, .ref od, .ref ok])), (sl, .inl (y 4, 4, .inr (.inr (.inr (.inr (va_up (va_up (va_up (va_up (fun _ => none) 0 (some s0)) 1 (some s1)) 2 (some s2)) 3 (some s3))))))), (s0, .inr (5, [.int 0, .int 0, .int 0, .ref nu0])), (s1, .inr (5, [.int 0, .int 0, .int 0, .ref nu1])), (s2, .inr (5, [.int 0, .int 0, .int 0, .ref nu2])), (s3, .inr (5, [.int 0, .int 0, .int 0, .ref nu3]))] rfl rfl (by decide) (by decide) (by decide) (kX9_isSlot l G y _ 1 ) ⟨(callB_of 1 hw0 (gA m_162) rfl rfl rfl (hw0 _ m_183) (hw0 _ m_200) (by decide +kernel) ⟨Nat.le_of_ble_eq_true rfl, Nat.le_of_ble_eq_true rfl⟩), (hw0 _ m_201)⟩ rfl hl.1 (Nat.le_of_ble_eq_true rfl) dX9_paste_8 ⟨Nat.le_of_ble_eq_true rfl, Nat.le_of_ble_eq_true rfl⟩ (fun r_100 w_100 H locs hw_100 hP hD hS => ?_)
        rcases hw_100 with ⟨c_101, rfl, rfl⟩ | ⟨c_102, rfl, rfl⟩
        · skip
          have hP : va_P G vwCl [(ob, .inr (9, [.ref tp, .int 0, .ref rd, .ref sa, .ref im, .ref sl, .ref ro, .ref wy, .ref od, .ref ok])), (sl, .inl (y 4, 4, .inr (.inr (.inr (.inr (va_up (va_up (va_up (va_up (fun _ => none) 0 (some s0)) 1 (some s1)) 2 (some s2)) 3 (some s3))))))), (s0, .inr (5, [.int 0, .int 0, .int 0, .ref nu0])), (s1, .inr (5, [.int 0, .int 0, .int 0, .ref nu1])), (s2, .inr (5, [.int 0, .int 0, .int 0, .ref nu2])), (s3, .inr (5, [.int 0, .int 0, .int 0, .ref nu3]))] H := hP
          have hD : va_D A [(ob, .inr (9, [.ref tp, .int 0, .ref rd, .ref sa, .ref im, .ref sl, .ref ro, .ref wy, .ref od, .ref ok])), (sl, .inl (y 4, 4, .inr (.inr (.inr (.inr (va_up (va_up (va_up (va_up (fun _ => none) 0 (some s0)) 1 (some s1)) 2 (some s2)) 3 (some s3))))))), (s0, .inr (5, [.int 0, .int 0, .int 0, .ref nu0])), (s1, .inr (5, [.int 0, .int 0, .int 0, .ref nu1])), (s2, .inr (5, [.int 0, .int 0, .int 0, .ref nu2])), (s3, .inr (5, [.int 0, .int 0, .int 0, .ref nu3]))] := hD
          refine lv_if_ne (tgt := 17) hx hb dX9_paste_11 (by decide) (fun _ => ?_) (fun c9 => absurd c9 (by decide))
          refine lv_aload_n hx hb dX9_paste_17 rfl (lv_at hl 0 rfl) ?_
          refine va_get (D := G) (ci := 9) (v := .ref sl) (C := RX9) (T := TX9) (N := 10) hx hb hw0 inA_wsX90 hown hK.1 hP 0 rfl rfl 5 (by decide) (hw0 _ m_113) (fun _ h9 => h9) rfl dX9_paste_18 ?_
          refine lv_iload_n hx hb dX9_paste_21 rfl (lv_at hl 1 rfl) ?_
          refine va_aldq hx hb hK.1 hP 1 4 rfl rfl (vp_in_nI (n := 3) (N := 4) (by decide) (by decide)) dX9_paste_22 ?_
          refine W.eq (g2 := F0 m 23 ls [.ref s3]) rfl ?_
          refine lv_astore (lv' := [(6, .ref s3), (0, .ref ob), (1, .int 3), (2, .int a2), (3, .int 1), (4, .int a4), (5, .int a5)]) hx hb dX9_paste_23 hl (by decide) rfl (fun ls hl => ?_)
          refine lv_aload_n hx hb dX9_paste_25 rfl (lv_at hl 1 rfl) ?_
          refine va_get (D := G) (ci := 9) (v := .ref sl) (C := RX9) (T := TX9) (N := 10) hx hb hw0 inA_wsX90 hown hK.1 hP 0 rfl rfl 5 (by decide) (hw0 _ m_113) (fun _ h9 => h9) rfl dX9_paste_26 ?_
          refine lv_iload_n hx hb dX9_paste_29 rfl (lv_at hl 4 rfl) ?_
          refine va_aldq hx hb hK.1 hP 1 4 rfl rfl (vp_in_nI (n := 1) (N := 4) (by decide) (by decide)) dX9_paste_30 ?_
          refine W.eq (g2 := F0 m 31 ls [.ref s1]) rfl ?_
          refine lv_astore (lv' := [(7, .ref s1), (6, .ref s3), (0, .ref ob), (1, .int 3), (2, .int a2), (3, .int 1), (4, .int a4), (5, .int a5)]) hx hb dX9_paste_31 hl (by decide) rfl (fun ls hl => ?_)
          refine lv_aload hx hb dX9_paste_33 (lv_at hl 1 rfl) ?_
          refine va_get (D := G) (ci := 5) (v := .int 0) (C := RX5) (T := TX5) (N := 4) hx hb hw0 inA_wsX50 hown hK.1 hP 5 rfl rfl 0 (by decide) (hw0 _ m_233) (fun _ h9 => h9) rfl dX9_paste_35 ?_
          refine lv_if_eq (tgt := 49) hx hb dX9_paste_38 (by decide) (fun _ => ?_) (fun c9 => absurd (by decide) c9)
          refine lv_bipush (v := (-6)) hx hb dX9_paste_49 (by decide) ?_
          refine W.widen (k := 0) (n := 0) (Nat.le_of_ble_eq_true rfl) (Nat.le_of_ble_eq_true rfl) ?_
          exact W.iret (v := (-6)) hx hb hr (fun t ht hW => ⟨⟨(-6), _, rfl, (by first | rfl | decide | (simp only [sp_paste]; (repeat' split) <;> first | rfl | (exfalso; omega))), by rw [ht]; exact hP, hD⟩, hS.F ht⟩) hS.2.2 dX9_paste_51
        · skip
          exact absurd c_102 (by decide)
      · skip
        exact absurd c_99 (by decide)
    · have hl : lv_has ls 8 [(0, .ref ob), (1, .int 3), (2, .int a2), (3, .int 2), (4, .int a4), (5, .int a5)] := hl
      refine lv_iload_n hx hb dX9_paste_0 rfl (lv_at hl 1 rfl) ?_
      refine cSi (As := [.int 3]) (rest := []) ⟨hx, hb, hml, hown, hw0⟩ hA hK hP hD hS [] [0, 1, 2, 3, 4, 5] [] [(ob, .inr (9, [.ref tp, .int 0, .ref rd, .ref sa, .ref im, .ref sl, .ref ro, .ref wy, .ref od, .ref ok])), (sl, .inl (y 4, 4, .inr (.inr (.inr (.inr (va_up (va_up (va_up (va_up (fun _ => none) 0 (some s0)) 1 (some s1)) 2 (some s2)) 3 (some s3))))))), (s0, .inr (5, [.int 0, .int 0, .int 0, .ref nu0])), (s1, .inr (5, [.int 0, .int 0, .int 0, .ref nu1])), (s2, .inr (5, [.int 0, .int 0, .int 0, .ref nu2])), (s3, .inr (5, [.int 0, .int 0, .int 0, .ref nu3]))] rfl rfl (by decide) (by decide) (by decide) (kX9_isSlot l G y _ 3 ) ⟨(callB_of 1 hw0 (gA m_162) rfl rfl rfl (hw0 _ m_183) (hw0 _ m_200) (by decide +kernel) ⟨Nat.le_of_ble_eq_true rfl, Nat.le_of_ble_eq_true rfl⟩), (hw0 _ m_201)⟩ rfl hl.1 (Nat.le_of_ble_eq_true rfl) dX9_paste_1 ⟨Nat.le_of_ble_eq_true rfl, Nat.le_of_ble_eq_true rfl⟩ (fun r_103 w_103 H locs hw_103 hP hD hS => ?_)
      rcases hw_103 with ⟨c_104, rfl, rfl⟩ | ⟨c_105, rfl, rfl⟩
      · skip
        have hP : va_P G vwCl [(ob, .inr (9, [.ref tp, .int 0, .ref rd, .ref sa, .ref im, .ref sl, .ref ro, .ref wy, .ref od, .ref ok])), (sl, .inl (y 4, 4, .inr (.inr (.inr (.inr (va_up (va_up (va_up (va_up (fun _ => none) 0 (some s0)) 1 (some s1)) 2 (some s2)) 3 (some s3))))))), (s0, .inr (5, [.int 0, .int 0, .int 0, .ref nu0])), (s1, .inr (5, [.int 0, .int 0, .int 0, .ref nu1])), (s2, .inr (5, [.int 0, .int 0, .int 0, .ref nu2])), (s3, .inr (5, [.int 0, .int 0, .int 0, .ref nu3]))] H := hP
        have hD : va_D A [(ob, .inr (9, [.ref tp, .int 0, .ref rd, .ref sa, .ref im, .ref sl, .ref ro, .ref wy, .ref od, .ref ok])), (sl, .inl (y 4, 4, .inr (.inr (.inr (.inr (va_up (va_up (va_up (va_up (fun _ => none) 0 (some s0)) 1 (some s1)) 2 (some s2)) 3 (some s3))))))), (s0, .inr (5, [.int 0, .int 0, .int 0, .ref nu0])), (s1, .inr (5, [.int 0, .int 0, .int 0, .ref nu1])), (s2, .inr (5, [.int 0, .int 0, .int 0, .ref nu2])), (s3, .inr (5, [.int 0, .int 0, .int 0, .ref nu3]))] := hD
        refine lv_if_eq (tgt := 14) hx hb dX9_paste_4 (by decide) (fun c9 => absurd c9 (by decide)) (fun _ => ?_)
        refine lv_iload_n hx hb dX9_paste_7 rfl (lv_at hl 3 rfl) ?_
        refine cSi (As := [.int 2]) (rest := []) ⟨hx, hb, hml, hown, hw0⟩ hA hK hP hD hS [] [0, 1, 2, 3, 4, 5] [] [(ob, .inr (9, [.ref tp, .int 0, .ref rd, .ref sa, .ref im, .ref sl, .ref ro, .ref wy, .ref od, .ref ok])), (sl, .inl (y 4, 4, .inr (.inr (.inr (.inr (va_up (va_up (va_up (va_up (fun _ => none) 0 (some s0)) 1 (some s1)) 2 (some s2)) 3 (some s3))))))), (s0, .inr (5, [.int 0, .int 0, .int 0, .ref nu0])), (s1, .inr (5, [.int 0, .int 0, .int 0, .ref nu1])), (s2, .inr (5, [.int 0, .int 0, .int 0, .ref nu2])), (s3, .inr (5, [.int 0, .int 0, .int 0, .ref nu3]))] rfl rfl (by decide) (by decide) (by decide) (kX9_isSlot l G y _ 2 ) ⟨(callB_of 1 hw0 (gA m_162) rfl rfl rfl (hw0 _ m_183) (hw0 _ m_200) (by decide +kernel) ⟨Nat.le_of_ble_eq_true rfl, Nat.le_of_ble_eq_true rfl⟩), (hw0 _ m_201)⟩ rfl hl.1 (Nat.le_of_ble_eq_true rfl) dX9_paste_8 ⟨Nat.le_of_ble_eq_true rfl, Nat.le_of_ble_eq_true rfl⟩ (fun r_106 w_106 H locs hw_106 hP hD hS => ?_)
        rcases hw_106 with ⟨c_107, rfl, rfl⟩ | ⟨c_108, rfl, rfl⟩
        · skip
          have hP : va_P G vwCl [(ob, .inr (9, [.ref tp, .int 0, .ref rd, .ref sa, .ref im, .ref sl, .ref ro, .ref wy, .ref od, .ref ok])), (sl, .inl (y 4, 4, .inr (.inr (.inr (.inr (va_up (va_up (va_up (va_up (fun _ => none) 0 (some s0)) 1 (some s1)) 2 (some s2)) 3 (some s3))))))), (s0, .inr (5, [.int 0, .int 0, .int 0, .ref nu0])), (s1, .inr (5, [.int 0, .int 0, .int 0, .ref nu1])), (s2, .inr (5, [.int 0, .int 0, .int 0, .ref nu2])), (s3, .inr (5, [.int 0, .int 0, .int 0, .ref nu3]))] H := hP
          have hD : va_D A [(ob, .inr (9, [.ref tp, .int 0, .ref rd, .ref sa, .ref im, .ref sl, .ref ro, .ref wy, .ref od, .ref ok])), (sl, .inl (y 4, 4, .inr (.inr (.inr (.inr (va_up (va_up (va_up (va_up (fun _ => none) 0 (some s0)) 1 (some s1)) 2 (some s2)) 3 (some s3))))))), (s0, .inr (5, [.int 0, .int 0, .int 0, .ref nu0])), (s1, .inr (5, [.int 0, .int 0, .int 0, .ref nu1])), (s2, .inr (5, [.int 0, .int 0, .int 0, .ref nu2])), (s3, .inr (5, [.int 0, .int 0, .int 0, .ref nu3]))] := hD
          refine lv_if_ne (tgt := 17) hx hb dX9_paste_11 (by decide) (fun _ => ?_) (fun c9 => absurd c9 (by decide))
          refine lv_aload_n hx hb dX9_paste_17 rfl (lv_at hl 0 rfl) ?_
          refine va_get (D := G) (ci := 9) (v := .ref sl) (C := RX9) (T := TX9) (N := 10) hx hb hw0 inA_wsX90 hown hK.1 hP 0 rfl rfl 5 (by decide) (hw0 _ m_113) (fun _ h9 => h9) rfl dX9_paste_18 ?_
          refine lv_iload_n hx hb dX9_paste_21 rfl (lv_at hl 1 rfl) ?_
          refine va_aldq hx hb hK.1 hP 1 4 rfl rfl (vp_in_nI (n := 3) (N := 4) (by decide) (by decide)) dX9_paste_22 ?_
          refine W.eq (g2 := F0 m 23 ls [.ref s3]) rfl ?_
          refine lv_astore (lv' := [(6, .ref s3), (0, .ref ob), (1, .int 3), (2, .int a2), (3, .int 2), (4, .int a4), (5, .int a5)]) hx hb dX9_paste_23 hl (by decide) rfl (fun ls hl => ?_)
          refine lv_aload_n hx hb dX9_paste_25 rfl (lv_at hl 1 rfl) ?_
          refine va_get (D := G) (ci := 9) (v := .ref sl) (C := RX9) (T := TX9) (N := 10) hx hb hw0 inA_wsX90 hown hK.1 hP 0 rfl rfl 5 (by decide) (hw0 _ m_113) (fun _ h9 => h9) rfl dX9_paste_26 ?_
          refine lv_iload_n hx hb dX9_paste_29 rfl (lv_at hl 4 rfl) ?_
          refine va_aldq hx hb hK.1 hP 1 4 rfl rfl (vp_in_nI (n := 2) (N := 4) (by decide) (by decide)) dX9_paste_30 ?_
          refine W.eq (g2 := F0 m 31 ls [.ref s2]) rfl ?_
          refine lv_astore (lv' := [(7, .ref s2), (6, .ref s3), (0, .ref ob), (1, .int 3), (2, .int a2), (3, .int 2), (4, .int a4), (5, .int a5)]) hx hb dX9_paste_31 hl (by decide) rfl (fun ls hl => ?_)
          refine lv_aload hx hb dX9_paste_33 (lv_at hl 1 rfl) ?_
          refine va_get (D := G) (ci := 5) (v := .int 0) (C := RX5) (T := TX5) (N := 4) hx hb hw0 inA_wsX50 hown hK.1 hP 5 rfl rfl 0 (by decide) (hw0 _ m_233) (fun _ h9 => h9) rfl dX9_paste_35 ?_
          refine lv_if_eq (tgt := 49) hx hb dX9_paste_38 (by decide) (fun _ => ?_) (fun c9 => absurd (by decide) c9)
          refine lv_bipush (v := (-6)) hx hb dX9_paste_49 (by decide) ?_
          refine W.widen (k := 0) (n := 0) (Nat.le_of_ble_eq_true rfl) (Nat.le_of_ble_eq_true rfl) ?_
          exact W.iret (v := (-6)) hx hb hr (fun t ht hW => ⟨⟨(-6), _, rfl, (by first | rfl | decide | (simp only [sp_paste]; (repeat' split) <;> first | rfl | (exfalso; omega))), by rw [ht]; exact hP, hD⟩, hS.F ht⟩) hS.2.2 dX9_paste_51
        · skip
          exact absurd c_108 (by decide)
      · skip
        exact absurd c_105 (by decide)
    · have hl : lv_has ls 8 [(0, .ref ob), (1, .int 3), (2, .int a2), (3, .int 3), (4, .int a4), (5, .int a5)] := hl
      refine lv_iload_n hx hb dX9_paste_0 rfl (lv_at hl 1 rfl) ?_
      refine cSi (As := [.int 3]) (rest := []) ⟨hx, hb, hml, hown, hw0⟩ hA hK hP hD hS [] [0, 1, 2, 3, 4, 5] [] [(ob, .inr (9, [.ref tp, .int 0, .ref rd, .ref sa, .ref im, .ref sl, .ref ro, .ref wy, .ref od, .ref ok])), (sl, .inl (y 4, 4, .inr (.inr (.inr (.inr (va_up (va_up (va_up (va_up (fun _ => none) 0 (some s0)) 1 (some s1)) 2 (some s2)) 3 (some s3))))))), (s0, .inr (5, [.int 0, .int 0, .int 0, .ref nu0])), (s1, .inr (5, [.int 0, .int 0, .int 0, .ref nu1])), (s2, .inr (5, [.int 0, .int 0, .int 0, .ref nu2])), (s3, .inr (5, [.int 0, .int 0, .int 0, .ref nu3]))] rfl rfl (by decide) (by decide) (by decide) (kX9_isSlot l G y _ 3 ) ⟨(callB_of 1 hw0 (gA m_162) rfl rfl rfl (hw0 _ m_183) (hw0 _ m_200) (by decide +kernel) ⟨Nat.le_of_ble_eq_true rfl, Nat.le_of_ble_eq_true rfl⟩), (hw0 _ m_201)⟩ rfl hl.1 (Nat.le_of_ble_eq_true rfl) dX9_paste_1 ⟨Nat.le_of_ble_eq_true rfl, Nat.le_of_ble_eq_true rfl⟩ (fun r_109 w_109 H locs hw_109 hP hD hS => ?_)
      rcases hw_109 with ⟨c_110, rfl, rfl⟩ | ⟨c_111, rfl, rfl⟩
      · skip
        have hP : va_P G vwCl [(ob, .inr (9, [.ref tp, .int 0, .ref rd, .ref sa, .ref im, .ref sl, .ref ro, .ref wy, .ref od, .ref ok])), (sl, .inl (y 4, 4, .inr (.inr (.inr (.inr (va_up (va_up (va_up (va_up (fun _ => none) 0 (some s0)) 1 (some s1)) 2 (some s2)) 3 (some s3))))))), (s0, .inr (5, [.int 0, .int 0, .int 0, .ref nu0])), (s1, .inr (5, [.int 0, .int 0, .int 0, .ref nu1])), (s2, .inr (5, [.int 0, .int 0, .int 0, .ref nu2])), (s3, .inr (5, [.int 0, .int 0, .int 0, .ref nu3]))] H := hP
        have hD : va_D A [(ob, .inr (9, [.ref tp, .int 0, .ref rd, .ref sa, .ref im, .ref sl, .ref ro, .ref wy, .ref od, .ref ok])), (sl, .inl (y 4, 4, .inr (.inr (.inr (.inr (va_up (va_up (va_up (va_up (fun _ => none) 0 (some s0)) 1 (some s1)) 2 (some s2)) 3 (some s3))))))), (s0, .inr (5, [.int 0, .int 0, .int 0, .ref nu0])), (s1, .inr (5, [.int 0, .int 0, .int 0, .ref nu1])), (s2, .inr (5, [.int 0, .int 0, .int 0, .ref nu2])), (s3, .inr (5, [.int 0, .int 0, .int 0, .ref nu3]))] := hD
        refine lv_if_eq (tgt := 14) hx hb dX9_paste_4 (by decide) (fun c9 => absurd c9 (by decide)) (fun _ => ?_)
        refine lv_iload_n hx hb dX9_paste_7 rfl (lv_at hl 3 rfl) ?_
        refine cSi (As := [.int 3]) (rest := []) ⟨hx, hb, hml, hown, hw0⟩ hA hK hP hD hS [] [0, 1, 2, 3, 4, 5] [] [(ob, .inr (9, [.ref tp, .int 0, .ref rd, .ref sa, .ref im, .ref sl, .ref ro, .ref wy, .ref od, .ref ok])), (sl, .inl (y 4, 4, .inr (.inr (.inr (.inr (va_up (va_up (va_up (va_up (fun _ => none) 0 (some s0)) 1 (some s1)) 2 (some s2)) 3 (some s3))))))), (s0, .inr (5, [.int 0, .int 0, .int 0, .ref nu0])), (s1, .inr (5, [.int 0, .int 0, .int 0, .ref nu1])), (s2, .inr (5, [.int 0, .int 0, .int 0, .ref nu2])), (s3, .inr (5, [.int 0, .int 0, .int 0, .ref nu3]))] rfl rfl (by decide) (by decide) (by decide) (kX9_isSlot l G y _ 3 ) ⟨(callB_of 1 hw0 (gA m_162) rfl rfl rfl (hw0 _ m_183) (hw0 _ m_200) (by decide +kernel) ⟨Nat.le_of_ble_eq_true rfl, Nat.le_of_ble_eq_true rfl⟩), (hw0 _ m_201)⟩ rfl hl.1 (Nat.le_of_ble_eq_true rfl) dX9_paste_8 ⟨Nat.le_of_ble_eq_true rfl, Nat.le_of_ble_eq_true rfl⟩ (fun r_112 w_112 H locs hw_112 hP hD hS => ?_)
        rcases hw_112 with ⟨c_113, rfl, rfl⟩ | ⟨c_114, rfl, rfl⟩
        · skip
          have hP : va_P G vwCl [(ob, .inr (9, [.ref tp, .int 0, .ref rd, .ref sa, .ref im, .ref sl, .ref ro, .ref wy, .ref od, .ref ok])), (sl, .inl (y 4, 4, .inr (.inr (.inr (.inr (va_up (va_up (va_up (va_up (fun _ => none) 0 (some s0)) 1 (some s1)) 2 (some s2)) 3 (some s3))))))), (s0, .inr (5, [.int 0, .int 0, .int 0, .ref nu0])), (s1, .inr (5, [.int 0, .int 0, .int 0, .ref nu1])), (s2, .inr (5, [.int 0, .int 0, .int 0, .ref nu2])), (s3, .inr (5, [.int 0, .int 0, .int 0, .ref nu3]))] H := hP
          have hD : va_D A [(ob, .inr (9, [.ref tp, .int 0, .ref rd, .ref sa, .ref im, .ref sl, .ref ro, .ref wy, .ref od, .ref ok])), (sl, .inl (y 4, 4, .inr (.inr (.inr (.inr (va_up (va_up (va_up (va_up (fun _ => none) 0 (some s0)) 1 (some s1)) 2 (some s2)) 3 (some s3))))))), (s0, .inr (5, [.int 0, .int 0, .int 0, .ref nu0])), (s1, .inr (5, [.int 0, .int 0, .int 0, .ref nu1])), (s2, .inr (5, [.int 0, .int 0, .int 0, .ref nu2])), (s3, .inr (5, [.int 0, .int 0, .int 0, .ref nu3]))] := hD
          refine lv_if_ne (tgt := 17) hx hb dX9_paste_11 (by decide) (fun _ => ?_) (fun c9 => absurd c9 (by decide))
          refine lv_aload_n hx hb dX9_paste_17 rfl (lv_at hl 0 rfl) ?_
          refine va_get (D := G) (ci := 9) (v := .ref sl) (C := RX9) (T := TX9) (N := 10) hx hb hw0 inA_wsX90 hown hK.1 hP 0 rfl rfl 5 (by decide) (hw0 _ m_113) (fun _ h9 => h9) rfl dX9_paste_18 ?_
          refine lv_iload_n hx hb dX9_paste_21 rfl (lv_at hl 1 rfl) ?_
          refine va_aldq hx hb hK.1 hP 1 4 rfl rfl (vp_in_nI (n := 3) (N := 4) (by decide) (by decide)) dX9_paste_22 ?_
          refine W.eq (g2 := F0 m 23 ls [.ref s3]) rfl ?_
          refine lv_astore (lv' := [(6, .ref s3), (0, .ref ob), (1, .int 3), (2, .int a2), (3, .int 3), (4, .int a4), (5, .int a5)]) hx hb dX9_paste_23 hl (by decide) rfl (fun ls hl => ?_)
          refine lv_aload_n hx hb dX9_paste_25 rfl (lv_at hl 1 rfl) ?_
          refine va_get (D := G) (ci := 9) (v := .ref sl) (C := RX9) (T := TX9) (N := 10) hx hb hw0 inA_wsX90 hown hK.1 hP 0 rfl rfl 5 (by decide) (hw0 _ m_113) (fun _ h9 => h9) rfl dX9_paste_26 ?_
          refine lv_iload_n hx hb dX9_paste_29 rfl (lv_at hl 4 rfl) ?_
          refine va_aldq hx hb hK.1 hP 1 4 rfl rfl (vp_in_nI (n := 3) (N := 4) (by decide) (by decide)) dX9_paste_30 ?_
          refine W.eq (g2 := F0 m 31 ls [.ref s3]) rfl ?_
          refine lv_astore (lv' := [(7, .ref s3), (6, .ref s3), (0, .ref ob), (1, .int 3), (2, .int a2), (3, .int 3), (4, .int a4), (5, .int a5)]) hx hb dX9_paste_31 hl (by decide) rfl (fun ls hl => ?_)
          refine lv_aload hx hb dX9_paste_33 (lv_at hl 1 rfl) ?_
          refine va_get (D := G) (ci := 5) (v := .int 0) (C := RX5) (T := TX5) (N := 4) hx hb hw0 inA_wsX50 hown hK.1 hP 5 rfl rfl 0 (by decide) (hw0 _ m_233) (fun _ h9 => h9) rfl dX9_paste_35 ?_
          refine lv_if_eq (tgt := 49) hx hb dX9_paste_38 (by decide) (fun _ => ?_) (fun c9 => absurd (by decide) c9)
          refine lv_bipush (v := (-6)) hx hb dX9_paste_49 (by decide) ?_
          refine W.widen (k := 0) (n := 0) (Nat.le_of_ble_eq_true rfl) (Nat.le_of_ble_eq_true rfl) ?_
          exact W.iret (v := (-6)) hx hb hr (fun t ht hW => ⟨⟨(-6), _, rfl, (by first | rfl | decide | (simp only [sp_paste]; (repeat' split) <;> first | rfl | (exfalso; omega))), by rw [ht]; exact hP, hD⟩, hS.F ht⟩) hS.2.2 dX9_paste_51
        · skip
          exact absurd c_114 (by decide)
      · skip
        exact absurd c_111 (by decide)
    · have hl : lv_has ls 8 [(0, .ref ob), (1, .int 3), (2, .int a2), (3, .int a3), (4, .int a4), (5, .int a5)] := hl
      refine lv_iload_n hx hb dX9_paste_0 rfl (lv_at hl 1 rfl) ?_
      refine cSi (As := [.int 3]) (rest := []) ⟨hx, hb, hml, hown, hw0⟩ hA hK hP hD hS [] [0, 1, 2, 3, 4, 5] [] [(ob, .inr (9, [.ref tp, .int 0, .ref rd, .ref sa, .ref im, .ref sl, .ref ro, .ref wy, .ref od, .ref ok])), (sl, .inl (y 4, 4, .inr (.inr (.inr (.inr (va_up (va_up (va_up (va_up (fun _ => none) 0 (some s0)) 1 (some s1)) 2 (some s2)) 3 (some s3))))))), (s0, .inr (5, [.int 0, .int 0, .int 0, .ref nu0])), (s1, .inr (5, [.int 0, .int 0, .int 0, .ref nu1])), (s2, .inr (5, [.int 0, .int 0, .int 0, .ref nu2])), (s3, .inr (5, [.int 0, .int 0, .int 0, .ref nu3]))] rfl rfl (by decide) (by decide) (by decide) (kX9_isSlot l G y _ 3 ) ⟨(callB_of 1 hw0 (gA m_162) rfl rfl rfl (hw0 _ m_183) (hw0 _ m_200) (by decide +kernel) ⟨Nat.le_of_ble_eq_true rfl, Nat.le_of_ble_eq_true rfl⟩), (hw0 _ m_201)⟩ rfl hl.1 (Nat.le_of_ble_eq_true rfl) dX9_paste_1 ⟨Nat.le_of_ble_eq_true rfl, Nat.le_of_ble_eq_true rfl⟩ (fun r_115 w_115 H locs hw_115 hP hD hS => ?_)
      rcases hw_115 with ⟨c_116, rfl, rfl⟩ | ⟨c_117, rfl, rfl⟩
      · skip
        have hP : va_P G vwCl [(ob, .inr (9, [.ref tp, .int 0, .ref rd, .ref sa, .ref im, .ref sl, .ref ro, .ref wy, .ref od, .ref ok])), (sl, .inl (y 4, 4, .inr (.inr (.inr (.inr (va_up (va_up (va_up (va_up (fun _ => none) 0 (some s0)) 1 (some s1)) 2 (some s2)) 3 (some s3))))))), (s0, .inr (5, [.int 0, .int 0, .int 0, .ref nu0])), (s1, .inr (5, [.int 0, .int 0, .int 0, .ref nu1])), (s2, .inr (5, [.int 0, .int 0, .int 0, .ref nu2])), (s3, .inr (5, [.int 0, .int 0, .int 0, .ref nu3]))] H := hP
        have hD : va_D A [(ob, .inr (9, [.ref tp, .int 0, .ref rd, .ref sa, .ref im, .ref sl, .ref ro, .ref wy, .ref od, .ref ok])), (sl, .inl (y 4, 4, .inr (.inr (.inr (.inr (va_up (va_up (va_up (va_up (fun _ => none) 0 (some s0)) 1 (some s1)) 2 (some s2)) 3 (some s3))))))), (s0, .inr (5, [.int 0, .int 0, .int 0, .ref nu0])), (s1, .inr (5, [.int 0, .int 0, .int 0, .ref nu1])), (s2, .inr (5, [.int 0, .int 0, .int 0, .ref nu2])), (s3, .inr (5, [.int 0, .int 0, .int 0, .ref nu3]))] := hD
        refine lv_if_eq (tgt := 14) hx hb dX9_paste_4 (by decide) (fun c9 => absurd c9 (by decide)) (fun _ => ?_)
        refine lv_iload_n hx hb dX9_paste_7 rfl (lv_at hl 3 rfl) ?_
        refine cSi (As := [.int a3]) (rest := []) ⟨hx, hb, hml, hown, hw0⟩ hA hK hP hD hS [] [0, 1, 2, 3, 4, 5] [] [(ob, .inr (9, [.ref tp, .int 0, .ref rd, .ref sa, .ref im, .ref sl, .ref ro, .ref wy, .ref od, .ref ok])), (sl, .inl (y 4, 4, .inr (.inr (.inr (.inr (va_up (va_up (va_up (va_up (fun _ => none) 0 (some s0)) 1 (some s1)) 2 (some s2)) 3 (some s3))))))), (s0, .inr (5, [.int 0, .int 0, .int 0, .ref nu0])), (s1, .inr (5, [.int 0, .int 0, .int 0, .ref nu1])), (s2, .inr (5, [.int 0, .int 0, .int 0, .ref nu2])), (s3, .inr (5, [.int 0, .int 0, .int 0, .ref nu3]))] rfl rfl (by decide) (by decide) (by decide) (kX9_isSlot l G y _ a3 ) ⟨(callB_of 1 hw0 (gA m_162) rfl rfl rfl (hw0 _ m_183) (hw0 _ m_200) (by decide +kernel) ⟨Nat.le_of_ble_eq_true rfl, Nat.le_of_ble_eq_true rfl⟩), (hw0 _ m_201)⟩ rfl hl.1 (Nat.le_of_ble_eq_true rfl) dX9_paste_8 ⟨Nat.le_of_ble_eq_true rfl, Nat.le_of_ble_eq_true rfl⟩ (fun r_118 w_118 H locs hw_118 hP hD hS => ?_)
        rcases hw_118 with ⟨c_119, rfl, rfl⟩ | ⟨c_120, rfl, rfl⟩
        · skip
          exfalso; omega
        · skip
          have hP : va_P G vwCl [(ob, .inr (9, [.ref tp, .int 0, .ref rd, .ref sa, .ref im, .ref sl, .ref ro, .ref wy, .ref od, .ref ok])), (sl, .inl (y 4, 4, .inr (.inr (.inr (.inr (va_up (va_up (va_up (va_up (fun _ => none) 0 (some s0)) 1 (some s1)) 2 (some s2)) 3 (some s3))))))), (s0, .inr (5, [.int 0, .int 0, .int 0, .ref nu0])), (s1, .inr (5, [.int 0, .int 0, .int 0, .ref nu1])), (s2, .inr (5, [.int 0, .int 0, .int 0, .ref nu2])), (s3, .inr (5, [.int 0, .int 0, .int 0, .ref nu3]))] H := hP
          have hD : va_D A [(ob, .inr (9, [.ref tp, .int 0, .ref rd, .ref sa, .ref im, .ref sl, .ref ro, .ref wy, .ref od, .ref ok])), (sl, .inl (y 4, 4, .inr (.inr (.inr (.inr (va_up (va_up (va_up (va_up (fun _ => none) 0 (some s0)) 1 (some s1)) 2 (some s2)) 3 (some s3))))))), (s0, .inr (5, [.int 0, .int 0, .int 0, .ref nu0])), (s1, .inr (5, [.int 0, .int 0, .int 0, .ref nu1])), (s2, .inr (5, [.int 0, .int 0, .int 0, .ref nu2])), (s3, .inr (5, [.int 0, .int 0, .int 0, .ref nu3]))] := hD
          refine lv_if_ne (tgt := 17) hx hb dX9_paste_11 (by decide) (fun c9 => absurd (by decide) c9) (fun _ => ?_)
          refine lv_bipush (v := (-2)) hx hb dX9_paste_14 (by decide) ?_
          refine W.widen (k := 0) (n := 0) (Nat.le_of_ble_eq_true rfl) (Nat.le_of_ble_eq_true rfl) ?_
          exact W.iret (v := (-2)) hx hb hr (fun t ht hW => ⟨⟨(-2), _, rfl, (by first | rfl | decide | (simp only [sp_paste]; (repeat' split) <;> first | rfl | (exfalso; omega))), by rw [ht]; exact hP, hD⟩, hS.F ht⟩) hS.2.2 dX9_paste_16
      · skip
        exact absurd c_117 (by decide)
  · have hl : lv_has ls 8 [(0, .ref ob), (1, .int a1), (2, .int a2), (3, .int a3), (4, .int a4), (5, .int a5)] := hl
    rcases sl_cases a3 with rfl | rfl | rfl | rfl | t_a3
    · have hl : lv_has ls 8 [(0, .ref ob), (1, .int a1), (2, .int a2), (3, .int 0), (4, .int a4), (5, .int a5)] := hl
      refine lv_iload_n hx hb dX9_paste_0 rfl (lv_at hl 1 rfl) ?_
      refine cSi (As := [.int a1]) (rest := []) ⟨hx, hb, hml, hown, hw0⟩ hA hK hP hD hS [] [0, 1, 2, 3, 4, 5] [] [(ob, .inr (9, [.ref tp, .int 0, .ref rd, .ref sa, .ref im, .ref sl, .ref ro, .ref wy, .ref od, .ref ok])), (sl, .inl (y 4, 4, .inr (.inr (.inr (.inr (va_up (va_up (va_up (va_up (fun _ => none) 0 (some s0)) 1 (some s1)) 2 (some s2)) 3 (some s3))))))), (s0, .inr (5, [.int 0, .int 0, .int 0, .ref nu0])), (s1, .inr (5, [.int 0, .int 0, .int 0, .ref nu1])), (s2, .inr (5, [.int 0, .int 0, .int 0, .ref nu2])), (s3, .inr (5, [.int 0, .int 0, .int 0, .ref nu3]))] rfl rfl (by decide) (by decide) (by decide) (kX9_isSlot l G y _ a1 ) ⟨(callB_of 1 hw0 (gA m_162) rfl rfl rfl (hw0 _ m_183) (hw0 _ m_200) (by decide +kernel) ⟨Nat.le_of_ble_eq_true rfl, Nat.le_of_ble_eq_true rfl⟩), (hw0 _ m_201)⟩ rfl hl.1 (Nat.le_of_ble_eq_true rfl) dX9_paste_1 ⟨Nat.le_of_ble_eq_true rfl, Nat.le_of_ble_eq_true rfl⟩ (fun r_121 w_121 H locs hw_121 hP hD hS => ?_)
      rcases hw_121 with ⟨c_122, rfl, rfl⟩ | ⟨c_123, rfl, rfl⟩
      · skip
        exfalso; omega
      · skip
        have hP : va_P G vwCl [(ob, .inr (9, [.ref tp, .int 0, .ref rd, .ref sa, .ref im, .ref sl, .ref ro, .ref wy, .ref od, .ref ok])), (sl, .inl (y 4, 4, .inr (.inr (.inr (.inr (va_up (va_up (va_up (va_up (fun _ => none) 0 (some s0)) 1 (some s1)) 2 (some s2)) 3 (some s3))))))), (s0, .inr (5, [.int 0, .int 0, .int 0, .ref nu0])), (s1, .inr (5, [.int 0, .int 0, .int 0, .ref nu1])), (s2, .inr (5, [.int 0, .int 0, .int 0, .ref nu2])), (s3, .inr (5, [.int 0, .int 0, .int 0, .ref nu3]))] H := hP
        have hD : va_D A [(ob, .inr (9, [.ref tp, .int 0, .ref rd, .ref sa, .ref im, .ref sl, .ref ro, .ref wy, .ref od, .ref ok])), (sl, .inl (y 4, 4, .inr (.inr (.inr (.inr (va_up (va_up (va_up (va_up (fun _ => none) 0 (some s0)) 1 (some s1)) 2 (some s2)) 3 (some s3))))))), (s0, .inr (5, [.int 0, .int 0, .int 0, .ref nu0])), (s1, .inr (5, [.int 0, .int 0, .int 0, .ref nu1])), (s2, .inr (5, [.int 0, .int 0, .int 0, .ref nu2])), (s3, .inr (5, [.int 0, .int 0, .int 0, .ref nu3]))] := hD
        refine lv_if_eq (tgt := 14) hx hb dX9_paste_4 (by decide) (fun _ => ?_) (fun c9 => absurd (by decide) c9)
        refine lv_bipush (v := (-2)) hx hb dX9_paste_14 (by decide) ?_
        refine W.widen (k := 0) (n := 0) (Nat.le_of_ble_eq_true rfl) (Nat.le_of_ble_eq_true rfl) ?_
        exact W.iret (v := (-2)) hx hb hr (fun t ht hW => ⟨⟨(-2), _, rfl, (by first | rfl | decide | (simp only [sp_paste]; (repeat' split) <;> first | rfl | (exfalso; omega))), by rw [ht]; exact hP, hD⟩, hS.F ht⟩) hS.2.2 dX9_paste_16
    · have hl : lv_has ls 8 [(0, .ref ob), (1, .int a1), (2, .int a2), (3, .int 1), (4, .int a4), (5, .int a5)] := hl
      refine lv_iload_n hx hb dX9_paste_0 rfl (lv_at hl 1 rfl) ?_
      refine cSi (As := [.int a1]) (rest := []) ⟨hx, hb, hml, hown, hw0⟩ hA hK hP hD hS [] [0, 1, 2, 3, 4, 5] [] [(ob, .inr (9, [.ref tp, .int 0, .ref rd, .ref sa, .ref im, .ref sl, .ref ro, .ref wy, .ref od, .ref ok])), (sl, .inl (y 4, 4, .inr (.inr (.inr (.inr (va_up (va_up (va_up (va_up (fun _ => none) 0 (some s0)) 1 (some s1)) 2 (some s2)) 3 (some s3))))))), (s0, .inr (5, [.int 0, .int 0, .int 0, .ref nu0])), (s1, .inr (5, [.int 0, .int 0, .int 0, .ref nu1])), (s2, .inr (5, [.int 0, .int 0, .int 0, .ref nu2])), (s3, .inr (5, [.int 0, .int 0, .int 0, .ref nu3]))] rfl rfl (by decide) (by decide) (by decide) (kX9_isSlot l G y _ a1 ) ⟨(callB_of 1 hw0 (gA m_162) rfl rfl rfl (hw0 _ m_183) (hw0 _ m_200) (by decide +kernel) ⟨Nat.le_of_ble_eq_true rfl, Nat.le_of_ble_eq_true rfl⟩), (hw0 _ m_201)⟩ rfl hl.1 (Nat.le_of_ble_eq_true rfl) dX9_paste_1 ⟨Nat.le_of_ble_eq_true rfl, Nat.le_of_ble_eq_true rfl⟩ (fun r_124 w_124 H locs hw_124 hP hD hS => ?_)
      rcases hw_124 with ⟨c_125, rfl, rfl⟩ | ⟨c_126, rfl, rfl⟩
      · skip
        exfalso; omega
      · skip
        have hP : va_P G vwCl [(ob, .inr (9, [.ref tp, .int 0, .ref rd, .ref sa, .ref im, .ref sl, .ref ro, .ref wy, .ref od, .ref ok])), (sl, .inl (y 4, 4, .inr (.inr (.inr (.inr (va_up (va_up (va_up (va_up (fun _ => none) 0 (some s0)) 1 (some s1)) 2 (some s2)) 3 (some s3))))))), (s0, .inr (5, [.int 0, .int 0, .int 0, .ref nu0])), (s1, .inr (5, [.int 0, .int 0, .int 0, .ref nu1])), (s2, .inr (5, [.int 0, .int 0, .int 0, .ref nu2])), (s3, .inr (5, [.int 0, .int 0, .int 0, .ref nu3]))] H := hP
        have hD : va_D A [(ob, .inr (9, [.ref tp, .int 0, .ref rd, .ref sa, .ref im, .ref sl, .ref ro, .ref wy, .ref od, .ref ok])), (sl, .inl (y 4, 4, .inr (.inr (.inr (.inr (va_up (va_up (va_up (va_up (fun _ => none) 0 (some s0)) 1 (some s1)) 2 (some s2)) 3 (some s3))))))), (s0, .inr (5, [.int 0, .int 0, .int 0, .ref nu0])), (s1, .inr (5, [.int 0, .int 0, .int 0, .ref nu1])), (s2, .inr (5, [.int 0, .int 0, .int 0, .ref nu2])), (s3, .inr (5, [.int 0, .int 0, .int 0, .ref nu3]))] := hD
        refine lv_if_eq (tgt := 14) hx hb dX9_paste_4 (by decide) (fun _ => ?_) (fun c9 => absurd (by decide) c9)
        refine lv_bipush (v := (-2)) hx hb dX9_paste_14 (by decide) ?_
        refine W.widen (k := 0) (n := 0) (Nat.le_of_ble_eq_true rfl) (Nat.le_of_ble_eq_true rfl) ?_
        exact W.iret (v := (-2)) hx hb hr (fun t ht hW => ⟨⟨(-2), _, rfl, (by first | rfl | decide | (simp only [sp_paste]; (repeat' split) <;> first | rfl | (exfalso; omega))), by rw [ht]; exact hP, hD⟩, hS.F ht⟩) hS.2.2 dX9_paste_16
    · have hl : lv_has ls 8 [(0, .ref ob), (1, .int a1), (2, .int a2), (3, .int 2), (4, .int a4), (5, .int a5)] := hl
      refine lv_iload_n hx hb dX9_paste_0 rfl (lv_at hl 1 rfl) ?_
      refine cSi (As := [.int a1]) (rest := []) ⟨hx, hb, hml, hown, hw0⟩ hA hK hP hD hS [] [0, 1, 2, 3, 4, 5] [] [(ob, .inr (9, [.ref tp, .int 0, .ref rd, .ref sa, .ref im, .ref sl, .ref ro, .ref wy, .ref od, .ref ok])), (sl, .inl (y 4, 4, .inr (.inr (.inr (.inr (va_up (va_up (va_up (va_up (fun _ => none) 0 (some s0)) 1 (some s1)) 2 (some s2)) 3 (some s3))))))), (s0, .inr (5, [.int 0, .int 0, .int 0, .ref nu0])), (s1, .inr (5, [.int 0, .int 0, .int 0, .ref nu1])), (s2, .inr (5, [.int 0, .int 0, .int 0, .ref nu2])), (s3, .inr (5, [.int 0, .int 0, .int 0, .ref nu3]))] rfl rfl (by decide) (by decide) (by decide) (kX9_isSlot l G y _ a1 ) ⟨(callB_of 1 hw0 (gA m_162) rfl rfl rfl (hw0 _ m_183) (hw0 _ m_200) (by decide +kernel) ⟨Nat.le_of_ble_eq_true rfl, Nat.le_of_ble_eq_true rfl⟩), (hw0 _ m_201)⟩ rfl hl.1 (Nat.le_of_ble_eq_true rfl) dX9_paste_1 ⟨Nat.le_of_ble_eq_true rfl, Nat.le_of_ble_eq_true rfl⟩ (fun r_127 w_127 H locs hw_127 hP hD hS => ?_)
      rcases hw_127 with ⟨c_128, rfl, rfl⟩ | ⟨c_129, rfl, rfl⟩
      · skip
        exfalso; omega
      · skip
        have hP : va_P G vwCl [(ob, .inr (9, [.ref tp, .int 0, .ref rd, .ref sa, .ref im, .ref sl, .ref ro, .ref wy, .ref od, .ref ok])), (sl, .inl (y 4, 4, .inr (.inr (.inr (.inr (va_up (va_up (va_up (va_up (fun _ => none) 0 (some s0)) 1 (some s1)) 2 (some s2)) 3 (some s3))))))), (s0, .inr (5, [.int 0, .int 0, .int 0, .ref nu0])), (s1, .inr (5, [.int 0, .int 0, .int 0, .ref nu1])), (s2, .inr (5, [.int 0, .int 0, .int 0, .ref nu2])), (s3, .inr (5, [.int 0, .int 0, .int 0, .ref nu3]))] H := hP
        have hD : va_D A [(ob, .inr (9, [.ref tp, .int 0, .ref rd, .ref sa, .ref im, .ref sl, .ref ro, .ref wy, .ref od, .ref ok])), (sl, .inl (y 4, 4, .inr (.inr (.inr (.inr (va_up (va_up (va_up (va_up (fun _ => none) 0 (some s0)) 1 (some s1)) 2 (some s2)) 3 (some s3))))))), (s0, .inr (5, [.int 0, .int 0, .int 0, .ref nu0])), (s1, .inr (5, [.int 0, .int 0, .int 0, .ref nu1])), (s2, .inr (5, [.int 0, .int 0, .int 0, .ref nu2])), (s3, .inr (5, [.int 0, .int 0, .int 0, .ref nu3]))] := hD
        refine lv_if_eq (tgt := 14) hx hb dX9_paste_4 (by decide) (fun _ => ?_) (fun c9 => absurd (by decide) c9)
        refine lv_bipush (v := (-2)) hx hb dX9_paste_14 (by decide) ?_
        refine W.widen (k := 0) (n := 0) (Nat.le_of_ble_eq_true rfl) (Nat.le_of_ble_eq_true rfl) ?_
        exact W.iret (v := (-2)) hx hb hr (fun t ht hW => ⟨⟨(-2), _, rfl, (by first | rfl | decide | (simp only [sp_paste]; (repeat' split) <;> first | rfl | (exfalso; omega))), by rw [ht]; exact hP, hD⟩, hS.F ht⟩) hS.2.2 dX9_paste_16
    · have hl : lv_has ls 8 [(0, .ref ob), (1, .int a1), (2, .int a2), (3, .int 3), (4, .int a4), (5, .int a5)] := hl
      refine lv_iload_n hx hb dX9_paste_0 rfl (lv_at hl 1 rfl) ?_
      refine cSi (As := [.int a1]) (rest := []) ⟨hx, hb, hml, hown, hw0⟩ hA hK hP hD hS [] [0, 1, 2, 3, 4, 5] [] [(ob, .inr (9, [.ref tp, .int 0, .ref rd, .ref sa, .ref im, .ref sl, .ref ro, .ref wy, .ref od, .ref ok])), (sl, .inl (y 4, 4, .inr (.inr (.inr (.inr (va_up (va_up (va_up (va_up (fun _ => none) 0 (some s0)) 1 (some s1)) 2 (some s2)) 3 (some s3))))))), (s0, .inr (5, [.int 0, .int 0, .int 0, .ref nu0])), (s1, .inr (5, [.int 0, .int 0, .int 0, .ref nu1])), (s2, .inr (5, [.int 0, .int 0, .int 0, .ref nu2])), (s3, .inr (5, [.int 0, .int 0, .int 0, .ref nu3]))] rfl rfl (by decide) (by decide) (by decide) (kX9_isSlot l G y _ a1 ) ⟨(callB_of 1 hw0 (gA m_162) rfl rfl rfl (hw0 _ m_183) (hw0 _ m_200) (by decide +kernel) ⟨Nat.le_of_ble_eq_true rfl, Nat.le_of_ble_eq_true rfl⟩), (hw0 _ m_201)⟩ rfl hl.1 (Nat.le_of_ble_eq_true rfl) dX9_paste_1 ⟨Nat.le_of_ble_eq_true rfl, Nat.le_of_ble_eq_true rfl⟩ (fun r_130 w_130 H locs hw_130 hP hD hS => ?_)
      rcases hw_130 with ⟨c_131, rfl, rfl⟩ | ⟨c_132, rfl, rfl⟩
      · skip
        exfalso; omega
      · skip
        have hP : va_P G vwCl [(ob, .inr (9, [.ref tp, .int 0, .ref rd, .ref sa, .ref im, .ref sl, .ref ro, .ref wy, .ref od, .ref ok])), (sl, .inl (y 4, 4, .inr (.inr (.inr (.inr (va_up (va_up (va_up (va_up (fun _ => none) 0 (some s0)) 1 (some s1)) 2 (some s2)) 3 (some s3))))))), (s0, .inr (5, [.int 0, .int 0, .int 0, .ref nu0])), (s1, .inr (5, [.int 0, .int 0, .int 0, .ref nu1])), (s2, .inr (5, [.int 0, .int 0, .int 0, .ref nu2])), (s3, .inr (5, [.int 0, .int 0, .int 0, .ref nu3]))] H := hP
        have hD : va_D A [(ob, .inr (9, [.ref tp, .int 0, .ref rd, .ref sa, .ref im, .ref sl, .ref ro, .ref wy, .ref od, .ref ok])), (sl, .inl (y 4, 4, .inr (.inr (.inr (.inr (va_up (va_up (va_up (va_up (fun _ => none) 0 (some s0)) 1 (some s1)) 2 (some s2)) 3 (some s3))))))), (s0, .inr (5, [.int 0, .int 0, .int 0, .ref nu0])), (s1, .inr (5, [.int 0, .int 0, .int 0, .ref nu1])), (s2, .inr (5, [.int 0, .int 0, .int 0, .ref nu2])), (s3, .inr (5, [.int 0, .int 0, .int 0, .ref nu3]))] := hD
        refine lv_if_eq (tgt := 14) hx hb dX9_paste_4 (by decide) (fun _ => ?_) (fun c9 => absurd (by decide) c9)
        refine lv_bipush (v := (-2)) hx hb dX9_paste_14 (by decide) ?_
        refine W.widen (k := 0) (n := 0) (Nat.le_of_ble_eq_true rfl) (Nat.le_of_ble_eq_true rfl) ?_
        exact W.iret (v := (-2)) hx hb hr (fun t ht hW => ⟨⟨(-2), _, rfl, (by first | rfl | decide | (simp only [sp_paste]; (repeat' split) <;> first | rfl | (exfalso; omega))), by rw [ht]; exact hP, hD⟩, hS.F ht⟩) hS.2.2 dX9_paste_16
    · have hl : lv_has ls 8 [(0, .ref ob), (1, .int a1), (2, .int a2), (3, .int a3), (4, .int a4), (5, .int a5)] := hl
      refine lv_iload_n hx hb dX9_paste_0 rfl (lv_at hl 1 rfl) ?_
      refine cSi (As := [.int a1]) (rest := []) ⟨hx, hb, hml, hown, hw0⟩ hA hK hP hD hS [] [0, 1, 2, 3, 4, 5] [] [(ob, .inr (9, [.ref tp, .int 0, .ref rd, .ref sa, .ref im, .ref sl, .ref ro, .ref wy, .ref od, .ref ok])), (sl, .inl (y 4, 4, .inr (.inr (.inr (.inr (va_up (va_up (va_up (va_up (fun _ => none) 0 (some s0)) 1 (some s1)) 2 (some s2)) 3 (some s3))))))), (s0, .inr (5, [.int 0, .int 0, .int 0, .ref nu0])), (s1, .inr (5, [.int 0, .int 0, .int 0, .ref nu1])), (s2, .inr (5, [.int 0, .int 0, .int 0, .ref nu2])), (s3, .inr (5, [.int 0, .int 0, .int 0, .ref nu3]))] rfl rfl (by decide) (by decide) (by decide) (kX9_isSlot l G y _ a1 ) ⟨(callB_of 1 hw0 (gA m_162) rfl rfl rfl (hw0 _ m_183) (hw0 _ m_200) (by decide +kernel) ⟨Nat.le_of_ble_eq_true rfl, Nat.le_of_ble_eq_true rfl⟩), (hw0 _ m_201)⟩ rfl hl.1 (Nat.le_of_ble_eq_true rfl) dX9_paste_1 ⟨Nat.le_of_ble_eq_true rfl, Nat.le_of_ble_eq_true rfl⟩ (fun r_133 w_133 H locs hw_133 hP hD hS => ?_)
      rcases hw_133 with ⟨c_134, rfl, rfl⟩ | ⟨c_135, rfl, rfl⟩
      · skip
        exfalso; omega
      · skip
        have hP : va_P G vwCl [(ob, .inr (9, [.ref tp, .int 0, .ref rd, .ref sa, .ref im, .ref sl, .ref ro, .ref wy, .ref od, .ref ok])), (sl, .inl (y 4, 4, .inr (.inr (.inr (.inr (va_up (va_up (va_up (va_up (fun _ => none) 0 (some s0)) 1 (some s1)) 2 (some s2)) 3 (some s3))))))), (s0, .inr (5, [.int 0, .int 0, .int 0, .ref nu0])), (s1, .inr (5, [.int 0, .int 0, .int 0, .ref nu1])), (s2, .inr (5, [.int 0, .int 0, .int 0, .ref nu2])), (s3, .inr (5, [.int 0, .int 0, .int 0, .ref nu3]))] H := hP
        have hD : va_D A [(ob, .inr (9, [.ref tp, .int 0, .ref rd, .ref sa, .ref im, .ref sl, .ref ro, .ref wy, .ref od, .ref ok])), (sl, .inl (y 4, 4, .inr (.inr (.inr (.inr (va_up (va_up (va_up (va_up (fun _ => none) 0 (some s0)) 1 (some s1)) 2 (some s2)) 3 (some s3))))))), (s0, .inr (5, [.int 0, .int 0, .int 0, .ref nu0])), (s1, .inr (5, [.int 0, .int 0, .int 0, .ref nu1])), (s2, .inr (5, [.int 0, .int 0, .int 0, .ref nu2])), (s3, .inr (5, [.int 0, .int 0, .int 0, .ref nu3]))] := hD
        refine lv_if_eq (tgt := 14) hx hb dX9_paste_4 (by decide) (fun _ => ?_) (fun c9 => absurd (by decide) c9)
        refine lv_bipush (v := (-2)) hx hb dX9_paste_14 (by decide) ?_
        refine W.widen (k := 0) (n := 0) (Nat.le_of_ble_eq_true rfl) (Nat.le_of_ble_eq_true rfl) ?_
        exact W.iret (v := (-2)) hx hb hr (fun t ht hW => ⟨⟨(-2), _, rfl, (by first | rfl | decide | (simp only [sp_paste]; (repeat' split) <;> first | rfl | (exfalso; omega))), by rw [ht]; exact hP, hD⟩, hS.F ht⟩) hS.2.2 dX9_paste_16
