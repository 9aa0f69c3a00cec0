set_option maxHeartbeats 4000000 in
set_option maxRecDepth 100000 in
theorem gfill16 (l : Launch) (G : va_G) (y : Nat → ClassId) (sz : Nat) (ar : Nat) (va : Int32) (far : Nat → Int32)  : Met l yJ7_fill_53178 (Cond.code yJ7_fill_53178 cJ7_fill_53178 4 none :: wAll) ({ frames := 0, cells := 0, slots := 0, locals := 0 }) (va_Pc [.ref ar, .int va] (kp G y sz [(ce_i16 y ar far)])) (va_Qv (fun (w : va_W) => (∃ (f_71 : Nat → Int32), (∀ j : Nat, j < 16 → f_71 j = va) ∧ w = [(ce_i16 y ar f_71)])) (kq G (va_A [(ce_i16 y ar far)] sz)) (va_A [(ce_i16 y ar far)] sz)) 0 0 (va_A [(ce_i16 y ar far)] sz) := by
  refine Met.ofW (cc := cJ7_fill_53178) (maxL := 4) (ret := none) (by decide) rfl ?_
  intro p e s m args below meth c s₁ B hml hv
  obtain ⟨rfl, hsz, hP, hK, hD0⟩ := hv
  have hx := B.exec
  have hb := B.bytes
  have hr := B.returns
  have hw0 : ∀ w ∈ wAll, w.before _ s = true := fun w h => atoms_spec (ws := Cond.code yJ7_fill_53178 cJ7_fill_53178 4 none :: wAll) B.pre w (List.mem_cons_of_mem _ h)
  have hown : s.vm.findClass RJ7 = some m.cls := findClass_of_methodNamed B.named
  subst hsz
  have hD := hD0.self (sz := s.heap.size)
  generalize hAe : va_A [(ce_i16 y ar far)] s.heap.size = A at hD ⊢
  have hA : ∀ q : Nat, s.heap.size ≤ q → A q := fun q h => by rw [← hAe]; exact Or.inr h
  have hS : va_S A s.heap s.heap [] := va_S.rf
  have hP : va_P G vwCl [(ce_i16 y ar far)] s.heap := hP
  have hl := lv_entry ([.ref ar, .int va]) (n := 4) (Nat.le_of_ble_eq_true rfl)
  rw [lg_entry_eq]
  generalize (lg_sl ([.ref ar, .int va]) ++ List.replicate (4 - (lg_sl ([.ref ar, .int va])).length) Slot.unset).toArray = ls at hl ⊢
  have hl : lv_has ls 4 [(0, .ref ar), (1, .int va)] := hl
  refine lv_iconst (v := 0) hx hb dJ7_fill_53178_0 (by decide) ?_
  refine lv_istore_n (lv' := [(2, .int 0), (0, .ref ar), (1, .int va)]) hx hb dJ7_fill_53178_1 rfl hl (by decide) rfl (fun ls hl => ?_)
  refine lv_aload_n hx hb dJ7_fill_53178_2 rfl (lv_at hl 1 rfl) ?_
  refine va_alen (v := 16) hx hb hK.1 hP 0 1 rfl rfl rfl dJ7_fill_53178_3 ?_
  refine lv_istore_n (lv' := [(3, .int 16), (2, .int 0), (0, .ref ar), (1, .int va)]) hx hb dJ7_fill_53178_4 rfl hl (by decide) rfl (fun ls hl => ?_)
  refine loopX (fun n H locs ls st => ∃ (v_1028 : Int32) (f_1029 : Nat → Int32), (16 - v_1028.toInt).toNat = n ∧ ((0 : Int) ≤ v_1028.toInt ∧ v_1028.toInt ≤ 16) ∧ (∀ j : Nat, (j : Int) < v_1028.toInt → f_1029 j = va) ∧ st = [] ∧ vPD G A H [(ce_i16 y ar f_1029)] ∧ va_S A s.heap H locs ∧ lv_has ls 4 [(3, .int 16), (2, .int v_1028), (0, .ref ar), (1, .int va)]) ?_ (n := (16 - (0 : Int32).toInt).toNat) ⟨0, far, rfl, (bw (0) (16) (bkc (x := 0) (c := 0) (by decide)) (by decide)), (fl_0 (by have h90 : Int32.toInt 0 = 0 := (by decide); have h91 : Int32.toInt 16 = 16 := (by decide); omega)), rfl, ⟨hP, hD⟩, hS, lv_sub hl [0, 1, 2, 3] rfl⟩
  rintro n ih_1032 H locs ls st ⟨v_1028, f_1029, hn_1032, bv_1028, rl1029_0, rfl, ⟨hP, hD⟩, hS, hl⟩
  refine lv_iload_n hx hb dJ7_fill_53178_5 rfl (lv_at hl 1 rfl) ?_
  refine lv_iload_n hx hb dJ7_fill_53178_6 rfl (lv_at hl 0 rfl) ?_
  refine lv_icmp_ge (tgt := 20) hx hb dJ7_fill_53178_7 (by decide) (fun c_1033 => ?_) (fun c_1033 => ?_)
  · skip
    have nc_1033 := nb_le (16) (16) c_1033 (bkc (x := 16) (c := 16) (by decide)) bv_1028 (by decide)
    exact W.vret hx hb hr (fun t ht hW => ⟨⟨_, rfl, ⟨f_1029, (fun j hj => rl1029_0 j (by have h90 : Int32.toInt 16 = 16 := (by decide); omega)), rfl⟩, by rw [ht]; exact hP, hD⟩, hS.F ht⟩) hS.2.2 dJ7_fill_53178_20
  · skip
    have nc_1033 := nb_nle (15) (16) c_1033 bv_1028 (bkc (x := 16) (c := 16) (by decide)) (by decide)
    refine lv_aload_n hx hb dJ7_fill_53178_10 rfl (lv_at hl 2 rfl) ?_
    refine lv_iload_n hx hb dJ7_fill_53178_11 rfl (lv_at hl 1 rfl) ?_
    refine lv_iload_n hx hb dJ7_fill_53178_12 rfl (lv_at hl 3 rfl) ?_
    refine va_iast hx hb hK.1 hP hD hS 0 1 rfl rfl (vi nc_1033.1 (by decide)) dJ7_fill_53178_13 (fun H locs hP hD hS => ?_)
    generalize hf_1034 : (upd f_1029 (v_1028 : Int32).toNatClampNeg va) = f_1034 at hP hD
    obtain ⟨hP, hD⟩ : vPD G A H [(ce_i16 y ar f_1034)] := ⟨hP, hD⟩
    obtain ⟨v_1035, ev_1035⟩ : ∃ z : Int32, z = v_1028 + 1 := ⟨_, rfl⟩
    have qv_1035 := ba_add ev_1035 nc_1033.1 (bkc (x := 1) (c := 1) (by decide)) (by decide)
    have bv_1035 : (1 : Int) ≤ v_1035.toInt ∧ v_1035.toInt ≤ 16 := bq_add qv_1035 nc_1033.1 (bkc (x := 1) (c := 1) (by decide)) _ _ (by decide)
    have qv_1035 : v_1035.toInt = v_1028.toInt + (1) := qv_1035
    refine lv_iinc (v := v_1035) (lv' := [(2, .int v_1035), (3, .int 16), (0, .ref ar), (1, .int va)]) hx hb dJ7_fill_53178_14 hl (k := 1) rfl (ev_1035.symm) (by decide) rfl (fun ls hl => ?_)
    refine lv_goto (tgt := 5) hx hb dJ7_fill_53178_17 (by decide) ?_
    exact ih_1032 _ (ml_inc (hi := 16) hn_1032 qv_1035 (by decide) ((bw (0) (16) bv_1035 (by decide))).2) _ _ _ _ ⟨v_1035, f_1034, rfl, (bw (0) (16) bv_1035 (by decide)), (fl_s rl1029_0 hf_1034 (by omega) (by omega)), rfl, ⟨hP, hD⟩, hS, lv_sub hl [1, 0, 2, 3] rfl⟩

set_option maxHeartbeats 4000000 in
set_option maxRecDepth 100000 in
theorem gfill256 (l : Launch) (G : va_G) (y : Nat → ClassId) (sz : Nat) (ar : Nat) (va : Int32) (far : Nat → Int32)  : Met l yJ7_fill_53178 (Cond.code yJ7_fill_53178 cJ7_fill_53178 4 none :: wAll) ({ frames := 0, cells := 0, slots := 0, locals := 0 }) (va_Pc [.ref ar, .int va] (kp G y sz [(ce_i256 y ar far)])) (va_Qv (fun (w : va_W) => (∃ (f_71 : Nat → Int32), (∀ j : Nat, j < 256 → f_71 j = va) ∧ w = [(ce_i256 y ar f_71)])) (kq G (va_A [(ce_i256 y ar far)] sz)) (va_A [(ce_i256 y ar far)] sz)) 0 0 (va_A [(ce_i256 y ar far)] sz) := by
  refine Met.ofW (cc := cJ7_fill_53178) (maxL := 4) (ret := none) (by decide) rfl ?_
  intro p e s m args below meth c s₁ B hml hv
  obtain ⟨rfl, hsz, hP, hK, hD0⟩ := hv
  have hx := B.exec
  have hb := B.bytes
  have hr := B.returns
  have hw0 : ∀ w ∈ wAll, w.before _ s = true := fun w h => atoms_spec (ws := Cond.code yJ7_fill_53178 cJ7_fill_53178 4 none :: wAll) B.pre w (List.mem_cons_of_mem _ h)
  have hown : s.vm.findClass RJ7 = some m.cls := findClass_of_methodNamed B.named
  subst hsz
  have hD := hD0.self (sz := s.heap.size)
  generalize hAe : va_A [(ce_i256 y ar far)] s.heap.size = A at hD ⊢
  have hA : ∀ q : Nat, s.heap.size ≤ q → A q := fun q h => by rw [← hAe]; exact Or.inr h
  have hS : va_S A s.heap s.heap [] := va_S.rf
  have hP : va_P G vwCl [(ce_i256 y ar far)] s.heap := hP
  have hl := lv_entry ([.ref ar, .int va]) (n := 4) (Nat.le_of_ble_eq_true rfl)
  rw [lg_entry_eq]
  generalize (lg_sl ([.ref ar, .int va]) ++ List.replicate (4 - (lg_sl ([.ref ar, .int va])).length) Slot.unset).toArray = ls at hl ⊢
  have hl : lv_has ls 4 [(0, .ref ar), (1, .int va)] := hl
  refine lv_iconst (v := 0) hx hb dJ7_fill_53178_0 (by decide) ?_
  refine lv_istore_n (lv' := [(2, .int 0), (0, .ref ar), (1, .int va)]) hx hb dJ7_fill_53178_1 rfl hl (by decide) rfl (fun ls hl => ?_)
  refine lv_aload_n hx hb dJ7_fill_53178_2 rfl (lv_at hl 1 rfl) ?_
  refine va_alen (v := 256) hx hb hK.1 hP 0 1 rfl rfl rfl dJ7_fill_53178_3 ?_
  refine lv_istore_n (lv' := [(3, .int 256), (2, .int 0), (0, .ref ar), (1, .int va)]) hx hb dJ7_fill_53178_4 rfl hl (by decide) rfl (fun ls hl => ?_)
  refine loopX (fun n H locs ls st => ∃ (v_1028 : Int32) (f_1029 : Nat → Int32), (256 - v_1028.toInt).toNat = n ∧ ((0 : Int) ≤ v_1028.toInt ∧ v_1028.toInt ≤ 256) ∧ (∀ j : Nat, (j : Int) < v_1028.toInt → f_1029 j = va) ∧ st = [] ∧ vPD G A H [(ce_i256 y ar f_1029)] ∧ va_S A s.heap H locs ∧ lv_has ls 4 [(3, .int 256), (2, .int v_1028), (0, .ref ar), (1, .int va)]) ?_ (n := (256 - (0 : Int32).toInt).toNat) ⟨0, far, rfl, (bw (0) (256) (bkc (x := 0) (c := 0) (by decide)) (by decide)), (fl_0 (by have h90 : Int32.toInt 0 = 0 := (by decide); have h91 : Int32.toInt 256 = 256 := (by decide); omega)), rfl, ⟨hP, hD⟩, hS, lv_sub hl [0, 1, 2, 3] rfl⟩
  rintro n ih_1032 H locs ls st ⟨v_1028, f_1029, hn_1032, bv_1028, rl1029_0, rfl, ⟨hP, hD⟩, hS, hl⟩
  refine lv_iload_n hx hb dJ7_fill_53178_5 rfl (lv_at hl 1 rfl) ?_
  refine lv_iload_n hx hb dJ7_fill_53178_6 rfl (lv_at hl 0 rfl) ?_
  refine lv_icmp_ge (tgt := 20) hx hb dJ7_fill_53178_7 (by decide) (fun c_1033 => ?_) (fun c_1033 => ?_)
  · skip
    have nc_1033 := nb_le (256) (256) c_1033 (bkc (x := 256) (c := 256) (by decide)) bv_1028 (by decide)
    exact W.vret hx hb hr (fun t ht hW => ⟨⟨_, rfl, ⟨f_1029, (fun j hj => rl1029_0 j (by have h90 : Int32.toInt 256 = 256 := (by decide); omega)), rfl⟩, by rw [ht]; exact hP, hD⟩, hS.F ht⟩) hS.2.2 dJ7_fill_53178_20
  · skip
    have nc_1033 := nb_nle (255) (256) c_1033 bv_1028 (bkc (x := 256) (c := 256) (by decide)) (by decide)
    refine lv_aload_n hx hb dJ7_fill_53178_10 rfl (lv_at hl 2 rfl) ?_
    refine lv_iload_n hx hb dJ7_fill_53178_11 rfl (lv_at hl 1 rfl) ?_
    refine lv_iload_n hx hb dJ7_fill_53178_12 rfl (lv_at hl 3 rfl) ?_
    refine va_iast hx hb hK.1 hP hD hS 0 1 rfl rfl (vi nc_1033.1 (by decide)) dJ7_fill_53178_13 (fun H locs hP hD hS => ?_)
    generalize hf_1034 : (upd f_1029 (v_1028 : Int32).toNatClampNeg va) = f_1034 at hP hD
    obtain ⟨hP, hD⟩ : vPD G A H [(ce_i256 y ar f_1034)] := ⟨hP, hD⟩
    obtain ⟨v_1035, ev_1035⟩ : ∃ z : Int32, z = v_1028 + 1 := ⟨_, rfl⟩
    have qv_1035 := ba_add ev_1035 nc_1033.1 (bkc (x := 1) (c := 1) (by decide)) (by decide)
    have bv_1035 : (1 : Int) ≤ v_1035.toInt ∧ v_1035.toInt ≤ 256 := bq_add qv_1035 nc_1033.1 (bkc (x := 1) (c := 1) (by decide)) _ _ (by decide)
    have qv_1035 : v_1035.toInt = v_1028.toInt + (1) := qv_1035
    refine lv_iinc (v := v_1035) (lv' := [(2, .int v_1035), (3, .int 256), (0, .ref ar), (1, .int va)]) hx hb dJ7_fill_53178_14 hl (k := 1) rfl (ev_1035.symm) (by decide) rfl (fun ls hl => ?_)
    refine lv_goto (tgt := 5) hx hb dJ7_fill_53178_17 (by decide) ?_
    exact ih_1032 _ (ml_inc (hi := 256) hn_1032 qv_1035 (by decide) ((bw (0) (256) bv_1035 (by decide))).2) _ _ _ _ ⟨v_1035, f_1034, rfl, (bw (0) (256) bv_1035 (by decide)), (fl_s rl1029_0 hf_1034 (by omega) (by omega)), rfl, ⟨hP, hD⟩, hS, lv_sub hl [1, 0, 2, 3] rfl⟩

set_option maxHeartbeats 4000000 in
set_option maxRecDepth 100000 in
theorem gX1_kindsOf (l : Launch) (G : va_G) (y : Nat → ClassId) (sz : Nat) (ob : Nat) (a1 : Int32) (a2 : Int32) (ob_size : Int32) (ob_debtor : Nat) (ob_creditor : Nat) (ob_kind : Nat) (ob_due : Nat) (ob_came : Nat) (ob_open : Nat) (ob_kinds : Nat) (fob_kinds : Nat → Int32) (p_ob_size : (0 : Int) ≤ ob_size.toInt ∧ ob_size.toInt ≤ 600) (p_a1 : (0 : Int) ≤ a1.toInt ∧ a1.toInt ≤ 15) (p_a2 : (0 : Int) ≤ a2.toInt ∧ a2.toInt ≤ 15) : Met l yX1_kindsOf (Cond.code yX1_kindsOf cX1_kindsOf 3 (some .int) :: wAll) ({ frames := 0, cells := 0, slots := 0, locals := 0 }) (va_Pc [.ref ob, .int a1, .int a2] (kp G y sz [(ce_X1 ob ob_size ob_debtor ob_creditor ob_kind ob_due ob_came ob_open ob_kinds), (ce_i256 y ob_kinds fob_kinds)])) (va_Qi (fun (r : Int32) (w : va_W) => (∃ (v_7 : Int32), ((v_7 : Int32).toInt = (fob_kinds (16 * a1.toInt + a2.toInt).toNat).toInt) ∧ r = v_7 ∧ w = [(ce_X1 ob ob_size ob_debtor ob_creditor ob_kind ob_due ob_came ob_open ob_kinds), (ce_i256 y ob_kinds fob_kinds)])) (kq G (va_A [(ce_X1 ob ob_size ob_debtor ob_creditor ob_kind ob_due ob_came ob_open ob_kinds), (ce_i256 y ob_kinds fob_kinds)] sz)) (va_A [(ce_X1 ob ob_size ob_debtor ob_creditor ob_kind ob_due ob_came ob_open ob_kinds), (ce_i256 y ob_kinds fob_kinds)] sz)) 0 0 (va_A [(ce_X1 ob ob_size ob_debtor ob_creditor ob_kind ob_due ob_came ob_open ob_kinds), (ce_i256 y ob_kinds fob_kinds)] sz) := by
  refine Met.ofW (cc := cX1_kindsOf) (maxL := 3) (ret := (some .int)) (by decide) rfl ?_
  intro p e s m args below meth c s₁ B hml hv
  obtain ⟨rfl, hsz, hP, hK, hD0⟩ := hv
  have hx := B.exec
  have hb := B.bytes
  have hr := B.returns
  have hw0 : ∀ w ∈ wAll, w.before _ s = true := fun w h => atoms_spec (ws := Cond.code yX1_kindsOf cX1_kindsOf 3 (some .int) :: wAll) B.pre w (List.mem_cons_of_mem _ h)
  have hown : s.vm.findClass RX1 = some m.cls := findClass_of_methodNamed B.named
  subst hsz
  have hD := hD0.self (sz := s.heap.size)
  generalize hAe : va_A [(ce_X1 ob ob_size ob_debtor ob_creditor ob_kind ob_due ob_came ob_open ob_kinds), (ce_i256 y ob_kinds fob_kinds)] s.heap.size = A at hD ⊢
  have hA : ∀ q : Nat, s.heap.size ≤ q → A q := fun q h => by rw [← hAe]; exact Or.inr h
  have hS : va_S A s.heap s.heap [] := va_S.rf
  have hP : va_P G vwCl [(ce_X1 ob ob_size ob_debtor ob_creditor ob_kind ob_due ob_came ob_open ob_kinds), (ce_i256 y ob_kinds fob_kinds)] s.heap := hP
  have hl := lv_entry ([.ref ob, .int a1, .int a2]) (n := 3) (Nat.le_of_ble_eq_true rfl)
  rw [lg_entry_eq]
  generalize (lg_sl ([.ref ob, .int a1, .int a2]) ++ List.replicate (3 - (lg_sl ([.ref ob, .int a1, .int a2])).length) Slot.unset).toArray = ls at hl ⊢
  have hl : lv_has ls 3 [(0, .ref ob), (1, .int a1), (2, .int a2)] := hl
  refine lv_aload_n hx hb dX1_kindsOf_0 rfl (lv_at hl 0 rfl) ?_
  refine va_get (D := G) (ci := 1) (v := .ref ob_kinds) (C := RX1) (T := TX1) (N := 8) hx hb hw0 inA_wsX10 hown hK.1 hP 0 rfl rfl 7 (by decide) (hw0 _ m_314) (fun _ h9 => h9) rfl dX1_kindsOf_1 ?_
  refine lv_iload_n hx hb dX1_kindsOf_4 rfl (lv_at hl 1 rfl) ?_
  refine lv_bipush (v := 16) hx hb dX1_kindsOf_5 (by decide) ?_
  refine lv_imul hx hb dX1_kindsOf_7 ?_
  refine lv_topi (fun v_1001 ev_1001 => ?_)
  have qv_1001 := ba_mul 16 ev_1001 p_a1 (by decide) (by decide) (by decide)
  have bv_1001 : (0 : Int) ≤ v_1001.toInt ∧ v_1001.toInt ≤ 240 := qv_1001.2
  refine lv_iload_n hx hb dX1_kindsOf_8 rfl (lv_at hl 2 rfl) ?_
  refine lv_iadd hx hb dX1_kindsOf_9 ?_
  refine lv_topi (fun v_1002 ev_1002 => ?_)
  have qv_1002 := ba_add ev_1002 bv_1001 p_a2 (by decide)
  have bv_1002 : (0 : Int) ≤ v_1002.toInt ∧ v_1002.toInt ≤ 255 := bq_add qv_1002 bv_1001 p_a2 _ _ (by decide)
  refine va_iald hx hb hK.1 hP 1 1 rfl rfl (vi bv_1002 (by decide)) dX1_kindsOf_10 ?_
  refine lv_topi (fun v_1003 ev_1003 => ?_)
  exact W.iret (v := v_1003) hx hb hr (fun t ht hW => ⟨⟨v_1003, _, rfl, ⟨v_1003, (ke_i ev_1003 (by omega) (by omega)), rfl, rfl⟩, by rw [ht]; exact hP, hD⟩, hS.F ht⟩) hS.2.2 dX1_kindsOf_11

set_option maxHeartbeats 4000000 in
set_option maxRecDepth 100000 in
theorem gX1_move (l : Launch) (G : va_G) (y : Nat → ClassId) (sz : Nat) (ob : Nat) (a1 : Int32) (a2 : Int32) (ob_size : Int32) (ob_debtor : Nat) (ob_creditor : Nat) (ob_kind : Nat) (ob_due : Nat) (ob_came : Nat) (ob_open : Nat) (ob_kinds : Nat) (fob_debtor : Nat → Int32) (fob_creditor : Nat → Int32) (fob_kind : Nat → Int32) (fob_due : Nat → Int32) (fob_came : Nat → Int32) (p_ob_size : (0 : Int) ≤ ob_size.toInt ∧ ob_size.toInt ≤ 600) (p_fob_creditor : ∀ i, (0 : Int) ≤ (fob_creditor i).toInt ∧ (fob_creditor i).toInt ≤ 15) (p_a1 : (0 : Int) ≤ a1.toInt ∧ a1.toInt ≤ 599) (p_a2 : (0 : Int) ≤ a2.toInt ∧ a2.toInt ≤ 599) : Met l yX1_move (Cond.code yX1_move cX1_move 3 none :: wAll) ({ frames := 0, cells := 0, slots := 0, locals := 0 }) (va_Pc [.ref ob, .int a1, .int a2] (kp G y sz [(ce_X1 ob ob_size ob_debtor ob_creditor ob_kind ob_due ob_came ob_open ob_kinds), (ce_i600 y ob_debtor fob_debtor), (ce_i600 y ob_creditor fob_creditor), (ce_i600 y ob_kind fob_kind), (ce_i600 y ob_due fob_due), (ce_i600 y ob_came fob_came)])) (va_Qv (fun (w : va_W) => (∃ (f_21 : Nat → Int32) (f_22 : Nat → Int32) (f_23 : Nat → Int32) (f_24 : Nat → Int32) (f_25 : Nat → Int32), (∀ i, (0 : Int) ≤ (f_22 i).toInt ∧ (f_22 i).toInt ≤ 15) ∧ (f_21 = upd fob_debtor a2.toInt.toNat (fob_debtor a1.toInt.toNat)) ∧ (f_22 = upd fob_creditor a2.toInt.toNat (fob_creditor a1.toInt.toNat)) ∧ (f_23 = upd fob_kind a2.toInt.toNat (fob_kind a1.toInt.toNat)) ∧ (f_24 = upd fob_due a2.toInt.toNat (fob_due a1.toInt.toNat)) ∧ (f_25 = upd fob_came a2.toInt.toNat (fob_came a1.toInt.toNat)) ∧ w = [(ce_X1 ob ob_size ob_debtor ob_creditor ob_kind ob_due ob_came ob_open ob_kinds), (ce_i600 y ob_debtor f_21), (ce_i600 y ob_creditor f_22), (ce_i600 y ob_kind f_23), (ce_i600 y ob_due f_24), (ce_i600 y ob_came f_25)])) (kq G (va_A [(ce_X1 ob ob_size ob_debtor ob_creditor ob_kind ob_due ob_came ob_open ob_kinds), (ce_i600 y ob_debtor fob_debtor), (ce_i600 y ob_creditor fob_creditor), (ce_i600 y ob_kind fob_kind), (ce_i600 y ob_due fob_due), (ce_i600 y ob_came fob_came)] sz)) (va_A [(ce_X1 ob ob_size ob_debtor ob_creditor ob_kind ob_due ob_came ob_open ob_kinds), (ce_i600 y ob_debtor fob_debtor), (ce_i600 y ob_creditor fob_creditor), (ce_i600 y ob_kind fob_kind), (ce_i600 y ob_due fob_due), (ce_i600 y ob_came fob_came)] sz)) 0 0 (va_A [(ce_X1 ob ob_size ob_debtor ob_creditor ob_kind ob_due ob_came ob_open ob_kinds), (ce_i600 y ob_debtor fob_debtor), (ce_i600 y ob_creditor fob_creditor), (ce_i600 y ob_kind fob_kind), (ce_i600 y ob_due fob_due), (ce_i600 y ob_came fob_came)] sz) := by
  refine Met.ofW (cc := cX1_move) (maxL := 3) (ret := none) (by decide) rfl ?_
  intro p e s m args below meth c s₁ B hml hv
  obtain ⟨rfl, hsz, hP, hK, hD0⟩ := hv
  have hx := B.exec
  have hb := B.bytes
  have hr := B.returns
  have hw0 : ∀ w ∈ wAll, w.before _ s = true := fun w h => atoms_spec (ws := Cond.code yX1_move cX1_move 3 none :: wAll) B.pre w (List.mem_cons_of_mem _ h)
  have hown : s.vm.findClass RX1 = some m.cls := findClass_of_methodNamed B.named
  subst hsz
  have hD := hD0.self (sz := s.heap.size)
  generalize hAe : va_A [(ce_X1 ob ob_size ob_debtor ob_creditor ob_kind ob_due ob_came ob_open ob_kinds), (ce_i600 y ob_debtor fob_debtor), (ce_i600 y ob_creditor fob_creditor), (ce_i600 y ob_kind fob_kind), (ce_i600 y ob_due fob_due), (ce_i600 y ob_came fob_came)] s.heap.size = A at hD ⊢
  have hA : ∀ q : Nat, s.heap.size ≤ q → A q := fun q h => by rw [← hAe]; exact Or.inr h
  have hS : va_S A s.heap s.heap [] := va_S.rf
  have hP : va_P G vwCl [(ce_X1 ob ob_size ob_debtor ob_creditor ob_kind ob_due ob_came ob_open ob_kinds), (ce_i600 y ob_debtor fob_debtor), (ce_i600 y ob_creditor fob_creditor), (ce_i600 y ob_kind fob_kind), (ce_i600 y ob_due fob_due), (ce_i600 y ob_came fob_came)] s.heap := hP
  have hl := lv_entry ([.ref ob, .int a1, .int a2]) (n := 3) (Nat.le_of_ble_eq_true rfl)
  rw [lg_entry_eq]
  generalize (lg_sl ([.ref ob, .int a1, .int a2]) ++ List.replicate (3 - (lg_sl ([.ref ob, .int a1, .int a2])).length) Slot.unset).toArray = ls at hl ⊢
  have hl : lv_has ls 3 [(0, .ref ob), (1, .int a1), (2, .int a2)] := hl
  refine lv_aload_n hx hb dX1_move_0 rfl (lv_at hl 0 rfl) ?_
  refine va_get (D := G) (ci := 1) (v := .ref ob_debtor) (C := RX1) (T := TX1) (N := 8) hx hb hw0 inA_wsX10 hown hK.1 hP 0 rfl rfl 1 (by decide) (hw0 _ m_308) (fun _ h9 => h9) rfl dX1_move_1 ?_
  refine lv_iload_n hx hb dX1_move_4 rfl (lv_at hl 2 rfl) ?_
  refine lv_aload_n hx hb dX1_move_5 rfl (lv_at hl 0 rfl) ?_
  refine va_get (D := G) (ci := 1) (v := .ref ob_debtor) (C := RX1) (T := TX1) (N := 8) hx hb hw0 inA_wsX10 hown hK.1 hP 0 rfl rfl 1 (by decide) (hw0 _ m_308) (fun _ h9 => h9) rfl dX1_move_6 ?_
  refine lv_iload_n hx hb dX1_move_9 rfl (lv_at hl 1 rfl) ?_
  refine va_iald hx hb hK.1 hP 1 1 rfl rfl (vi p_a1 (by decide)) dX1_move_10 ?_
  refine lv_topi (fun v_1001 ev_1001 => ?_)
  refine va_iast hx hb hK.1 hP hD hS 1 1 rfl rfl (vi p_a2 (by decide)) dX1_move_11 (fun H locs hP hD hS => ?_)
  generalize hf_1002 : (upd fob_debtor (a2 : Int32).toNatClampNeg v_1001) = f_1002 at hP hD
  obtain ⟨hP, hD⟩ : vPD G A H [(ce_X1 ob ob_size ob_debtor ob_creditor ob_kind ob_due ob_came ob_open ob_kinds), (ce_i600 y ob_debtor f_1002), (ce_i600 y ob_creditor fob_creditor), (ce_i600 y ob_kind fob_kind), (ce_i600 y ob_due fob_due), (ce_i600 y ob_came fob_came)] := ⟨hP, hD⟩
  refine lv_aload_n hx hb dX1_move_12 rfl (lv_at hl 0 rfl) ?_
  refine va_get (D := G) (ci := 1) (v := .ref ob_creditor) (C := RX1) (T := TX1) (N := 8) hx hb hw0 inA_wsX10 hown hK.1 hP 0 rfl rfl 2 (by decide) (hw0 _ m_309) (fun _ h9 => h9) rfl dX1_move_13 ?_
  refine lv_iload_n hx hb dX1_move_16 rfl (lv_at hl 2 rfl) ?_
  refine lv_aload_n hx hb dX1_move_17 rfl (lv_at hl 0 rfl) ?_
  refine va_get (D := G) (ci := 1) (v := .ref ob_creditor) (C := RX1) (T := TX1) (N := 8) hx hb hw0 inA_wsX10 hown hK.1 hP 0 rfl rfl 2 (by decide) (hw0 _ m_309) (fun _ h9 => h9) rfl dX1_move_18 ?_
  refine lv_iload_n hx hb dX1_move_21 rfl (lv_at hl 1 rfl) ?_
  refine va_iald hx hb hK.1 hP 2 1 rfl rfl (vi p_a1 (by decide)) dX1_move_22 ?_
  refine lv_topi (fun v_1003 ev_1003 => ?_)
  have bv_1003 : (0 : Int) ≤ v_1003.toInt ∧ v_1003.toInt ≤ 15 := rd_b ev_1003 p_fob_creditor
  refine va_iast hx hb hK.1 hP hD hS 2 1 rfl rfl (vi p_a2 (by decide)) dX1_move_23 (fun H locs hP hD hS => ?_)
  generalize hf_1004 : (upd fob_creditor (a2 : Int32).toNatClampNeg v_1003) = f_1004 at hP hD
  have bf_1004 : ∀ i, (0 : Int) ≤ (f_1004 i).toInt ∧ (f_1004 i).toInt ≤ 15 := hf_1004 ▸ up_b p_fob_creditor bv_1003
  obtain ⟨hP, hD⟩ : vPD G A H [(ce_X1 ob ob_size ob_debtor ob_creditor ob_kind ob_due ob_came ob_open ob_kinds), (ce_i600 y ob_debtor f_1002), (ce_i600 y ob_creditor f_1004), (ce_i600 y ob_kind fob_kind), (ce_i600 y ob_due fob_due), (ce_i600 y ob_came fob_came)] := ⟨hP, hD⟩
  refine lv_aload_n hx hb dX1_move_24 rfl (lv_at hl 0 rfl) ?_
  refine va_get (D := G) (ci := 1) (v := .ref ob_kind) (C := RX1) (T := TX1) (N := 8) hx hb hw0 inA_wsX10 hown hK.1 hP 0 rfl rfl 3 (by decide) (hw0 _ m_310) (fun _ h9 => h9) rfl dX1_move_25 ?_
  refine lv_iload_n hx hb dX1_move_28 rfl (lv_at hl 2 rfl) ?_
  refine lv_aload_n hx hb dX1_move_29 rfl (lv_at hl 0 rfl) ?_
  refine va_get (D := G) (ci := 1) (v := .ref ob_kind) (C := RX1) (T := TX1) (N := 8) hx hb hw0 inA_wsX10 hown hK.1 hP 0 rfl rfl 3 (by decide) (hw0 _ m_310) (fun _ h9 => h9) rfl dX1_move_30 ?_
  refine lv_iload_n hx hb dX1_move_33 rfl (lv_at hl 1 rfl) ?_
  refine va_iald hx hb hK.1 hP 3 1 rfl rfl (vi p_a1 (by decide)) dX1_move_34 ?_
  refine lv_topi (fun v_1005 ev_1005 => ?_)
  refine va_iast hx hb hK.1 hP hD hS 3 1 rfl rfl (vi p_a2 (by decide)) dX1_move_35 (fun H locs hP hD hS => ?_)
  generalize hf_1006 : (upd fob_kind (a2 : Int32).toNatClampNeg v_1005) = f_1006 at hP hD
  obtain ⟨hP, hD⟩ : vPD G A H [(ce_X1 ob ob_size ob_debtor ob_creditor ob_kind ob_due ob_came ob_open ob_kinds), (ce_i600 y ob_debtor f_1002), (ce_i600 y ob_creditor f_1004), (ce_i600 y ob_kind f_1006), (ce_i600 y ob_due fob_due), (ce_i600 y ob_came fob_came)] := ⟨hP, hD⟩
  refine lv_aload_n hx hb dX1_move_36 rfl (lv_at hl 0 rfl) ?_
  refine va_get (D := G) (ci := 1) (v := .ref ob_due) (C := RX1) (T := TX1) (N := 8) hx hb hw0 inA_wsX10 hown hK.1 hP 0 rfl rfl 4 (by decide) (hw0 _ m_311) (fun _ h9 => h9) rfl dX1_move_37 ?_
  refine lv_iload_n hx hb dX1_move_40 rfl (lv_at hl 2 rfl) ?_
  refine lv_aload_n hx hb dX1_move_41 rfl (lv_at hl 0 rfl) ?_
  refine va_get (D := G) (ci := 1) (v := .ref ob_due) (C := RX1) (T := TX1) (N := 8) hx hb hw0 inA_wsX10 hown hK.1 hP 0 rfl rfl 4 (by decide) (hw0 _ m_311) (fun _ h9 => h9) rfl dX1_move_42 ?_
  refine lv_iload_n hx hb dX1_move_45 rfl (lv_at hl 1 rfl) ?_
  refine va_iald hx hb hK.1 hP 4 1 rfl rfl (vi p_a1 (by decide)) dX1_move_46 ?_
  refine lv_topi (fun v_1007 ev_1007 => ?_)
  refine va_iast hx hb hK.1 hP hD hS 4 1 rfl rfl (vi p_a2 (by decide)) dX1_move_47 (fun H locs hP hD hS => ?_)
  generalize hf_1008 : (upd fob_due (a2 : Int32).toNatClampNeg v_1007) = f_1008 at hP hD
  obtain ⟨hP, hD⟩ : vPD G A H [(ce_X1 ob ob_size ob_debtor ob_creditor ob_kind ob_due ob_came ob_open ob_kinds), (ce_i600 y ob_debtor f_1002), (ce_i600 y ob_creditor f_1004), (ce_i600 y ob_kind f_1006), (ce_i600 y ob_due f_1008), (ce_i600 y ob_came fob_came)] := ⟨hP, hD⟩
  refine lv_aload_n hx hb dX1_move_48 rfl (lv_at hl 0 rfl) ?_
  refine va_get (D := G) (ci := 1) (v := .ref ob_came) (C := RX1) (T := TX1) (N := 8) hx hb hw0 inA_wsX10 hown hK.1 hP 0 rfl rfl 5 (by decide) (hw0 _ m_312) (fun _ h9 => h9) rfl dX1_move_49 ?_
  refine lv_iload_n hx hb dX1_move_52 rfl (lv_at hl 2 rfl) ?_
  refine lv_aload_n hx hb dX1_move_53 rfl (lv_at hl 0 rfl) ?_
  refine va_get (D := G) (ci := 1) (v := .ref ob_came) (C := RX1) (T := TX1) (N := 8) hx hb hw0 inA_wsX10 hown hK.1 hP 0 rfl rfl 5 (by decide) (hw0 _ m_312) (fun _ h9 => h9) rfl dX1_move_54 ?_
  refine lv_iload_n hx hb dX1_move_57 rfl (lv_at hl 1 rfl) ?_
  refine va_iald hx hb hK.1 hP 5 1 rfl rfl (vi p_a1 (by decide)) dX1_move_58 ?_
  refine lv_topi (fun v_1009 ev_1009 => ?_)
  refine va_iast hx hb hK.1 hP hD hS 5 1 rfl rfl (vi p_a2 (by decide)) dX1_move_59 (fun H locs hP hD hS => ?_)
  generalize hf_1010 : (upd fob_came (a2 : Int32).toNatClampNeg v_1009) = f_1010 at hP hD
  obtain ⟨hP, hD⟩ : vPD G A H [(ce_X1 ob ob_size ob_debtor ob_creditor ob_kind ob_due ob_came ob_open ob_kinds), (ce_i600 y ob_debtor f_1002), (ce_i600 y ob_creditor f_1004), (ce_i600 y ob_kind f_1006), (ce_i600 y ob_due f_1008), (ce_i600 y ob_came f_1010)] := ⟨hP, hD⟩
  exact W.vret hx hb hr (fun t ht hW => ⟨⟨_, rfl, ⟨f_1002, f_1004, f_1006, f_1008, f_1010, bf_1004, (mv_5 hf_1002 ev_1001 (by omega) (by omega)), (mv_5 hf_1004 ev_1003 (by omega) (by omega)), (mv_5 hf_1006 ev_1005 (by omega) (by omega)), (mv_5 hf_1008 ev_1007 (by omega) (by omega)), (mv_5 hf_1010 ev_1009 (by omega) (by omega)), rfl⟩, by rw [ht]; exact hP, hD⟩, hS.F ht⟩) hS.2.2 dX1_move_60

set_option maxHeartbeats 4000000 in
set_option maxRecDepth 100000 in
theorem gX1_settle (l : Launch) (G : va_G) (y : Nat → ClassId) (sz : Nat) (ob : Nat) (a1 : Int32) (a2 : Int32) (a3 : Int32) (ob_size : Int32) (ob_debtor : Nat) (ob_creditor : Nat) (ob_kind : Nat) (ob_due : Nat) (ob_came : Nat) (ob_open : Nat) (ob_kinds : Nat) (fob_debtor : Nat → Int32) (fob_creditor : Nat → Int32) (fob_kind : Nat → Int32) (fob_due : Nat → Int32) (fob_came : Nat → Int32) (fob_open : Nat → Int32) (fob_kinds : Nat → Int32) (p_ob_size : (0 : Int) ≤ ob_size.toInt ∧ ob_size.toInt ≤ 600) (p_fob_creditor : ∀ i, (0 : Int) ≤ (fob_creditor i).toInt ∧ (fob_creditor i).toInt ≤ 15) (p_a1 : (0 : Int) ≤ a1.toInt ∧ a1.toInt ≤ 15) (p_a2 : (0 : Int) ≤ a2.toInt ∧ a2.toInt ≤ 15) (p_a3 : (0 : Int) ≤ a3.toInt ∧ a3.toInt ≤ 3) : Met l yX1_settle (Cond.code yX1_settle cX1_settle 7 (some .int) :: wAll) ({ frames := 1, cells := 0, slots := 0, locals := 22 }) (va_Pc [.ref ob, .int a1, .int a2, .int a3] (kp G y sz [(ce_X1 ob ob_size ob_debtor ob_creditor ob_kind ob_due ob_came ob_open ob_kinds), (ce_i600 y ob_debtor fob_debtor), (ce_i600 y ob_creditor fob_creditor), (ce_i600 y ob_kind fob_kind), (ce_i600 y ob_due fob_due), (ce_i600 y ob_came fob_came), (ce_i16 y ob_open fob_open), (ce_i256 y ob_kinds fob_kinds)])) (va_Qi (fun (r : Int32) (w : va_W) => (∃ (v_559 : Int32) (v_560 : Int32) (f_561 : Nat → Int32) (f_562 : Nat → Int32) (f_563 : Nat → Int32) (f_564 : Nat → Int32) (f_565 : Nat → Int32) (f_566 : Nat → Int32) (f_567 : Nat → Int32), ((0 : Int) ≤ v_559.toInt ∧ v_559.toInt ≤ 600) ∧ ((0 : Int) ≤ v_560.toInt ∧ v_560.toInt ≤ 600) ∧ (∀ i, (0 : Int) ≤ (f_562 i).toInt ∧ (f_562 i).toInt ≤ 15) ∧ (∀ L, dB ob_size.toInt fob_debtor fob_creditor fob_kind fob_due fob_came fob_open fob_kinds L → (v_559 : Int32).toInt = (L.length : Int) - ((L.filter (kpB a1.toInt a2.toInt a3.toInt)).length : Int) ∧ dB v_560.toInt f_561 f_562 f_563 f_564 f_565 f_566 f_567 (L.filter (kpB a1.toInt a2.toInt a3.toInt))) ∧ r = v_559 ∧ w = [(ce_X1 ob v_560 ob_debtor ob_creditor ob_kind ob_due ob_came ob_open ob_kinds), (ce_i600 y ob_debtor f_561), (ce_i600 y ob_creditor f_562), (ce_i600 y ob_kind f_563), (ce_i600 y ob_due f_564), (ce_i600 y ob_came f_565), (ce_i16 y ob_open f_566), (ce_i256 y ob_kinds f_567)])) (kq G (va_A [(ce_X1 ob ob_size ob_debtor ob_creditor ob_kind ob_due ob_came ob_open ob_kinds), (ce_i600 y ob_debtor fob_debtor), (ce_i600 y ob_creditor fob_creditor), (ce_i600 y ob_kind fob_kind), (ce_i600 y ob_due fob_due), (ce_i600 y ob_came fob_came), (ce_i16 y ob_open fob_open), (ce_i256 y ob_kinds fob_kinds)] sz)) (va_A [(ce_X1 ob ob_size ob_debtor ob_creditor ob_kind ob_due ob_came ob_open ob_kinds), (ce_i600 y ob_debtor fob_debtor), (ce_i600 y ob_creditor fob_creditor), (ce_i600 y ob_kind fob_kind), (ce_i600 y ob_due fob_due), (ce_i600 y ob_came fob_came), (ce_i16 y ob_open fob_open), (ce_i256 y ob_kinds fob_kinds)] sz)) 0 0 (va_A [(ce_X1 ob ob_size ob_debtor ob_creditor ob_kind ob_due ob_came ob_open ob_kinds), (ce_i600 y ob_debtor fob_debtor), (ce_i600 y ob_creditor fob_creditor), (ce_i600 y ob_kind fob_kind), (ce_i600 y ob_due fob_due), (ce_i600 y ob_came fob_came), (ce_i16 y ob_open fob_open), (ce_i256 y ob_kinds fob_kinds)] sz) := by
  refine Met.ofW (cc := cX1_settle) (maxL := 7) (ret := (some .int)) (by decide) rfl ?_
  intro p e s m args below meth c s₁ B hml hv
  obtain ⟨rfl, hsz, hP, hK, hD0⟩ := hv
  have hx := B.exec
  have hb := B.bytes
  have hr := B.returns
  have hw0 : ∀ w ∈ wAll, w.before _ s = true := fun w h => atoms_spec (ws := Cond.code yX1_settle cX1_settle 7 (some .int) :: wAll) B.pre w (List.mem_cons_of_mem _ h)
  have hown : s.vm.findClass RX1 = some m.cls := findClass_of_methodNamed B.named
  subst hsz
  have hD := hD0.self (sz := s.heap.size)
  generalize hAe : va_A [(ce_X1 ob ob_size ob_debtor ob_creditor ob_kind ob_due ob_came ob_open ob_kinds), (ce_i600 y ob_debtor fob_debtor), (ce_i600 y ob_creditor fob_creditor), (ce_i600 y ob_kind fob_kind), (ce_i600 y ob_due fob_due), (ce_i600 y ob_came fob_came), (ce_i16 y ob_open fob_open), (ce_i256 y ob_kinds fob_kinds)] s.heap.size = A at hD ⊢
  have hA : ∀ q : Nat, s.heap.size ≤ q → A q := fun q h => by rw [← hAe]; exact Or.inr h
  have hS : va_S A s.heap s.heap [] := va_S.rf
  have hP : va_P G vwCl [(ce_X1 ob ob_size ob_debtor ob_creditor ob_kind ob_due ob_came ob_open ob_kinds), (ce_i600 y ob_debtor fob_debtor), (ce_i600 y ob_creditor fob_creditor), (ce_i600 y ob_kind fob_kind), (ce_i600 y ob_due fob_due), (ce_i600 y ob_came fob_came), (ce_i16 y ob_open fob_open), (ce_i256 y ob_kinds fob_kinds)] s.heap := hP
  have hl := lv_entry ([.ref ob, .int a1, .int a2, .int a3]) (n := 7) (Nat.le_of_ble_eq_true rfl)
  rw [lg_entry_eq]
  generalize (lg_sl ([.ref ob, .int a1, .int a2, .int a3]) ++ List.replicate (7 - (lg_sl ([.ref ob, .int a1, .int a2, .int a3])).length) Slot.unset).toArray = ls at hl ⊢
  have hl : lv_has ls 7 [(0, .ref ob), (1, .int a1), (2, .int a2), (3, .int a3)] := hl
  refine lv_aload_n hx hb dX1_settle_0 rfl (lv_at hl 0 rfl) ?_
  refine lv_iload_n hx hb dX1_settle_1 rfl (lv_at hl 1 rfl) ?_
  refine lv_iload_n hx hb dX1_settle_2 rfl (lv_at hl 2 rfl) ?_
  refine cVim (As := [.int a1, .int a2]) (rest := []) ⟨hx, hb, hml, hown, hw0⟩ hA hK hP hD hS [true, false, false, false, false, false, false, true] (gX1_kindsOf l G y _ ob a1 a2 ob_size ob_debtor ob_creditor ob_kind ob_due ob_came ob_open ob_kinds fob_kinds p_ob_size p_a1 p_a2) rfl ⟨(callB_of 2 hw0 (gA m_323) rfl rfl rfl (hw0 _ m_330) (hw0 _ m_329) cb_X1_kindsOf ⟨Nat.le_of_ble_eq_true rfl, Nat.le_of_ble_eq_true rfl⟩), (hw0 _ m_331), (hw0 _ m_332)⟩ (ci := 1) (q := (RX1, TX1, 8)) rfl rfl rfl hl.1 (Nat.le_of_ble_eq_true rfl) dX1_settle_3 ⟨Nat.le_of_ble_eq_true rfl, Nat.le_of_ble_eq_true rfl⟩ (fun r_1001 w_1001 H locs hw_1001 hP hD hS => ?_)
  obtain ⟨v_1002, h_1003, er_1001, rfl⟩ := hw_1001
  subst r_1001
  obtain ⟨hP, hD⟩ : vPD G A H [(ce_X1 ob ob_size ob_debtor ob_creditor ob_kind ob_due ob_came ob_open ob_kinds), (ce_i600 y ob_debtor fob_debtor), (ce_i600 y ob_creditor fob_creditor), (ce_i600 y ob_kind fob_kind), (ce_i600 y ob_due fob_due), (ce_i600 y ob_came fob_came), (ce_i16 y ob_open fob_open), (ce_i256 y ob_kinds fob_kinds)] := ⟨hP, hD⟩
  refine lv_iconst (v := 2) hx hb dX1_settle_6 (by decide) ?_
  refine lv_iload_n hx hb dX1_settle_7 rfl (lv_at hl 3 rfl) ?_
  refine lv_ishl hx hb dX1_settle_8 ?_
  refine lv_topi (fun v_1004 ev_1004 => ?_)
  refine lv_iconst (v := 1) hx hb dX1_settle_9 (by decide) ?_
  refine lv_isub hx hb dX1_settle_10 ?_
  refine lv_topi (fun v_1005 ev_1005 => ?_)
  refine lv_iand hx hb dX1_settle_11 ?_
  refine lv_topi (fun v_1006 ev_1006 => ?_)
  refine lv_istore (lv' := [(4, .int v_1006), (0, .ref ob), (1, .int a1), (2, .int a2), (3, .int a3)]) hx hb dX1_settle_12 hl (by decide) rfl (fun ls hl => ?_)
  refine lv_iload hx hb dX1_settle_14 (lv_at hl 0 rfl) ?_
  refine lv_if_ne (tgt := 21) hx hb dX1_settle_16 (by decide) (fun c_1007 => ?_) (fun c_1007 => ?_)
  · skip
    have nc_1007 := nb_ne (-2147483648) (2147483647) c_1007 (btop v_1006) (k := 0) (by decide) (by decide)
    refine lv_iconst (v := 0) hx hb dX1_settle_21 (by decide) ?_
    refine lv_istore (lv' := [(5, .int 0), (4, .int v_1006), (0, .ref ob), (1, .int a1), (2, .int a2), (3, .int a3)]) hx hb dX1_settle_22 hl (by decide) rfl (fun ls hl => ?_)
    refine lv_iconst (v := 0) hx hb dX1_settle_24 (by decide) ?_
    refine lv_istore (lv' := [(6, .int 0), (5, .int 0), (4, .int v_1006), (0, .ref ob), (1, .int a1), (2, .int a2), (3, .int a3)]) hx hb dX1_settle_25 hl (by decide) rfl (fun ls hl => ?_)
    refine loopX (fun n H locs ls st => ∃ (v_1162 : Int32) (v_1163 : Int32) (f_1164 : Nat → Int32) (f_1165 : Nat → Int32) (f_1166 : Nat → Int32) (f_1167 : Nat → Int32) (f_1168 : Nat → Int32), (600 - v_1162.toInt).toNat = n ∧ ((0 : Int) ≤ v_1162.toInt ∧ v_1162.toInt ≤ 600) ∧ ((0 : Int) ≤ v_1163.toInt ∧ v_1163.toInt ≤ 600) ∧ (∀ i, (0 : Int) ≤ (f_1165 i).toInt ∧ (f_1165 i).toInt ≤ 15) ∧ (∀ L, dB ob_size.toInt fob_debtor fob_creditor fob_kind fob_due fob_came fob_open fob_kinds L → stI a1.toInt a2.toInt a3.toInt L f_1164 f_1165 f_1166 f_1167 f_1168 v_1162.toInt v_1163.toInt) ∧ (v_1163.toInt ≤ v_1162.toInt) ∧ (v_1162.toInt ≤ ob_size.toInt) ∧ st = [] ∧ vPD G A H [(ce_X1 ob ob_size ob_debtor ob_creditor ob_kind ob_due ob_came ob_open ob_kinds), (ce_i600 y ob_debtor f_1164), (ce_i600 y ob_creditor f_1165), (ce_i600 y ob_kind f_1166), (ce_i600 y ob_due f_1167), (ce_i600 y ob_came f_1168), (ce_i16 y ob_open fob_open), (ce_i256 y ob_kinds fob_kinds)] ∧ va_S A s.heap H locs ∧ lv_has ls 7 [(6, .int v_1162), (5, .int v_1163), (4, .int v_1006), (0, .ref ob), (1, .int a1), (2, .int a2), (3, .int a3)]) ?_ (n := (600 - (0 : Int32).toInt).toNat) ⟨0, 0, fob_debtor, fob_creditor, fob_kind, fob_due, fob_came, rfl, (bw (0) (600) (bkc (x := 0) (c := 0) (by decide)) (by decide)), (bw (0) (600) (bkc (x := 0) (c := 0) (by decide)) (by decide)), p_fob_creditor, (fun L H => st_0 H.2.1 (by decide) (by decide)), (by have h90 : Int32.toInt 0 = 0 := (by decide); omega), (by have h90 : Int32.toInt 0 = 0 := (by decide); omega), rfl, ⟨hP, hD⟩, hS, lv_sub hl [0, 1, 2, 3, 4, 5, 6] rfl⟩
    rintro n ih_1218 H locs ls st ⟨v_1162, v_1163, f_1164, f_1165, f_1166, f_1167, f_1168, hn_1218, bv_1162, bv_1163, bf_1165, rl1168_0, rl1168_1, rl1168_2, rfl, ⟨hP, hD⟩, hS, hl⟩
    refine lv_iload hx hb dX1_settle_27 (lv_at hl 0 rfl) ?_
    refine lv_aload_n hx hb dX1_settle_29 rfl (lv_at hl 3 rfl) ?_
    refine va_get (D := G) (ci := 1) (v := .int ob_size) (C := RX1) (T := TX1) (N := 8) hx hb hw0 inA_wsX10 hown hK.1 hP 0 rfl rfl 0 (by decide) (hw0 _ m_307) (fun _ h9 => h9) rfl dX1_settle_30 ?_
    refine lv_icmp_ge (tgt := 86) hx hb dX1_settle_33 (by decide) (fun c_1219 => ?_) (fun c_1219 => ?_)
    · skip
      have nc_1219 := nb_le (600) (0) c_1219 p_ob_size bv_1162 (by decide)
      refine lv_aload_n hx hb dX1_settle_86 rfl (lv_at hl 3 rfl) ?_
      refine va_get (D := G) (ci := 1) (v := .int ob_size) (C := RX1) (T := TX1) (N := 8) hx hb hw0 inA_wsX10 hown hK.1 hP 0 rfl rfl 0 (by decide) (hw0 _ m_307) (fun _ h9 => h9) rfl dX1_settle_87 ?_
      refine lv_iload hx hb dX1_settle_90 (lv_at hl 1 rfl) ?_
      refine lv_isub hx hb dX1_settle_92 ?_
      refine lv_topi (fun v_1220 ev_1220 => ?_)
      have qv_1220 := ba_sub ev_1220 nc_1219.1 bv_1163 (by decide)
      have bv_1220 : (-600 : Int) ≤ v_1220.toInt ∧ v_1220.toInt ≤ 600 := bq_sub qv_1220 nc_1219.1 bv_1163 _ _ (by decide)
      have h_1221 : (0 : Int) ≤ v_1220.toInt ∧ v_1220.toInt ≤ 600 := by omega
      refine lv_istore (lv' := [(6, .int v_1220), (5, .int v_1163), (4, .int v_1006), (0, .ref ob), (1, .int a1), (2, .int a2), (3, .int a3)]) hx hb dX1_settle_93 hl (by decide) rfl (fun ls hl => ?_)
      refine lv_aload_n hx hb dX1_settle_95 rfl (lv_at hl 3 rfl) ?_
      refine lv_iload hx hb dX1_settle_96 (lv_at hl 1 rfl) ?_
      refine va_put (D := G) (ci := 1) (v := .int v_1163) (ty := .int) (C := RX1) (T := TX1) (N := 8) hx hb hw0 inA_wsX10 tyX1 tyX1_ok nmX1 hown hK.1 hP hD hS 0 rfl rfl 0 (by decide) (hw0 _ m_307) (fun _ h9 => h9) rfl fd_X1_0 rfl rfl (Nat.le_of_ble_eq_true rfl) dX1_settle_98 (fun H locs hP hD hS => ?_)
      obtain ⟨hP, hD⟩ : vPD G A H [(ce_X1 ob v_1163 ob_debtor ob_creditor ob_kind ob_due ob_came ob_open ob_kinds), (ce_i600 y ob_debtor f_1164), (ce_i600 y ob_creditor f_1165), (ce_i600 y ob_kind f_1166), (ce_i600 y ob_due f_1167), (ce_i600 y ob_came f_1168), (ce_i16 y ob_open fob_open), (ce_i256 y ob_kinds fob_kinds)] := ⟨hP, hD⟩
      refine lv_aload_n hx hb dX1_settle_101 rfl (lv_at hl 3 rfl) ?_
      refine va_get (D := G) (ci := 1) (v := .ref ob_open) (C := RX1) (T := TX1) (N := 8) hx hb hw0 inA_wsX10 hown hK.1 hP 0 rfl rfl 6 (by decide) (hw0 _ m_313) (fun _ h9 => h9) rfl dX1_settle_102 ?_
      refine lv_iload_n hx hb dX1_settle_105 rfl (lv_at hl 4 rfl) ?_
      refine lv_dup2_11 hx hb dX1_settle_106 rfl rfl ?_
      refine va_iald hx hb hK.1 hP 6 1 rfl rfl (vi p_a1 (by decide)) dX1_settle_107 ?_
      refine lv_topi (fun v_1222 ev_1222 => ?_)
      have lbv_1222 := ld_n ev_1222 (by omega)
      refine lv_iload hx hb dX1_settle_108 (lv_at hl 0 rfl) ?_
      refine lv_isub hx hb dX1_settle_110 ?_
      refine lv_topi (fun v_1223 ev_1223 => ?_)
      refine va_iast hx hb hK.1 hP hD hS 6 1 rfl rfl (vi p_a1 (by decide)) dX1_settle_111 (fun H locs hP hD hS => ?_)
      generalize hf_1224 : (upd fob_open (a1 : Int32).toNatClampNeg v_1223) = f_1224 at hP hD
      obtain ⟨hP, hD⟩ : vPD G A H [(ce_X1 ob v_1163 ob_debtor ob_creditor ob_kind ob_due ob_came ob_open ob_kinds), (ce_i600 y ob_debtor f_1164), (ce_i600 y ob_creditor f_1165), (ce_i600 y ob_kind f_1166), (ce_i600 y ob_due f_1167), (ce_i600 y ob_came f_1168), (ce_i16 y ob_open f_1224), (ce_i256 y ob_kinds fob_kinds)] := ⟨hP, hD⟩
      refine lv_aload_n hx hb dX1_settle_112 rfl (lv_at hl 3 rfl) ?_
      refine va_get (D := G) (ci := 1) (v := .ref ob_kinds) (C := RX1) (T := TX1) (N := 8) hx hb hw0 inA_wsX10 hown hK.1 hP 0 rfl rfl 7 (by decide) (hw0 _ m_314) (fun _ h9 => h9) rfl dX1_settle_113 ?_
      refine lv_iload_n hx hb dX1_settle_116 rfl (lv_at hl 4 rfl) ?_
      refine lv_bipush (v := 16) hx hb dX1_settle_117 (by decide) ?_
      refine lv_imul hx hb dX1_settle_119 ?_
      refine lv_topi (fun v_1225 ev_1225 => ?_)
      have qv_1225 := ba_mul 16 ev_1225 p_a1 (by decide) (by decide) (by decide)
      have bv_1225 : (0 : Int) ≤ v_1225.toInt ∧ v_1225.toInt ≤ 240 := qv_1225.2
      refine lv_iload_n hx hb dX1_settle_120 rfl (lv_at hl 5 rfl) ?_
      refine lv_iadd hx hb dX1_settle_121 ?_
      refine lv_topi (fun v_1226 ev_1226 => ?_)
      have qv_1226 := ba_add ev_1226 bv_1225 p_a2 (by decide)
      have bv_1226 : (0 : Int) ≤ v_1226.toInt ∧ v_1226.toInt ≤ 255 := bq_add qv_1226 bv_1225 p_a2 _ _ (by decide)
      refine lv_dup2_11 hx hb dX1_settle_122 rfl rfl ?_
      refine va_iald hx hb hK.1 hP 7 1 rfl rfl (vi bv_1226 (by decide)) dX1_settle_123 ?_
      refine lv_topi (fun v_1227 ev_1227 => ?_)
      have lbv_1227 := ld_n ev_1227 (by omega)
      refine lv_iload hx hb dX1_settle_124 (lv_at hl 2 rfl) ?_
      refine lv_iconst (v := (-1)) hx hb dX1_settle_126 (by decide) ?_
      refine lv_ixor hx hb dX1_settle_127 ?_
      refine lv_topi (fun v_1228 ev_1228 => ?_)
      refine lv_iand hx hb dX1_settle_128 ?_
      refine lv_topi (fun v_1229 ev_1229 => ?_)
      refine va_iast hx hb hK.1 hP hD hS 7 1 rfl rfl (vi bv_1226 (by decide)) dX1_settle_129 (fun H locs hP hD hS => ?_)
      generalize hf_1230 : (upd fob_kinds (v_1226 : Int32).toNatClampNeg v_1229) = f_1230 at hP hD
      obtain ⟨hP, hD⟩ : vPD G A H [(ce_X1 ob v_1163 ob_debtor ob_creditor ob_kind ob_due ob_came ob_open ob_kinds), (ce_i600 y ob_debtor f_1164), (ce_i600 y ob_creditor f_1165), (ce_i600 y ob_kind f_1166), (ce_i600 y ob_due f_1167), (ce_i600 y ob_came f_1168), (ce_i16 y ob_open f_1224), (ce_i256 y ob_kinds f_1230)] := ⟨hP, hD⟩
      refine lv_iload hx hb dX1_settle_130 (lv_at hl 0 rfl) ?_
      exact W.iret (v := v_1220) hx hb hr (fun t ht hW => ⟨⟨v_1220, _, rfl, ⟨v_1220, v_1163, f_1164, f_1165, f_1166, f_1167, f_1168, f_1224, f_1230, h_1221, bv_1163, bf_1165, (by have lm1 : Int32.toInt (-1) = -1 := (by decide); have l91 : Int32.toInt 1 = 1 := (by decide); have l92 : Int32.toInt 2 = 2 := (by decide); have l93 : Int32.toInt 3 = 3 := (by decide); intro L H; exact st_x (x := v_1226.toNatClampNeg) H (rl1168_0 L H) (by omega) ⟨by omega, by omega⟩ ⟨by omega, by omega⟩ rfl (by have h9 := cl_to (x := v_1226) (by omega); omega) (h_1003.trans (by rw [show (16 * a1.toInt + a2.toInt).toNat = v_1226.toNatClampNeg from (by have h9 := cl_to (x := v_1226) (by omega); omega)])) ev_1006 (st_m ev_1004 ev_1005 p_a3) rfl ev_1227 ev_1228 ev_1229 (by omega) ev_1222 ev_1223 hf_1224 hf_1230 (by omega)), rfl, rfl⟩, by rw [ht]; exact hP, hD⟩, hS.F ht⟩) hS.2.2 dX1_settle_132
    · skip
      have nc_1219 := nb_nle (599) (1) c_1219 bv_1162 p_ob_size (by decide)
      refine lv_aload_n hx hb dX1_settle_36 rfl (lv_at hl 3 rfl) ?_
      refine va_get (D := G) (ci := 1) (v := .ref ob_debtor) (C := RX1) (T := TX1) (N := 8) hx hb hw0 inA_wsX10 hown hK.1 hP 0 rfl rfl 1 (by decide) (hw0 _ m_308) (fun _ h9 => h9) rfl dX1_settle_37 ?_
      refine lv_iload hx hb dX1_settle_40 (lv_at hl 0 rfl) ?_
      refine va_iald hx hb hK.1 hP 1 1 rfl rfl (vi nc_1219.1 (by decide)) dX1_settle_42 ?_
      refine lv_topi (fun v_1231 ev_1231 => ?_)
      have lbv_1231 := ld_n ev_1231 (by omega)
      refine lv_iload_n hx hb dX1_settle_43 rfl (lv_at hl 4 rfl) ?_
      refine lv_icmp_ne (tgt := 69) hx hb dX1_settle_44 (by decide) (fun c_1232 => ?_) (fun c_1232 => ?_)
      · skip
        have nc_1232 : v_1231.toInt ≠ a1.toInt := fun h9 => c_1232 (Int32.toInt_inj.mp h9)
        have h_1233 : (0 : Int) ≤ v_1163.toInt ∧ v_1163.toInt ≤ 599 := by omega
        refine lv_aload_n hx hb dX1_settle_69 rfl (lv_at hl 3 rfl) ?_
        refine lv_iload hx hb dX1_settle_70 (lv_at hl 0 rfl) ?_
        refine lv_iload hx hb dX1_settle_72 (lv_at hl 1 rfl) ?_
        refine cVvm (As := [.int v_1162, .int v_1163]) (rest := []) ⟨hx, hb, hml, hown, hw0⟩ hA hK hP hD hS [true, true, true, true, true, true] (gX1_move l G y _ ob v_1162 v_1163 ob_size ob_debtor ob_creditor ob_kind ob_due ob_came ob_open ob_kinds f_1164 f_1165 f_1166 f_1167 f_1168 (bw (0) (600) nc_1219.2.1 (by decide)) bf_1165 nc_1219.1 h_1233) rfl ⟨(callB_of 2 hw0 (gA m_324) rfl rfl rfl (hw0 _ m_330) (hw0 _ m_333) cb_X1_move ⟨Nat.le_of_ble_eq_true rfl, Nat.le_of_ble_eq_true rfl⟩), (hw0 _ m_334), (hw0 _ m_335)⟩ (ci := 1) (q := (RX1, TX1, 8)) rfl rfl rfl hl.1 (Nat.le_of_ble_eq_true rfl) dX1_settle_74 ⟨Nat.le_of_ble_eq_true rfl, Nat.le_of_ble_eq_true rfl⟩ (fun w_1234 H locs hw_1234 hP hD hS => ?_)
        obtain ⟨f_1235, f_1236, f_1237, f_1238, f_1239, bf_1236, h_1240, h_1241, h_1242, h_1243, h_1244, rfl⟩ := hw_1234
        obtain ⟨hP, hD⟩ : vPD G A H [(ce_X1 ob ob_size ob_debtor ob_creditor ob_kind ob_due ob_came ob_open ob_kinds), (ce_i600 y ob_debtor f_1235), (ce_i600 y ob_creditor f_1236), (ce_i600 y ob_kind f_1237), (ce_i600 y ob_due f_1238), (ce_i600 y ob_came f_1239), (ce_i16 y ob_open fob_open), (ce_i256 y ob_kinds fob_kinds)] := ⟨hP, hD⟩
        obtain ⟨v_1245, ev_1245⟩ : ∃ z : Int32, z = v_1163 + 1 := ⟨_, rfl⟩
        have qv_1245 := ba_add ev_1245 h_1233 (bkc (x := 1) (c := 1) (by decide)) (by decide)
        have bv_1245 : (1 : Int) ≤ v_1245.toInt ∧ v_1245.toInt ≤ 600 := bq_add qv_1245 h_1233 (bkc (x := 1) (c := 1) (by decide)) _ _ (by decide)
        have qv_1245 : v_1245.toInt = v_1163.toInt + (1) := qv_1245
        refine lv_iinc (v := v_1245) (lv' := [(5, .int v_1245), (6, .int v_1162), (4, .int v_1006), (0, .ref ob), (1, .int a1), (2, .int a2), (3, .int a3)]) hx hb dX1_settle_77 hl (k := 1) rfl (ev_1245.symm) (by decide) rfl (fun ls hl => ?_)
        obtain ⟨v_1246, ev_1246⟩ : ∃ z : Int32, z = v_1162 + 1 := ⟨_, rfl⟩
        have qv_1246 := ba_add ev_1246 nc_1219.1 (bkc (x := 1) (c := 1) (by decide)) (by decide)
        have bv_1246 : (1 : Int) ≤ v_1246.toInt ∧ v_1246.toInt ≤ 600 := bq_add qv_1246 nc_1219.1 (bkc (x := 1) (c := 1) (by decide)) _ _ (by decide)
        have qv_1246 : v_1246.toInt = v_1162.toInt + (1) := qv_1246
        refine lv_iinc (v := v_1246) (lv' := [(6, .int v_1246), (5, .int v_1245), (4, .int v_1006), (0, .ref ob), (1, .int a1), (2, .int a2), (3, .int a3)]) hx hb dX1_settle_80 hl (k := 1) rfl (ev_1246.symm) (by decide) rfl (fun ls hl => ?_)
        refine lv_goto (tgt := 27) hx hb dX1_settle_83 (by decide) ?_
        exact ih_1218 _ (ml_inc (hi := 600) hn_1218 qv_1246 (by decide) ((bw (0) (600) bv_1246 (by decide))).2) _ _ _ _ ⟨v_1246, v_1245, f_1235, f_1236, f_1237, f_1238, f_1239, rfl, (bw (0) (600) bv_1246 (by decide)), (bw (0) (600) bv_1245 (by decide)), bf_1236, (fun L H => st_k (rl1168_0 L H) (by have h9 := H.1; omega) (by omega) h_1240 h_1241 h_1242 h_1243 h_1244 (by omega) (by omega)), (by omega), (by omega), rfl, ⟨hP, hD⟩, hS, lv_sub hl [0, 1, 2, 3, 4, 5, 6] rfl⟩
      · skip
        have nc_1232 := nb_eq (0) (15) c_1232 (btop v_1231) p_a1 (by decide)
        refine lv_aload_n hx hb dX1_settle_47 rfl (lv_at hl 3 rfl) ?_
        refine va_get (D := G) (ci := 1) (v := .ref ob_creditor) (C := RX1) (T := TX1) (N := 8) hx hb hw0 inA_wsX10 hown hK.1 hP 0 rfl rfl 2 (by decide) (hw0 _ m_309) (fun _ h9 => h9) rfl dX1_settle_48 ?_
        refine lv_iload hx hb dX1_settle_51 (lv_at hl 0 rfl) ?_
        refine va_iald hx hb hK.1 hP 2 1 rfl rfl (vi nc_1219.1 (by decide)) dX1_settle_53 ?_
        refine lv_topi (fun v_1247 ev_1247 => ?_)
        have bv_1247 : (0 : Int) ≤ v_1247.toInt ∧ v_1247.toInt ≤ 15 := rd_b ev_1247 bf_1165
        have lbv_1247 := ld_n ev_1247 (by omega)
        refine lv_iload_n hx hb dX1_settle_54 rfl (lv_at hl 5 rfl) ?_
        refine lv_icmp_ne (tgt := 69) hx hb dX1_settle_55 (by decide) (fun c_1248 => ?_) (fun c_1248 => ?_)
        · skip
          have nc_1248 : v_1247.toInt ≠ a2.toInt := fun h9 => c_1248 (Int32.toInt_inj.mp h9)
          have h_1249 : (0 : Int) ≤ v_1163.toInt ∧ v_1163.toInt ≤ 599 := by omega
          refine lv_aload_n hx hb dX1_settle_69 rfl (lv_at hl 3 rfl) ?_
          refine lv_iload hx hb dX1_settle_70 (lv_at hl 0 rfl) ?_
          refine lv_iload hx hb dX1_settle_72 (lv_at hl 1 rfl) ?_
          refine cVvm (As := [.int v_1162, .int v_1163]) (rest := []) ⟨hx, hb, hml, hown, hw0⟩ hA hK hP hD hS [true, true, true, true, true, true] (gX1_move l G y _ ob v_1162 v_1163 ob_size ob_debtor ob_creditor ob_kind ob_due ob_came ob_open ob_kinds f_1164 f_1165 f_1166 f_1167 f_1168 (bw (0) (600) nc_1219.2.1 (by decide)) bf_1165 nc_1219.1 h_1249) rfl ⟨(callB_of 2 hw0 (gA m_324) rfl rfl rfl (hw0 _ m_330) (hw0 _ m_333) cb_X1_move ⟨Nat.le_of_ble_eq_true rfl, Nat.le_of_ble_eq_true rfl⟩), (hw0 _ m_334), (hw0 _ m_335)⟩ (ci := 1) (q := (RX1, TX1, 8)) rfl rfl rfl hl.1 (Nat.le_of_ble_eq_true rfl) dX1_settle_74 ⟨Nat.le_of_ble_eq_true rfl, Nat.le_of_ble_eq_true rfl⟩ (fun w_1250 H locs hw_1250 hP hD hS => ?_)
          obtain ⟨f_1251, f_1252, f_1253, f_1254, f_1255, bf_1252, h_1256, h_1257, h_1258, h_1259, h_1260, rfl⟩ := hw_1250
          obtain ⟨hP, hD⟩ : vPD G A H [(ce_X1 ob ob_size ob_debtor ob_creditor ob_kind ob_due ob_came ob_open ob_kinds), (ce_i600 y ob_debtor f_1251), (ce_i600 y ob_creditor f_1252), (ce_i600 y ob_kind f_1253), (ce_i600 y ob_due f_1254), (ce_i600 y ob_came f_1255), (ce_i16 y ob_open fob_open), (ce_i256 y ob_kinds fob_kinds)] := ⟨hP, hD⟩
          obtain ⟨v_1261, ev_1261⟩ : ∃ z : Int32, z = v_1163 + 1 := ⟨_, rfl⟩
          have qv_1261 := ba_add ev_1261 h_1249 (bkc (x := 1) (c := 1) (by decide)) (by decide)
          have bv_1261 : (1 : Int) ≤ v_1261.toInt ∧ v_1261.toInt ≤ 600 := bq_add qv_1261 h_1249 (bkc (x := 1) (c := 1) (by decide)) _ _ (by decide)
          have qv_1261 : v_1261.toInt = v_1163.toInt + (1) := qv_1261
          refine lv_iinc (v := v_1261) (lv' := [(5, .int v_1261), (6, .int v_1162), (4, .int v_1006), (0, .ref ob), (1, .int a1), (2, .int a2), (3, .int a3)]) hx hb dX1_settle_77 hl (k := 1) rfl (ev_1261.symm) (by decide) rfl (fun ls hl => ?_)
          obtain ⟨v_1262, ev_1262⟩ : ∃ z : Int32, z = v_1162 + 1 := ⟨_, rfl⟩
          have qv_1262 := ba_add ev_1262 nc_1219.1 (bkc (x := 1) (c := 1) (by decide)) (by decide)
          have bv_1262 : (1 : Int) ≤ v_1262.toInt ∧ v_1262.toInt ≤ 600 := bq_add qv_1262 nc_1219.1 (bkc (x := 1) (c := 1) (by decide)) _ _ (by decide)
          have qv_1262 : v_1262.toInt = v_1162.toInt + (1) := qv_1262
          refine lv_iinc (v := v_1262) (lv' := [(6, .int v_1262), (5, .int v_1261), (4, .int v_1006), (0, .ref ob), (1, .int a1), (2, .int a2), (3, .int a3)]) hx hb dX1_settle_80 hl (k := 1) rfl (ev_1262.symm) (by decide) rfl (fun ls hl => ?_)
          refine lv_goto (tgt := 27) hx hb dX1_settle_83 (by decide) ?_
          exact ih_1218 _ (ml_inc (hi := 600) hn_1218 qv_1262 (by decide) ((bw (0) (600) bv_1262 (by decide))).2) _ _ _ _ ⟨v_1262, v_1261, f_1251, f_1252, f_1253, f_1254, f_1255, rfl, (bw (0) (600) bv_1262 (by decide)), (bw (0) (600) bv_1261 (by decide)), bf_1252, (fun L H => st_k (rl1168_0 L H) (by have h9 := H.1; omega) (by omega) h_1256 h_1257 h_1258 h_1259 h_1260 (by omega) (by omega)), (by omega), (by omega), rfl, ⟨hP, hD⟩, hS, lv_sub hl [0, 1, 2, 3, 4, 5, 6] rfl⟩
        · skip
          have nc_1248 := nb_eq (0) (15) c_1248 bv_1247 p_a2 (by decide)
          refine lv_aload_n hx hb dX1_settle_58 rfl (lv_at hl 3 rfl) ?_
          refine va_get (D := G) (ci := 1) (v := .ref ob_kind) (C := RX1) (T := TX1) (N := 8) hx hb hw0 inA_wsX10 hown hK.1 hP 0 rfl rfl 3 (by decide) (hw0 _ m_310) (fun _ h9 => h9) rfl dX1_settle_59 ?_
          refine lv_iload hx hb dX1_settle_62 (lv_at hl 0 rfl) ?_
          refine va_iald hx hb hK.1 hP 3 1 rfl rfl (vi nc_1219.1 (by decide)) dX1_settle_64 ?_
          refine lv_topi (fun v_1263 ev_1263 => ?_)
          have lbv_1263 := ld_n ev_1263 (by omega)
          refine lv_iload_n hx hb dX1_settle_65 rfl (lv_at hl 6 rfl) ?_
          refine lv_icmp_le (tgt := 80) hx hb dX1_settle_66 (by decide) (fun c_1264 => ?_) (fun c_1264 => ?_)
          · skip
            have nc_1264 := nb_le (3) (0) c_1264 (btop v_1263) p_a3 (by decide)
            obtain ⟨v_1265, ev_1265⟩ : ∃ z : Int32, z = v_1162 + 1 := ⟨_, rfl⟩
            have qv_1265 := ba_add ev_1265 nc_1219.1 (bkc (x := 1) (c := 1) (by decide)) (by decide)
            have bv_1265 : (1 : Int) ≤ v_1265.toInt ∧ v_1265.toInt ≤ 600 := bq_add qv_1265 nc_1219.1 (bkc (x := 1) (c := 1) (by decide)) _ _ (by decide)
            have qv_1265 : v_1265.toInt = v_1162.toInt + (1) := qv_1265
            refine lv_iinc (v := v_1265) (lv' := [(6, .int v_1265), (5, .int v_1163), (4, .int v_1006), (0, .ref ob), (1, .int a1), (2, .int a2), (3, .int a3)]) hx hb dX1_settle_80 hl (k := 0) rfl (ev_1265.symm) (by decide) rfl (fun ls hl => ?_)
            refine lv_goto (tgt := 27) hx hb dX1_settle_83 (by decide) ?_
            exact ih_1218 _ (ml_inc (hi := 600) hn_1218 qv_1265 (by decide) ((bw (0) (600) bv_1265 (by decide))).2) _ _ _ _ ⟨v_1265, v_1163, f_1164, f_1165, f_1166, f_1167, f_1168, rfl, (bw (0) (600) bv_1265 (by decide)), bv_1163, bf_1165, (fun L H => st_d (rl1168_0 L H) (by have h9 := H.1; omega) ⟨by omega, by omega, by omega⟩ (by omega) (by omega)), (by omega), (by omega), rfl, ⟨hP, hD⟩, hS, lv_sub hl [0, 1, 2, 3, 4, 5, 6] rfl⟩
          · skip
            have nc_1264 := nb_nle (3) (1) c_1264 p_a3 (btop v_1263) (by decide)
            have h_1266 : (0 : Int) ≤ v_1163.toInt ∧ v_1163.toInt ≤ 599 := by omega
            refine lv_aload_n hx hb dX1_settle_69 rfl (lv_at hl 3 rfl) ?_
            refine lv_iload hx hb dX1_settle_70 (lv_at hl 0 rfl) ?_
            refine lv_iload hx hb dX1_settle_72 (lv_at hl 1 rfl) ?_
            refine cVvm (As := [.int v_1162, .int v_1163]) (rest := []) ⟨hx, hb, hml, hown, hw0⟩ hA hK hP hD hS [true, true, true, true, true, true] (gX1_move l G y _ ob v_1162 v_1163 ob_size ob_debtor ob_creditor ob_kind ob_due ob_came ob_open ob_kinds f_1164 f_1165 f_1166 f_1167 f_1168 (bw (0) (600) nc_1219.2.1 (by decide)) bf_1165 nc_1219.1 h_1266) rfl ⟨(callB_of 2 hw0 (gA m_324) rfl rfl rfl (hw0 _ m_330) (hw0 _ m_333) cb_X1_move ⟨Nat.le_of_ble_eq_true rfl, Nat.le_of_ble_eq_true rfl⟩), (hw0 _ m_334), (hw0 _ m_335)⟩ (ci := 1) (q := (RX1, TX1, 8)) rfl rfl rfl hl.1 (Nat.le_of_ble_eq_true rfl) dX1_settle_74 ⟨Nat.le_of_ble_eq_true rfl, Nat.le_of_ble_eq_true rfl⟩ (fun w_1267 H locs hw_1267 hP hD hS => ?_)
            obtain ⟨f_1268, f_1269, f_1270, f_1271, f_1272, bf_1269, h_1273, h_1274, h_1275, h_1276, h_1277, rfl⟩ := hw_1267
            obtain ⟨hP, hD⟩ : vPD G A H [(ce_X1 ob ob_size ob_debtor ob_creditor ob_kind ob_due ob_came ob_open ob_kinds), (ce_i600 y ob_debtor f_1268), (ce_i600 y ob_creditor f_1269), (ce_i600 y ob_kind f_1270), (ce_i600 y ob_due f_1271), (ce_i600 y ob_came f_1272), (ce_i16 y ob_open fob_open), (ce_i256 y ob_kinds fob_kinds)] := ⟨hP, hD⟩
            obtain ⟨v_1278, ev_1278⟩ : ∃ z : Int32, z = v_1163 + 1 := ⟨_, rfl⟩
            have qv_1278 := ba_add ev_1278 h_1266 (bkc (x := 1) (c := 1) (by decide)) (by decide)
            have bv_1278 : (1 : Int) ≤ v_1278.toInt ∧ v_1278.toInt ≤ 600 := bq_add qv_1278 h_1266 (bkc (x := 1) (c := 1) (by decide)) _ _ (by decide)
            have qv_1278 : v_1278.toInt = v_1163.toInt + (1) := qv_1278
            refine lv_iinc (v := v_1278) (lv' := [(5, .int v_1278), (6, .int v_1162), (4, .int v_1006), (0, .ref ob), (1, .int a1), (2, .int a2), (3, .int a3)]) hx hb dX1_settle_77 hl (k := 1) rfl (ev_1278.symm) (by decide) rfl (fun ls hl => ?_)
            obtain ⟨v_1279, ev_1279⟩ : ∃ z : Int32, z = v_1162 + 1 := ⟨_, rfl⟩
            have qv_1279 := ba_add ev_1279 nc_1219.1 (bkc (x := 1) (c := 1) (by decide)) (by decide)
            have bv_1279 : (1 : Int) ≤ v_1279.toInt ∧ v_1279.toInt ≤ 600 := bq_add qv_1279 nc_1219.1 (bkc (x := 1) (c := 1) (by decide)) _ _ (by decide)
            have qv_1279 : v_1279.toInt = v_1162.toInt + (1) := qv_1279
            refine lv_iinc (v := v_1279) (lv' := [(6, .int v_1279), (5, .int v_1278), (4, .int v_1006), (0, .ref ob), (1, .int a1), (2, .int a2), (3, .int a3)]) hx hb dX1_settle_80 hl (k := 1) rfl (ev_1279.symm) (by decide) rfl (fun ls hl => ?_)
            refine lv_goto (tgt := 27) hx hb dX1_settle_83 (by decide) ?_
            exact ih_1218 _ (ml_inc (hi := 600) hn_1218 qv_1279 (by decide) ((bw (0) (600) bv_1279 (by decide))).2) _ _ _ _ ⟨v_1279, v_1278, f_1268, f_1269, f_1270, f_1271, f_1272, rfl, (bw (0) (600) bv_1279 (by decide)), (bw (0) (600) bv_1278 (by decide)), bf_1269, (fun L H => st_k (rl1168_0 L H) (by have h9 := H.1; omega) (by omega) h_1273 h_1274 h_1275 h_1276 h_1277 (by omega) (by omega)), (by omega), (by omega), rfl, ⟨hP, hD⟩, hS, lv_sub hl [0, 1, 2, 3, 4, 5, 6] rfl⟩
  · skip
    have nc_1007 := nb_eq (0) (0) c_1007 (btop v_1006) (bkc (x := 0) (c := 0) (by decide)) (by decide)
    refine lv_iconst (v := 0) hx hb dX1_settle_19 (by decide) ?_
    exact W.iret (v := 0) hx hb hr (fun t ht hW => ⟨⟨0, _, rfl, ⟨0, ob_size, fob_debtor, fob_creditor, fob_kind, fob_due, fob_came, fob_open, fob_kinds, (bw (0) (600) (bkc (x := 0) (c := 0) (by decide)) (by decide)), p_ob_size, p_fob_creditor, (by have lm1 : Int32.toInt (-1) = -1 := (by decide); have l91 : Int32.toInt 1 = 1 := (by decide); have l92 : Int32.toInt 2 = 2 := (by decide); have l93 : Int32.toInt 3 = 3 := (by decide); have h90 : Int32.toInt 0 = 0 := (by decide); intro L H; rw [st_n (x := (16 * a1.toInt + a2.toInt).toNat) H ⟨by omega, by omega⟩ ⟨by omega, by omega⟩ (by omega) h_1003 ev_1006 (st_m ev_1004 ev_1005 p_a3) rfl (by omega)]; exact ⟨by omega, H⟩), rfl, rfl⟩, by rw [ht]; exact hP, hD⟩, hS.F ht⟩) hS.2.2 dX1_settle_20

set_option maxHeartbeats 4000000 in
set_option maxRecDepth 100000 in
theorem gX1_add (l : Launch) (G : va_G) (y : Nat → ClassId) (sz : Nat) (ob : Nat) (a1 : Int32) (a2 : Int32) (a3 : Int32) (a4 : Int32) (a5 : Int32) (ob_size : Int32) (ob_debtor : Nat) (ob_creditor : Nat) (ob_kind : Nat) (ob_due : Nat) (ob_came : Nat) (ob_open : Nat) (ob_kinds : Nat) (fob_debtor : Nat → Int32) (fob_creditor : Nat → Int32) (fob_kind : Nat → Int32) (fob_due : Nat → Int32) (fob_came : Nat → Int32) (fob_open : Nat → Int32) (fob_kinds : Nat → Int32) (p_ob_size : (0 : Int) ≤ ob_size.toInt ∧ ob_size.toInt ≤ 600) (p_fob_creditor : ∀ i, (0 : Int) ≤ (fob_creditor i).toInt ∧ (fob_creditor i).toInt ≤ 15) (p_a1 : (0 : Int) ≤ a1.toInt ∧ a1.toInt ≤ 15) (p_a2 : (0 : Int) ≤ a2.toInt ∧ a2.toInt ≤ 15) (p_a3 : (0 : Int) ≤ a3.toInt ∧ a3.toInt ≤ 3) : Met l yX1_add (Cond.code yX1_add cX1_add 6 none :: wAll) ({ frames := 0, cells := 0, slots := 0, locals := 0 }) (va_Pc [.ref ob, .int a1, .int a2, .int a3, .int a4, .int a5] (kp G y sz [(ce_X1 ob ob_size ob_debtor ob_creditor ob_kind ob_due ob_came ob_open ob_kinds), (ce_i600 y ob_debtor fob_debtor), (ce_i600 y ob_creditor fob_creditor), (ce_i600 y ob_kind fob_kind), (ce_i600 y ob_due fob_due), (ce_i600 y ob_came fob_came), (ce_i16 y ob_open fob_open), (ce_i256 y ob_kinds fob_kinds)])) (va_Qv (fun (w : va_W) => (∃ (v_33 : Int32) (f_34 : Nat → Int32) (f_35 : Nat → Int32) (f_36 : Nat → Int32) (f_37 : Nat → Int32) (f_38 : Nat → Int32) (f_39 : Nat → Int32) (f_40 : Nat → Int32), ((1 : Int) ≤ v_33.toInt ∧ v_33.toInt ≤ 600) ∧ (∀ i, (0 : Int) ≤ (f_35 i).toInt ∧ (f_35 i).toInt ≤ 15) ∧ (∀ L : List D5, (L.length : Int) ≤ 599 → dB ob_size.toInt fob_debtor fob_creditor fob_kind fob_due fob_came fob_open fob_kinds L → dB v_33.toInt f_34 f_35 f_36 f_37 f_38 f_39 f_40 (L ++ [(a1.toInt, a2.toInt, a3.toInt, a4.toInt, a5.toInt)])) ∧ w = [(ce_X1 ob v_33 ob_debtor ob_creditor ob_kind ob_due ob_came ob_open ob_kinds), (ce_i600 y ob_debtor f_34), (ce_i600 y ob_creditor f_35), (ce_i600 y ob_kind f_36), (ce_i600 y ob_due f_37), (ce_i600 y ob_came f_38), (ce_i16 y ob_open f_39), (ce_i256 y ob_kinds f_40)])) (kq G (va_A [(ce_X1 ob ob_size ob_debtor ob_creditor ob_kind ob_due ob_came ob_open ob_kinds), (ce_i600 y ob_debtor fob_debtor), (ce_i600 y ob_creditor fob_creditor), (ce_i600 y ob_kind fob_kind), (ce_i600 y ob_due fob_due), (ce_i600 y ob_came fob_came), (ce_i16 y ob_open fob_open), (ce_i256 y ob_kinds fob_kinds)] sz)) (va_A [(ce_X1 ob ob_size ob_debtor ob_creditor ob_kind ob_due ob_came ob_open ob_kinds), (ce_i600 y ob_debtor fob_debtor), (ce_i600 y ob_creditor fob_creditor), (ce_i600 y ob_kind fob_kind), (ce_i600 y ob_due fob_due), (ce_i600 y ob_came fob_came), (ce_i16 y ob_open fob_open), (ce_i256 y ob_kinds fob_kinds)] sz)) 0 0 (va_A [(ce_X1 ob ob_size ob_debtor ob_creditor ob_kind ob_due ob_came ob_open ob_kinds), (ce_i600 y ob_debtor fob_debtor), (ce_i600 y ob_creditor fob_creditor), (ce_i600 y ob_kind fob_kind), (ce_i600 y ob_due fob_due), (ce_i600 y ob_came fob_came), (ce_i16 y ob_open fob_open), (ce_i256 y ob_kinds fob_kinds)] sz) := by
  refine Met.ofW (cc := cX1_add) (maxL := 6) (ret := none) (by decide) rfl ?_
  intro p e s m args below meth c s₁ B hml hv
  obtain ⟨rfl, hsz, hP, hK, hD0⟩ := hv
  have hx := B.exec
  have hb := B.bytes
  have hr := B.returns
  have hw0 : ∀ w ∈ wAll, w.before _ s = true := fun w h => atoms_spec (ws := Cond.code yX1_add cX1_add 6 none :: wAll) B.pre w (List.mem_cons_of_mem _ h)
  have hown : s.vm.findClass RX1 = some m.cls := findClass_of_methodNamed B.named
  subst hsz
  have hD := hD0.self (sz := s.heap.size)
  generalize hAe : va_A [(ce_X1 ob ob_size ob_debtor ob_creditor ob_kind ob_due ob_came ob_open ob_kinds), (ce_i600 y ob_debtor fob_debtor), (ce_i600 y ob_creditor fob_creditor), (ce_i600 y ob_kind fob_kind), (ce_i600 y ob_due fob_due), (ce_i600 y ob_came fob_came), (ce_i16 y ob_open fob_open), (ce_i256 y ob_kinds fob_kinds)] s.heap.size = A at hD ⊢
  have hA : ∀ q : Nat, s.heap.size ≤ q → A q := fun q h => by rw [← hAe]; exact Or.inr h
  have hS : va_S A s.heap s.heap [] := va_S.rf
  have hP : va_P G vwCl [(ce_X1 ob ob_size ob_debtor ob_creditor ob_kind ob_due ob_came ob_open ob_kinds), (ce_i600 y ob_debtor fob_debtor), (ce_i600 y ob_creditor fob_creditor), (ce_i600 y ob_kind fob_kind), (ce_i600 y ob_due fob_due), (ce_i600 y ob_came fob_came), (ce_i16 y ob_open fob_open), (ce_i256 y ob_kinds fob_kinds)] s.heap := hP
  have hl := lv_entry ([.ref ob, .int a1, .int a2, .int a3, .int a4, .int a5]) (n := 6) (Nat.le_of_ble_eq_true rfl)
  rw [lg_entry_eq]
  generalize (lg_sl ([.ref ob, .int a1, .int a2, .int a3, .int a4, .int a5]) ++ List.replicate (6 - (lg_sl ([.ref ob, .int a1, .int a2, .int a3, .int a4, .int a5])).length) Slot.unset).toArray = ls at hl ⊢
  have hl : lv_has ls 6 [(0, .ref ob), (1, .int a1), (2, .int a2), (3, .int a3), (4, .int a4), (5, .int a5)] := hl
  refine lv_aload_n hx hb dX1_add_0 rfl (lv_at hl 0 rfl) ?_
  refine va_get (D := G) (ci := 1) (v := .int ob_size) (C := RX1) (T := TX1) (N := 8) hx hb hw0 inA_wsX10 hown hK.1 hP 0 rfl rfl 0 (by decide) (hw0 _ m_307) (fun _ h9 => h9) rfl dX1_add_1 ?_
  refine lv_sipush (v := 600) hx hb dX1_add_4 (by decide) ?_
  refine lv_icmp_lt (tgt := 11) hx hb dX1_add_7 (by decide) (fun c_1001 => ?_) (fun c_1001 => ?_)
  · skip
    have nc_1001 := nb_lt (599) (600) c_1001 p_ob_size (bkc (x := 600) (c := 600) (by decide)) (by decide)
    refine lv_aload_n hx hb dX1_add_11 rfl (lv_at hl 0 rfl) ?_
    refine va_get (D := G) (ci := 1) (v := .ref ob_debtor) (C := RX1) (T := TX1) (N := 8) hx hb hw0 inA_wsX10 hown hK.1 hP 0 rfl rfl 1 (by decide) (hw0 _ m_308) (fun _ h9 => h9) rfl dX1_add_12 ?_
    refine lv_aload_n hx hb dX1_add_15 rfl (lv_at hl 0 rfl) ?_
    refine va_get (D := G) (ci := 1) (v := .int ob_size) (C := RX1) (T := TX1) (N := 8) hx hb hw0 inA_wsX10 hown hK.1 hP 0 rfl rfl 0 (by decide) (hw0 _ m_307) (fun _ h9 => h9) rfl dX1_add_16 ?_
    refine lv_iload_n hx hb dX1_add_19 rfl (lv_at hl 1 rfl) ?_
    refine va_iast hx hb hK.1 hP hD hS 1 1 rfl rfl (vi nc_1001.1 (by decide)) dX1_add_20 (fun H locs hP hD hS => ?_)
    generalize hf_1002 : (upd fob_debtor (ob_size : Int32).toNatClampNeg a1) = f_1002 at hP hD
    obtain ⟨hP, hD⟩ : vPD G A H [(ce_X1 ob ob_size ob_debtor ob_creditor ob_kind ob_due ob_came ob_open ob_kinds), (ce_i600 y ob_debtor f_1002), (ce_i600 y ob_creditor fob_creditor), (ce_i600 y ob_kind fob_kind), (ce_i600 y ob_due fob_due), (ce_i600 y ob_came fob_came), (ce_i16 y ob_open fob_open), (ce_i256 y ob_kinds fob_kinds)] := ⟨hP, hD⟩
    refine lv_aload_n hx hb dX1_add_21 rfl (lv_at hl 0 rfl) ?_
    refine va_get (D := G) (ci := 1) (v := .ref ob_creditor) (C := RX1) (T := TX1) (N := 8) hx hb hw0 inA_wsX10 hown hK.1 hP 0 rfl rfl 2 (by decide) (hw0 _ m_309) (fun _ h9 => h9) rfl dX1_add_22 ?_
    refine lv_aload_n hx hb dX1_add_25 rfl (lv_at hl 0 rfl) ?_
    refine va_get (D := G) (ci := 1) (v := .int ob_size) (C := RX1) (T := TX1) (N := 8) hx hb hw0 inA_wsX10 hown hK.1 hP 0 rfl rfl 0 (by decide) (hw0 _ m_307) (fun _ h9 => h9) rfl dX1_add_26 ?_
    refine lv_iload_n hx hb dX1_add_29 rfl (lv_at hl 2 rfl) ?_
    refine va_iast hx hb hK.1 hP hD hS 2 1 rfl rfl (vi nc_1001.1 (by decide)) dX1_add_30 (fun H locs hP hD hS => ?_)
    generalize hf_1003 : (upd fob_creditor (ob_size : Int32).toNatClampNeg a2) = f_1003 at hP hD
    have bf_1003 : ∀ i, (0 : Int) ≤ (f_1003 i).toInt ∧ (f_1003 i).toInt ≤ 15 := hf_1003 ▸ up_b p_fob_creditor p_a2
    obtain ⟨hP, hD⟩ : vPD G A H [(ce_X1 ob ob_size ob_debtor ob_creditor ob_kind ob_due ob_came ob_open ob_kinds), (ce_i600 y ob_debtor f_1002), (ce_i600 y ob_creditor f_1003), (ce_i600 y ob_kind fob_kind), (ce_i600 y ob_due fob_due), (ce_i600 y ob_came fob_came), (ce_i16 y ob_open fob_open), (ce_i256 y ob_kinds fob_kinds)] := ⟨hP, hD⟩
    refine lv_aload_n hx hb dX1_add_31 rfl (lv_at hl 0 rfl) ?_
    refine va_get (D := G) (ci := 1) (v := .ref ob_kind) (C := RX1) (T := TX1) (N := 8) hx hb hw0 inA_wsX10 hown hK.1 hP 0 rfl rfl 3 (by decide) (hw0 _ m_310) (fun _ h9 => h9) rfl dX1_add_32 ?_
    refine lv_aload_n hx hb dX1_add_35 rfl (lv_at hl 0 rfl) ?_
    refine va_get (D := G) (ci := 1) (v := .int ob_size) (C := RX1) (T := TX1) (N := 8) hx hb hw0 inA_wsX10 hown hK.1 hP 0 rfl rfl 0 (by decide) (hw0 _ m_307) (fun _ h9 => h9) rfl dX1_add_36 ?_
    refine lv_iload_n hx hb dX1_add_39 rfl (lv_at hl 3 rfl) ?_
    refine va_iast hx hb hK.1 hP hD hS 3 1 rfl rfl (vi nc_1001.1 (by decide)) dX1_add_40 (fun H locs hP hD hS => ?_)
    generalize hf_1004 : (upd fob_kind (ob_size : Int32).toNatClampNeg a3) = f_1004 at hP hD
    obtain ⟨hP, hD⟩ : vPD G A H [(ce_X1 ob ob_size ob_debtor ob_creditor ob_kind ob_due ob_came ob_open ob_kinds), (ce_i600 y ob_debtor f_1002), (ce_i600 y ob_creditor f_1003), (ce_i600 y ob_kind f_1004), (ce_i600 y ob_due fob_due), (ce_i600 y ob_came fob_came), (ce_i16 y ob_open fob_open), (ce_i256 y ob_kinds fob_kinds)] := ⟨hP, hD⟩
    refine lv_aload_n hx hb dX1_add_41 rfl (lv_at hl 0 rfl) ?_
    refine va_get (D := G) (ci := 1) (v := .ref ob_due) (C := RX1) (T := TX1) (N := 8) hx hb hw0 inA_wsX10 hown hK.1 hP 0 rfl rfl 4 (by decide) (hw0 _ m_311) (fun _ h9 => h9) rfl dX1_add_42 ?_
    refine lv_aload_n hx hb dX1_add_45 rfl (lv_at hl 0 rfl) ?_
    refine va_get (D := G) (ci := 1) (v := .int ob_size) (C := RX1) (T := TX1) (N := 8) hx hb hw0 inA_wsX10 hown hK.1 hP 0 rfl rfl 0 (by decide) (hw0 _ m_307) (fun _ h9 => h9) rfl dX1_add_46 ?_
    refine lv_iload hx hb dX1_add_49 (lv_at hl 4 rfl) ?_
    refine va_iast hx hb hK.1 hP hD hS 4 1 rfl rfl (vi nc_1001.1 (by decide)) dX1_add_51 (fun H locs hP hD hS => ?_)
    generalize hf_1005 : (upd fob_due (ob_size : Int32).toNatClampNeg a4) = f_1005 at hP hD
    obtain ⟨hP, hD⟩ : vPD G A H [(ce_X1 ob ob_size ob_debtor ob_creditor ob_kind ob_due ob_came ob_open ob_kinds), (ce_i600 y ob_debtor f_1002), (ce_i600 y ob_creditor f_1003), (ce_i600 y ob_kind f_1004), (ce_i600 y ob_due f_1005), (ce_i600 y ob_came fob_came), (ce_i16 y ob_open fob_open), (ce_i256 y ob_kinds fob_kinds)] := ⟨hP, hD⟩
    refine lv_aload_n hx hb dX1_add_52 rfl (lv_at hl 0 rfl) ?_
    refine va_get (D := G) (ci := 1) (v := .ref ob_came) (C := RX1) (T := TX1) (N := 8) hx hb hw0 inA_wsX10 hown hK.1 hP 0 rfl rfl 5 (by decide) (hw0 _ m_312) (fun _ h9 => h9) rfl dX1_add_53 ?_
    refine lv_aload_n hx hb dX1_add_56 rfl (lv_at hl 0 rfl) ?_
    refine va_get (D := G) (ci := 1) (v := .int ob_size) (C := RX1) (T := TX1) (N := 8) hx hb hw0 inA_wsX10 hown hK.1 hP 0 rfl rfl 0 (by decide) (hw0 _ m_307) (fun _ h9 => h9) rfl dX1_add_57 ?_
    refine lv_iload hx hb dX1_add_60 (lv_at hl 5 rfl) ?_
    refine va_iast hx hb hK.1 hP hD hS 5 1 rfl rfl (vi nc_1001.1 (by decide)) dX1_add_62 (fun H locs hP hD hS => ?_)
    generalize hf_1006 : (upd fob_came (ob_size : Int32).toNatClampNeg a5) = f_1006 at hP hD
    obtain ⟨hP, hD⟩ : vPD G A H [(ce_X1 ob ob_size ob_debtor ob_creditor ob_kind ob_due ob_came ob_open ob_kinds), (ce_i600 y ob_debtor f_1002), (ce_i600 y ob_creditor f_1003), (ce_i600 y ob_kind f_1004), (ce_i600 y ob_due f_1005), (ce_i600 y ob_came f_1006), (ce_i16 y ob_open fob_open), (ce_i256 y ob_kinds fob_kinds)] := ⟨hP, hD⟩
    refine lv_aload_n hx hb dX1_add_63 rfl (lv_at hl 0 rfl) ?_
    refine lv_dup hx hb dX1_add_64 rfl ?_
    refine va_get (D := G) (ci := 1) (v := .int ob_size) (C := RX1) (T := TX1) (N := 8) hx hb hw0 inA_wsX10 hown hK.1 hP 0 rfl rfl 0 (by decide) (hw0 _ m_307) (fun _ h9 => h9) rfl dX1_add_65 ?_
    refine lv_iconst (v := 1) hx hb dX1_add_68 (by decide) ?_
    refine lv_iadd hx hb dX1_add_69 ?_
    refine lv_topi (fun v_1007 ev_1007 => ?_)
    have qv_1007 := ba_add ev_1007 nc_1001.1 (bkc (x := 1) (c := 1) (by decide)) (by decide)
    have bv_1007 : (1 : Int) ≤ v_1007.toInt ∧ v_1007.toInt ≤ 600 := bq_add qv_1007 nc_1001.1 (bkc (x := 1) (c := 1) (by decide)) _ _ (by decide)
    have qv_1007 : v_1007.toInt = ob_size.toInt + (1) := qv_1007
    refine va_put (D := G) (ci := 1) (v := .int v_1007) (ty := .int) (C := RX1) (T := TX1) (N := 8) hx hb hw0 inA_wsX10 tyX1 tyX1_ok nmX1 hown hK.1 hP hD hS 0 rfl rfl 0 (by decide) (hw0 _ m_307) (fun _ h9 => h9) rfl fd_X1_0 rfl rfl (Nat.le_of_ble_eq_true rfl) dX1_add_70 (fun H locs hP hD hS => ?_)
    obtain ⟨hP, hD⟩ : vPD G A H [(ce_X1 ob v_1007 ob_debtor ob_creditor ob_kind ob_due ob_came ob_open ob_kinds), (ce_i600 y ob_debtor f_1002), (ce_i600 y ob_creditor f_1003), (ce_i600 y ob_kind f_1004), (ce_i600 y ob_due f_1005), (ce_i600 y ob_came f_1006), (ce_i16 y ob_open fob_open), (ce_i256 y ob_kinds fob_kinds)] := ⟨hP, hD⟩
    refine lv_aload_n hx hb dX1_add_73 rfl (lv_at hl 0 rfl) ?_
    refine va_get (D := G) (ci := 1) (v := .ref ob_open) (C := RX1) (T := TX1) (N := 8) hx hb hw0 inA_wsX10 hown hK.1 hP 0 rfl rfl 6 (by decide) (hw0 _ m_313) (fun _ h9 => h9) rfl dX1_add_74 ?_
    refine lv_iload_n hx hb dX1_add_77 rfl (lv_at hl 1 rfl) ?_
    refine lv_dup2_11 hx hb dX1_add_78 rfl rfl ?_
    refine va_iald hx hb hK.1 hP 6 1 rfl rfl (vi p_a1 (by decide)) dX1_add_79 ?_
    refine lv_topi (fun v_1008 ev_1008 => ?_)
    refine lv_iconst (v := 1) hx hb dX1_add_80 (by decide) ?_
    refine lv_iadd hx hb dX1_add_81 ?_
    refine lv_topi (fun v_1009 ev_1009 => ?_)
    refine va_iast hx hb hK.1 hP hD hS 6 1 rfl rfl (vi p_a1 (by decide)) dX1_add_82 (fun H locs hP hD hS => ?_)
    generalize hf_1010 : (upd fob_open (a1 : Int32).toNatClampNeg v_1009) = f_1010 at hP hD
    obtain ⟨hP, hD⟩ : vPD G A H [(ce_X1 ob v_1007 ob_debtor ob_creditor ob_kind ob_due ob_came ob_open ob_kinds), (ce_i600 y ob_debtor f_1002), (ce_i600 y ob_creditor f_1003), (ce_i600 y ob_kind f_1004), (ce_i600 y ob_due f_1005), (ce_i600 y ob_came f_1006), (ce_i16 y ob_open f_1010), (ce_i256 y ob_kinds fob_kinds)] := ⟨hP, hD⟩
    refine lv_aload_n hx hb dX1_add_83 rfl (lv_at hl 0 rfl) ?_
    refine va_get (D := G) (ci := 1) (v := .ref ob_kinds) (C := RX1) (T := TX1) (N := 8) hx hb hw0 inA_wsX10 hown hK.1 hP 0 rfl rfl 7 (by decide) (hw0 _ m_314) (fun _ h9 => h9) rfl dX1_add_84 ?_
    refine lv_iload_n hx hb dX1_add_87 rfl (lv_at hl 1 rfl) ?_
    refine lv_bipush (v := 16) hx hb dX1_add_88 (by decide) ?_
    refine lv_imul hx hb dX1_add_90 ?_
    refine lv_topi (fun v_1011 ev_1011 => ?_)
    have qv_1011 := ba_mul 16 ev_1011 p_a1 (by decide) (by decide) (by decide)
    have bv_1011 : (0 : Int) ≤ v_1011.toInt ∧ v_1011.toInt ≤ 240 := qv_1011.2
    refine lv_iload_n hx hb dX1_add_91 rfl (lv_at hl 2 rfl) ?_
    refine lv_iadd hx hb dX1_add_92 ?_
    refine lv_topi (fun v_1012 ev_1012 => ?_)
    have qv_1012 := ba_add ev_1012 bv_1011 p_a2 (by decide)
    have bv_1012 : (0 : Int) ≤ v_1012.toInt ∧ v_1012.toInt ≤ 255 := bq_add qv_1012 bv_1011 p_a2 _ _ (by decide)
    refine lv_dup2_11 hx hb dX1_add_93 rfl rfl ?_
    refine va_iald hx hb hK.1 hP 7 1 rfl rfl (vi bv_1012 (by decide)) dX1_add_94 ?_
    refine lv_topi (fun v_1013 ev_1013 => ?_)
    refine lv_iconst (v := 1) hx hb dX1_add_95 (by decide) ?_
    refine lv_iload_n hx hb dX1_add_96 rfl (lv_at hl 3 rfl) ?_
    refine lv_ishl hx hb dX1_add_97 ?_
    refine lv_topi (fun v_1014 ev_1014 => ?_)
    have bv_1014 : (1 : Int) ≤ v_1014.toInt ∧ v_1014.toInt ≤ 8 := ba_shl 0 3 ev_1014 p_a3 (by decide)
    refine lv_ior hx hb dX1_add_98 ?_
    refine lv_topi (fun v_1015 ev_1015 => ?_)
    refine va_iast hx hb hK.1 hP hD hS 7 1 rfl rfl (vi bv_1012 (by decide)) dX1_add_99 (fun H locs hP hD hS => ?_)
    generalize hf_1016 : (upd fob_kinds (v_1012 : Int32).toNatClampNeg v_1015) = f_1016 at hP hD
    obtain ⟨hP, hD⟩ : vPD G A H [(ce_X1 ob v_1007 ob_debtor ob_creditor ob_kind ob_due ob_came ob_open ob_kinds), (ce_i600 y ob_debtor f_1002), (ce_i600 y ob_creditor f_1003), (ce_i600 y ob_kind f_1004), (ce_i600 y ob_due f_1005), (ce_i600 y ob_came f_1006), (ce_i16 y ob_open f_1010), (ce_i256 y ob_kinds f_1016)] := ⟨hP, hD⟩
    exact W.vret hx hb hr (fun t ht hW => ⟨⟨_, rfl, ⟨v_1007, f_1002, f_1003, f_1004, f_1005, f_1006, f_1010, f_1016, bv_1007, bf_1003, (by have lm1 : Int32.toInt (-1) = -1 := (by decide); have l91 : Int32.toInt 1 = 1 := (by decide); have l92 : Int32.toInt 2 = 2 := (by decide); have l93 : Int32.toInt 3 = 3 := (by decide); intro L hl H; have h9 := H.1; exact ad_B (x := v_1012.toNatClampNeg) H (by omega) rfl ⟨by omega, by omega⟩ ⟨by omega, by omega⟩ ⟨by omega, by omega⟩ (by have h9 := cl_to (x := v_1012) (by omega); omega) hf_1002 hf_1003 hf_1004 hf_1005 hf_1006 ev_1008 ev_1009 hf_1010 ev_1013 ev_1014 ev_1015 hf_1016 (by omega)), rfl⟩, by rw [ht]; exact hP, hD⟩, hS.F ht⟩) hS.2.2 dX1_add_100
  · skip
    have nc_1001 := nb_nlt (600) (600) c_1001 (bkc (x := 600) (c := 600) (by decide)) p_ob_size (by decide)
    exact W.vret hx hb hr (fun t ht hW => ⟨⟨_, rfl, ⟨ob_size, fob_debtor, fob_creditor, fob_kind, fob_due, fob_came, fob_open, fob_kinds, (bw (1) (600) nc_1001.2.1 (by decide)), p_fob_creditor, (by have lm1 : Int32.toInt (-1) = -1 := (by decide); have l91 : Int32.toInt 1 = 1 := (by decide); have l92 : Int32.toInt 2 = 2 := (by decide); have l93 : Int32.toInt 3 = 3 := (by decide); intro L hl H; have h9 := H.1; exact False.elim (by omega)), rfl⟩, by rw [ht]; exact hP, hD⟩, hS.F ht⟩) hS.2.2 dX1_add_10

set_option maxHeartbeats 4000000 in
set_option maxRecDepth 100000 in
theorem gX1_nth (l : Launch) (G : va_G) (y : Nat → ClassId) (sz : Nat) (ob : Nat) (a1 : Int32) (a2 : Int32) (ob_size : Int32) (ob_debtor : Nat) (ob_creditor : Nat) (ob_kind : Nat) (ob_due : Nat) (ob_came : Nat) (ob_open : Nat) (ob_kinds : Nat) (fob_debtor : Nat → Int32) (fob_creditor : Nat → Int32) (fob_kind : Nat → Int32) (fob_due : Nat → Int32) (fob_came : Nat → Int32) (fob_open : Nat → Int32) (fob_kinds : Nat → Int32) (p_ob_size : (0 : Int) ≤ ob_size.toInt ∧ ob_size.toInt ≤ 600) (p_fob_creditor : ∀ i, (0 : Int) ≤ (fob_creditor i).toInt ∧ (fob_creditor i).toInt ≤ 15) (p_a1 : (0 : Int) ≤ a1.toInt ∧ a1.toInt ≤ 15) : Met l yX1_nth (Cond.code yX1_nth cX1_nth 5 (some .int) :: wAll) ({ frames := 0, cells := 0, slots := 0, locals := 0 }) (va_Pc [.ref ob, .int a1, .int a2] (kp G y sz [(ce_X1 ob ob_size ob_debtor ob_creditor ob_kind ob_due ob_came ob_open ob_kinds), (ce_i600 y ob_debtor fob_debtor), (ce_i600 y ob_creditor fob_creditor), (ce_i600 y ob_kind fob_kind), (ce_i600 y ob_due fob_due), (ce_i600 y ob_came fob_came), (ce_i16 y ob_open fob_open), (ce_i256 y ob_kinds fob_kinds)])) (va_Qi (fun (r : Int32) (w : va_W) => (∃ (v_85 : Int32), ((-1 : Int) ≤ v_85.toInt ∧ v_85.toInt ≤ 599) ∧ (∀ L, dB ob_size.toInt fob_debtor fob_creditor fob_kind fob_due fob_came fob_open fob_kinds L → nth9 a1.toInt a2.toInt L (v_85 : Int32).toInt) ∧ (-1 ≤ (v_85 : Int32).toInt ∧ (v_85 : Int32).toInt ≤ 599) ∧ ((v_85 : Int32).toInt < 600) ∧ r = v_85 ∧ w = [(ce_X1 ob ob_size ob_debtor ob_creditor ob_kind ob_due ob_came ob_open ob_kinds), (ce_i600 y ob_debtor fob_debtor), (ce_i600 y ob_creditor fob_creditor), (ce_i600 y ob_kind fob_kind), (ce_i600 y ob_due fob_due), (ce_i600 y ob_came fob_came), (ce_i16 y ob_open fob_open), (ce_i256 y ob_kinds fob_kinds)])) (kq G (va_A [(ce_X1 ob ob_size ob_debtor ob_creditor ob_kind ob_due ob_came ob_open ob_kinds), (ce_i600 y ob_debtor fob_debtor), (ce_i600 y ob_creditor fob_creditor), (ce_i600 y ob_kind fob_kind), (ce_i600 y ob_due fob_due), (ce_i600 y ob_came fob_came), (ce_i16 y ob_open fob_open), (ce_i256 y ob_kinds fob_kinds)] sz)) (va_A [(ce_X1 ob ob_size ob_debtor ob_creditor ob_kind ob_due ob_came ob_open ob_kinds), (ce_i600 y ob_debtor fob_debtor), (ce_i600 y ob_creditor fob_creditor), (ce_i600 y ob_kind fob_kind), (ce_i600 y ob_due fob_due), (ce_i600 y ob_came fob_came), (ce_i16 y ob_open fob_open), (ce_i256 y ob_kinds fob_kinds)] sz)) 0 0 (va_A [(ce_X1 ob ob_size ob_debtor ob_creditor ob_kind ob_due ob_came ob_open ob_kinds), (ce_i600 y ob_debtor fob_debtor), (ce_i600 y ob_creditor fob_creditor), (ce_i600 y ob_kind fob_kind), (ce_i600 y ob_due fob_due), (ce_i600 y ob_came fob_came), (ce_i16 y ob_open fob_open), (ce_i256 y ob_kinds fob_kinds)] sz) := by
  refine Met.ofW (cc := cX1_nth) (maxL := 5) (ret := (some .int)) (by decide) rfl ?_
  intro p e s m args below meth c s₁ B hml hv
  obtain ⟨rfl, hsz, hP, hK, hD0⟩ := hv
  have hx := B.exec
  have hb := B.bytes
  have hr := B.returns
  have hw0 : ∀ w ∈ wAll, w.before _ s = true := fun w h => atoms_spec (ws := Cond.code yX1_nth cX1_nth 5 (some .int) :: wAll) B.pre w (List.mem_cons_of_mem _ h)
  have hown : s.vm.findClass RX1 = some m.cls := findClass_of_methodNamed B.named
  subst hsz
  have hD := hD0.self (sz := s.heap.size)
  generalize hAe : va_A [(ce_X1 ob ob_size ob_debtor ob_creditor ob_kind ob_due ob_came ob_open ob_kinds), (ce_i600 y ob_debtor fob_debtor), (ce_i600 y ob_creditor fob_creditor), (ce_i600 y ob_kind fob_kind), (ce_i600 y ob_due fob_due), (ce_i600 y ob_came fob_came), (ce_i16 y ob_open fob_open), (ce_i256 y ob_kinds fob_kinds)] s.heap.size = A at hD ⊢
  have hA : ∀ q : Nat, s.heap.size ≤ q → A q := fun q h => by rw [← hAe]; exact Or.inr h
  have hS : va_S A s.heap s.heap [] := va_S.rf
  have hP : va_P G vwCl [(ce_X1 ob ob_size ob_debtor ob_creditor ob_kind ob_due ob_came ob_open ob_kinds), (ce_i600 y ob_debtor fob_debtor), (ce_i600 y ob_creditor fob_creditor), (ce_i600 y ob_kind fob_kind), (ce_i600 y ob_due fob_due), (ce_i600 y ob_came fob_came), (ce_i16 y ob_open fob_open), (ce_i256 y ob_kinds fob_kinds)] s.heap := hP
  have hl := lv_entry ([.ref ob, .int a1, .int a2]) (n := 5) (Nat.le_of_ble_eq_true rfl)
  rw [lg_entry_eq]
  generalize (lg_sl ([.ref ob, .int a1, .int a2]) ++ List.replicate (5 - (lg_sl ([.ref ob, .int a1, .int a2])).length) Slot.unset).toArray = ls at hl ⊢
  have hl : lv_has ls 5 [(0, .ref ob), (1, .int a1), (2, .int a2)] := hl
  refine lv_iload_n hx hb dX1_nth_0 rfl (lv_at hl 2 rfl) ?_
  refine lv_if_lt (tgt := 14) hx hb dX1_nth_1 (by decide) (fun c_1001 => ?_) (fun c_1001 => ?_)
  · skip
    have nc_1001 := nb_lt (-1) (0) c_1001 (btop a2) (bkc (x := 0) (c := 0) (by decide)) (by decide)
    refine lv_iconst (v := (-1)) hx hb dX1_nth_14 (by decide) ?_
    exact W.iret (v := (-1)) hx hb hr (fun t ht hW => ⟨⟨(-1), _, rfl, ⟨(-1), (bw (-1) (599) (bkc (x := (-1)) (c := -1) (by decide)) (by decide)), (by have lm1 : Int32.toInt (-1) = -1 := (by decide); have l91 : Int32.toInt 1 = 1 := (by decide); have l92 : Int32.toInt 2 = 2 := (by decide); have l93 : Int32.toInt 3 = 3 := (by decide); have h90 : Int32.toInt (-1) = -1 := (by decide); intro L H; have h8 := H.2.2.1 a1.toInt.toNat (by omega); rw [show ((a1.toInt.toNat : Nat) : Int) = a1.toInt by omega] at h8; exact Or.inl ⟨by omega, by omega⟩), (by have lm1 : Int32.toInt (-1) = -1 := (by decide); have l91 : Int32.toInt 1 = 1 := (by decide); have l92 : Int32.toInt 2 = 2 := (by decide); have l93 : Int32.toInt 3 = 3 := (by decide); have h90 : Int32.toInt (-1) = -1 := (by decide); omega), by have h90 : Int32.toInt (-1) = -1 := (by decide); omega, rfl, rfl⟩, by rw [ht]; exact hP, hD⟩, hS.F ht⟩) hS.2.2 dX1_nth_15
  · skip
    have nc_1001 := nb_nlt (0) (0) c_1001 (bkc (x := 0) (c := 0) (by decide)) (btop a2) (by decide)
    refine lv_iload_n hx hb dX1_nth_4 rfl (lv_at hl 2 rfl) ?_
    refine lv_aload_n hx hb dX1_nth_5 rfl (lv_at hl 0 rfl) ?_
    refine va_get (D := G) (ci := 1) (v := .ref ob_open) (C := RX1) (T := TX1) (N := 8) hx hb hw0 inA_wsX10 hown hK.1 hP 0 rfl rfl 6 (by decide) (hw0 _ m_313) (fun _ h9 => h9) rfl dX1_nth_6 ?_
    refine lv_iload_n hx hb dX1_nth_9 rfl (lv_at hl 1 rfl) ?_
    refine va_iald hx hb hK.1 hP 6 1 rfl rfl (vi p_a1 (by decide)) dX1_nth_10 ?_
    refine lv_topi (fun v_1002 ev_1002 => ?_)
    have lbv_1002 := ld_n ev_1002 (by omega)
    refine lv_icmp_lt (tgt := 16) hx hb dX1_nth_11 (by decide) (fun c_1003 => ?_) (fun c_1003 => ?_)
    · skip
      have nc_1003 := nb_lt (2147483646) (1) c_1003 nc_1001.2.1 (btop v_1002) (by decide)
      refine lv_iload_n hx hb dX1_nth_16 rfl (lv_at hl 2 rfl) ?_
      refine lv_istore_n (lv' := [(3, .int a2), (0, .ref ob), (1, .int a1), (2, .int a2)]) hx hb dX1_nth_17 rfl hl (by decide) rfl (fun ls hl => ?_)
      refine lv_iconst (v := 0) hx hb dX1_nth_18 (by decide) ?_
      refine lv_istore (lv' := [(4, .int 0), (3, .int a2), (0, .ref ob), (1, .int a1), (2, .int a2)]) hx hb dX1_nth_19 hl (by decide) rfl (fun ls hl => ?_)
      refine loopX (fun n H locs ls st => ∃ (v_1027 : Int32) (v_1028 : Int32), (600 - v_1027.toInt).toNat = n ∧ ((0 : Int) ≤ v_1027.toInt ∧ v_1027.toInt ≤ 600) ∧ ((0 : Int) ≤ v_1028.toInt ∧ v_1028.toInt ≤ 2147483646) ∧ (∀ L, dB ob_size.toInt fob_debtor fob_creditor fob_kind fob_due fob_came fob_open fob_kinds L → ctI (ofB a1.toInt) L v_1027.toInt (a2.toInt - v_1028.toInt)) ∧ (v_1027.toInt ≤ ob_size.toInt) ∧ (0 ≤ v_1028.toInt) ∧ st = [] ∧ vPD G A H [(ce_X1 ob ob_size ob_debtor ob_creditor ob_kind ob_due ob_came ob_open ob_kinds), (ce_i600 y ob_debtor fob_debtor), (ce_i600 y ob_creditor fob_creditor), (ce_i600 y ob_kind fob_kind), (ce_i600 y ob_due fob_due), (ce_i600 y ob_came fob_came), (ce_i16 y ob_open fob_open), (ce_i256 y ob_kinds fob_kinds)] ∧ va_S A s.heap H locs ∧ lv_has ls 5 [(4, .int v_1027), (3, .int v_1028), (0, .ref ob), (1, .int a1)]) ?_ (n := (600 - (0 : Int32).toInt).toNat) ⟨0, a2, rfl, (bw (0) (600) (bkc (x := 0) (c := 0) (by decide)) (by decide)), nc_1003.1, (fun L H => ct_0 (by decide) (by omega)), (by have h90 : Int32.toInt 0 = 0 := (by decide); omega), (by have h90 : Int32.toInt 0 = 0 := (by decide); omega), rfl, ⟨hP, hD⟩, hS, lv_sub hl [0, 1, 2, 3] rfl⟩
      rintro n ih_1035 H locs ls st ⟨v_1027, v_1028, hn_1035, bv_1027, bv_1028, rl1028_0, rl1028_1, rl1028_2, rfl, ⟨hP, hD⟩, hS, hl⟩
      refine lv_iload hx hb dX1_nth_21 (lv_at hl 0 rfl) ?_
      refine lv_aload_n hx hb dX1_nth_23 rfl (lv_at hl 2 rfl) ?_
      refine va_get (D := G) (ci := 1) (v := .int ob_size) (C := RX1) (T := TX1) (N := 8) hx hb hw0 inA_wsX10 hown hK.1 hP 0 rfl rfl 0 (by decide) (hw0 _ m_307) (fun _ h9 => h9) rfl dX1_nth_24 ?_
      refine lv_icmp_ge (tgt := 57) hx hb dX1_nth_27 (by decide) (fun c_1036 => ?_) (fun c_1036 => ?_)
      · skip
        have nc_1036 := nb_le (600) (0) c_1036 p_ob_size bv_1027 (by decide)
        refine lv_iconst (v := (-1)) hx hb dX1_nth_57 (by decide) ?_
        exact W.iret (v := (-1)) hx hb hr (fun t ht hW => ⟨⟨(-1), _, rfl, ⟨(-1), (bw (-1) (599) (bkc (x := (-1)) (c := -1) (by decide)) (by decide)), (by have lm1 : Int32.toInt (-1) = -1 := (by decide); have l91 : Int32.toInt 1 = 1 := (by decide); have l92 : Int32.toInt 2 = 2 := (by decide); have l93 : Int32.toInt 3 = 3 := (by decide); have h90 : Int32.toInt (-1) = -1 := (by decide); intro L H; have h8 := ct_e (rl1028_0 L H) (by have h9 := H.1; omega); exact Or.inl ⟨by omega, Or.inr (by omega)⟩), (by have lm1 : Int32.toInt (-1) = -1 := (by decide); have l91 : Int32.toInt 1 = 1 := (by decide); have l92 : Int32.toInt 2 = 2 := (by decide); have l93 : Int32.toInt 3 = 3 := (by decide); have h90 : Int32.toInt (-1) = -1 := (by decide); omega), by have h90 : Int32.toInt (-1) = -1 := (by decide); omega, rfl, rfl⟩, by rw [ht]; exact hP, hD⟩, hS.F ht⟩) hS.2.2 dX1_nth_58
      · skip
        have nc_1036 := nb_nle (599) (1) c_1036 bv_1027 p_ob_size (by decide)
        refine lv_aload_n hx hb dX1_nth_30 rfl (lv_at hl 2 rfl) ?_
        refine va_get (D := G) (ci := 1) (v := .ref ob_debtor) (C := RX1) (T := TX1) (N := 8) hx hb hw0 inA_wsX10 hown hK.1 hP 0 rfl rfl 1 (by decide) (hw0 _ m_308) (fun _ h9 => h9) rfl dX1_nth_31 ?_
        refine lv_iload hx hb dX1_nth_34 (lv_at hl 0 rfl) ?_
        refine va_iald hx hb hK.1 hP 1 1 rfl rfl (vi nc_1036.1 (by decide)) dX1_nth_36 ?_
        refine lv_topi (fun v_1037 ev_1037 => ?_)
        have lbv_1037 := ld_n ev_1037 (by omega)
        refine lv_iload_n hx hb dX1_nth_37 rfl (lv_at hl 3 rfl) ?_
        refine lv_icmp_ne (tgt := 51) hx hb dX1_nth_38 (by decide) (fun c_1038 => ?_) (fun c_1038 => ?_)
        · skip
          have nc_1038 : v_1037.toInt ≠ a1.toInt := fun h9 => c_1038 (Int32.toInt_inj.mp h9)
          obtain ⟨v_1039, ev_1039⟩ : ∃ z : Int32, z = v_1027 + 1 := ⟨_, rfl⟩
          have qv_1039 := ba_add ev_1039 nc_1036.1 (bkc (x := 1) (c := 1) (by decide)) (by decide)
          have bv_1039 : (1 : Int) ≤ v_1039.toInt ∧ v_1039.toInt ≤ 600 := bq_add qv_1039 nc_1036.1 (bkc (x := 1) (c := 1) (by decide)) _ _ (by decide)
          have qv_1039 : v_1039.toInt = v_1027.toInt + (1) := qv_1039
          refine lv_iinc (v := v_1039) (lv' := [(4, .int v_1039), (3, .int v_1028), (0, .ref ob), (1, .int a1)]) hx hb dX1_nth_51 hl (k := 0) rfl (ev_1039.symm) (by decide) rfl (fun ls hl => ?_)
          refine lv_goto (tgt := 21) hx hb dX1_nth_54 (by decide) ?_
          exact ih_1035 _ (ml_inc (hi := 600) hn_1035 qv_1039 (by decide) ((bw (0) (600) bv_1039 (by decide))).2) _ _ _ _ ⟨v_1039, v_1028, rfl, (bw (0) (600) bv_1039 (by decide)), bv_1028, (fun L H => ct_n (rl1028_0 L H) H.2.1 (by have h9 := H.1; omega) (fun d hd => of_f (by have h9 := hd.1; omega)) (by omega) (by omega)), (by omega), (by omega), rfl, ⟨hP, hD⟩, hS, lv_sub hl [0, 1, 2, 3] rfl⟩
        · skip
          have nc_1038 := nb_eq (0) (15) c_1038 (btop v_1037) p_a1 (by decide)
          refine lv_iload_n hx hb dX1_nth_41 rfl (lv_at hl 1 rfl) ?_
          refine lv_if_ne (tgt := 48) hx hb dX1_nth_42 (by decide) (fun c_1040 => ?_) (fun c_1040 => ?_)
          · skip
            have nc_1040 := nb_ne (1) (2147483646) c_1040 bv_1028 (k := 0) (by decide) (by decide)
            obtain ⟨v_1041, ev_1041⟩ : ∃ z : Int32, z = v_1028 + (-1) := ⟨_, rfl⟩
            have qv_1041 := ba_add ev_1041 nc_1040.1 (bkc (x := (-1)) (c := -1) (by decide)) (by decide)
            have bv_1041 : (0 : Int) ≤ v_1041.toInt ∧ v_1041.toInt ≤ 2147483645 := bq_add qv_1041 nc_1040.1 (bkc (x := (-1)) (c := -1) (by decide)) _ _ (by decide)
            have qv_1041 : v_1041.toInt = v_1028.toInt + (-1) := qv_1041
            refine lv_iinc (v := v_1041) (lv' := [(3, .int v_1041), (4, .int v_1027), (0, .ref ob), (1, .int a1)]) hx hb dX1_nth_48 hl (k := 1) rfl (ev_1041.symm) (by decide) rfl (fun ls hl => ?_)
            obtain ⟨v_1042, ev_1042⟩ : ∃ z : Int32, z = v_1027 + 1 := ⟨_, rfl⟩
            have qv_1042 := ba_add ev_1042 nc_1036.1 (bkc (x := 1) (c := 1) (by decide)) (by decide)
            have bv_1042 : (1 : Int) ≤ v_1042.toInt ∧ v_1042.toInt ≤ 600 := bq_add qv_1042 nc_1036.1 (bkc (x := 1) (c := 1) (by decide)) _ _ (by decide)
            have qv_1042 : v_1042.toInt = v_1027.toInt + (1) := qv_1042
            refine lv_iinc (v := v_1042) (lv' := [(4, .int v_1042), (3, .int v_1041), (0, .ref ob), (1, .int a1)]) hx hb dX1_nth_51 hl (k := 1) rfl (ev_1042.symm) (by decide) rfl (fun ls hl => ?_)
            refine lv_goto (tgt := 21) hx hb dX1_nth_54 (by decide) ?_
            exact ih_1035 _ (ml_inc (hi := 600) hn_1035 qv_1042 (by decide) ((bw (0) (600) bv_1042 (by decide))).2) _ _ _ _ ⟨v_1042, v_1041, rfl, (bw (0) (600) bv_1042 (by decide)), (bw (0) (2147483646) bv_1041 (by decide)), (fun L H => ct_y (rl1028_0 L H) H.2.1 (by have h9 := H.1; omega) (fun d hd => of_t (by have h9 := hd.1; omega)) (by omega) (by omega)), (by omega), (by omega), rfl, ⟨hP, hD⟩, hS, lv_sub hl [0, 1, 2, 3] rfl⟩
          · skip
            have nc_1040 := nb_eq (0) (0) c_1040 bv_1028 (bkc (x := 0) (c := 0) (by decide)) (by decide)
            refine lv_iload hx hb dX1_nth_45 (lv_at hl 0 rfl) ?_
            exact W.iret (v := v_1027) hx hb hr (fun t ht hW => ⟨⟨v_1027, _, rfl, ⟨v_1027, (bw (-1) (599) nc_1036.1 (by decide)), (by have lm1 : Int32.toInt (-1) = -1 := (by decide); have l91 : Int32.toInt 1 = 1 := (by decide); have l92 : Int32.toInt 2 = 2 := (by decide); have l93 : Int32.toInt 3 = 3 := (by decide); intro L H; exact nt_h (ct_c (rl1028_0 L H) rfl (by omega)) H.2.1 (by have h9 := H.1; omega) (by omega)), (by have lm1 : Int32.toInt (-1) = -1 := (by decide); have l91 : Int32.toInt 1 = 1 := (by decide); have l92 : Int32.toInt 2 = 2 := (by decide); have l93 : Int32.toInt 3 = 3 := (by decide); omega), by omega, rfl, rfl⟩, by rw [ht]; exact hP, hD⟩, hS.F ht⟩) hS.2.2 dX1_nth_47
    · skip
      have nc_1003 := nb_nlt (2147483647) (0) c_1003 (btop v_1002) nc_1001.2.1 (by decide)
      refine lv_iconst (v := (-1)) hx hb dX1_nth_14 (by decide) ?_
      exact W.iret (v := (-1)) hx hb hr (fun t ht hW => ⟨⟨(-1), _, rfl, ⟨(-1), (bw (-1) (599) (bkc (x := (-1)) (c := -1) (by decide)) (by decide)), (by have lm1 : Int32.toInt (-1) = -1 := (by decide); have l91 : Int32.toInt 1 = 1 := (by decide); have l92 : Int32.toInt 2 = 2 := (by decide); have l93 : Int32.toInt 3 = 3 := (by decide); have h90 : Int32.toInt (-1) = -1 := (by decide); intro L H; have h8 := H.2.2.1 a1.toInt.toNat (by omega); rw [show ((a1.toInt.toNat : Nat) : Int) = a1.toInt by omega] at h8; exact Or.inl ⟨by omega, by omega⟩), (by have lm1 : Int32.toInt (-1) = -1 := (by decide); have l91 : Int32.toInt 1 = 1 := (by decide); have l92 : Int32.toInt 2 = 2 := (by decide); have l93 : Int32.toInt 3 = 3 := (by decide); have h90 : Int32.toInt (-1) = -1 := (by decide); omega), by have h90 : Int32.toInt (-1) = -1 := (by decide); omega, rfl, rfl⟩, by rw [ht]; exact hP, hD⟩, hS.F ht⟩) hS.2.2 dX1_nth_15

set_option maxHeartbeats 4000000 in
set_option maxRecDepth 100000 in
theorem gX1_overdue (l : Launch) (G : va_G) (y : Nat → ClassId) (sz : Nat) (ob : Nat) (a1 : Int32) (ob_size : Int32) (ob_debtor : Nat) (ob_creditor : Nat) (ob_kind : Nat) (ob_due : Nat) (ob_came : Nat) (ob_open : Nat) (ob_kinds : Nat) (fob_debtor : Nat → Int32) (fob_creditor : Nat → Int32) (fob_kind : Nat → Int32) (fob_due : Nat → Int32) (fob_came : Nat → Int32) (fob_open : Nat → Int32) (fob_kinds : Nat → Int32) (p_ob_size : (0 : Int) ≤ ob_size.toInt ∧ ob_size.toInt ≤ 600) (p_fob_creditor : ∀ i, (0 : Int) ≤ (fob_creditor i).toInt ∧ (fob_creditor i).toInt ≤ 15) : Met l yX1_overdue (Cond.code yX1_overdue cX1_overdue 4 (some .int) :: wAll) ({ frames := 0, cells := 0, slots := 0, locals := 0 }) (va_Pc [.ref ob, .int a1] (kp G y sz [(ce_X1 ob ob_size ob_debtor ob_creditor ob_kind ob_due ob_came ob_open ob_kinds), (ce_i600 y ob_debtor fob_debtor), (ce_i600 y ob_creditor fob_creditor), (ce_i600 y ob_kind fob_kind), (ce_i600 y ob_due fob_due), (ce_i600 y ob_came fob_came), (ce_i16 y ob_open fob_open), (ce_i256 y ob_kinds fob_kinds)])) (va_Qi (fun (r : Int32) (w : va_W) => (∃ (v_75 : Int32), ((0 : Int) ≤ v_75.toInt ∧ v_75.toInt ≤ 600) ∧ (∀ L, dB ob_size.toInt fob_debtor fob_creditor fob_kind fob_due fob_came fob_open fob_kinds L → (v_75 : Int32).toInt = cnt (odB a1.toInt) L) ∧ r = v_75 ∧ w = [(ce_X1 ob ob_size ob_debtor ob_creditor ob_kind ob_due ob_came ob_open ob_kinds), (ce_i600 y ob_debtor fob_debtor), (ce_i600 y ob_creditor fob_creditor), (ce_i600 y ob_kind fob_kind), (ce_i600 y ob_due fob_due), (ce_i600 y ob_came fob_came), (ce_i16 y ob_open fob_open), (ce_i256 y ob_kinds fob_kinds)])) (kq G (va_A [(ce_X1 ob ob_size ob_debtor ob_creditor ob_kind ob_due ob_came ob_open ob_kinds), (ce_i600 y ob_debtor fob_debtor), (ce_i600 y ob_creditor fob_creditor), (ce_i600 y ob_kind fob_kind), (ce_i600 y ob_due fob_due), (ce_i600 y ob_came fob_came), (ce_i16 y ob_open fob_open), (ce_i256 y ob_kinds fob_kinds)] sz)) (va_A [(ce_X1 ob ob_size ob_debtor ob_creditor ob_kind ob_due ob_came ob_open ob_kinds), (ce_i600 y ob_debtor fob_debtor), (ce_i600 y ob_creditor fob_creditor), (ce_i600 y ob_kind fob_kind), (ce_i600 y ob_due fob_due), (ce_i600 y ob_came fob_came), (ce_i16 y ob_open fob_open), (ce_i256 y ob_kinds fob_kinds)] sz)) 0 0 (va_A [(ce_X1 ob ob_size ob_debtor ob_creditor ob_kind ob_due ob_came ob_open ob_kinds), (ce_i600 y ob_debtor fob_debtor), (ce_i600 y ob_creditor fob_creditor), (ce_i600 y ob_kind fob_kind), (ce_i600 y ob_due fob_due), (ce_i600 y ob_came fob_came), (ce_i16 y ob_open fob_open), (ce_i256 y ob_kinds fob_kinds)] sz) := by
  refine Met.ofW (cc := cX1_overdue) (maxL := 4) (ret := (some .int)) (by decide) rfl ?_
  intro p e s m args below meth c s₁ B hml hv
  obtain ⟨rfl, hsz, hP, hK, hD0⟩ := hv
  have hx := B.exec
  have hb := B.bytes
  have hr := B.returns
  have hw0 : ∀ w ∈ wAll, w.before _ s = true := fun w h => atoms_spec (ws := Cond.code yX1_overdue cX1_overdue 4 (some .int) :: wAll) B.pre w (List.mem_cons_of_mem _ h)
  have hown : s.vm.findClass RX1 = some m.cls := findClass_of_methodNamed B.named
  subst hsz
  have hD := hD0.self (sz := s.heap.size)
  generalize hAe : va_A [(ce_X1 ob ob_size ob_debtor ob_creditor ob_kind ob_due ob_came ob_open ob_kinds), (ce_i600 y ob_debtor fob_debtor), (ce_i600 y ob_creditor fob_creditor), (ce_i600 y ob_kind fob_kind), (ce_i600 y ob_due fob_due), (ce_i600 y ob_came fob_came), (ce_i16 y ob_open fob_open), (ce_i256 y ob_kinds fob_kinds)] s.heap.size = A at hD ⊢
  have hA : ∀ q : Nat, s.heap.size ≤ q → A q := fun q h => by rw [← hAe]; exact Or.inr h
  have hS : va_S A s.heap s.heap [] := va_S.rf
  have hP : va_P G vwCl [(ce_X1 ob ob_size ob_debtor ob_creditor ob_kind ob_due ob_came ob_open ob_kinds), (ce_i600 y ob_debtor fob_debtor), (ce_i600 y ob_creditor fob_creditor), (ce_i600 y ob_kind fob_kind), (ce_i600 y ob_due fob_due), (ce_i600 y ob_came fob_came), (ce_i16 y ob_open fob_open), (ce_i256 y ob_kinds fob_kinds)] s.heap := hP
  have hl := lv_entry ([.ref ob, .int a1]) (n := 4) (Nat.le_of_ble_eq_true rfl)
  rw [lg_entry_eq]
  generalize (lg_sl ([.ref ob, .int a1]) ++ List.replicate (4 - (lg_sl ([.ref ob, .int a1])).length) Slot.unset).toArray = ls at hl ⊢
  have hl : lv_has ls 4 [(0, .ref ob), (1, .int a1)] := hl
  refine lv_iconst (v := 0) hx hb dX1_overdue_0 (by decide) ?_
  refine lv_istore_n (lv' := [(2, .int 0), (0, .ref ob), (1, .int a1)]) hx hb dX1_overdue_1 rfl hl (by decide) rfl (fun ls hl => ?_)
  refine lv_iconst (v := 0) hx hb dX1_overdue_2 (by decide) ?_
  refine lv_istore_n (lv' := [(3, .int 0), (2, .int 0), (0, .ref ob), (1, .int a1)]) hx hb dX1_overdue_3 rfl hl (by decide) rfl (fun ls hl => ?_)
  refine loopX (fun n H locs ls st => ∃ (v_1022 : Int32) (v_1023 : Int32), (600 - v_1022.toInt).toNat = n ∧ ((0 : Int) ≤ v_1022.toInt ∧ v_1022.toInt ≤ 600) ∧ ((0 : Int) ≤ v_1023.toInt ∧ v_1023.toInt ≤ 600) ∧ (∀ L, dB ob_size.toInt fob_debtor fob_creditor fob_kind fob_due fob_came fob_open fob_kinds L → ctI (odB a1.toInt) L v_1022.toInt v_1023.toInt) ∧ (v_1022.toInt ≤ ob_size.toInt) ∧ (v_1023.toInt ≤ v_1022.toInt) ∧ st = [] ∧ vPD G A H [(ce_X1 ob ob_size ob_debtor ob_creditor ob_kind ob_due ob_came ob_open ob_kinds), (ce_i600 y ob_debtor fob_debtor), (ce_i600 y ob_creditor fob_creditor), (ce_i600 y ob_kind fob_kind), (ce_i600 y ob_due fob_due), (ce_i600 y ob_came fob_came), (ce_i16 y ob_open fob_open), (ce_i256 y ob_kinds fob_kinds)] ∧ va_S A s.heap H locs ∧ lv_has ls 4 [(3, .int v_1022), (2, .int v_1023), (0, .ref ob), (1, .int a1)]) ?_ (n := (600 - (0 : Int32).toInt).toNat) ⟨0, 0, rfl, (bw (0) (600) (bkc (x := 0) (c := 0) (by decide)) (by decide)), (bw (0) (600) (bkc (x := 0) (c := 0) (by decide)) (by decide)), (fun L H => ct_0 (by decide) (by decide)), (by have h90 : Int32.toInt 0 = 0 := (by decide); omega), (by have h90 : Int32.toInt 0 = 0 := (by decide); omega), rfl, ⟨hP, hD⟩, hS, lv_sub hl [0, 1, 2, 3] rfl⟩
  rintro n ih_1030 H locs ls st ⟨v_1022, v_1023, hn_1030, bv_1022, bv_1023, rl1023_0, rl1023_1, rl1023_2, rfl, ⟨hP, hD⟩, hS, hl⟩
  refine lv_iload_n hx hb dX1_overdue_4 rfl (lv_at hl 0 rfl) ?_
  refine lv_aload_n hx hb dX1_overdue_5 rfl (lv_at hl 2 rfl) ?_
  refine va_get (D := G) (ci := 1) (v := .int ob_size) (C := RX1) (T := TX1) (N := 8) hx hb hw0 inA_wsX10 hown hK.1 hP 0 rfl rfl 0 (by decide) (hw0 _ m_307) (fun _ h9 => h9) rfl dX1_overdue_6 ?_
  refine lv_icmp_ge (tgt := 31) hx hb dX1_overdue_9 (by decide) (fun c_1031 => ?_) (fun c_1031 => ?_)
  · skip
    have nc_1031 := nb_le (600) (0) c_1031 p_ob_size bv_1022 (by decide)
    refine lv_iload_n hx hb dX1_overdue_31 rfl (lv_at hl 1 rfl) ?_
    exact W.iret (v := v_1023) hx hb hr (fun t ht hW => ⟨⟨v_1023, _, rfl, ⟨v_1023, bv_1023, (fun L H => ct_e (rl1023_0 L H) (by have h9 := H.1; omega)), rfl, rfl⟩, by rw [ht]; exact hP, hD⟩, hS.F ht⟩) hS.2.2 dX1_overdue_32
  · skip
    have nc_1031 := nb_nle (599) (1) c_1031 bv_1022 p_ob_size (by decide)
    refine lv_aload_n hx hb dX1_overdue_12 rfl (lv_at hl 2 rfl) ?_
    refine va_get (D := G) (ci := 1) (v := .ref ob_due) (C := RX1) (T := TX1) (N := 8) hx hb hw0 inA_wsX10 hown hK.1 hP 0 rfl rfl 4 (by decide) (hw0 _ m_311) (fun _ h9 => h9) rfl dX1_overdue_13 ?_
    refine lv_iload_n hx hb dX1_overdue_16 rfl (lv_at hl 0 rfl) ?_
    refine va_iald hx hb hK.1 hP 4 1 rfl rfl (vi nc_1031.1 (by decide)) dX1_overdue_17 ?_
    refine lv_topi (fun v_1032 ev_1032 => ?_)
    have lbv_1032 := ld_n ev_1032 (by omega)
    refine lv_iload_n hx hb dX1_overdue_18 rfl (lv_at hl 3 rfl) ?_
    refine lv_icmp_ge (tgt := 25) hx hb dX1_overdue_19 (by decide) (fun c_1033 => ?_) (fun c_1033 => ?_)
    · skip
      have nc_1033 := nb_le (2147483647) (-2147483648) c_1033 (btop a1) (btop v_1032) (by decide)
      obtain ⟨v_1034, ev_1034⟩ : ∃ z : Int32, z = v_1022 + 1 := ⟨_, rfl⟩
      have qv_1034 := ba_add ev_1034 nc_1031.1 (bkc (x := 1) (c := 1) (by decide)) (by decide)
      have bv_1034 : (1 : Int) ≤ v_1034.toInt ∧ v_1034.toInt ≤ 600 := bq_add qv_1034 nc_1031.1 (bkc (x := 1) (c := 1) (by decide)) _ _ (by decide)
      have qv_1034 : v_1034.toInt = v_1022.toInt + (1) := qv_1034
      refine lv_iinc (v := v_1034) (lv' := [(3, .int v_1034), (2, .int v_1023), (0, .ref ob), (1, .int a1)]) hx hb dX1_overdue_25 hl (k := 0) rfl (ev_1034.symm) (by decide) rfl (fun ls hl => ?_)
      refine lv_goto (tgt := 4) hx hb dX1_overdue_28 (by decide) ?_
      exact ih_1030 _ (ml_inc (hi := 600) hn_1030 qv_1034 (by decide) ((bw (0) (600) bv_1034 (by decide))).2) _ _ _ _ ⟨v_1034, v_1023, rfl, (bw (0) (600) bv_1034 (by decide)), bv_1023, (fun L H => ct_n (rl1023_0 L H) H.2.1 (by have h9 := H.1; omega) (fun d hd => decide_eq_false (by have h9 := hd.2.1; have h8 := hd.2.2.2.1; omega)) (by omega) (by omega)), (by omega), (by omega), rfl, ⟨hP, hD⟩, hS, lv_sub hl [0, 1, 2, 3] rfl⟩
    · skip
      have nc_1033 := nb_nle (2147483646) (-2147483647) c_1033 (btop v_1032) (btop a1) (by decide)
      have h_1035 : (0 : Int) ≤ v_1023.toInt ∧ v_1023.toInt ≤ 599 := by omega
      obtain ⟨v_1036, ev_1036⟩ : ∃ z : Int32, z = v_1023 + 1 := ⟨_, rfl⟩
      have qv_1036 := ba_add ev_1036 h_1035 (bkc (x := 1) (c := 1) (by decide)) (by decide)
      have bv_1036 : (1 : Int) ≤ v_1036.toInt ∧ v_1036.toInt ≤ 600 := bq_add qv_1036 h_1035 (bkc (x := 1) (c := 1) (by decide)) _ _ (by decide)
      have qv_1036 : v_1036.toInt = v_1023.toInt + (1) := qv_1036
      refine lv_iinc (v := v_1036) (lv' := [(2, .int v_1036), (3, .int v_1022), (0, .ref ob), (1, .int a1)]) hx hb dX1_overdue_22 hl (k := 1) rfl (ev_1036.symm) (by decide) rfl (fun ls hl => ?_)
      obtain ⟨v_1037, ev_1037⟩ : ∃ z : Int32, z = v_1022 + 1 := ⟨_, rfl⟩
      have qv_1037 := ba_add ev_1037 nc_1031.1 (bkc (x := 1) (c := 1) (by decide)) (by decide)
      have bv_1037 : (1 : Int) ≤ v_1037.toInt ∧ v_1037.toInt ≤ 600 := bq_add qv_1037 nc_1031.1 (bkc (x := 1) (c := 1) (by decide)) _ _ (by decide)
      have qv_1037 : v_1037.toInt = v_1022.toInt + (1) := qv_1037
      refine lv_iinc (v := v_1037) (lv' := [(3, .int v_1037), (2, .int v_1036), (0, .ref ob), (1, .int a1)]) hx hb dX1_overdue_25 hl (k := 1) rfl (ev_1037.symm) (by decide) rfl (fun ls hl => ?_)
      refine lv_goto (tgt := 4) hx hb dX1_overdue_28 (by decide) ?_
      exact ih_1030 _ (ml_inc (hi := 600) hn_1030 qv_1037 (by decide) ((bw (0) (600) bv_1037 (by decide))).2) _ _ _ _ ⟨v_1037, v_1036, rfl, (bw (0) (600) bv_1037 (by decide)), (bw (0) (600) bv_1036 (by decide)), (fun L H => ct_y (rl1023_0 L H) H.2.1 (by have h9 := H.1; omega) (fun d hd => decide_eq_true (by have h9 := hd.2.1; have h8 := hd.2.2.2.1; omega)) (by omega) (by omega)), (by omega), (by omega), rfl, ⟨hP, hD⟩, hS, lv_sub hl [0, 1, 2, 3] rfl⟩

set_option maxHeartbeats 4000000 in
set_option maxRecDepth 100000 in
theorem gX1_overdueTo (l : Launch) (G : va_G) (y : Nat → ClassId) (sz : Nat) (ob : Nat) (a1 : Int32) (a2 : Int32) (ob_size : Int32) (ob_debtor : Nat) (ob_creditor : Nat) (ob_kind : Nat) (ob_due : Nat) (ob_came : Nat) (ob_open : Nat) (ob_kinds : Nat) (fob_debtor : Nat → Int32) (fob_creditor : Nat → Int32) (fob_kind : Nat → Int32) (fob_due : Nat → Int32) (fob_came : Nat → Int32) (fob_open : Nat → Int32) (fob_kinds : Nat → Int32) (p_ob_size : (0 : Int) ≤ ob_size.toInt ∧ ob_size.toInt ≤ 600) (p_fob_creditor : ∀ i, (0 : Int) ≤ (fob_creditor i).toInt ∧ (fob_creditor i).toInt ≤ 15) : Met l yX1_overdueTo (Cond.code yX1_overdueTo cX1_overdueTo 5 (some .int) :: wAll) ({ frames := 0, cells := 0, slots := 0, locals := 0 }) (va_Pc [.ref ob, .int a1, .int a2] (kp G y sz [(ce_X1 ob ob_size ob_debtor ob_creditor ob_kind ob_due ob_came ob_open ob_kinds), (ce_i600 y ob_debtor fob_debtor), (ce_i600 y ob_creditor fob_creditor), (ce_i600 y ob_kind fob_kind), (ce_i600 y ob_due fob_due), (ce_i600 y ob_came fob_came), (ce_i16 y ob_open fob_open), (ce_i256 y ob_kinds fob_kinds)])) (va_Qi (fun (r : Int32) (w : va_W) => (∃ (v_103 : Int32), ((0 : Int) ≤ v_103.toInt ∧ v_103.toInt ≤ 600) ∧ (∀ L, dB ob_size.toInt fob_debtor fob_creditor fob_kind fob_due fob_came fob_open fob_kinds L → (v_103 : Int32).toInt = cnt (otB a1.toInt a2.toInt) L) ∧ r = v_103 ∧ w = [(ce_X1 ob ob_size ob_debtor ob_creditor ob_kind ob_due ob_came ob_open ob_kinds), (ce_i600 y ob_debtor fob_debtor), (ce_i600 y ob_creditor fob_creditor), (ce_i600 y ob_kind fob_kind), (ce_i600 y ob_due fob_due), (ce_i600 y ob_came fob_came), (ce_i16 y ob_open fob_open), (ce_i256 y ob_kinds fob_kinds)])) (kq G (va_A [(ce_X1 ob ob_size ob_debtor ob_creditor ob_kind ob_due ob_came ob_open ob_kinds), (ce_i600 y ob_debtor fob_debtor), (ce_i600 y ob_creditor fob_creditor), (ce_i600 y ob_kind fob_kind), (ce_i600 y ob_due fob_due), (ce_i600 y ob_came fob_came), (ce_i16 y ob_open fob_open), (ce_i256 y ob_kinds fob_kinds)] sz)) (va_A [(ce_X1 ob ob_size ob_debtor ob_creditor ob_kind ob_due ob_came ob_open ob_kinds), (ce_i600 y ob_debtor fob_debtor), (ce_i600 y ob_creditor fob_creditor), (ce_i600 y ob_kind fob_kind), (ce_i600 y ob_due fob_due), (ce_i600 y ob_came fob_came), (ce_i16 y ob_open fob_open), (ce_i256 y ob_kinds fob_kinds)] sz)) 0 0 (va_A [(ce_X1 ob ob_size ob_debtor ob_creditor ob_kind ob_due ob_came ob_open ob_kinds), (ce_i600 y ob_debtor fob_debtor), (ce_i600 y ob_creditor fob_creditor), (ce_i600 y ob_kind fob_kind), (ce_i600 y ob_due fob_due), (ce_i600 y ob_came fob_came), (ce_i16 y ob_open fob_open), (ce_i256 y ob_kinds fob_kinds)] sz) := by
  refine Met.ofW (cc := cX1_overdueTo) (maxL := 5) (ret := (some .int)) (by decide) rfl ?_
  intro p e s m args below meth c s₁ B hml hv
  obtain ⟨rfl, hsz, hP, hK, hD0⟩ := hv
  have hx := B.exec
  have hb := B.bytes
  have hr := B.returns
  have hw0 : ∀ w ∈ wAll, w.before _ s = true := fun w h => atoms_spec (ws := Cond.code yX1_overdueTo cX1_overdueTo 5 (some .int) :: wAll) B.pre w (List.mem_cons_of_mem _ h)
  have hown : s.vm.findClass RX1 = some m.cls := findClass_of_methodNamed B.named
  subst hsz
  have hD := hD0.self (sz := s.heap.size)
  generalize hAe : va_A [(ce_X1 ob ob_size ob_debtor ob_creditor ob_kind ob_due ob_came ob_open ob_kinds), (ce_i600 y ob_debtor fob_debtor), (ce_i600 y ob_creditor fob_creditor), (ce_i600 y ob_kind fob_kind), (ce_i600 y ob_due fob_due), (ce_i600 y ob_came fob_came), (ce_i16 y ob_open fob_open), (ce_i256 y ob_kinds fob_kinds)] s.heap.size = A at hD ⊢
  have hA : ∀ q : Nat, s.heap.size ≤ q → A q := fun q h => by rw [← hAe]; exact Or.inr h
  have hS : va_S A s.heap s.heap [] := va_S.rf
  have hP : va_P G vwCl [(ce_X1 ob ob_size ob_debtor ob_creditor ob_kind ob_due ob_came ob_open ob_kinds), (ce_i600 y ob_debtor fob_debtor), (ce_i600 y ob_creditor fob_creditor), (ce_i600 y ob_kind fob_kind), (ce_i600 y ob_due fob_due), (ce_i600 y ob_came fob_came), (ce_i16 y ob_open fob_open), (ce_i256 y ob_kinds fob_kinds)] s.heap := hP
  have hl := lv_entry ([.ref ob, .int a1, .int a2]) (n := 5) (Nat.le_of_ble_eq_true rfl)
  rw [lg_entry_eq]
  generalize (lg_sl ([.ref ob, .int a1, .int a2]) ++ List.replicate (5 - (lg_sl ([.ref ob, .int a1, .int a2])).length) Slot.unset).toArray = ls at hl ⊢
  have hl : lv_has ls 5 [(0, .ref ob), (1, .int a1), (2, .int a2)] := hl
  refine lv_iconst (v := 0) hx hb dX1_overdueTo_0 (by decide) ?_
  refine lv_istore_n (lv' := [(3, .int 0), (0, .ref ob), (1, .int a1), (2, .int a2)]) hx hb dX1_overdueTo_1 rfl hl (by decide) rfl (fun ls hl => ?_)
  refine lv_iconst (v := 0) hx hb dX1_overdueTo_2 (by decide) ?_
  refine lv_istore (lv' := [(4, .int 0), (3, .int 0), (0, .ref ob), (1, .int a1), (2, .int a2)]) hx hb dX1_overdueTo_3 hl (by decide) rfl (fun ls hl => ?_)
  refine loopX (fun n H locs ls st => ∃ (v_1030 : Int32) (v_1031 : Int32), (600 - v_1030.toInt).toNat = n ∧ ((0 : Int) ≤ v_1030.toInt ∧ v_1030.toInt ≤ 600) ∧ ((0 : Int) ≤ v_1031.toInt ∧ v_1031.toInt ≤ 600) ∧ (∀ L, dB ob_size.toInt fob_debtor fob_creditor fob_kind fob_due fob_came fob_open fob_kinds L → ctI (otB a1.toInt a2.toInt) L v_1030.toInt v_1031.toInt) ∧ (v_1030.toInt ≤ ob_size.toInt) ∧ (v_1031.toInt ≤ v_1030.toInt) ∧ st = [] ∧ vPD G A H [(ce_X1 ob ob_size ob_debtor ob_creditor ob_kind ob_due ob_came ob_open ob_kinds), (ce_i600 y ob_debtor fob_debtor), (ce_i600 y ob_creditor fob_creditor), (ce_i600 y ob_kind fob_kind), (ce_i600 y ob_due fob_due), (ce_i600 y ob_came fob_came), (ce_i16 y ob_open fob_open), (ce_i256 y ob_kinds fob_kinds)] ∧ va_S A s.heap H locs ∧ lv_has ls 5 [(4, .int v_1030), (3, .int v_1031), (0, .ref ob), (1, .int a1), (2, .int a2)]) ?_ (n := (600 - (0 : Int32).toInt).toNat) ⟨0, 0, rfl, (bw (0) (600) (bkc (x := 0) (c := 0) (by decide)) (by decide)), (bw (0) (600) (bkc (x := 0) (c := 0) (by decide)) (by decide)), (fun L H => ct_0 (by decide) (by decide)), (by have h90 : Int32.toInt 0 = 0 := (by decide); omega), (by have h90 : Int32.toInt 0 = 0 := (by decide); omega), rfl, ⟨hP, hD⟩, hS, lv_sub hl [0, 1, 2, 3, 4] rfl⟩
  rintro n ih_1041 H locs ls st ⟨v_1030, v_1031, hn_1041, bv_1030, bv_1031, rl1031_0, rl1031_1, rl1031_2, rfl, ⟨hP, hD⟩, hS, hl⟩
  refine lv_iload hx hb dX1_overdueTo_5 (lv_at hl 0 rfl) ?_
  refine lv_aload_n hx hb dX1_overdueTo_7 rfl (lv_at hl 2 rfl) ?_
  refine va_get (D := G) (ci := 1) (v := .int ob_size) (C := RX1) (T := TX1) (N := 8) hx hb hw0 inA_wsX10 hown hK.1 hP 0 rfl rfl 0 (by decide) (hw0 _ m_307) (fun _ h9 => h9) rfl dX1_overdueTo_8 ?_
  refine lv_icmp_ge (tgt := 45) hx hb dX1_overdueTo_11 (by decide) (fun c_1042 => ?_) (fun c_1042 => ?_)
  · skip
    have nc_1042 := nb_le (600) (0) c_1042 p_ob_size bv_1030 (by decide)
    refine lv_iload_n hx hb dX1_overdueTo_45 rfl (lv_at hl 1 rfl) ?_
    exact W.iret (v := v_1031) hx hb hr (fun t ht hW => ⟨⟨v_1031, _, rfl, ⟨v_1031, bv_1031, (fun L H => ct_e (rl1031_0 L H) (by have h9 := H.1; omega)), rfl, rfl⟩, by rw [ht]; exact hP, hD⟩, hS.F ht⟩) hS.2.2 dX1_overdueTo_46
  · skip
    have nc_1042 := nb_nle (599) (1) c_1042 bv_1030 p_ob_size (by decide)
    refine lv_aload_n hx hb dX1_overdueTo_14 rfl (lv_at hl 2 rfl) ?_
    refine va_get (D := G) (ci := 1) (v := .ref ob_creditor) (C := RX1) (T := TX1) (N := 8) hx hb hw0 inA_wsX10 hown hK.1 hP 0 rfl rfl 2 (by decide) (hw0 _ m_309) (fun _ h9 => h9) rfl dX1_overdueTo_15 ?_
    refine lv_iload hx hb dX1_overdueTo_18 (lv_at hl 0 rfl) ?_
    refine va_iald hx hb hK.1 hP 2 1 rfl rfl (vi nc_1042.1 (by decide)) dX1_overdueTo_20 ?_
    refine lv_topi (fun v_1043 ev_1043 => ?_)
    have bv_1043 : (0 : Int) ≤ v_1043.toInt ∧ v_1043.toInt ≤ 15 := rd_b ev_1043 p_fob_creditor
    have lbv_1043 := ld_n ev_1043 (by omega)
    refine lv_iload_n hx hb dX1_overdueTo_21 rfl (lv_at hl 3 rfl) ?_
    refine lv_icmp_ne (tgt := 39) hx hb dX1_overdueTo_22 (by decide) (fun c_1044 => ?_) (fun c_1044 => ?_)
    · skip
      have nc_1044 : v_1043.toInt ≠ a1.toInt := fun h9 => c_1044 (Int32.toInt_inj.mp h9)
      obtain ⟨v_1045, ev_1045⟩ : ∃ z : Int32, z = v_1030 + 1 := ⟨_, rfl⟩
      have qv_1045 := ba_add ev_1045 nc_1042.1 (bkc (x := 1) (c := 1) (by decide)) (by decide)
      have bv_1045 : (1 : Int) ≤ v_1045.toInt ∧ v_1045.toInt ≤ 600 := bq_add qv_1045 nc_1042.1 (bkc (x := 1) (c := 1) (by decide)) _ _ (by decide)
      have qv_1045 : v_1045.toInt = v_1030.toInt + (1) := qv_1045
      refine lv_iinc (v := v_1045) (lv' := [(4, .int v_1045), (3, .int v_1031), (0, .ref ob), (1, .int a1), (2, .int a2)]) hx hb dX1_overdueTo_39 hl (k := 0) rfl (ev_1045.symm) (by decide) rfl (fun ls hl => ?_)
      refine lv_goto (tgt := 5) hx hb dX1_overdueTo_42 (by decide) ?_
      exact ih_1041 _ (ml_inc (hi := 600) hn_1041 qv_1045 (by decide) ((bw (0) (600) bv_1045 (by decide))).2) _ _ _ _ ⟨v_1045, v_1031, rfl, (bw (0) (600) bv_1045 (by decide)), bv_1031, (fun L H => ct_n (rl1031_0 L H) H.2.1 (by have h9 := H.1; omega) (fun d hd => decide_eq_false (by have h9 := hd.2.1; have h8 := hd.2.2.2.1; omega)) (by omega) (by omega)), (by omega), (by omega), rfl, ⟨hP, hD⟩, hS, lv_sub hl [0, 1, 2, 3, 4] rfl⟩
    · skip
      have nc_1044 := nb_eq (0) (15) c_1044 bv_1043 (btop a1) (by decide)
      refine lv_aload_n hx hb dX1_overdueTo_25 rfl (lv_at hl 2 rfl) ?_
      refine va_get (D := G) (ci := 1) (v := .ref ob_due) (C := RX1) (T := TX1) (N := 8) hx hb hw0 inA_wsX10 hown hK.1 hP 0 rfl rfl 4 (by decide) (hw0 _ m_311) (fun _ h9 => h9) rfl dX1_overdueTo_26 ?_
      refine lv_iload hx hb dX1_overdueTo_29 (lv_at hl 0 rfl) ?_
      refine va_iald hx hb hK.1 hP 4 1 rfl rfl (vi nc_1042.1 (by decide)) dX1_overdueTo_31 ?_
      refine lv_topi (fun v_1046 ev_1046 => ?_)
      have lbv_1046 := ld_n ev_1046 (by omega)
      refine lv_iload_n hx hb dX1_overdueTo_32 rfl (lv_at hl 4 rfl) ?_
      refine lv_icmp_ge (tgt := 39) hx hb dX1_overdueTo_33 (by decide) (fun c_1047 => ?_) (fun c_1047 => ?_)
      · skip
        have nc_1047 := nb_le (2147483647) (-2147483648) c_1047 (btop a2) (btop v_1046) (by decide)
        obtain ⟨v_1048, ev_1048⟩ : ∃ z : Int32, z = v_1030 + 1 := ⟨_, rfl⟩
        have qv_1048 := ba_add ev_1048 nc_1042.1 (bkc (x := 1) (c := 1) (by decide)) (by decide)
        have bv_1048 : (1 : Int) ≤ v_1048.toInt ∧ v_1048.toInt ≤ 600 := bq_add qv_1048 nc_1042.1 (bkc (x := 1) (c := 1) (by decide)) _ _ (by decide)
        have qv_1048 : v_1048.toInt = v_1030.toInt + (1) := qv_1048
        refine lv_iinc (v := v_1048) (lv' := [(4, .int v_1048), (3, .int v_1031), (0, .ref ob), (1, .int a1), (2, .int a2)]) hx hb dX1_overdueTo_39 hl (k := 0) rfl (ev_1048.symm) (by decide) rfl (fun ls hl => ?_)
        refine lv_goto (tgt := 5) hx hb dX1_overdueTo_42 (by decide) ?_
        exact ih_1041 _ (ml_inc (hi := 600) hn_1041 qv_1048 (by decide) ((bw (0) (600) bv_1048 (by decide))).2) _ _ _ _ ⟨v_1048, v_1031, rfl, (bw (0) (600) bv_1048 (by decide)), bv_1031, (fun L H => ct_n (rl1031_0 L H) H.2.1 (by have h9 := H.1; omega) (fun d hd => decide_eq_false (by have h9 := hd.2.1; have h8 := hd.2.2.2.1; omega)) (by omega) (by omega)), (by omega), (by omega), rfl, ⟨hP, hD⟩, hS, lv_sub hl [0, 1, 2, 3, 4] rfl⟩
      · skip
        have nc_1047 := nb_nle (2147483646) (-2147483647) c_1047 (btop v_1046) (btop a2) (by decide)
        have h_1049 : (0 : Int) ≤ v_1031.toInt ∧ v_1031.toInt ≤ 599 := by omega
        obtain ⟨v_1050, ev_1050⟩ : ∃ z : Int32, z = v_1031 + 1 := ⟨_, rfl⟩
        have qv_1050 := ba_add ev_1050 h_1049 (bkc (x := 1) (c := 1) (by decide)) (by decide)
        have bv_1050 : (1 : Int) ≤ v_1050.toInt ∧ v_1050.toInt ≤ 600 := bq_add qv_1050 h_1049 (bkc (x := 1) (c := 1) (by decide)) _ _ (by decide)
        have qv_1050 : v_1050.toInt = v_1031.toInt + (1) := qv_1050
        refine lv_iinc (v := v_1050) (lv' := [(3, .int v_1050), (4, .int v_1030), (0, .ref ob), (1, .int a1), (2, .int a2)]) hx hb dX1_overdueTo_36 hl (k := 1) rfl (ev_1050.symm) (by decide) rfl (fun ls hl => ?_)
        obtain ⟨v_1051, ev_1051⟩ : ∃ z : Int32, z = v_1030 + 1 := ⟨_, rfl⟩
        have qv_1051 := ba_add ev_1051 nc_1042.1 (bkc (x := 1) (c := 1) (by decide)) (by decide)
        have bv_1051 : (1 : Int) ≤ v_1051.toInt ∧ v_1051.toInt ≤ 600 := bq_add qv_1051 nc_1042.1 (bkc (x := 1) (c := 1) (by decide)) _ _ (by decide)
        have qv_1051 : v_1051.toInt = v_1030.toInt + (1) := qv_1051
        refine lv_iinc (v := v_1051) (lv' := [(4, .int v_1051), (3, .int v_1050), (0, .ref ob), (1, .int a1), (2, .int a2)]) hx hb dX1_overdueTo_39 hl (k := 1) rfl (ev_1051.symm) (by decide) rfl (fun ls hl => ?_)
        refine lv_goto (tgt := 5) hx hb dX1_overdueTo_42 (by decide) ?_
        exact ih_1041 _ (ml_inc (hi := 600) hn_1041 qv_1051 (by decide) ((bw (0) (600) bv_1051 (by decide))).2) _ _ _ _ ⟨v_1051, v_1050, rfl, (bw (0) (600) bv_1051 (by decide)), (bw (0) (600) bv_1050 (by decide)), (fun L H => ct_y (rl1031_0 L H) H.2.1 (by have h9 := H.1; omega) (fun d hd => decide_eq_true (by have h9 := hd.2.1; have h8 := hd.2.2.2.1; omega)) (by omega) (by omega)), (by omega), (by omega), rfl, ⟨hP, hD⟩, hS, lv_sub hl [0, 1, 2, 3, 4] rfl⟩

set_option maxHeartbeats 4000000 in
set_option maxRecDepth 100000 in
theorem gX1_clear (l : Launch) (G : va_G) (y : Nat → ClassId) (sz : Nat) (ob : Nat) (ob_size : Int32) (ob_debtor : Nat) (ob_creditor : Nat) (ob_kind : Nat) (ob_due : Nat) (ob_came : Nat) (ob_open : Nat) (ob_kinds : Nat) (fob_debtor : Nat → Int32) (fob_creditor : Nat → Int32) (fob_kind : Nat → Int32) (fob_due : Nat → Int32) (fob_came : Nat → Int32) (fob_open : Nat → Int32) (fob_kinds : Nat → Int32) (p_ob_size : (0 : Int) ≤ ob_size.toInt ∧ ob_size.toInt ≤ 600) (p_fob_creditor : ∀ i, (0 : Int) ≤ (fob_creditor i).toInt ∧ (fob_creditor i).toInt ≤ 15) : Met l yX1_clear (Cond.code yX1_clear cX1_clear 1 none :: wAll) ({ frames := 1, cells := 0, slots := 0, locals := 23 }) (va_Pc [.ref ob] (kp G y sz [(ce_X1 ob ob_size ob_debtor ob_creditor ob_kind ob_due ob_came ob_open ob_kinds), (ce_i600 y ob_debtor fob_debtor), (ce_i600 y ob_creditor fob_creditor), (ce_i600 y ob_kind fob_kind), (ce_i600 y ob_due fob_due), (ce_i600 y ob_came fob_came), (ce_i16 y ob_open fob_open), (ce_i256 y ob_kinds fob_kinds)])) (va_Qv (fun (w : va_W) => (∃ (f_13 : Nat → Int32) (f_14 : Nat → Int32), (dB 0 fob_debtor fob_creditor fob_kind fob_due fob_came f_13 f_14 []) ∧ w = [(ce_X1 ob 0 ob_debtor ob_creditor ob_kind ob_due ob_came ob_open ob_kinds), (ce_i600 y ob_debtor fob_debtor), (ce_i600 y ob_creditor fob_creditor), (ce_i600 y ob_kind fob_kind), (ce_i600 y ob_due fob_due), (ce_i600 y ob_came fob_came), (ce_i16 y ob_open f_13), (ce_i256 y ob_kinds f_14)])) (kq G (va_A [(ce_X1 ob ob_size ob_debtor ob_creditor ob_kind ob_due ob_came ob_open ob_kinds), (ce_i600 y ob_debtor fob_debtor), (ce_i600 y ob_creditor fob_creditor), (ce_i600 y ob_kind fob_kind), (ce_i600 y ob_due fob_due), (ce_i600 y ob_came fob_came), (ce_i16 y ob_open fob_open), (ce_i256 y ob_kinds fob_kinds)] sz)) (va_A [(ce_X1 ob ob_size ob_debtor ob_creditor ob_kind ob_due ob_came ob_open ob_kinds), (ce_i600 y ob_debtor fob_debtor), (ce_i600 y ob_creditor fob_creditor), (ce_i600 y ob_kind fob_kind), (ce_i600 y ob_due fob_due), (ce_i600 y ob_came fob_came), (ce_i16 y ob_open fob_open), (ce_i256 y ob_kinds fob_kinds)] sz)) 0 0 (va_A [(ce_X1 ob ob_size ob_debtor ob_creditor ob_kind ob_due ob_came ob_open ob_kinds), (ce_i600 y ob_debtor fob_debtor), (ce_i600 y ob_creditor fob_creditor), (ce_i600 y ob_kind fob_kind), (ce_i600 y ob_due fob_due), (ce_i600 y ob_came fob_came), (ce_i16 y ob_open fob_open), (ce_i256 y ob_kinds fob_kinds)] sz) := by
  refine Met.ofW (cc := cX1_clear) (maxL := 1) (ret := none) (by decide) rfl ?_
  intro p e s m args below meth c s₁ B hml hv
  obtain ⟨rfl, hsz, hP, hK, hD0⟩ := hv
  have hx := B.exec
  have hb := B.bytes
  have hr := B.returns
  have hw0 : ∀ w ∈ wAll, w.before _ s = true := fun w h => atoms_spec (ws := Cond.code yX1_clear cX1_clear 1 none :: wAll) B.pre w (List.mem_cons_of_mem _ h)
  have hown : s.vm.findClass RX1 = some m.cls := findClass_of_methodNamed B.named
  subst hsz
  have hD := hD0.self (sz := s.heap.size)
  generalize hAe : va_A [(ce_X1 ob ob_size ob_debtor ob_creditor ob_kind ob_due ob_came ob_open ob_kinds), (ce_i600 y ob_debtor fob_debtor), (ce_i600 y ob_creditor fob_creditor), (ce_i600 y ob_kind fob_kind), (ce_i600 y ob_due fob_due), (ce_i600 y ob_came fob_came), (ce_i16 y ob_open fob_open), (ce_i256 y ob_kinds fob_kinds)] s.heap.size = A at hD ⊢
  have hA : ∀ q : Nat, s.heap.size ≤ q → A q := fun q h => by rw [← hAe]; exact Or.inr h
  have hS : va_S A s.heap s.heap [] := va_S.rf
  have hP : va_P G vwCl [(ce_X1 ob ob_size ob_debtor ob_creditor ob_kind ob_due ob_came ob_open ob_kinds), (ce_i600 y ob_debtor fob_debtor), (ce_i600 y ob_creditor fob_creditor), (ce_i600 y ob_kind fob_kind), (ce_i600 y ob_due fob_due), (ce_i600 y ob_came fob_came), (ce_i16 y ob_open fob_open), (ce_i256 y ob_kinds fob_kinds)] s.heap := hP
  have hl := lv_entry ([.ref ob]) (n := 1) (Nat.le_of_ble_eq_true rfl)
  rw [lg_entry_eq]
  generalize (lg_sl ([.ref ob]) ++ List.replicate (1 - (lg_sl ([.ref ob])).length) Slot.unset).toArray = ls at hl ⊢
  have hl : lv_has ls 1 [(0, .ref ob)] := hl
  refine lv_aload_n hx hb dX1_clear_0 rfl (lv_at hl 0 rfl) ?_
  refine lv_iconst (v := 0) hx hb dX1_clear_1 (by decide) ?_
  refine va_put (D := G) (ci := 1) (v := .int 0) (ty := .int) (C := RX1) (T := TX1) (N := 8) hx hb hw0 inA_wsX10 tyX1 tyX1_ok nmX1 hown hK.1 hP hD hS 0 rfl rfl 0 (by decide) (hw0 _ m_307) (fun _ h9 => h9) rfl fd_X1_0 rfl rfl (Nat.le_of_ble_eq_true rfl) dX1_clear_2 (fun H locs hP hD hS => ?_)
  obtain ⟨hP, hD⟩ : vPD G A H [(ce_X1 ob 0 ob_debtor ob_creditor ob_kind ob_due ob_came ob_open ob_kinds), (ce_i600 y ob_debtor fob_debtor), (ce_i600 y ob_creditor fob_creditor), (ce_i600 y ob_kind fob_kind), (ce_i600 y ob_due fob_due), (ce_i600 y ob_came fob_came), (ce_i16 y ob_open fob_open), (ce_i256 y ob_kinds fob_kinds)] := ⟨hP, hD⟩
  refine lv_aload_n hx hb dX1_clear_5 rfl (lv_at hl 0 rfl) ?_
  refine va_get (D := G) (ci := 1) (v := .ref ob_open) (C := RX1) (T := TX1) (N := 8) hx hb hw0 inA_wsX10 hown hK.1 hP 0 rfl rfl 6 (by decide) (hw0 _ m_313) (fun _ h9 => h9) rfl dX1_clear_6 ?_
  refine lv_iconst (v := 0) hx hb dX1_clear_9 (by decide) ?_
  refine cSvm (As := [.ref ob_open, .int 0]) (rest := []) ⟨hx, hb, hml, hown, hw0⟩ hA hK hP hD hS [false, false, false, false, false, false, true] (gfill16 l G y _ ob_open 0 fob_open ) rfl ⟨(callB_of 2 hw0 (gA m_32) rfl rfl rfl (hw0 _ m_317) (hw0 _ m_316) cb_J7_fill_53178 ⟨Nat.le_of_ble_eq_true rfl, Nat.le_of_ble_eq_true rfl⟩), (hw0 _ m_318)⟩ rfl hl.1 (Nat.le_of_ble_eq_true rfl) dX1_clear_10 ⟨Nat.le_of_ble_eq_true rfl, Nat.le_of_ble_eq_true rfl⟩ (fun w_1001 H locs hw_1001 hP hD hS => ?_)
  obtain ⟨f_1002, h_1003, rfl⟩ := hw_1001
  obtain ⟨hP, hD⟩ : vPD G A H [(ce_X1 ob 0 ob_debtor ob_creditor ob_kind ob_due ob_came ob_open ob_kinds), (ce_i600 y ob_debtor fob_debtor), (ce_i600 y ob_creditor fob_creditor), (ce_i600 y ob_kind fob_kind), (ce_i600 y ob_due fob_due), (ce_i600 y ob_came fob_came), (ce_i16 y ob_open f_1002), (ce_i256 y ob_kinds fob_kinds)] := ⟨hP, hD⟩
  refine lv_aload_n hx hb dX1_clear_13 rfl (lv_at hl 0 rfl) ?_
  refine va_get (D := G) (ci := 1) (v := .ref ob_kinds) (C := RX1) (T := TX1) (N := 8) hx hb hw0 inA_wsX10 hown hK.1 hP 0 rfl rfl 7 (by decide) (hw0 _ m_314) (fun _ h9 => h9) rfl dX1_clear_14 ?_
  refine lv_iconst (v := 0) hx hb dX1_clear_17 (by decide) ?_
  refine cSvm (As := [.ref ob_kinds, .int 0]) (rest := []) ⟨hx, hb, hml, hown, hw0⟩ hA hK hP hD hS [false, false, false, false, false, false, false, true] (gfill256 l G y _ ob_kinds 0 fob_kinds ) rfl ⟨(callB_of 2 hw0 (gA m_32) rfl rfl rfl (hw0 _ m_317) (hw0 _ m_316) cb_J7_fill_53178 ⟨Nat.le_of_ble_eq_true rfl, Nat.le_of_ble_eq_true rfl⟩), (hw0 _ m_318)⟩ rfl hl.1 (Nat.le_of_ble_eq_true rfl) dX1_clear_18 ⟨Nat.le_of_ble_eq_true rfl, Nat.le_of_ble_eq_true rfl⟩ (fun w_1004 H locs hw_1004 hP hD hS => ?_)
  obtain ⟨f_1005, h_1006, rfl⟩ := hw_1004
  obtain ⟨hP, hD⟩ : vPD G A H [(ce_X1 ob 0 ob_debtor ob_creditor ob_kind ob_due ob_came ob_open ob_kinds), (ce_i600 y ob_debtor fob_debtor), (ce_i600 y ob_creditor fob_creditor), (ce_i600 y ob_kind fob_kind), (ce_i600 y ob_due fob_due), (ce_i600 y ob_came fob_came), (ce_i16 y ob_open f_1002), (ce_i256 y ob_kinds f_1005)] := ⟨hP, hD⟩
  exact W.vret hx hb hr (fun t ht hW => ⟨⟨_, rfl, ⟨f_1002, f_1005, (cl_B h_1003 h_1006 (by decide)), rfl⟩, by rw [ht]; exact hP, hD⟩, hS.F ht⟩) hS.2.2 dX1_clear_21

set_option maxHeartbeats 4000000 in
set_option maxRecDepth 100000 in
theorem gX1_copy (l : Launch) (G : va_G) (y : Nat → ClassId) (sz : Nat) (ob : Nat) (o1 : Nat) (ob_size : Int32) (ob_debtor : Nat) (ob_creditor : Nat) (ob_kind : Nat) (ob_due : Nat) (ob_came : Nat) (ob_open : Nat) (ob_kinds : Nat) (fob_debtor : Nat → Int32) (fob_creditor : Nat → Int32) (fob_kind : Nat → Int32) (fob_due : Nat → Int32) (fob_came : Nat → Int32) (fob_open : Nat → Int32) (fob_kinds : Nat → Int32) (o1_size : Int32) (o1_debtor : Nat) (o1_creditor : Nat) (o1_kind : Nat) (o1_due : Nat) (o1_came : Nat) (o1_open : Nat) (o1_kinds : Nat) (fo1_debtor : Nat → Int32) (fo1_creditor : Nat → Int32) (fo1_kind : Nat → Int32) (fo1_due : Nat → Int32) (fo1_came : Nat → Int32) (fo1_open : Nat → Int32) (fo1_kinds : Nat → Int32) (p_ob_size : (0 : Int) ≤ ob_size.toInt ∧ ob_size.toInt ≤ 600) (p_fob_creditor : ∀ i, (0 : Int) ≤ (fob_creditor i).toInt ∧ (fob_creditor i).toInt ≤ 15) (p_o1_size : (0 : Int) ≤ o1_size.toInt ∧ o1_size.toInt ≤ 600) (p_fo1_creditor : ∀ i, (0 : Int) ≤ (fo1_creditor i).toInt ∧ (fo1_creditor i).toInt ≤ 15) : Met l yX1_copy (Cond.code yX1_copy cX1_copy 2 none :: wAll) ({ frames := 1, cells := 0, slots := 0, locals := 72 }) (va_Pc [.ref ob, .ref o1] (kp G y sz [(ce_X1 ob ob_size ob_debtor ob_creditor ob_kind ob_due ob_came ob_open ob_kinds), (ce_i600 y ob_debtor fob_debtor), (ce_i600 y ob_creditor fob_creditor), (ce_i600 y ob_kind fob_kind), (ce_i600 y ob_due fob_due), (ce_i600 y ob_came fob_came), (ce_i16 y ob_open fob_open), (ce_i256 y ob_kinds fob_kinds), (ce_X1 o1 o1_size o1_debtor o1_creditor o1_kind o1_due o1_came o1_open o1_kinds), (ce_i600 y o1_debtor fo1_debtor), (ce_i600 y o1_creditor fo1_creditor), (ce_i600 y o1_kind fo1_kind), (ce_i600 y o1_due fo1_due), (ce_i600 y o1_came fo1_came), (ce_i16 y o1_open fo1_open), (ce_i256 y o1_kinds fo1_kinds)])) (va_Qv (fun (w : va_W) => (∃ (f_15 : Nat → Int32) (f_16 : Nat → Int32) (f_17 : Nat → Int32) (f_18 : Nat → Int32) (f_19 : Nat → Int32) (f_20 : Nat → Int32) (f_21 : Nat → Int32), (∀ i, (0 : Int) ≤ (f_16 i).toInt ∧ (f_16 i).toInt ≤ 15) ∧ (∀ L, dB o1_size.toInt fo1_debtor fo1_creditor fo1_kind fo1_due fo1_came fo1_open fo1_kinds L → dB o1_size.toInt f_15 f_16 f_17 f_18 f_19 f_20 f_21 L) ∧ w = [(ce_X1 ob o1_size ob_debtor ob_creditor ob_kind ob_due ob_came ob_open ob_kinds), (ce_i600 y ob_debtor f_15), (ce_i600 y ob_creditor f_16), (ce_i600 y ob_kind f_17), (ce_i600 y ob_due f_18), (ce_i600 y ob_came f_19), (ce_i16 y ob_open f_20), (ce_i256 y ob_kinds f_21), (ce_X1 o1 o1_size o1_debtor o1_creditor o1_kind o1_due o1_came o1_open o1_kinds), (ce_i600 y o1_debtor fo1_debtor), (ce_i600 y o1_creditor fo1_creditor), (ce_i600 y o1_kind fo1_kind), (ce_i600 y o1_due fo1_due), (ce_i600 y o1_came fo1_came), (ce_i16 y o1_open fo1_open), (ce_i256 y o1_kinds fo1_kinds)])) (kq G (va_A [(ce_X1 ob ob_size ob_debtor ob_creditor ob_kind ob_due ob_came ob_open ob_kinds), (ce_i600 y ob_debtor fob_debtor), (ce_i600 y ob_creditor fob_creditor), (ce_i600 y ob_kind fob_kind), (ce_i600 y ob_due fob_due), (ce_i600 y ob_came fob_came), (ce_i16 y ob_open fob_open), (ce_i256 y ob_kinds fob_kinds), (ce_X1 o1 o1_size o1_debtor o1_creditor o1_kind o1_due o1_came o1_open o1_kinds), (ce_i600 y o1_debtor fo1_debtor), (ce_i600 y o1_creditor fo1_creditor), (ce_i600 y o1_kind fo1_kind), (ce_i600 y o1_due fo1_due), (ce_i600 y o1_came fo1_came), (ce_i16 y o1_open fo1_open), (ce_i256 y o1_kinds fo1_kinds)] sz)) (va_A [(ce_X1 ob ob_size ob_debtor ob_creditor ob_kind ob_due ob_came ob_open ob_kinds), (ce_i600 y ob_debtor fob_debtor), (ce_i600 y ob_creditor fob_creditor), (ce_i600 y ob_kind fob_kind), (ce_i600 y ob_due fob_due), (ce_i600 y ob_came fob_came), (ce_i16 y ob_open fob_open), (ce_i256 y ob_kinds fob_kinds), (ce_X1 o1 o1_size o1_debtor o1_creditor o1_kind o1_due o1_came o1_open o1_kinds), (ce_i600 y o1_debtor fo1_debtor), (ce_i600 y o1_creditor fo1_creditor), (ce_i600 y o1_kind fo1_kind), (ce_i600 y o1_due fo1_due), (ce_i600 y o1_came fo1_came), (ce_i16 y o1_open fo1_open), (ce_i256 y o1_kinds fo1_kinds)] sz)) 0 0 (va_A [(ce_X1 ob ob_size ob_debtor ob_creditor ob_kind ob_due ob_came ob_open ob_kinds), (ce_i600 y ob_debtor fob_debtor), (ce_i600 y ob_creditor fob_creditor), (ce_i600 y ob_kind fob_kind), (ce_i600 y ob_due fob_due), (ce_i600 y ob_came fob_came), (ce_i16 y ob_open fob_open), (ce_i256 y ob_kinds fob_kinds), (ce_X1 o1 o1_size o1_debtor o1_creditor o1_kind o1_due o1_came o1_open o1_kinds), (ce_i600 y o1_debtor fo1_debtor), (ce_i600 y o1_creditor fo1_creditor), (ce_i600 y o1_kind fo1_kind), (ce_i600 y o1_due fo1_due), (ce_i600 y o1_came fo1_came), (ce_i16 y o1_open fo1_open), (ce_i256 y o1_kinds fo1_kinds)] sz) := by
  refine Met.ofW (cc := cX1_copy) (maxL := 2) (ret := none) (by decide) rfl ?_
  intro p e s m args below meth c s₁ B hml hv
  obtain ⟨rfl, hsz, hP, hK, hD0⟩ := hv
  have hx := B.exec
  have hb := B.bytes
  have hr := B.returns
  have hw0 : ∀ w ∈ wAll, w.before _ s = true := fun w h => atoms_spec (ws := Cond.code yX1_copy cX1_copy 2 none :: wAll) B.pre w (List.mem_cons_of_mem _ h)
  have hown : s.vm.findClass RX1 = some m.cls := findClass_of_methodNamed B.named
  subst hsz
  have hD := hD0.self (sz := s.heap.size)
  generalize hAe : va_A [(ce_X1 ob ob_size ob_debtor ob_creditor ob_kind ob_due ob_came ob_open ob_kinds), (ce_i600 y ob_debtor fob_debtor), (ce_i600 y ob_creditor fob_creditor), (ce_i600 y ob_kind fob_kind), (ce_i600 y ob_due fob_due), (ce_i600 y ob_came fob_came), (ce_i16 y ob_open fob_open), (ce_i256 y ob_kinds fob_kinds), (ce_X1 o1 o1_size o1_debtor o1_creditor o1_kind o1_due o1_came o1_open o1_kinds), (ce_i600 y o1_debtor fo1_debtor), (ce_i600 y o1_creditor fo1_creditor), (ce_i600 y o1_kind fo1_kind), (ce_i600 y o1_due fo1_due), (ce_i600 y o1_came fo1_came), (ce_i16 y o1_open fo1_open), (ce_i256 y o1_kinds fo1_kinds)] s.heap.size = A at hD ⊢
  have hA : ∀ q : Nat, s.heap.size ≤ q → A q := fun q h => by rw [← hAe]; exact Or.inr h
  have hS : va_S A s.heap s.heap [] := va_S.rf
  have hP : va_P G vwCl [(ce_X1 ob ob_size ob_debtor ob_creditor ob_kind ob_due ob_came ob_open ob_kinds), (ce_i600 y ob_debtor fob_debtor), (ce_i600 y ob_creditor fob_creditor), (ce_i600 y ob_kind fob_kind), (ce_i600 y ob_due fob_due), (ce_i600 y ob_came fob_came), (ce_i16 y ob_open fob_open), (ce_i256 y ob_kinds fob_kinds), (ce_X1 o1 o1_size o1_debtor o1_creditor o1_kind o1_due o1_came o1_open o1_kinds), (ce_i600 y o1_debtor fo1_debtor), (ce_i600 y o1_creditor fo1_creditor), (ce_i600 y o1_kind fo1_kind), (ce_i600 y o1_due fo1_due), (ce_i600 y o1_came fo1_came), (ce_i16 y o1_open fo1_open), (ce_i256 y o1_kinds fo1_kinds)] s.heap := hP
  have hl := lv_entry ([.ref ob, .ref o1]) (n := 2) (Nat.le_of_ble_eq_true rfl)
  rw [lg_entry_eq]
  generalize (lg_sl ([.ref ob, .ref o1]) ++ List.replicate (2 - (lg_sl ([.ref ob, .ref o1])).length) Slot.unset).toArray = ls at hl ⊢
  have hl : lv_has ls 2 [(0, .ref ob), (1, .ref o1)] := hl
  refine lv_aload_n hx hb dX1_copy_0 rfl (lv_at hl 0 rfl) ?_
  refine lv_aload_n hx hb dX1_copy_1 rfl (lv_at hl 1 rfl) ?_
  refine va_get (D := G) (ci := 1) (v := .int o1_size) (C := RX1) (T := TX1) (N := 8) hx hb hw0 inA_wsX10 hown hK.1 hP 8 rfl rfl 0 (by decide) (hw0 _ m_307) (fun _ h9 => h9) rfl dX1_copy_2 ?_
  refine va_put (D := G) (ci := 1) (v := .int o1_size) (ty := .int) (C := RX1) (T := TX1) (N := 8) hx hb hw0 inA_wsX10 tyX1 tyX1_ok nmX1 hown hK.1 hP hD hS 0 rfl rfl 0 (by decide) (hw0 _ m_307) (fun _ h9 => h9) rfl fd_X1_0 rfl rfl (Nat.le_of_ble_eq_true rfl) dX1_copy_5 (fun H locs hP hD hS => ?_)
  obtain ⟨hP, hD⟩ : vPD G A H [(ce_X1 ob o1_size ob_debtor ob_creditor ob_kind ob_due ob_came ob_open ob_kinds), (ce_i600 y ob_debtor fob_debtor), (ce_i600 y ob_creditor fob_creditor), (ce_i600 y ob_kind fob_kind), (ce_i600 y ob_due fob_due), (ce_i600 y ob_came fob_came), (ce_i16 y ob_open fob_open), (ce_i256 y ob_kinds fob_kinds), (ce_X1 o1 o1_size o1_debtor o1_creditor o1_kind o1_due o1_came o1_open o1_kinds), (ce_i600 y o1_debtor fo1_debtor), (ce_i600 y o1_creditor fo1_creditor), (ce_i600 y o1_kind fo1_kind), (ce_i600 y o1_due fo1_due), (ce_i600 y o1_came fo1_came), (ce_i16 y o1_open fo1_open), (ce_i256 y o1_kinds fo1_kinds)] := ⟨hP, hD⟩
  refine lv_aload_n hx hb dX1_copy_8 rfl (lv_at hl 1 rfl) ?_
  refine va_get (D := G) (ci := 1) (v := .ref o1_debtor) (C := RX1) (T := TX1) (N := 8) hx hb hw0 inA_wsX10 hown hK.1 hP 8 rfl rfl 1 (by decide) (hw0 _ m_308) (fun _ h9 => h9) rfl dX1_copy_9 ?_
  refine lv_iconst (v := 0) hx hb dX1_copy_12 (by decide) ?_
  refine lv_aload_n hx hb dX1_copy_13 rfl (lv_at hl 0 rfl) ?_
  refine va_get (D := G) (ci := 1) (v := .ref ob_debtor) (C := RX1) (T := TX1) (N := 8) hx hb hw0 inA_wsX10 hown hK.1 hP 0 rfl rfl 1 (by decide) (hw0 _ m_308) (fun _ h9 => h9) rfl dX1_copy_14 ?_
  refine lv_iconst (v := 0) hx hb dX1_copy_17 (by decide) ?_
  refine lv_aload_n hx hb dX1_copy_18 rfl (lv_at hl 0 rfl) ?_
  refine va_get (D := G) (ci := 1) (v := .int o1_size) (C := RX1) (T := TX1) (N := 8) hx hb hw0 inA_wsX10 hown hK.1 hP 0 rfl rfl 0 (by decide) (hw0 _ m_307) (fun _ h9 => h9) rfl dX1_copy_19 ?_
  refine va_copyi (own := RX1) hx hb (by rw [hml]; exact hl.1.symm) hown (hw0 _ m_320) (hw0 _ m_272) (hw0 _ m_273) (hw0 _ m_274) hK.1 hP hD hS 9 1 1 1 rfl rfl rfl rfl rfl (by decide) (by decide) (cy_n p_o1_size (by decide)) (cy_l p_o1_size (by decide)) (cy_l p_o1_size (by decide)) (fun i hi => rfl) (Nat.le_of_ble_eq_true rfl) (by decide) dX1_copy_22 (fun H locs hP hD hS => ?_)
  generalize hf_1001 : (va_cpy fo1_debtor fob_debtor (0 : Int32).toNatClampNeg (0 : Int32).toNatClampNeg (o1_size : Int32).toNatClampNeg) = f_1001 at hP hD
  obtain ⟨hP, hD⟩ : vPD G A H [(ce_X1 ob o1_size ob_debtor ob_creditor ob_kind ob_due ob_came ob_open ob_kinds), (ce_i600 y ob_debtor f_1001), (ce_i600 y ob_creditor fob_creditor), (ce_i600 y ob_kind fob_kind), (ce_i600 y ob_due fob_due), (ce_i600 y ob_came fob_came), (ce_i16 y ob_open fob_open), (ce_i256 y ob_kinds fob_kinds), (ce_X1 o1 o1_size o1_debtor o1_creditor o1_kind o1_due o1_came o1_open o1_kinds), (ce_i600 y o1_debtor fo1_debtor), (ce_i600 y o1_creditor fo1_creditor), (ce_i600 y o1_kind fo1_kind), (ce_i600 y o1_due fo1_due), (ce_i600 y o1_came fo1_came), (ce_i16 y o1_open fo1_open), (ce_i256 y o1_kinds fo1_kinds)] := ⟨hP, hD⟩
  refine lv_aload_n hx hb dX1_copy_25 rfl (lv_at hl 1 rfl) ?_
  refine va_get (D := G) (ci := 1) (v := .ref o1_creditor) (C := RX1) (T := TX1) (N := 8) hx hb hw0 inA_wsX10 hown hK.1 hP 8 rfl rfl 2 (by decide) (hw0 _ m_309) (fun _ h9 => h9) rfl dX1_copy_26 ?_
  refine lv_iconst (v := 0) hx hb dX1_copy_29 (by decide) ?_
  refine lv_aload_n hx hb dX1_copy_30 rfl (lv_at hl 0 rfl) ?_
  refine va_get (D := G) (ci := 1) (v := .ref ob_creditor) (C := RX1) (T := TX1) (N := 8) hx hb hw0 inA_wsX10 hown hK.1 hP 0 rfl rfl 2 (by decide) (hw0 _ m_309) (fun _ h9 => h9) rfl dX1_copy_31 ?_
  refine lv_iconst (v := 0) hx hb dX1_copy_34 (by decide) ?_
  refine lv_aload_n hx hb dX1_copy_35 rfl (lv_at hl 0 rfl) ?_
  refine va_get (D := G) (ci := 1) (v := .int o1_size) (C := RX1) (T := TX1) (N := 8) hx hb hw0 inA_wsX10 hown hK.1 hP 0 rfl rfl 0 (by decide) (hw0 _ m_307) (fun _ h9 => h9) rfl dX1_copy_36 ?_
  refine va_copyi (own := RX1) hx hb (by rw [hml]; exact hl.1.symm) hown (hw0 _ m_320) (hw0 _ m_272) (hw0 _ m_273) (hw0 _ m_274) hK.1 hP hD hS 10 2 1 1 rfl rfl rfl rfl rfl (by decide) (by decide) (cy_n p_o1_size (by decide)) (cy_l p_o1_size (by decide)) (cy_l p_o1_size (by decide)) (fun i hi => rfl) (Nat.le_of_ble_eq_true rfl) (by decide) dX1_copy_39 (fun H locs hP hD hS => ?_)
  generalize hf_1002 : (va_cpy fo1_creditor fob_creditor (0 : Int32).toNatClampNeg (0 : Int32).toNatClampNeg (o1_size : Int32).toNatClampNeg) = f_1002 at hP hD
  have bf_1002 : ∀ i, (0 : Int) ≤ (f_1002 i).toInt ∧ (f_1002 i).toInt ≤ 15 := hf_1002 ▸ cp_b p_fo1_creditor p_fob_creditor
  obtain ⟨hP, hD⟩ : vPD G A H [(ce_X1 ob o1_size ob_debtor ob_creditor ob_kind ob_due ob_came ob_open ob_kinds), (ce_i600 y ob_debtor f_1001), (ce_i600 y ob_creditor f_1002), (ce_i600 y ob_kind fob_kind), (ce_i600 y ob_due fob_due), (ce_i600 y ob_came fob_came), (ce_i16 y ob_open fob_open), (ce_i256 y ob_kinds fob_kinds), (ce_X1 o1 o1_size o1_debtor o1_creditor o1_kind o1_due o1_came o1_open o1_kinds), (ce_i600 y o1_debtor fo1_debtor), (ce_i600 y o1_creditor fo1_creditor), (ce_i600 y o1_kind fo1_kind), (ce_i600 y o1_due fo1_due), (ce_i600 y o1_came fo1_came), (ce_i16 y o1_open fo1_open), (ce_i256 y o1_kinds fo1_kinds)] := ⟨hP, hD⟩
  refine lv_aload_n hx hb dX1_copy_42 rfl (lv_at hl 1 rfl) ?_
  refine va_get (D := G) (ci := 1) (v := .ref o1_kind) (C := RX1) (T := TX1) (N := 8) hx hb hw0 inA_wsX10 hown hK.1 hP 8 rfl rfl 3 (by decide) (hw0 _ m_310) (fun _ h9 => h9) rfl dX1_copy_43 ?_
  refine lv_iconst (v := 0) hx hb dX1_copy_46 (by decide) ?_
  refine lv_aload_n hx hb dX1_copy_47 rfl (lv_at hl 0 rfl) ?_
  refine va_get (D := G) (ci := 1) (v := .ref ob_kind) (C := RX1) (T := TX1) (N := 8) hx hb hw0 inA_wsX10 hown hK.1 hP 0 rfl rfl 3 (by decide) (hw0 _ m_310) (fun _ h9 => h9) rfl dX1_copy_48 ?_
  refine lv_iconst (v := 0) hx hb dX1_copy_51 (by decide) ?_
  refine lv_aload_n hx hb dX1_copy_52 rfl (lv_at hl 0 rfl) ?_
  refine va_get (D := G) (ci := 1) (v := .int o1_size) (C := RX1) (T := TX1) (N := 8) hx hb hw0 inA_wsX10 hown hK.1 hP 0 rfl rfl 0 (by decide) (hw0 _ m_307) (fun _ h9 => h9) rfl dX1_copy_53 ?_
  refine va_copyi (own := RX1) hx hb (by rw [hml]; exact hl.1.symm) hown (hw0 _ m_320) (hw0 _ m_272) (hw0 _ m_273) (hw0 _ m_274) hK.1 hP hD hS 11 3 1 1 rfl rfl rfl rfl rfl (by decide) (by decide) (cy_n p_o1_size (by decide)) (cy_l p_o1_size (by decide)) (cy_l p_o1_size (by decide)) (fun i hi => rfl) (Nat.le_of_ble_eq_true rfl) (by decide) dX1_copy_56 (fun H locs hP hD hS => ?_)
  generalize hf_1003 : (va_cpy fo1_kind fob_kind (0 : Int32).toNatClampNeg (0 : Int32).toNatClampNeg (o1_size : Int32).toNatClampNeg) = f_1003 at hP hD
  obtain ⟨hP, hD⟩ : vPD G A H [(ce_X1 ob o1_size ob_debtor ob_creditor ob_kind ob_due ob_came ob_open ob_kinds), (ce_i600 y ob_debtor f_1001), (ce_i600 y ob_creditor f_1002), (ce_i600 y ob_kind f_1003), (ce_i600 y ob_due fob_due), (ce_i600 y ob_came fob_came), (ce_i16 y ob_open fob_open), (ce_i256 y ob_kinds fob_kinds), (ce_X1 o1 o1_size o1_debtor o1_creditor o1_kind o1_due o1_came o1_open o1_kinds), (ce_i600 y o1_debtor fo1_debtor), (ce_i600 y o1_creditor fo1_creditor), (ce_i600 y o1_kind fo1_kind), (ce_i600 y o1_due fo1_due), (ce_i600 y o1_came fo1_came), (ce_i16 y o1_open fo1_open), (ce_i256 y o1_kinds fo1_kinds)] := ⟨hP, hD⟩
  refine lv_aload_n hx hb dX1_copy_59 rfl (lv_at hl 1 rfl) ?_
  refine va_get (D := G) (ci := 1) (v := .ref o1_due) (C := RX1) (T := TX1) (N := 8) hx hb hw0 inA_wsX10 hown hK.1 hP 8 rfl rfl 4 (by decide) (hw0 _ m_311) (fun _ h9 => h9) rfl dX1_copy_60 ?_
  refine lv_iconst (v := 0) hx hb dX1_copy_63 (by decide) ?_
  refine lv_aload_n hx hb dX1_copy_64 rfl (lv_at hl 0 rfl) ?_
  refine va_get (D := G) (ci := 1) (v := .ref ob_due) (C := RX1) (T := TX1) (N := 8) hx hb hw0 inA_wsX10 hown hK.1 hP 0 rfl rfl 4 (by decide) (hw0 _ m_311) (fun _ h9 => h9) rfl dX1_copy_65 ?_
  refine lv_iconst (v := 0) hx hb dX1_copy_68 (by decide) ?_
  refine lv_aload_n hx hb dX1_copy_69 rfl (lv_at hl 0 rfl) ?_
  refine va_get (D := G) (ci := 1) (v := .int o1_size) (C := RX1) (T := TX1) (N := 8) hx hb hw0 inA_wsX10 hown hK.1 hP 0 rfl rfl 0 (by decide) (hw0 _ m_307) (fun _ h9 => h9) rfl dX1_copy_70 ?_
  refine va_copyi (own := RX1) hx hb (by rw [hml]; exact hl.1.symm) hown (hw0 _ m_320) (hw0 _ m_272) (hw0 _ m_273) (hw0 _ m_274) hK.1 hP hD hS 12 4 1 1 rfl rfl rfl rfl rfl (by decide) (by decide) (cy_n p_o1_size (by decide)) (cy_l p_o1_size (by decide)) (cy_l p_o1_size (by decide)) (fun i hi => rfl) (Nat.le_of_ble_eq_true rfl) (by decide) dX1_copy_73 (fun H locs hP hD hS => ?_)
  generalize hf_1004 : (va_cpy fo1_due fob_due (0 : Int32).toNatClampNeg (0 : Int32).toNatClampNeg (o1_size : Int32).toNatClampNeg) = f_1004 at hP hD
  obtain ⟨hP, hD⟩ : vPD G A H [(ce_X1 ob o1_size ob_debtor ob_creditor ob_kind ob_due ob_came ob_open ob_kinds), (ce_i600 y ob_debtor f_1001), (ce_i600 y ob_creditor f_1002), (ce_i600 y ob_kind f_1003), (ce_i600 y ob_due f_1004), (ce_i600 y ob_came fob_came), (ce_i16 y ob_open fob_open), (ce_i256 y ob_kinds fob_kinds), (ce_X1 o1 o1_size o1_debtor o1_creditor o1_kind o1_due o1_came o1_open o1_kinds), (ce_i600 y o1_debtor fo1_debtor), (ce_i600 y o1_creditor fo1_creditor), (ce_i600 y o1_kind fo1_kind), (ce_i600 y o1_due fo1_due), (ce_i600 y o1_came fo1_came), (ce_i16 y o1_open fo1_open), (ce_i256 y o1_kinds fo1_kinds)] := ⟨hP, hD⟩
  refine lv_aload_n hx hb dX1_copy_76 rfl (lv_at hl 1 rfl) ?_
  refine va_get (D := G) (ci := 1) (v := .ref o1_came) (C := RX1) (T := TX1) (N := 8) hx hb hw0 inA_wsX10 hown hK.1 hP 8 rfl rfl 5 (by decide) (hw0 _ m_312) (fun _ h9 => h9) rfl dX1_copy_77 ?_
  refine lv_iconst (v := 0) hx hb dX1_copy_80 (by decide) ?_
  refine lv_aload_n hx hb dX1_copy_81 rfl (lv_at hl 0 rfl) ?_
  refine va_get (D := G) (ci := 1) (v := .ref ob_came) (C := RX1) (T := TX1) (N := 8) hx hb hw0 inA_wsX10 hown hK.1 hP 0 rfl rfl 5 (by decide) (hw0 _ m_312) (fun _ h9 => h9) rfl dX1_copy_82 ?_
  refine lv_iconst (v := 0) hx hb dX1_copy_85 (by decide) ?_
  refine lv_aload_n hx hb dX1_copy_86 rfl (lv_at hl 0 rfl) ?_
  refine va_get (D := G) (ci := 1) (v := .int o1_size) (C := RX1) (T := TX1) (N := 8) hx hb hw0 inA_wsX10 hown hK.1 hP 0 rfl rfl 0 (by decide) (hw0 _ m_307) (fun _ h9 => h9) rfl dX1_copy_87 ?_
  refine va_copyi (own := RX1) hx hb (by rw [hml]; exact hl.1.symm) hown (hw0 _ m_320) (hw0 _ m_272) (hw0 _ m_273) (hw0 _ m_274) hK.1 hP hD hS 13 5 1 1 rfl rfl rfl rfl rfl (by decide) (by decide) (cy_n p_o1_size (by decide)) (cy_l p_o1_size (by decide)) (cy_l p_o1_size (by decide)) (fun i hi => rfl) (Nat.le_of_ble_eq_true rfl) (by decide) dX1_copy_90 (fun H locs hP hD hS => ?_)
  generalize hf_1005 : (va_cpy fo1_came fob_came (0 : Int32).toNatClampNeg (0 : Int32).toNatClampNeg (o1_size : Int32).toNatClampNeg) = f_1005 at hP hD
  obtain ⟨hP, hD⟩ : vPD G A H [(ce_X1 ob o1_size ob_debtor ob_creditor ob_kind ob_due ob_came ob_open ob_kinds), (ce_i600 y ob_debtor f_1001), (ce_i600 y ob_creditor f_1002), (ce_i600 y ob_kind f_1003), (ce_i600 y ob_due f_1004), (ce_i600 y ob_came f_1005), (ce_i16 y ob_open fob_open), (ce_i256 y ob_kinds fob_kinds), (ce_X1 o1 o1_size o1_debtor o1_creditor o1_kind o1_due o1_came o1_open o1_kinds), (ce_i600 y o1_debtor fo1_debtor), (ce_i600 y o1_creditor fo1_creditor), (ce_i600 y o1_kind fo1_kind), (ce_i600 y o1_due fo1_due), (ce_i600 y o1_came fo1_came), (ce_i16 y o1_open fo1_open), (ce_i256 y o1_kinds fo1_kinds)] := ⟨hP, hD⟩
  refine lv_aload_n hx hb dX1_copy_93 rfl (lv_at hl 1 rfl) ?_
  refine va_get (D := G) (ci := 1) (v := .ref o1_open) (C := RX1) (T := TX1) (N := 8) hx hb hw0 inA_wsX10 hown hK.1 hP 8 rfl rfl 6 (by decide) (hw0 _ m_313) (fun _ h9 => h9) rfl dX1_copy_94 ?_
  refine lv_iconst (v := 0) hx hb dX1_copy_97 (by decide) ?_
  refine lv_aload_n hx hb dX1_copy_98 rfl (lv_at hl 0 rfl) ?_
  refine va_get (D := G) (ci := 1) (v := .ref ob_open) (C := RX1) (T := TX1) (N := 8) hx hb hw0 inA_wsX10 hown hK.1 hP 0 rfl rfl 6 (by decide) (hw0 _ m_313) (fun _ h9 => h9) rfl dX1_copy_99 ?_
  refine lv_iconst (v := 0) hx hb dX1_copy_102 (by decide) ?_
  refine lv_aload_n hx hb dX1_copy_103 rfl (lv_at hl 0 rfl) ?_
  refine va_get (D := G) (ci := 1) (v := .ref ob_open) (C := RX1) (T := TX1) (N := 8) hx hb hw0 inA_wsX10 hown hK.1 hP 0 rfl rfl 6 (by decide) (hw0 _ m_313) (fun _ h9 => h9) rfl dX1_copy_104 ?_
  refine va_alen (v := 16) hx hb hK.1 hP 6 1 rfl rfl rfl dX1_copy_107 ?_
  refine va_copyi (own := RX1) hx hb (by rw [hml]; exact hl.1.symm) hown (hw0 _ m_320) (hw0 _ m_272) (hw0 _ m_273) (hw0 _ m_274) hK.1 hP hD hS 14 6 1 1 rfl rfl rfl rfl rfl (by decide) (by decide) (by decide) (by decide) (by decide) (fun i hi => rfl) (Nat.le_of_ble_eq_true rfl) (by decide) dX1_copy_108 (fun H locs hP hD hS => ?_)
  generalize hf_1006 : (va_cpy fo1_open fob_open (0 : Int32).toNatClampNeg (0 : Int32).toNatClampNeg (16 : Int32).toNatClampNeg) = f_1006 at hP hD
  obtain ⟨hP, hD⟩ : vPD G A H [(ce_X1 ob o1_size ob_debtor ob_creditor ob_kind ob_due ob_came ob_open ob_kinds), (ce_i600 y ob_debtor f_1001), (ce_i600 y ob_creditor f_1002), (ce_i600 y ob_kind f_1003), (ce_i600 y ob_due f_1004), (ce_i600 y ob_came f_1005), (ce_i16 y ob_open f_1006), (ce_i256 y ob_kinds fob_kinds), (ce_X1 o1 o1_size o1_debtor o1_creditor o1_kind o1_due o1_came o1_open o1_kinds), (ce_i600 y o1_debtor fo1_debtor), (ce_i600 y o1_creditor fo1_creditor), (ce_i600 y o1_kind fo1_kind), (ce_i600 y o1_due fo1_due), (ce_i600 y o1_came fo1_came), (ce_i16 y o1_open fo1_open), (ce_i256 y o1_kinds fo1_kinds)] := ⟨hP, hD⟩
  refine lv_aload_n hx hb dX1_copy_111 rfl (lv_at hl 1 rfl) ?_
  refine va_get (D := G) (ci := 1) (v := .ref o1_kinds) (C := RX1) (T := TX1) (N := 8) hx hb hw0 inA_wsX10 hown hK.1 hP 8 rfl rfl 7 (by decide) (hw0 _ m_314) (fun _ h9 => h9) rfl dX1_copy_112 ?_
  refine lv_iconst (v := 0) hx hb dX1_copy_115 (by decide) ?_
  refine lv_aload_n hx hb dX1_copy_116 rfl (lv_at hl 0 rfl) ?_
  refine va_get (D := G) (ci := 1) (v := .ref ob_kinds) (C := RX1) (T := TX1) (N := 8) hx hb hw0 inA_wsX10 hown hK.1 hP 0 rfl rfl 7 (by decide) (hw0 _ m_314) (fun _ h9 => h9) rfl dX1_copy_117 ?_
  refine lv_iconst (v := 0) hx hb dX1_copy_120 (by decide) ?_
  refine lv_aload_n hx hb dX1_copy_121 rfl (lv_at hl 0 rfl) ?_
  refine va_get (D := G) (ci := 1) (v := .ref ob_kinds) (C := RX1) (T := TX1) (N := 8) hx hb hw0 inA_wsX10 hown hK.1 hP 0 rfl rfl 7 (by decide) (hw0 _ m_314) (fun _ h9 => h9) rfl dX1_copy_122 ?_
  refine va_alen (v := 256) hx hb hK.1 hP 7 1 rfl rfl rfl dX1_copy_125 ?_
  refine va_copyi (own := RX1) hx hb (by rw [hml]; exact hl.1.symm) hown (hw0 _ m_320) (hw0 _ m_272) (hw0 _ m_273) (hw0 _ m_274) hK.1 hP hD hS 15 7 1 1 rfl rfl rfl rfl rfl (by decide) (by decide) (by decide) (by decide) (by decide) (fun i hi => rfl) (Nat.le_of_ble_eq_true rfl) (by decide) dX1_copy_126 (fun H locs hP hD hS => ?_)
  generalize hf_1007 : (va_cpy fo1_kinds fob_kinds (0 : Int32).toNatClampNeg (0 : Int32).toNatClampNeg (256 : Int32).toNatClampNeg) = f_1007 at hP hD
  obtain ⟨hP, hD⟩ : vPD G A H [(ce_X1 ob o1_size ob_debtor ob_creditor ob_kind ob_due ob_came ob_open ob_kinds), (ce_i600 y ob_debtor f_1001), (ce_i600 y ob_creditor f_1002), (ce_i600 y ob_kind f_1003), (ce_i600 y ob_due f_1004), (ce_i600 y ob_came f_1005), (ce_i16 y ob_open f_1006), (ce_i256 y ob_kinds f_1007), (ce_X1 o1 o1_size o1_debtor o1_creditor o1_kind o1_due o1_came o1_open o1_kinds), (ce_i600 y o1_debtor fo1_debtor), (ce_i600 y o1_creditor fo1_creditor), (ce_i600 y o1_kind fo1_kind), (ce_i600 y o1_due fo1_due), (ce_i600 y o1_came fo1_came), (ce_i16 y o1_open fo1_open), (ce_i256 y o1_kinds fo1_kinds)] := ⟨hP, hD⟩
  exact W.vret hx hb hr (fun t ht hW => ⟨⟨_, rfl, ⟨f_1001, f_1002, f_1003, f_1004, f_1005, f_1006, f_1007, bf_1002, (by have lm1 : Int32.toInt (-1) = -1 := (by decide); have l91 : Int32.toInt 1 = 1 := (by decide); have l92 : Int32.toInt 2 = 2 := (by decide); have l93 : Int32.toInt 3 = 3 := (by decide); intro L H; exact cp_B H (fun j hj => cpz hf_1001 (by omega) j hj) (fun j hj => cpz hf_1002 (by omega) j hj) (fun j hj => cpz hf_1003 (by omega) j hj) (fun j hj => cpz hf_1004 (by omega) j hj) (fun j hj => cpz hf_1005 (by omega) j hj) (fun j hj => cpy_n hf_1006 j (by exact hj)) (fun j hj => cpy_n hf_1007 j (by exact hj)) rfl), rfl⟩, by rw [ht]; exact hP, hD⟩, hS.F ht⟩) hS.2.2 dX1_copy_129
