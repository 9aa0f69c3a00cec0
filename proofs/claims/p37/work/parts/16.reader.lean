set_option maxHeartbeats 4000000 in
set_option maxRecDepth 100000 in
theorem sJ0_coder_7d493 (l : Launch) (G : va_G) (y : Nat → ClassId) (aK aV : Nat → Nat) (sz : Nat) (i1 : Nat) (hi1 : i1 < nS) : Met l yJ0_coder_7d493 (Cond.code yJ0_coder_7d493 cJ0_coder_7d493 1 (some .byte) :: wAll) ({ frames := 0, cells := 0, slots := 0, locals := 0 }) (va_Pc [.ref (aK i1)] (kps G y aK aV sz [])) (va_Qi (fun (r : Int32) (w : va_W) => (r = 0 ∧ w = [])) (kq G (va_A [] sz)) (va_A [] sz)) 0 0 (va_A [] sz) := by
  refine Met.ofW (cc := cJ0_coder_7d493) (maxL := 1) (ret := (some .byte)) (by decide) rfl ?_
  intro p e s m args below meth c s₁ B hml hv
  obtain ⟨rfl, ⟨hsz, hP, hK, hD0⟩, hE⟩ := hv
  have hx := B.exec
  have hb := B.bytes
  have hr := B.returns
  have hw0 : ∀ w ∈ wAll, w.before _ s = true := fun w h => atoms_spec (ws := Cond.code yJ0_coder_7d493 cJ0_coder_7d493 1 (some .byte) :: wAll) B.pre w (List.mem_cons_of_mem _ h)
  have hown : s.vm.findClass RJ0 = some m.cls := findClass_of_methodNamed B.named
  subst hsz
  have hD := hD0.self (sz := s.heap.size)
  generalize hAe : va_A [] s.heap.size = A at hD hE ⊢
  have hA : ∀ q : Nat, s.heap.size ≤ q → A q := fun q h => by rw [← hAe]; exact Or.inr h
  have hS : va_S A s.heap s.heap [] := va_S.rf
  have hP : va_P G vwCl [] s.heap := hP
  have hl := lv_entry ([.ref (aK i1)]) (n := 1) (Nat.le_of_ble_eq_true rfl)
  rw [lg_entry_eq]
  generalize (lg_sl ([.ref (aK i1)]) ++ List.replicate (1 - (lg_sl ([.ref (aK i1)])).length) Slot.unset).toArray = ls at hl ⊢
  have hl : lv_has ls 1 [(0, .ref (aK i1))] := hl
  refine va_gets hx hb hE.2.2.1 hS hown (hw0 _ m_15) (fun _ h9 => h9) dJ0_coder_7d493_0 ?_
  refine lv_if_eq (tgt := 13) hx hb dJ0_coder_7d493_3 (by decide) (fun c9 => absurd c9 (by decide)) (fun _ => ?_)
  refine lv_aload_n hx hb dJ0_coder_7d493_6 rfl (lv_at hl 0 rfl) ?_
  refine vk_getf hx hb (hE.1 i1 hi1).2.1 hS hown (hw0 _ m_16) (fun _ h9 => h9) dJ0_coder_7d493_7 ?_
  refine lv_goto (tgt := 14) hx hb dJ0_coder_7d493_10 (by decide) ?_
  exact W.zret (v := 0) hx hb hr rfl (fun t ht hW => ⟨⟨0, _, rfl, ⟨rfl, rfl⟩, by rw [ht]; exact hP, hD⟩, hS.F ht⟩) hS.2.2 dJ0_coder_7d493_14

set_option maxHeartbeats 4000000 in
set_option maxRecDepth 100000 in
theorem sJ0_isLatin1_aae02 (l : Launch) (G : va_G) (y : Nat → ClassId) (aK aV : Nat → Nat) (sz : Nat) (i1 : Nat) (hi1 : i1 < nS) : Met l yJ0_isLatin1_aae02 (Cond.code yJ0_isLatin1_aae02 cJ0_isLatin1_aae02 1 (some .boolean) :: wAll) ({ frames := 0, cells := 0, slots := 0, locals := 0 }) (va_Pc [.ref (aK i1)] (kps G y aK aV sz [])) (va_Qi (fun (r : Int32) (w : va_W) => (r = 1 ∧ w = [])) (kq G (va_A [] sz)) (va_A [] sz)) 0 0 (va_A [] sz) := by
  refine Met.ofW (cc := cJ0_isLatin1_aae02) (maxL := 1) (ret := (some .boolean)) (by decide) rfl ?_
  intro p e s m args below meth c s₁ B hml hv
  obtain ⟨rfl, ⟨hsz, hP, hK, hD0⟩, hE⟩ := hv
  have hx := B.exec
  have hb := B.bytes
  have hr := B.returns
  have hw0 : ∀ w ∈ wAll, w.before _ s = true := fun w h => atoms_spec (ws := Cond.code yJ0_isLatin1_aae02 cJ0_isLatin1_aae02 1 (some .boolean) :: wAll) B.pre w (List.mem_cons_of_mem _ h)
  have hown : s.vm.findClass RJ0 = some m.cls := findClass_of_methodNamed B.named
  subst hsz
  have hD := hD0.self (sz := s.heap.size)
  generalize hAe : va_A [] s.heap.size = A at hD hE ⊢
  have hA : ∀ q : Nat, s.heap.size ≤ q → A q := fun q h => by rw [← hAe]; exact Or.inr h
  have hS : va_S A s.heap s.heap [] := va_S.rf
  have hP : va_P G vwCl [] s.heap := hP
  have hl := lv_entry ([.ref (aK i1)]) (n := 1) (Nat.le_of_ble_eq_true rfl)
  rw [lg_entry_eq]
  generalize (lg_sl ([.ref (aK i1)]) ++ List.replicate (1 - (lg_sl ([.ref (aK i1)])).length) Slot.unset).toArray = ls at hl ⊢
  have hl : lv_has ls 1 [(0, .ref (aK i1))] := hl
  refine va_gets hx hb hE.2.2.1 hS hown (hw0 _ m_15) (fun _ h9 => h9) dJ0_isLatin1_aae02_0 ?_
  refine lv_if_eq (tgt := 17) hx hb dJ0_isLatin1_aae02_3 (by decide) (fun c9 => absurd c9 (by decide)) (fun _ => ?_)
  refine lv_aload_n hx hb dJ0_isLatin1_aae02_6 rfl (lv_at hl 0 rfl) ?_
  refine vk_getf hx hb (hE.1 i1 hi1).2.1 hS hown (hw0 _ m_16) (fun _ h9 => h9) dJ0_isLatin1_aae02_7 ?_
  refine lv_if_ne (tgt := 17) hx hb dJ0_isLatin1_aae02_10 (by decide) (fun c9 => absurd (by decide) c9) (fun _ => ?_)
  refine lv_iconst (v := 1) hx hb dJ0_isLatin1_aae02_13 (by decide) ?_
  refine lv_goto (tgt := 18) hx hb dJ0_isLatin1_aae02_14 (by decide) ?_
  exact W.zret (v := 1) hx hb hr rfl (fun t ht hW => ⟨⟨1, _, rfl, ⟨rfl, rfl⟩, by rw [ht]; exact hP, hD⟩, hS.F ht⟩) hS.2.2 dJ0_isLatin1_aae02_18

set_option maxHeartbeats 4000000 in
set_option maxRecDepth 100000 in
theorem sJ0_length_8abf5 (l : Launch) (G : va_G) (y : Nat → ClassId) (aK aV : Nat → Nat) (sz : Nat) (i1 : Nat) (hi1 : i1 < nS) : Met l yJ0_length_8abf5 (Cond.code yJ0_length_8abf5 cJ0_length_8abf5 1 (some .int) :: wAll) ({ frames := 1, cells := 0, slots := 0, locals := 20 }) (va_Pc [.ref (aK i1)] (kps G y aK aV sz [])) (va_Qi (fun (r : Int32) (w : va_W) => (∃ (v_7 : Int32), ((2 : Int) ≤ v_7.toInt ∧ v_7.toInt ≤ 60) ∧ (v_7.toInt = (lenS.getD i1 0 : Int)) ∧ r = v_7 ∧ w = [])) (kq G (va_A [] sz)) (va_A [] sz)) 0 0 (va_A [] sz) := by
  refine Met.ofW (cc := cJ0_length_8abf5) (maxL := 1) (ret := (some .int)) (by decide) rfl ?_
  intro p e s m args below meth c s₁ B hml hv
  obtain ⟨rfl, ⟨hsz, hP, hK, hD0⟩, hE⟩ := hv
  have hx := B.exec
  have hb := B.bytes
  have hr := B.returns
  have hw0 : ∀ w ∈ wAll, w.before _ s = true := fun w h => atoms_spec (ws := Cond.code yJ0_length_8abf5 cJ0_length_8abf5 1 (some .int) :: wAll) B.pre w (List.mem_cons_of_mem _ h)
  have hown : s.vm.findClass RJ0 = some m.cls := findClass_of_methodNamed B.named
  subst hsz
  have hD := hD0.self (sz := s.heap.size)
  generalize hAe : va_A [] s.heap.size = A at hD hE ⊢
  have hA : ∀ q : Nat, s.heap.size ≤ q → A q := fun q h => by rw [← hAe]; exact Or.inr h
  have hS : va_S A s.heap s.heap [] := va_S.rf
  have hP : va_P G vwCl [] s.heap := hP
  have hl := lv_entry ([.ref (aK i1)]) (n := 1) (Nat.le_of_ble_eq_true rfl)
  rw [lg_entry_eq]
  generalize (lg_sl ([.ref (aK i1)]) ++ List.replicate (1 - (lg_sl ([.ref (aK i1)])).length) Slot.unset).toArray = ls at hl ⊢
  have hl : lv_has ls 1 [(0, .ref (aK i1))] := hl
  refine lv_aload_n hx hb dJ0_length_8abf5_0 rfl (lv_at hl 0 rfl) ?_
  refine vk_getf hx hb (hE.1 i1 hi1).2.2.1 hS hown (hw0 _ m_5) (fun _ h9 => h9) dJ0_length_8abf5_1 ?_
  refine va_tlen (v := nI (lenS.getD i1 0)) hx hb (hE.1 i1 hi1).2.2.2 hS rfl dJ0_length_8abf5_4 ?_
  refine lv_topi (fun v_1001 ev_1001 => ?_)
  have qv_1001 := ln_q ev_1001 (lenS_b i1 hi1)
  have bv_1001 : (2 : Int) ≤ v_1001.toInt ∧ v_1001.toInt ≤ 60 := ln_b qv_1001 (lenS_b i1 hi1)
  refine lv_aload_n hx hb dJ0_length_8abf5_5 rfl (lv_at hl 0 rfl) ?_
  refine cQim (As := []) (rest := [.int v_1001]) ⟨hx, hb, hml, hown, hw0⟩ hA hK hP hD hS hE [] (sJ0_coder_7d493 l G y aK aV _ i1 hi1) rfl ⟨(callB_of 0 hw0 (gA m_14) rfl rfl rfl (hw0 _ m_2) (hw0 _ m_19) cb_J0_coder_7d493 ⟨Nat.le_of_ble_eq_true rfl, Nat.le_of_ble_eq_true rfl⟩), (hw0 _ m_20), (hw0 _ m_21)⟩ (i9 := i1) hi1 rfl rfl hl.1 (Nat.le_of_ble_eq_true rfl) dJ0_length_8abf5_6 ⟨Nat.le_of_ble_eq_true rfl, Nat.le_of_ble_eq_true rfl⟩ (fun r_1002 w_1002 H locs hw_1002 hP hD hS => ?_)
  obtain ⟨rfl, rfl⟩ := hw_1002
  obtain ⟨hP, hD⟩ : vPD G A H [] := ⟨hP, hD⟩
  refine lv_ishr hx hb dJ0_length_8abf5_9 ?_
  refine lv_topi (fun v_1003 ev_1003 => ?_)
  obtain rfl : v_1001 = v_1003 := (ev_1003.trans (sb_shr0 _)).symm
  exact W.iret (v := v_1001) hx hb hr (fun t ht hW => ⟨⟨v_1001, _, rfl, ⟨v_1001, bv_1001, by omega, rfl, rfl⟩, by rw [ht]; exact hP, hD⟩, hS.F ht⟩) hS.2.2 dJ0_length_8abf5_10

set_option maxHeartbeats 4000000 in
set_option maxRecDepth 100000 in
theorem schkN (l : Launch) (G : va_G) (y : Nat → ClassId) (sz : Nat) (a1 : Int32) (a2 : Int32) (p_a1 : (0 : Int) ≤ a1.toInt ∧ a1.toInt ≤ 59) (p_a2 : (2 : Int) ≤ a2.toInt ∧ a2.toInt ≤ 60) (hk : a1.toInt < a2.toInt) : Met l yJ3_checkIndex_8e157 (Cond.code yJ3_checkIndex_8e157 cJ3_checkIndex_8e157 3 (some .int) :: wAll) ({ frames := 0, cells := 0, slots := 0, locals := 0 }) (va_Pc [.int a1, .int a2, .null] (kp G y sz [])) (va_Qi (fun (r : Int32) (w : va_W) => (r = a1 ∧ w = [])) (kq G (va_A [] sz)) (va_A [] sz)) 0 0 (va_A [] sz) := by
  refine Met.ofW (cc := cJ3_checkIndex_8e157) (maxL := 3) (ret := (some .int)) (by decide) rfl ?_
  intro p e s m args below meth c s₁ B hml hv
  obtain ⟨rfl, hsz, hP, hK, hD0⟩ := hv
  have hx := B.exec
  have hb := B.bytes
  have hr := B.returns
  have hw0 : ∀ w ∈ wAll, w.before _ s = true := fun w h => atoms_spec (ws := Cond.code yJ3_checkIndex_8e157 cJ3_checkIndex_8e157 3 (some .int) :: wAll) B.pre w (List.mem_cons_of_mem _ h)
  have hown : s.vm.findClass RJ3 = some m.cls := findClass_of_methodNamed B.named
  subst hsz
  have hD := hD0.self (sz := s.heap.size)
  generalize hAe : va_A [] s.heap.size = A at hD ⊢
  have hA : ∀ q : Nat, s.heap.size ≤ q → A q := fun q h => by rw [← hAe]; exact Or.inr h
  have hS : va_S A s.heap s.heap [] := va_S.rf
  have hP : va_P G vwCl [] s.heap := hP
  have hl := lv_entry ([.int a1, .int a2, .null]) (n := 3) (Nat.le_of_ble_eq_true rfl)
  rw [lg_entry_eq]
  generalize (lg_sl ([.int a1, .int a2, .null]) ++ List.replicate (3 - (lg_sl ([.int a1, .int a2, .null])).length) Slot.unset).toArray = ls at hl ⊢
  have hl : lv_has ls 3 [(0, .int a1), (1, .int a2), (2, .null)] := hl
  refine lv_iload_n hx hb dJ3_checkIndex_8e157_0 rfl (lv_at hl 0 rfl) ?_
  refine lv_if_lt (tgt := 9) hx hb dJ3_checkIndex_8e157_1 (by decide) (fun c9 => absurd c9 (dc_nlt p_a1 (bkc (x := 0) (c := 0) (by decide)) (by decide))) (fun _ => ?_)
  refine lv_iload_n hx hb dJ3_checkIndex_8e157_4 rfl (lv_at hl 0 rfl) ?_
  refine lv_iload_n hx hb dJ3_checkIndex_8e157_5 rfl (lv_at hl 1 rfl) ?_
  refine lv_icmp_lt (tgt := 16) hx hb dJ3_checkIndex_8e157_6 (by decide) (fun _ => ?_) (fun c9 => absurd (Int32.lt_iff_toInt_lt.mpr (by omega)) c9)
  refine lv_iload_n hx hb dJ3_checkIndex_8e157_16 rfl (lv_at hl 0 rfl) ?_
  exact W.iret (v := a1) hx hb hr (fun t ht hW => ⟨⟨a1, _, rfl, ⟨rfl, rfl⟩, by rw [ht]; exact hP, hD⟩, hS.F ht⟩) hS.2.2 dJ3_checkIndex_8e157_17

set_option maxHeartbeats 4000000 in
set_option maxRecDepth 100000 in
theorem schkR (l : Launch) (G : va_G) (y : Nat → ClassId) (sz : Nat) (a1 : Int32) (a2 : Int32) (bq : Nat) (p_a1 : (0 : Int) ≤ a1.toInt ∧ a1.toInt ≤ 59) (p_a2 : (2 : Int) ≤ a2.toInt ∧ a2.toInt ≤ 60) (hk : a1.toInt < a2.toInt) : Met l yJ3_checkIndex_8e157 (Cond.code yJ3_checkIndex_8e157 cJ3_checkIndex_8e157 3 (some .int) :: wAll) ({ frames := 0, cells := 0, slots := 0, locals := 0 }) (va_Pc [.int a1, .int a2, .ref bq] (kp G y sz [])) (va_Qi (fun (r : Int32) (w : va_W) => (r = a1 ∧ w = [])) (kq G (va_A [] sz)) (va_A [] sz)) 0 0 (va_A [] sz) := by
  refine Met.ofW (cc := cJ3_checkIndex_8e157) (maxL := 3) (ret := (some .int)) (by decide) rfl ?_
  intro p e s m args below meth c s₁ B hml hv
  obtain ⟨rfl, hsz, hP, hK, hD0⟩ := hv
  have hx := B.exec
  have hb := B.bytes
  have hr := B.returns
  have hw0 : ∀ w ∈ wAll, w.before _ s = true := fun w h => atoms_spec (ws := Cond.code yJ3_checkIndex_8e157 cJ3_checkIndex_8e157 3 (some .int) :: wAll) B.pre w (List.mem_cons_of_mem _ h)
  have hown : s.vm.findClass RJ3 = some m.cls := findClass_of_methodNamed B.named
  subst hsz
  have hD := hD0.self (sz := s.heap.size)
  generalize hAe : va_A [] s.heap.size = A at hD ⊢
  have hA : ∀ q : Nat, s.heap.size ≤ q → A q := fun q h => by rw [← hAe]; exact Or.inr h
  have hS : va_S A s.heap s.heap [] := va_S.rf
  have hP : va_P G vwCl [] s.heap := hP
  have hl := lv_entry ([.int a1, .int a2, .ref bq]) (n := 3) (Nat.le_of_ble_eq_true rfl)
  rw [lg_entry_eq]
  generalize (lg_sl ([.int a1, .int a2, .ref bq]) ++ List.replicate (3 - (lg_sl ([.int a1, .int a2, .ref bq])).length) Slot.unset).toArray = ls at hl ⊢
  have hl : lv_has ls 3 [(0, .int a1), (1, .int a2), (2, .ref bq)] := hl
  refine lv_iload_n hx hb dJ3_checkIndex_8e157_0 rfl (lv_at hl 0 rfl) ?_
  refine lv_if_lt (tgt := 9) hx hb dJ3_checkIndex_8e157_1 (by decide) (fun c9 => absurd c9 (dc_nlt p_a1 (bkc (x := 0) (c := 0) (by decide)) (by decide))) (fun _ => ?_)
  refine lv_iload_n hx hb dJ3_checkIndex_8e157_4 rfl (lv_at hl 0 rfl) ?_
  refine lv_iload_n hx hb dJ3_checkIndex_8e157_5 rfl (lv_at hl 1 rfl) ?_
  refine lv_icmp_lt (tgt := 16) hx hb dJ3_checkIndex_8e157_6 (by decide) (fun _ => ?_) (fun c9 => absurd (Int32.lt_iff_toInt_lt.mpr (by omega)) c9)
  refine lv_iload_n hx hb dJ3_checkIndex_8e157_16 rfl (lv_at hl 0 rfl) ?_
  exact W.iret (v := a1) hx hb hr (fun t ht hW => ⟨⟨a1, _, rfl, ⟨rfl, rfl⟩, by rw [ht]; exact hP, hD⟩, hS.F ht⟩) hS.2.2 dJ3_checkIndex_8e157_17

set_option maxHeartbeats 4000000 in
set_option maxRecDepth 100000 in
theorem sJ0_checkIndex_df160 (l : Launch) (G : va_G) (y : Nat → ClassId) (aK aV : Nat → Nat) (sz : Nat) (a1 : Int32) (a2 : Int32) (p_a1 : (0 : Int) ≤ a1.toInt ∧ a1.toInt ≤ 59) (p_a2 : (2 : Int) ≤ a2.toInt ∧ a2.toInt ≤ 60) (hk : a1.toInt < a2.toInt) : Met l yJ0_checkIndex_df160 (Cond.code yJ0_checkIndex_df160 cJ0_checkIndex_df160 2 none :: wAll) ({ frames := 1, cells := 0, slots := 0, locals := 22 }) (va_Pc [.int a1, .int a2] (kps G y aK aV sz [])) (va_Qv (fun (w : va_W) => (w = [])) (kq G (va_A [] sz)) (va_A [] sz)) 0 0 (va_A [] sz) := by
  refine Met.ofW (cc := cJ0_checkIndex_df160) (maxL := 2) (ret := none) (by decide) rfl ?_
  intro p e s m args below meth c s₁ B hml hv
  obtain ⟨rfl, ⟨hsz, hP, hK, hD0⟩, hE⟩ := hv
  have hx := B.exec
  have hb := B.bytes
  have hr := B.returns
  have hw0 : ∀ w ∈ wAll, w.before _ s = true := fun w h => atoms_spec (ws := Cond.code yJ0_checkIndex_df160 cJ0_checkIndex_df160 2 none :: wAll) B.pre w (List.mem_cons_of_mem _ h)
  have hown : s.vm.findClass RJ0 = some m.cls := findClass_of_methodNamed B.named
  subst hsz
  have hD := hD0.self (sz := s.heap.size)
  generalize hAe : va_A [] s.heap.size = A at hD hE ⊢
  have hA : ∀ q : Nat, s.heap.size ≤ q → A q := fun q h => by rw [← hAe]; exact Or.inr h
  have hS : va_S A s.heap s.heap [] := va_S.rf
  have hP : va_P G vwCl [] s.heap := hP
  have hl := lv_entry ([.int a1, .int a2]) (n := 2) (Nat.le_of_ble_eq_true rfl)
  rw [lg_entry_eq]
  generalize (lg_sl ([.int a1, .int a2]) ++ List.replicate (2 - (lg_sl ([.int a1, .int a2])).length) Slot.unset).toArray = ls at hl ⊢
  have hl : lv_has ls 2 [(0, .int a1), (1, .int a2)] := hl
  refine lv_iload_n hx hb dJ0_checkIndex_df160_0 rfl (lv_at hl 0 rfl) ?_
  refine lv_iload_n hx hb dJ0_checkIndex_df160_1 rfl (lv_at hl 1 rfl) ?_
  obtain ⟨bf9, hbf9, hZ9⟩ := hE.2.2.2
  rcases hbf9 with rfl | ⟨bq9, rfl⟩
  · refine va_gets hx hb hZ9 hS hown (hw0 _ m_10) (fun _ h9 => h9) dJ0_checkIndex_df160_2 ?_
    refine cSim (As := [.int a1, .int a2, .null]) (rest := []) ⟨hx, hb, hml, hown, hw0⟩ hA hK hP hD hS [] (schkN l G y _ a1 a2 p_a1 p_a2 (by omega)) rfl ⟨(callB_of 3 hw0 (gA m_25) rfl rfl rfl (hw0 _ m_12) (hw0 _ m_11) cb_J3_checkIndex_8e157 ⟨Nat.le_of_ble_eq_true rfl, Nat.le_of_ble_eq_true rfl⟩), (hw0 _ m_13)⟩ rfl hl.1 (Nat.le_of_ble_eq_true rfl) dJ0_checkIndex_df160_5 ⟨Nat.le_of_ble_eq_true rfl, Nat.le_of_ble_eq_true rfl⟩ (fun r_1001 w_1001 H locs hw_1001 hP hD hS => ?_)
    obtain ⟨er_1001, rfl⟩ := hw_1001
    subst r_1001
    obtain ⟨hP, hD⟩ : vPD G A H [] := ⟨hP, hD⟩
    refine lv_pop hx hb dJ0_checkIndex_df160_8 rfl ?_
    exact W.vret hx hb hr (fun t ht hW => ⟨⟨_, rfl, rfl, by rw [ht]; exact hP, hD⟩, hS.F ht⟩) hS.2.2 dJ0_checkIndex_df160_9
  · refine va_gets hx hb hZ9 hS hown (hw0 _ m_10) (fun _ h9 => h9) dJ0_checkIndex_df160_2 ?_
    refine cSim (As := [.int a1, .int a2, .ref bq9]) (rest := []) ⟨hx, hb, hml, hown, hw0⟩ hA hK hP hD hS [] (schkR l G y _ a1 a2 bq9 p_a1 p_a2 (by omega)) rfl ⟨(callB_of 3 hw0 (gA m_25) rfl rfl rfl (hw0 _ m_12) (hw0 _ m_11) cb_J3_checkIndex_8e157 ⟨Nat.le_of_ble_eq_true rfl, Nat.le_of_ble_eq_true rfl⟩), (hw0 _ m_13)⟩ rfl hl.1 (Nat.le_of_ble_eq_true rfl) dJ0_checkIndex_df160_5 ⟨Nat.le_of_ble_eq_true rfl, Nat.le_of_ble_eq_true rfl⟩ (fun r_1002 w_1002 H locs hw_1002 hP hD hS => ?_)
    obtain ⟨er_1002, rfl⟩ := hw_1002
    subst r_1002
    obtain ⟨hP, hD⟩ : vPD G A H [] := ⟨hP, hD⟩
    refine lv_pop hx hb dJ0_checkIndex_df160_8 rfl ?_
    exact W.vret hx hb hr (fun t ht hW => ⟨⟨_, rfl, rfl, by rw [ht]; exact hP, hD⟩, hS.F ht⟩) hS.2.2 dJ0_checkIndex_df160_9

set_option maxHeartbeats 4000000 in
set_option maxRecDepth 100000 in
theorem sJ1_charAt_3b067 (l : Launch) (G : va_G) (y : Nat → ClassId) (aK aV : Nat → Nat) (sz : Nat) (i1 : Nat) (a1 : Int32) (p_a1 : (0 : Int) ≤ a1.toInt ∧ a1.toInt ≤ 59) (hi1 : i1 < nS) (hk : a1.toInt < (lenS.getD i1 0 : Int)) : Met l yJ1_charAt_3b067 (Cond.code yJ1_charAt_3b067 cJ1_charAt_3b067 2 (some .char) :: wAll) ({ frames := 2, cells := 0, slots := 0, locals := 43 }) (va_Pc [.ref (aV i1), .int a1] (kps G y aK aV sz [])) (va_Qi (fun (r : Int32) (w : va_W) => (∃ (v_11 : Int32), ((0 : Int) ≤ v_11.toInt ∧ v_11.toInt ≤ 255) ∧ (v_11 = (bytS.getD i1 []).getD a1.toInt.toNat 0) ∧ r = v_11 ∧ w = [])) (kq G (va_A [] sz)) (va_A [] sz)) 0 0 (va_A [] sz) := by
  refine Met.ofW (cc := cJ1_charAt_3b067) (maxL := 2) (ret := (some .char)) (by decide) rfl ?_
  intro p e s m args below meth c s₁ B hml hv
  obtain ⟨rfl, ⟨hsz, hP, hK, hD0⟩, hE⟩ := hv
  have hx := B.exec
  have hb := B.bytes
  have hr := B.returns
  have hw0 : ∀ w ∈ wAll, w.before _ s = true := fun w h => atoms_spec (ws := Cond.code yJ1_charAt_3b067 cJ1_charAt_3b067 2 (some .char) :: wAll) B.pre w (List.mem_cons_of_mem _ h)
  have hown : s.vm.findClass RJ1 = some m.cls := findClass_of_methodNamed B.named
  subst hsz
  have hD := hD0.self (sz := s.heap.size)
  generalize hAe : va_A [] s.heap.size = A at hD hE ⊢
  have hA : ∀ q : Nat, s.heap.size ≤ q → A q := fun q h => by rw [← hAe]; exact Or.inr h
  have hS : va_S A s.heap s.heap [] := va_S.rf
  have hP : va_P G vwCl [] s.heap := hP
  have hl := lv_entry ([.ref (aV i1), .int a1]) (n := 2) (Nat.le_of_ble_eq_true rfl)
  rw [lg_entry_eq]
  generalize (lg_sl ([.ref (aV i1), .int a1]) ++ List.replicate (2 - (lg_sl ([.ref (aV i1), .int a1])).length) Slot.unset).toArray = ls at hl ⊢
  have hl : lv_has ls 2 [(0, .ref (aV i1)), (1, .int a1)] := hl
  refine lv_iload_n hx hb dJ1_charAt_3b067_0 rfl (lv_at hl 1 rfl) ?_
  refine lv_aload_n hx hb dJ1_charAt_3b067_1 rfl (lv_at hl 0 rfl) ?_
  refine va_tlen (v := nI (lenS.getD i1 0)) hx hb (hE.1 i1 hi1).2.2.2 hS rfl dJ1_charAt_3b067_2 ?_
  refine lv_topi (fun v_1001 ev_1001 => ?_)
  have qv_1001 := ln_q ev_1001 (lenS_b i1 hi1)
  have bv_1001 : (2 : Int) ≤ v_1001.toInt ∧ v_1001.toInt ≤ 60 := ln_b qv_1001 (lenS_b i1 hi1)
  refine cSvSm (As := [.int a1, .int v_1001]) (rest := []) ⟨hx, hb, hml, hown, hw0⟩ hA hK hP hD hS hE [] (sJ0_checkIndex_df160 l G y aK aV _ a1 v_1001 p_a1 bv_1001 (by omega)) rfl ⟨(callB_of 2 hw0 (gA m_9) rfl rfl rfl (hw0 _ m_2) (hw0 _ m_23) cb_J0_checkIndex_df160 ⟨Nat.le_of_ble_eq_true rfl, Nat.le_of_ble_eq_true rfl⟩), (hw0 _ m_24)⟩ rfl hl.1 (Nat.le_of_ble_eq_true rfl) dJ1_charAt_3b067_3 ⟨Nat.le_of_ble_eq_true rfl, Nat.le_of_ble_eq_true rfl⟩ (fun w_1002 H locs hw_1002 hP hD hS => ?_)
  obtain rfl := hw_1002
  obtain ⟨hP, hD⟩ : vPD G A H [] := ⟨hP, hD⟩
  refine lv_aload_n hx hb dJ1_charAt_3b067_6 rfl (lv_at hl 0 rfl) ?_
  refine lv_iload_n hx hb dJ1_charAt_3b067_7 rfl (lv_at hl 1 rfl) ?_
  refine va_tb hx hb (hE.1 i1 hi1).2.2.2 hS (vi_n p_a1.1 hk) rfl dJ1_charAt_3b067_8 ?_
  refine lv_topi (fun v_1003 ev_1003 => ?_)
  refine lv_sipush (v := 255) hx hb dJ1_charAt_3b067_9 (by decide) ?_
  refine lv_iand hx hb dJ1_charAt_3b067_12 ?_
  refine lv_topi (fun v_1004 ev_1004 => ?_)
  have bv_1004 : (0 : Int) ≤ v_1004.toInt ∧ v_1004.toInt ≤ 255 := ba_andr ev_1004 (bkc (x := 255) (c := 255) (by decide)) (by decide)
  refine lv_i2c hx hb dJ1_charAt_3b067_13 rfl ?_
  refine lv_topi (fun v_1005 ev_1005 => ?_)
  obtain rfl : v_1004 = v_1005 := (ev_1005.trans (i2c_id ev_1004)).symm
  exact W.zret (v := v_1004) hx hb hr (nc_b bv_1004) (fun t ht hW => ⟨⟨v_1004, _, rfl, ⟨v_1004, bv_1004, ch_eq ev_1004 ev_1003 p_a1, rfl, rfl⟩, by rw [ht]; exact hP, hD⟩, hS.F ht⟩) hS.2.2 dJ1_charAt_3b067_14

set_option maxHeartbeats 4000000 in
set_option maxRecDepth 100000 in
theorem sJ0_charAt_5068e (l : Launch) (G : va_G) (y : Nat → ClassId) (aK aV : Nat → Nat) (sz : Nat) (i1 : Nat) (a1 : Int32) (p_a1 : (0 : Int) ≤ a1.toInt ∧ a1.toInt ≤ 59) (hi1 : i1 < nS) (hk : a1.toInt < (lenS.getD i1 0 : Int)) : Met l yJ0_charAt_5068e (Cond.code yJ0_charAt_5068e cJ0_charAt_5068e 2 (some .char) :: wAll) ({ frames := 3, cells := 0, slots := 0, locals := 64 }) (va_Pc [.ref (aK i1), .int a1] (kps G y aK aV sz [])) (va_Qi (fun (r : Int32) (w : va_W) => (∃ (v_9 : Int32), ((0 : Int) ≤ v_9.toInt ∧ v_9.toInt ≤ 255) ∧ (v_9 = (bytS.getD i1 []).getD a1.toInt.toNat 0) ∧ r = v_9 ∧ w = [])) (kq G (va_A [] sz)) (va_A [] sz)) 0 0 (va_A [] sz) := by
  refine Met.ofW (cc := cJ0_charAt_5068e) (maxL := 2) (ret := (some .char)) (by decide) rfl ?_
  intro p e s m args below meth c s₁ B hml hv
  obtain ⟨rfl, ⟨hsz, hP, hK, hD0⟩, hE⟩ := hv
  have hx := B.exec
  have hb := B.bytes
  have hr := B.returns
  have hw0 : ∀ w ∈ wAll, w.before _ s = true := fun w h => atoms_spec (ws := Cond.code yJ0_charAt_5068e cJ0_charAt_5068e 2 (some .char) :: wAll) B.pre w (List.mem_cons_of_mem _ h)
  have hown : s.vm.findClass RJ0 = some m.cls := findClass_of_methodNamed B.named
  subst hsz
  have hD := hD0.self (sz := s.heap.size)
  generalize hAe : va_A [] s.heap.size = A at hD hE ⊢
  have hA : ∀ q : Nat, s.heap.size ≤ q → A q := fun q h => by rw [← hAe]; exact Or.inr h
  have hS : va_S A s.heap s.heap [] := va_S.rf
  have hP : va_P G vwCl [] s.heap := hP
  have hl := lv_entry ([.ref (aK i1), .int a1]) (n := 2) (Nat.le_of_ble_eq_true rfl)
  rw [lg_entry_eq]
  generalize (lg_sl ([.ref (aK i1), .int a1]) ++ List.replicate (2 - (lg_sl ([.ref (aK i1), .int a1])).length) Slot.unset).toArray = ls at hl ⊢
  have hl : lv_has ls 2 [(0, .ref (aK i1)), (1, .int a1)] := hl
  refine lv_aload_n hx hb dJ0_charAt_5068e_0 rfl (lv_at hl 0 rfl) ?_
  refine cQim (As := []) (rest := []) ⟨hx, hb, hml, hown, hw0⟩ hA hK hP hD hS hE [] (sJ0_isLatin1_aae02 l G y aK aV _ i1 hi1) rfl ⟨(callB_of 0 hw0 (gA m_17) rfl rfl rfl (hw0 _ m_2) (hw0 _ m_1) cb_J0_isLatin1_aae02 ⟨Nat.le_of_ble_eq_true rfl, Nat.le_of_ble_eq_true rfl⟩), (hw0 _ m_3), (hw0 _ m_4)⟩ (i9 := i1) hi1 rfl rfl hl.1 (Nat.le_of_ble_eq_true rfl) dJ0_charAt_5068e_1 ⟨Nat.le_of_ble_eq_true rfl, Nat.le_of_ble_eq_true rfl⟩ (fun r_1001 w_1001 H locs hw_1001 hP hD hS => ?_)
  obtain ⟨rfl, rfl⟩ := hw_1001
  obtain ⟨hP, hD⟩ : vPD G A H [] := ⟨hP, hD⟩
  refine lv_if_eq (tgt := 16) hx hb dJ0_charAt_5068e_4 (by decide) (fun c9 => absurd c9 (by decide)) (fun _ => ?_)
  refine lv_aload_n hx hb dJ0_charAt_5068e_7 rfl (lv_at hl 0 rfl) ?_
  refine vk_getf hx hb (hE.1 i1 hi1).2.2.1 hS hown (hw0 _ m_5) (fun _ h9 => h9) dJ0_charAt_5068e_8 ?_
  refine lv_iload_n hx hb dJ0_charAt_5068e_11 rfl (lv_at hl 1 rfl) ?_
  refine cSiSm (As := [.ref (aV i1), .int a1]) (rest := []) ⟨hx, hb, hml, hown, hw0⟩ hA hK hP hD hS hE [] (sJ1_charAt_3b067 l G y aK aV _ i1 a1 p_a1 hi1 (by omega)) rfl ⟨(callB_of 2 hw0 (gA m_22) rfl rfl rfl (hw0 _ m_7) (hw0 _ m_6) cb_J1_charAt_3b067 ⟨Nat.le_of_ble_eq_true rfl, Nat.le_of_ble_eq_true rfl⟩), (hw0 _ m_8)⟩ rfl hl.1 (Nat.le_of_ble_eq_true rfl) dJ0_charAt_5068e_12 ⟨Nat.le_of_ble_eq_true rfl, Nat.le_of_ble_eq_true rfl⟩ (fun r_1002 w_1002 H locs hw_1002 hP hD hS => ?_)
  obtain ⟨v_1003, bv_1003, h_1004, er_1002, rfl⟩ := hw_1002
  subst r_1002
  obtain ⟨hP, hD⟩ : vPD G A H [] := ⟨hP, hD⟩
  exact W.zret (v := v_1003) hx hb hr (nc_b bv_1003) (fun t ht hW => ⟨⟨v_1003, _, rfl, ⟨v_1003, bv_1003, by assumption, rfl, rfl⟩, by rw [ht]; exact hP, hD⟩, hS.F ht⟩) hS.2.2 dJ0_charAt_5068e_15

set_option maxHeartbeats 4000000 in
set_option maxRecDepth 100000 in
theorem sX3_among (l : Launch) (G : va_G) (y : Nat → ClassId) (aK aV : Nat → Nat) (sz : Nat) (ob : Nat) (i1 : Nat) (ob_town : Nat) (ob_code : Nat) (ob_fault : Int32) (ob_place : Int32) (ob_text : Nat) (ob_size : Int32) (ob_begin : Int32) (ob_next : Int32) (ob_kind : Int32) (ob_value : Int32) (fob_text : Nat → Int32) (p_ob_fault : (0 : Int) ≤ ob_fault.toInt ∧ ob_fault.toInt ≤ 3) (p_ob_size : (0 : Int) ≤ ob_size.toInt ∧ ob_size.toInt ≤ 1400) (p_ob_begin : (0 : Int) ≤ ob_begin.toInt ∧ ob_begin.toInt ≤ 1400) (p_ob_next : (0 : Int) ≤ ob_next.toInt ∧ ob_next.toInt ≤ 1400) (p_ob_kind : (0 : Int) ≤ ob_kind.toInt ∧ ob_kind.toInt ≤ 4) (p_ob_value : (0 : Int) ≤ ob_value.toInt ∧ ob_value.toInt ≤ 1000000) (hi1 : i1 < nS) : Met l yX3_among (Cond.code yX3_among cX3_among 7 (some .int) :: wAll) ({ frames := 4, cells := 0, slots := 0, locals := 85 }) (va_Pc [.ref ob, .ref (aK i1)] (kps G y aK aV sz [(ce_X3 ob ob_town ob_code ob_fault ob_place ob_text ob_size ob_begin ob_next ob_kind ob_value), (ce_b1400 y ob_text fob_text)])) (va_Qi (fun (r : Int32) (w : va_W) => (∃ (v_6549 : Int32), r = v_6549 ∧ w = [(ce_X3 ob ob_town ob_code ob_fault ob_place ob_text ob_size ob_begin ob_next ob_kind ob_value), (ce_b1400 y ob_text fob_text)])) (kq G (va_A [(ce_X3 ob ob_town ob_code ob_fault ob_place ob_text ob_size ob_begin ob_next ob_kind ob_value), (ce_b1400 y ob_text fob_text)] sz)) (va_A [(ce_X3 ob ob_town ob_code ob_fault ob_place ob_text ob_size ob_begin ob_next ob_kind ob_value), (ce_b1400 y ob_text fob_text)] sz)) 0 0 (va_A [(ce_X3 ob ob_town ob_code ob_fault ob_place ob_text ob_size ob_begin ob_next ob_kind ob_value), (ce_b1400 y ob_text fob_text)] sz) := by
  refine Met.ofW (cc := cX3_among) (maxL := 7) (ret := (some .int)) (by decide) rfl ?_
  intro p e s m args below meth c s₁ B hml hv
  obtain ⟨rfl, ⟨hsz, hP, hK, hD0⟩, hE⟩ := hv
  have hx := B.exec
  have hb := B.bytes
  have hr := B.returns
  have hw0 : ∀ w ∈ wAll, w.before _ s = true := fun w h => atoms_spec (ws := Cond.code yX3_among cX3_among 7 (some .int) :: wAll) B.pre w (List.mem_cons_of_mem _ h)
  have hown : s.vm.findClass RX3 = some m.cls := findClass_of_methodNamed B.named
  subst hsz
  have hD := hD0.self (sz := s.heap.size)
  generalize hAe : va_A [(ce_X3 ob ob_town ob_code ob_fault ob_place ob_text ob_size ob_begin ob_next ob_kind ob_value), (ce_b1400 y ob_text fob_text)] s.heap.size = A at hD hE ⊢
  have hA : ∀ q : Nat, s.heap.size ≤ q → A q := fun q h => by rw [← hAe]; exact Or.inr h
  have hS : va_S A s.heap s.heap [] := va_S.rf
  have hP : va_P G vwCl [(ce_X3 ob ob_town ob_code ob_fault ob_place ob_text ob_size ob_begin ob_next ob_kind ob_value), (ce_b1400 y ob_text fob_text)] s.heap := hP
  have hl := lv_entry ([.ref ob, .ref (aK i1)]) (n := 7) (Nat.le_of_ble_eq_true rfl)
  rw [lg_entry_eq]
  generalize (lg_sl ([.ref ob, .ref (aK i1)]) ++ List.replicate (7 - (lg_sl ([.ref ob, .ref (aK i1)])).length) Slot.unset).toArray = ls at hl ⊢
  have hl : lv_has ls 7 [(0, .ref ob), (1, .ref (aK i1))] := hl
  refine lv_aload_n hx hb dX3_among_0 rfl (lv_at hl 0 rfl) ?_
  refine va_get (D := G) (ci := 3) (v := .int ob_kind) (C := RX3) (T := TX3) (N := 10) hx hb hw0 inA_wsX30 hown hK.1 hP 0 rfl rfl 8 (by decide) (hw0 _ m_719) (fun _ h9 => h9) rfl dX3_among_1 ?_
  refine lv_iconst (v := 1) hx hb dX3_among_4 (by decide) ?_
  refine lv_icmp_eq (tgt := 10) hx hb dX3_among_5 (by decide) (fun c_1001 => ?_) (fun c_1001 => ?_)
  · skip
    have nc_1001 := nb_eq (1) (1) c_1001 p_ob_kind (bkc (x := 1) (c := 1) (by decide)) (by decide)
    refine lv_aload_n hx hb dX3_among_10 rfl (lv_at hl 1 rfl) ?_
    refine cQim (As := []) (rest := []) ⟨hx, hb, hml, hown, hw0⟩ hA hK hP hD hS hE [] (sJ0_length_8abf5 l G y aK aV _ i1 hi1) rfl ⟨(callB_of 0 hw0 (gA m_18) rfl rfl rfl (hw0 _ m_2) (hw0 _ m_728) cb_J0_length_8abf5 ⟨Nat.le_of_ble_eq_true rfl, Nat.le_of_ble_eq_true rfl⟩), (hw0 _ m_532), (hw0 _ m_533)⟩ (i9 := i1) hi1 rfl rfl hl.1 (Nat.le_of_ble_eq_true rfl) dX3_among_11 ⟨Nat.le_of_ble_eq_true rfl, Nat.le_of_ble_eq_true rfl⟩ (fun r_1002 w_1002 H locs hw_1002 hP hD hS => ?_)
    obtain ⟨v_1003, bv_1003, h_1004, er_1002, rfl⟩ := hw_1002
    subst r_1002
    obtain ⟨hP, hD⟩ : vPD G A H [(ce_X3 ob ob_town ob_code ob_fault ob_place ob_text ob_size ob_begin ob_next ob_kind ob_value), (ce_b1400 y ob_text fob_text)] := ⟨hP, hD⟩
    refine lv_istore_n (lv' := [(2, .int v_1003), (0, .ref ob), (1, .ref (aK i1))]) hx hb dX3_among_14 rfl hl (by decide) rfl (fun ls hl => ?_)
    refine lv_iconst (v := 0) hx hb dX3_among_15 (by decide) ?_
    refine lv_istore_n (lv' := [(3, .int 0), (2, .int v_1003), (0, .ref ob), (1, .ref (aK i1))]) hx hb dX3_among_16 rfl hl (by decide) rfl (fun ls hl => ?_)
    refine lv_iconst (v := 0) hx hb dX3_among_17 (by decide) ?_
    refine lv_istore (lv' := [(4, .int 0), (3, .int 0), (2, .int v_1003), (0, .ref ob), (1, .ref (aK i1))]) hx hb dX3_among_18 hl (by decide) rfl (fun ls hl => ?_)
    refine loopX (fun n H locs ls st => ∃ (v_2961 : Int32) (v_2962 : Int32), (61 - v_2961.toInt).toNat = n ∧ ((0 : Int) ≤ v_2961.toInt ∧ v_2961.toInt ≤ 61) ∧ st = [] ∧ vPD G A H [(ce_X3 ob ob_town ob_code ob_fault ob_place ob_text ob_size ob_begin ob_next ob_kind ob_value), (ce_b1400 y ob_text fob_text)] ∧ va_S A s.heap H locs ∧ lv_has ls 7 [(4, .int v_2961), (3, .int v_2962), (2, .int v_1003), (0, .ref ob), (1, .ref (aK i1))]) ?_ (n := (61 - (0 : Int32).toInt).toNat) ⟨0, 0, rfl, (bw (0) (61) (bkc (x := 0) (c := 0) (by decide)) (by decide)), rfl, ⟨hP, hD⟩, hS, lv_sub hl [0, 1, 2, 3, 4] rfl⟩
    rintro n ih_3618 H locs ls st ⟨v_2961, v_2962, hn_3618, bv_2961, rfl, ⟨hP, hD⟩, hS, hl⟩
    refine lv_iload hx hb dX3_among_20 (lv_at hl 0 rfl) ?_
    refine lv_iload_n hx hb dX3_among_22 rfl (lv_at hl 2 rfl) ?_
    refine lv_icmp_ge (tgt := 157) hx hb dX3_among_23 (by decide) (fun c_3619 => ?_) (fun c_3619 => ?_)
    · skip
      have nc_3619 := nb_le (60) (2) c_3619 bv_1003 bv_2961 (by decide)
      refine lv_iconst (v := (-1)) hx hb dX3_among_157 (by decide) ?_
      exact W.iret (v := (-1)) hx hb hr (fun t ht hW => ⟨⟨(-1), _, rfl, ⟨(-1), rfl, rfl⟩, by rw [ht]; exact hP, hD⟩, hS.F ht⟩) hS.2.2 dX3_among_158
    · skip
      have nc_3619 := nb_nle (59) (2) c_3619 bv_2961 bv_1003 (by decide)
      refine lv_iconst (v := 0) hx hb dX3_among_26 (by decide) ?_
      refine lv_istore (lv' := [(5, .int 0), (4, .int v_2961), (3, .int v_2962), (2, .int v_1003), (0, .ref ob), (1, .ref (aK i1))]) hx hb dX3_among_27 hl (by decide) rfl (fun ls hl => ?_)
      refine loopX (fun n H locs ls st => ∃ (v_4012 : Int32), (60 - v_4012.toInt).toNat = n ∧ ((0 : Int) ≤ v_4012.toInt ∧ v_4012.toInt ≤ 60) ∧ (v_2961.toInt + v_4012.toInt ≤ v_1003.toInt) ∧ st = [] ∧ vPD G A H [(ce_X3 ob ob_town ob_code ob_fault ob_place ob_text ob_size ob_begin ob_next ob_kind ob_value), (ce_b1400 y ob_text fob_text)] ∧ va_S A s.heap H locs ∧ lv_has ls 7 [(5, .int v_4012), (4, .int v_2961), (3, .int v_2962), (2, .int v_1003), (0, .ref ob), (1, .ref (aK i1))]) ?_ (n := (60 - (0 : Int32).toInt).toNat) ⟨0, rfl, (bw (0) (60) (bkc (x := 0) (c := 0) (by decide)) (by decide)), (by have h90 : Int32.toInt 0 = 0 := (by decide); omega), rfl, ⟨hP, hD⟩, hS, lv_sub hl [0, 1, 2, 3, 4, 5] rfl⟩
      rintro n ih_4143 H locs ls st ⟨v_4012, hn_4143, bv_4012, rl4012_0, rfl, ⟨hP, hD⟩, hS, hl⟩
      refine lv_iload hx hb dX3_among_29 (lv_at hl 1 rfl) ?_
      refine lv_iload hx hb dX3_among_31 (lv_at hl 0 rfl) ?_
      refine lv_iadd hx hb dX3_among_33 ?_
      refine lv_topi (fun v_4144 ev_4144 => ?_)
      have qv_4144 := ba_add ev_4144 nc_3619.1 bv_4012 (by decide)
      have bv_4144 : (0 : Int) ≤ v_4144.toInt ∧ v_4144.toInt ≤ 119 := bq_add qv_4144 nc_3619.1 bv_4012 _ _ (by decide)
      refine lv_iload_n hx hb dX3_among_34 rfl (lv_at hl 3 rfl) ?_
      refine cutW 82 (fun H locs ls st => (v_2961.toInt + v_4012.toInt ≤ v_1003.toInt) ∧ st = [] ∧ vPD G A H [(ce_X3 ob ob_town ob_code ob_fault ob_place ob_text ob_size ob_begin ob_next ob_kind ob_value), (ce_b1400 y ob_text fob_text)] ∧ va_S A s.heap H locs ∧ lv_has ls 7 [(5, .int v_4012), (4, .int v_2961), (3, .int v_2962), (2, .int v_1003), (0, .ref ob), (1, .ref (aK i1))]) ?_ (fun J_82_4157 => ?_)
      · rintro H locs ls st ⟨rl4157_0, rfl, ⟨hP, hD⟩, hS, hl⟩
        refine lv_iload hx hb dX3_among_82 (lv_at hl 1 rfl) ?_
        refine lv_iload hx hb dX3_among_84 (lv_at hl 0 rfl) ?_
        refine lv_iadd hx hb dX3_among_86 ?_
        refine lv_topi (fun v_4158 ev_4158 => ?_)
        obtain rfl : v_4144 = v_4158 := (ev_4158.trans (ev_4144.symm)).symm
        refine lv_istore (lv' := [(6, .int v_4144), (5, .int v_4012), (4, .int v_2961), (3, .int v_2962), (2, .int v_1003), (0, .ref ob), (1, .ref (aK i1))]) hx hb dX3_among_87 hl (by decide) rfl (fun ls hl => ?_)
        have h_4159 : (0 : Int) ≤ v_4144.toInt ∧ v_4144.toInt ≤ 60 := by omega
        refine lv_aload_n hx hb dX3_among_89 rfl (lv_at hl 5 rfl) ?_
        refine va_get (D := G) (ci := 3) (v := .int ob_begin) (C := RX3) (T := TX3) (N := 10) hx hb hw0 inA_wsX30 hown hK.1 hP 0 rfl rfl 6 (by decide) (hw0 _ m_718) (fun _ h9 => h9) rfl dX3_among_90 ?_
        refine lv_iload hx hb dX3_among_93 (lv_at hl 1 rfl) ?_
        refine lv_iadd hx hb dX3_among_95 ?_
        refine lv_topi (fun v_4160 ev_4160 => ?_)
        have qv_4160 := ba_add ev_4160 p_ob_begin bv_4012 (by decide)
        have bv_4160 : (0 : Int) ≤ v_4160.toInt ∧ v_4160.toInt ≤ 1460 := bq_add qv_4160 p_ob_begin bv_4012 _ _ (by decide)
        refine lv_aload_n hx hb dX3_among_96 rfl (lv_at hl 5 rfl) ?_
        refine va_get (D := G) (ci := 3) (v := .int ob_next) (C := RX3) (T := TX3) (N := 10) hx hb hw0 inA_wsX30 hown hK.1 hP 0 rfl rfl 7 (by decide) (hw0 _ m_715) (fun _ h9 => h9) rfl dX3_among_97 ?_
        refine cutW 122 (fun H locs ls st => (v_2961.toInt ≤ v_4144.toInt) ∧ st = [] ∧ vPD G A H [(ce_X3 ob ob_town ob_code ob_fault ob_place ob_text ob_size ob_begin ob_next ob_kind ob_value), (ce_b1400 y ob_text fob_text)] ∧ va_S A s.heap H locs ∧ lv_has ls 7 [(6, .int v_4144), (4, .int v_2961), (3, .int v_2962), (2, .int v_1003), (0, .ref ob), (1, .ref (aK i1))]) ?_ (fun J_122_4173 => ?_)
        · rintro H locs ls st ⟨rl4173_0, rfl, ⟨hP, hD⟩, hS, hl⟩
          refine loopX (fun n H locs ls st => ∃ (v_4220 : Int32), (60 - v_4220.toInt).toNat = n ∧ ((0 : Int) ≤ v_4220.toInt ∧ v_4220.toInt ≤ 60) ∧ (v_2961.toInt ≤ v_4220.toInt) ∧ st = [] ∧ vPD G A H [(ce_X3 ob ob_town ob_code ob_fault ob_place ob_text ob_size ob_begin ob_next ob_kind ob_value), (ce_b1400 y ob_text fob_text)] ∧ va_S A s.heap H locs ∧ lv_has ls 7 [(6, .int v_4220), (4, .int v_2961), (3, .int v_2962), (2, .int v_1003), (0, .ref ob), (1, .ref (aK i1))]) ?_ (n := (60 - v_4144.toInt).toNat) ⟨v_4144, rfl, h_4159, (by omega), rfl, ⟨hP, hD⟩, hS, lv_sub hl [0, 1, 2, 3, 4, 5] rfl⟩
          rintro n ih_4234 H locs ls st ⟨v_4220, hn_4234, bv_4220, rl4220_0, rfl, ⟨hP, hD⟩, hS, hl⟩
          refine lv_iload hx hb dX3_among_122 (lv_at hl 0 rfl) ?_
          refine lv_iload_n hx hb dX3_among_124 rfl (lv_at hl 3 rfl) ?_
          refine cutW 145 (fun H locs ls st => (v_2961.toInt ≤ v_4220.toInt) ∧ st = [] ∧ vPD G A H [(ce_X3 ob ob_town ob_code ob_fault ob_place ob_text ob_size ob_begin ob_next ob_kind ob_value), (ce_b1400 y ob_text fob_text)] ∧ va_S A s.heap H locs ∧ lv_has ls 7 [(6, .int v_4220), (4, .int v_2961), (3, .int v_2962), (2, .int v_1003), (0, .ref ob), (1, .ref (aK i1))]) ?_ (fun J_145_4240 => ?_)
          · rintro H locs ls st ⟨rl4240_0, rfl, ⟨hP, hD⟩, hS, hl⟩
            refine lv_iload hx hb dX3_among_145 (lv_at hl 0 rfl) ?_
            refine lv_iconst (v := 1) hx hb dX3_among_147 (by decide) ?_
            refine lv_iadd hx hb dX3_among_148 ?_
            refine lv_topi (fun v_4241 ev_4241 => ?_)
            have qv_4241 := ba_add ev_4241 bv_4220 (bkc (x := 1) (c := 1) (by decide)) (by decide)
            have bv_4241 : (1 : Int) ≤ v_4241.toInt ∧ v_4241.toInt ≤ 61 := bq_add qv_4241 bv_4220 (bkc (x := 1) (c := 1) (by decide)) _ _ (by decide)
            have qv_4241 : v_4241.toInt = v_4220.toInt + (1) := qv_4241
            refine lv_istore (lv' := [(4, .int v_4241), (6, .int v_4220), (3, .int v_2962), (2, .int v_1003), (0, .ref ob), (1, .ref (aK i1))]) hx hb dX3_among_149 hl (by decide) rfl (fun ls hl => ?_)
            obtain ⟨v_4242, ev_4242⟩ : ∃ z : Int32, z = v_2962 + 1 := ⟨_, rfl⟩
            refine lv_iinc (v := v_4242) (lv' := [(3, .int v_4242), (4, .int v_4241), (6, .int v_4220), (2, .int v_1003), (0, .ref ob), (1, .ref (aK i1))]) hx hb dX3_among_151 hl (k := 2) rfl (ev_4242.symm) (by decide) rfl (fun ls hl => ?_)
            refine lv_goto (tgt := 20) hx hb dX3_among_154 (by decide) ?_
            exact ih_3618 _ (by omega) _ _ _ _ ⟨v_4241, v_4242, rfl, (bw (0) (61) bv_4241 (by decide)), rfl, ⟨hP, hD⟩, hS, lv_sub hl [1, 0, 3, 4, 5] rfl⟩
          · skip
            refine lv_icmp_ge (tgt := 145) hx hb dX3_among_125 (by decide) (fun c_4243 => ?_) (fun c_4243 => ?_)
            · skip
              have nc_4243 := nb_le (60) (2) c_4243 nc_3619.2.1 bv_4220 (by decide)
              exact J_145_4240 _ _ _ _ ⟨(by omega), rfl, ⟨hP, hD⟩, hS, lv_sub hl [0, 1, 2, 3, 4, 5] rfl⟩
            · skip
              have nc_4243 := nb_nle (59) (2) c_4243 bv_4220 nc_3619.2.1 (by decide)
              refine lv_aload_n hx hb dX3_among_128 rfl (lv_at hl 5 rfl) ?_
              refine lv_iload hx hb dX3_among_129 (lv_at hl 0 rfl) ?_
              refine cQim (As := [.int v_4220]) (rest := []) ⟨hx, hb, hml, hown, hw0⟩ hA hK hP hD hS hE [] (sJ0_charAt_5068e l G y aK aV _ i1 v_4220 nc_4243.1 hi1 (by omega)) rfl ⟨(callB_of 1 hw0 (gA m_0) rfl rfl rfl (hw0 _ m_2) (hw0 _ m_729) cb_J0_charAt_5068e ⟨Nat.le_of_ble_eq_true rfl, Nat.le_of_ble_eq_true rfl⟩), (hw0 _ m_535), (hw0 _ m_536)⟩ (i9 := i1) hi1 rfl rfl hl.1 (Nat.le_of_ble_eq_true rfl) dX3_among_131 ⟨Nat.le_of_ble_eq_true rfl, Nat.le_of_ble_eq_true rfl⟩ (fun r_4244 w_4244 H locs hw_4244 hP hD hS => ?_)
              obtain ⟨v_4245, bv_4245, h_4246, er_4244, rfl⟩ := hw_4244
              subst r_4244
              obtain ⟨hP, hD⟩ : vPD G A H [(ce_X3 ob ob_town ob_code ob_fault ob_place ob_text ob_size ob_begin ob_next ob_kind ob_value), (ce_b1400 y ob_text fob_text)] := ⟨hP, hD⟩
              refine lv_bipush (v := 32) hx hb dX3_among_134 (by decide) ?_
              refine lv_icmp_eq (tgt := 145) hx hb dX3_among_136 (by decide) (fun c_4247 => ?_) (fun c_4247 => ?_)
              · skip
                have nc_4247 := nb_eq (32) (32) c_4247 bv_4245 (bkc (x := 32) (c := 32) (by decide)) (by decide)
                exact J_145_4240 _ _ _ _ ⟨(by omega), rfl, ⟨hP, hD⟩, hS, lv_sub hl [0, 1, 2, 3, 4, 5] rfl⟩
              · skip
                have nc_4247 := nb_ne (0) (255) c_4247 bv_4245 (k := 32) (by decide) (by decide)
                obtain ⟨v_4248, ev_4248⟩ : ∃ z : Int32, z = v_4220 + 1 := ⟨_, rfl⟩
                have qv_4248 := ba_add ev_4248 nc_4243.1 (bkc (x := 1) (c := 1) (by decide)) (by decide)
                have bv_4248 : (1 : Int) ≤ v_4248.toInt ∧ v_4248.toInt ≤ 60 := bq_add qv_4248 nc_4243.1 (bkc (x := 1) (c := 1) (by decide)) _ _ (by decide)
                have qv_4248 : v_4248.toInt = v_4220.toInt + (1) := qv_4248
                refine lv_iinc (v := v_4248) (lv' := [(6, .int v_4248), (4, .int v_2961), (3, .int v_2962), (2, .int v_1003), (0, .ref ob), (1, .ref (aK i1))]) hx hb dX3_among_139 hl (k := 0) rfl (ev_4248.symm) (by decide) rfl (fun ls hl => ?_)
                refine lv_goto (tgt := 122) hx hb dX3_among_142 (by decide) ?_
                exact ih_4234 _ (ml_inc (hi := 60) hn_4234 qv_4248 (by decide) ((bw (0) (60) bv_4248 (by decide))).2) _ _ _ _ ⟨v_4248, rfl, (bw (0) (60) bv_4248 (by decide)), (by omega), rfl, ⟨hP, hD⟩, hS, lv_sub hl [0, 1, 2, 3, 4, 5] rfl⟩
        · skip
          refine lv_icmp_ne (tgt := 122) hx hb dX3_among_100 (by decide) (fun c_4249 => ?_) (fun c_4249 => ?_)
          · skip
            exact J_122_4173 _ _ _ _ ⟨(by omega), rfl, ⟨hP, hD⟩, hS, lv_sub hl [0, 2, 3, 4, 5, 6] rfl⟩
          · skip
            have nc_4249 := nb_eq (0) (1400) c_4249 bv_4160 p_ob_next (by decide)
            refine lv_iload hx hb dX3_among_103 (lv_at hl 0 rfl) ?_
            refine lv_iload_n hx hb dX3_among_105 rfl (lv_at hl 4 rfl) ?_
            refine cutW 120 (fun H locs ls st => st = [] ∧ vPD G A H [(ce_X3 ob ob_town ob_code ob_fault ob_place ob_text ob_size ob_begin ob_next ob_kind ob_value), (ce_b1400 y ob_text fob_text)] ∧ va_S A s.heap H locs ∧ lv_has ls 7 [(3, .int v_2962)]) ?_ (fun J_120_4255 => ?_)
            · rintro H locs ls st ⟨rfl, ⟨hP, hD⟩, hS, hl⟩
              refine lv_iload_n hx hb dX3_among_120 rfl (lv_at hl 0 rfl) ?_
              exact W.iret (v := v_2962) hx hb hr (fun t ht hW => ⟨⟨v_2962, _, rfl, ⟨v_2962, rfl, rfl⟩, by rw [ht]; exact hP, hD⟩, hS.F ht⟩) hS.2.2 dX3_among_121
            · skip
              refine lv_icmp_ge (tgt := 120) hx hb dX3_among_106 (by decide) (fun c_4256 => ?_) (fun c_4256 => ?_)
              · skip
                have nc_4256 := nb_le (60) (2) c_4256 nc_3619.2.1 h_4159 (by decide)
                exact J_120_4255 _ _ _ _ ⟨rfl, ⟨hP, hD⟩, hS, lv_sub hl [3] rfl⟩
              · skip
                have nc_4256 := nb_nle (59) (2) c_4256 h_4159 nc_3619.2.1 (by decide)
                have h_4257 : (0 : Int) ≤ v_4012.toInt ∧ v_4012.toInt ≤ 59 := bq_in2 qv_4144 nc_4256.1 bv_4012 nc_3619.1 (by decide)
                refine lv_aload_n hx hb dX3_among_109 rfl (lv_at hl 6 rfl) ?_
                refine lv_iload hx hb dX3_among_110 (lv_at hl 0 rfl) ?_
                refine cQim (As := [.int v_4144]) (rest := []) ⟨hx, hb, hml, hown, hw0⟩ hA hK hP hD hS hE [] (sJ0_charAt_5068e l G y aK aV _ i1 v_4144 nc_4256.1 hi1 (by omega)) rfl ⟨(callB_of 1 hw0 (gA m_0) rfl rfl rfl (hw0 _ m_2) (hw0 _ m_729) cb_J0_charAt_5068e ⟨Nat.le_of_ble_eq_true rfl, Nat.le_of_ble_eq_true rfl⟩), (hw0 _ m_535), (hw0 _ m_536)⟩ (i9 := i1) hi1 rfl rfl hl.1 (Nat.le_of_ble_eq_true rfl) dX3_among_112 ⟨Nat.le_of_ble_eq_true rfl, Nat.le_of_ble_eq_true rfl⟩ (fun r_4258 w_4258 H locs hw_4258 hP hD hS => ?_)
                obtain ⟨v_4259, bv_4259, h_4260, er_4258, rfl⟩ := hw_4258
                subst r_4258
                obtain ⟨hP, hD⟩ : vPD G A H [(ce_X3 ob ob_town ob_code ob_fault ob_place ob_text ob_size ob_begin ob_next ob_kind ob_value), (ce_b1400 y ob_text fob_text)] := ⟨hP, hD⟩
                refine lv_bipush (v := 32) hx hb dX3_among_115 (by decide) ?_
                refine lv_icmp_ne (tgt := 122) hx hb dX3_among_117 (by decide) (fun c_4261 => ?_) (fun c_4261 => ?_)
                · skip
                  have nc_4261 := nb_ne (0) (255) c_4261 bv_4259 (k := 32) (by decide) (by decide)
                  exact J_122_4173 _ _ _ _ ⟨(by omega), rfl, ⟨hP, hD⟩, hS, lv_sub hl [0, 2, 3, 4, 5, 6] rfl⟩
                · skip
                  have nc_4261 := nb_eq (32) (32) c_4261 bv_4259 (bkc (x := 32) (c := 32) (by decide)) (by decide)
                  exact J_120_4255 _ _ _ _ ⟨rfl, ⟨hP, hD⟩, hS, lv_sub hl [3] rfl⟩
      · skip
        refine lv_icmp_ge (tgt := 82) hx hb dX3_among_35 (by decide) (fun c_4262 => ?_) (fun c_4262 => ?_)
        · skip
          have nc_4262 := nb_le (60) (2) c_4262 nc_3619.2.1 bv_4144 (by decide)
          exact J_82_4157 _ _ _ _ ⟨(by omega), rfl, ⟨hP, hD⟩, hS, lv_sub hl [0, 1, 2, 3, 4, 5] rfl⟩
        · skip
          have nc_4262 := nb_nle (59) (2) c_4262 bv_4144 nc_3619.2.1 (by decide)
          have h_4263 : (0 : Int) ≤ v_4012.toInt ∧ v_4012.toInt ≤ 59 := bq_in2 qv_4144 nc_4262.1 bv_4012 nc_3619.1 (by decide)
          refine lv_aload_n hx hb dX3_among_38 rfl (lv_at hl 4 rfl) ?_
          refine va_get (D := G) (ci := 3) (v := .int ob_begin) (C := RX3) (T := TX3) (N := 10) hx hb hw0 inA_wsX30 hown hK.1 hP 0 rfl rfl 6 (by decide) (hw0 _ m_718) (fun _ h9 => h9) rfl dX3_among_39 ?_
          refine lv_iload hx hb dX3_among_42 (lv_at hl 0 rfl) ?_
          refine lv_iadd hx hb dX3_among_44 ?_
          refine lv_topi (fun v_4264 ev_4264 => ?_)
          have qv_4264 := ba_add ev_4264 p_ob_begin h_4263 (by decide)
          have bv_4264 : (0 : Int) ≤ v_4264.toInt ∧ v_4264.toInt ≤ 1459 := bq_add qv_4264 p_ob_begin h_4263 _ _ (by decide)
          refine lv_aload_n hx hb dX3_among_45 rfl (lv_at hl 4 rfl) ?_
          refine va_get (D := G) (ci := 3) (v := .int ob_next) (C := RX3) (T := TX3) (N := 10) hx hb hw0 inA_wsX30 hown hK.1 hP 0 rfl rfl 7 (by decide) (hw0 _ m_715) (fun _ h9 => h9) rfl dX3_among_46 ?_
          refine lv_icmp_ge (tgt := 82) hx hb dX3_among_49 (by decide) (fun c_4265 => ?_) (fun c_4265 => ?_)
          · skip
            have nc_4265 := nb_le (1400) (0) c_4265 p_ob_next bv_4264 (by decide)
            exact J_82_4157 _ _ _ _ ⟨(by omega), rfl, ⟨hP, hD⟩, hS, lv_sub hl [0, 1, 2, 3, 4, 5] rfl⟩
          · skip
            have nc_4265 := nb_nle (1399) (1) c_4265 bv_4264 p_ob_next (by decide)
            have h_4266 : (0 : Int) ≤ ob_begin.toInt ∧ ob_begin.toInt ≤ 1399 := bq_in1 qv_4264 nc_4265.1 p_ob_begin h_4263 (by decide)
            refine lv_aload_n hx hb dX3_among_52 rfl (lv_at hl 5 rfl) ?_
            refine lv_iload hx hb dX3_among_53 (lv_at hl 1 rfl) ?_
            refine lv_iload hx hb dX3_among_55 (lv_at hl 0 rfl) ?_
            refine lv_iadd hx hb dX3_among_57 ?_
            refine lv_topi (fun v_4267 ev_4267 => ?_)
            obtain rfl : v_4144 = v_4267 := (ev_4267.trans (ev_4144.symm)).symm
            refine cQim (As := [.int v_4144]) (rest := []) ⟨hx, hb, hml, hown, hw0⟩ hA hK hP hD hS hE [] (sJ0_charAt_5068e l G y aK aV _ i1 v_4144 nc_4262.1 hi1 (by omega)) rfl ⟨(callB_of 1 hw0 (gA m_0) rfl rfl rfl (hw0 _ m_2) (hw0 _ m_729) cb_J0_charAt_5068e ⟨Nat.le_of_ble_eq_true rfl, Nat.le_of_ble_eq_true rfl⟩), (hw0 _ m_535), (hw0 _ m_536)⟩ (i9 := i1) hi1 rfl rfl hl.1 (Nat.le_of_ble_eq_true rfl) dX3_among_58 ⟨Nat.le_of_ble_eq_true rfl, Nat.le_of_ble_eq_true rfl⟩ (fun r_4268 w_4268 H locs hw_4268 hP hD hS => ?_)
            obtain ⟨v_4269, bv_4269, h_4270, er_4268, rfl⟩ := hw_4268
            subst r_4268
            obtain ⟨hP, hD⟩ : vPD G A H [(ce_X3 ob ob_town ob_code ob_fault ob_place ob_text ob_size ob_begin ob_next ob_kind ob_value), (ce_b1400 y ob_text fob_text)] := ⟨hP, hD⟩
            refine lv_aload_n hx hb dX3_among_61 rfl (lv_at hl 4 rfl) ?_
            refine va_get (D := G) (ci := 3) (v := .ref ob_text) (C := RX3) (T := TX3) (N := 10) hx hb hw0 inA_wsX30 hown hK.1 hP 0 rfl rfl 4 (by decide) (hw0 _ m_717) (fun _ h9 => h9) rfl dX3_among_62 ?_
            refine lv_aload_n hx hb dX3_among_65 rfl (lv_at hl 4 rfl) ?_
            refine va_get (D := G) (ci := 3) (v := .int ob_begin) (C := RX3) (T := TX3) (N := 10) hx hb hw0 inA_wsX30 hown hK.1 hP 0 rfl rfl 6 (by decide) (hw0 _ m_718) (fun _ h9 => h9) rfl dX3_among_66 ?_
            refine lv_iload hx hb dX3_among_69 (lv_at hl 0 rfl) ?_
            refine lv_iadd hx hb dX3_among_71 ?_
            refine lv_topi (fun v_4271 ev_4271 => ?_)
            obtain rfl : v_4264 = v_4271 := (ev_4271.trans (ev_4264.symm)).symm
            refine va_bald hx hb hK.1 hP 1 0 rfl rfl (vi nc_4265.1 (by decide)) dX3_among_72 ?_
            refine lv_topi (fun v_4272 ev_4272 => ?_)
            refine lv_icmp_ne (tgt := 82) hx hb dX3_among_73 (by decide) (fun c_4273 => ?_) (fun c_4273 => ?_)
            · skip
              exact J_82_4157 _ _ _ _ ⟨(by omega), rfl, ⟨hP, hD⟩, hS, lv_sub hl [0, 1, 2, 3, 4, 5] rfl⟩
            · skip
              have nc_4273 := nb_eq (0) (255) c_4273 bv_4269 (btop v_4272) (by decide)
              obtain ⟨v_4274, ev_4274⟩ : ∃ z : Int32, z = v_4012 + 1 := ⟨_, rfl⟩
              have qv_4274 := ba_add ev_4274 h_4263 (bkc (x := 1) (c := 1) (by decide)) (by decide)
              have bv_4274 : (1 : Int) ≤ v_4274.toInt ∧ v_4274.toInt ≤ 60 := bq_add qv_4274 h_4263 (bkc (x := 1) (c := 1) (by decide)) _ _ (by decide)
              have qv_4274 : v_4274.toInt = v_4012.toInt + (1) := qv_4274
              refine lv_iinc (v := v_4274) (lv' := [(5, .int v_4274), (4, .int v_2961), (3, .int v_2962), (2, .int v_1003), (0, .ref ob), (1, .ref (aK i1))]) hx hb dX3_among_76 hl (k := 0) rfl (ev_4274.symm) (by decide) rfl (fun ls hl => ?_)
              refine lv_goto (tgt := 29) hx hb dX3_among_79 (by decide) ?_
              exact ih_4143 _ (ml_inc (hi := 60) hn_4143 qv_4274 (by decide) ((bw (0) (60) bv_4274 (by decide))).2) _ _ _ _ ⟨v_4274, rfl, (bw (0) (60) bv_4274 (by decide)), (by omega), rfl, ⟨hP, hD⟩, hS, lv_sub hl [0, 1, 2, 3, 4, 5] rfl⟩
  · skip
    have nc_1001 := nb_ne (0) (4) c_1001 p_ob_kind (k := 1) (by decide) (by decide)
    refine lv_iconst (v := (-1)) hx hb dX3_among_8 (by decide) ?_
    exact W.iret (v := (-1)) hx hb hr (fun t ht hW => ⟨⟨(-1), _, rfl, ⟨(-1), rfl, rfl⟩, by rw [ht]; exact hP, hD⟩, hS.F ht⟩) hS.2.2 dX3_among_9

set_option maxHeartbeats 4000000 in
set_option maxRecDepth 100000 in
theorem sX3_refuse (l : Launch) (G : va_G) (y : Nat → ClassId) (sz : Nat) (ob : Nat) (a1 : Int32) (ob_town : Nat) (ob_code : Nat) (ob_fault : Int32) (ob_place : Int32) (ob_text : Nat) (ob_size : Int32) (ob_begin : Int32) (ob_next : Int32) (ob_kind : Int32) (ob_value : Int32) (p_ob_fault : (0 : Int) ≤ ob_fault.toInt ∧ ob_fault.toInt ≤ 3) (p_ob_size : (0 : Int) ≤ ob_size.toInt ∧ ob_size.toInt ≤ 1400) (p_ob_begin : (0 : Int) ≤ ob_begin.toInt ∧ ob_begin.toInt ≤ 1400) (p_ob_next : (0 : Int) ≤ ob_next.toInt ∧ ob_next.toInt ≤ 1400) (p_ob_kind : (0 : Int) ≤ ob_kind.toInt ∧ ob_kind.toInt ≤ 4) (p_ob_value : (0 : Int) ≤ ob_value.toInt ∧ ob_value.toInt ≤ 1000000) (p_a1 : (1 : Int) ≤ a1.toInt ∧ a1.toInt ≤ 3) : Met l yX3_refuse (Cond.code yX3_refuse cX3_refuse 2 none :: wAll) ({ frames := 0, cells := 0, slots := 0, locals := 0 }) (va_Pc [.ref ob, .int a1] (kp G y sz [(ce_X3 ob ob_town ob_code ob_fault ob_place ob_text ob_size ob_begin ob_next ob_kind ob_value)])) (va_Qv (fun (w : va_W) => (∃ (v_3 : Int32) (v_4 : Int32), ((1 : Int) ≤ v_3.toInt ∧ v_3.toInt ≤ 3) ∧ w = [(ce_X3 ob ob_town ob_code v_3 v_4 ob_text ob_size ob_begin ob_next ob_kind ob_value)])) (kq G (va_A [(ce_X3 ob ob_town ob_code ob_fault ob_place ob_text ob_size ob_begin ob_next ob_kind ob_value)] sz)) (va_A [(ce_X3 ob ob_town ob_code ob_fault ob_place ob_text ob_size ob_begin ob_next ob_kind ob_value)] sz)) 0 0 (va_A [(ce_X3 ob ob_town ob_code ob_fault ob_place ob_text ob_size ob_begin ob_next ob_kind ob_value)] sz) := by
  refine Met.ofW (cc := cX3_refuse) (maxL := 2) (ret := none) (by decide) rfl ?_
  intro p e s m args below meth c s₁ B hml hv
  obtain ⟨rfl, hsz, hP, hK, hD0⟩ := hv
  have hx := B.exec
  have hb := B.bytes
  have hr := B.returns
  have hw0 : ∀ w ∈ wAll, w.before _ s = true := fun w h => atoms_spec (ws := Cond.code yX3_refuse cX3_refuse 2 none :: wAll) B.pre w (List.mem_cons_of_mem _ h)
  have hown : s.vm.findClass RX3 = some m.cls := findClass_of_methodNamed B.named
  subst hsz
  have hD := hD0.self (sz := s.heap.size)
  generalize hAe : va_A [(ce_X3 ob ob_town ob_code ob_fault ob_place ob_text ob_size ob_begin ob_next ob_kind ob_value)] s.heap.size = A at hD ⊢
  have hA : ∀ q : Nat, s.heap.size ≤ q → A q := fun q h => by rw [← hAe]; exact Or.inr h
  have hS : va_S A s.heap s.heap [] := va_S.rf
  have hP : va_P G vwCl [(ce_X3 ob ob_town ob_code ob_fault ob_place ob_text ob_size ob_begin ob_next ob_kind ob_value)] s.heap := hP
  have hl := lv_entry ([.ref ob, .int a1]) (n := 2) (Nat.le_of_ble_eq_true rfl)
  rw [lg_entry_eq]
  generalize (lg_sl ([.ref ob, .int a1]) ++ List.replicate (2 - (lg_sl ([.ref ob, .int a1])).length) Slot.unset).toArray = ls at hl ⊢
  have hl : lv_has ls 2 [(0, .ref ob), (1, .int a1)] := hl
  refine lv_aload_n hx hb dX3_refuse_0 rfl (lv_at hl 0 rfl) ?_
  refine va_get (D := G) (ci := 3) (v := .int ob_fault) (C := RX3) (T := TX3) (N := 10) hx hb hw0 inA_wsX30 hown hK.1 hP 0 rfl rfl 2 (by decide) (hw0 _ m_737) (fun _ h9 => h9) rfl dX3_refuse_1 ?_
  refine lv_if_ne (tgt := 20) hx hb dX3_refuse_4 (by decide) (fun c_1001 => ?_) (fun c_1001 => ?_)
  · skip
    have nc_1001 := nb_ne (1) (3) c_1001 p_ob_fault (k := 0) (by decide) (by decide)
    exact W.vret hx hb hr (fun t ht hW => ⟨⟨_, rfl, ⟨ob_fault, ob_place, nc_1001.1, rfl⟩, by rw [ht]; exact hP, hD⟩, hS.F ht⟩) hS.2.2 dX3_refuse_20
  · skip
    have nc_1001 := nb_eq (0) (0) c_1001 p_ob_fault (bkc (x := 0) (c := 0) (by decide)) (by decide)
    refine lv_aload_n hx hb dX3_refuse_7 rfl (lv_at hl 0 rfl) ?_
    refine lv_iload_n hx hb dX3_refuse_8 rfl (lv_at hl 1 rfl) ?_
    refine va_put (D := G) (ci := 3) (v := .int a1) (ty := .int) (C := RX3) (T := TX3) (N := 10) hx hb hw0 inA_wsX30 tyX3 tyX3_ok nmX3 hown hK.1 hP hD hS 0 rfl rfl 2 (by decide) (hw0 _ m_737) (fun _ h9 => h9) rfl fd_X3_2 rfl rfl (Nat.le_of_ble_eq_true rfl) dX3_refuse_9 (fun H locs hP hD hS => ?_)
    obtain ⟨hP, hD⟩ : vPD G A H [(ce_X3 ob ob_town ob_code a1 ob_place ob_text ob_size ob_begin ob_next ob_kind ob_value)] := ⟨hP, hD⟩
    refine lv_aload_n hx hb dX3_refuse_12 rfl (lv_at hl 0 rfl) ?_
    refine lv_aload_n hx hb dX3_refuse_13 rfl (lv_at hl 0 rfl) ?_
    refine va_get (D := G) (ci := 3) (v := .int ob_begin) (C := RX3) (T := TX3) (N := 10) hx hb hw0 inA_wsX30 hown hK.1 hP 0 rfl rfl 6 (by decide) (hw0 _ m_718) (fun _ h9 => h9) rfl dX3_refuse_14 ?_
    refine va_put (D := G) (ci := 3) (v := .int ob_begin) (ty := .int) (C := RX3) (T := TX3) (N := 10) hx hb hw0 inA_wsX30 tyX3 tyX3_ok nmX3 hown hK.1 hP hD hS 0 rfl rfl 3 (by decide) (hw0 _ m_751) (fun _ h9 => h9) rfl fd_X3_3 rfl rfl (Nat.le_of_ble_eq_true rfl) dX3_refuse_17 (fun H locs hP hD hS => ?_)
    obtain ⟨hP, hD⟩ : vPD G A H [(ce_X3 ob ob_town ob_code a1 ob_begin ob_text ob_size ob_begin ob_next ob_kind ob_value)] := ⟨hP, hD⟩
    exact W.vret hx hb hr (fun t ht hW => ⟨⟨_, rfl, ⟨a1, ob_begin, p_a1, rfl⟩, by rw [ht]; exact hP, hD⟩, hS.F ht⟩) hS.2.2 dX3_refuse_20

set_option maxHeartbeats 4000000 in
set_option maxRecDepth 100000 in
theorem sX3_takeWord (l : Launch) (G : va_G) (y : Nat → ClassId) (sz : Nat) (ob : Nat) (ob_town : Nat) (ob_code : Nat) (ob_fault : Int32) (ob_place : Int32) (ob_text : Nat) (ob_size : Int32) (ob_begin : Int32) (ob_next : Int32) (ob_kind : Int32) (ob_value : Int32) (fob_text : Nat → Int32) (p_ob_fault : (0 : Int) ≤ ob_fault.toInt ∧ ob_fault.toInt ≤ 3) (p_ob_size : (0 : Int) ≤ ob_size.toInt ∧ ob_size.toInt ≤ 1400) (p_ob_begin : (0 : Int) ≤ ob_begin.toInt ∧ ob_begin.toInt ≤ 1400) (p_ob_next : (0 : Int) ≤ ob_next.toInt ∧ ob_next.toInt ≤ 1400) (p_ob_kind : (0 : Int) ≤ ob_kind.toInt ∧ ob_kind.toInt ≤ 4) (p_ob_value : (0 : Int) ≤ ob_value.toInt ∧ ob_value.toInt ≤ 1000000) : Met l yX3_takeWord (Cond.code yX3_takeWord cX3_takeWord 1 none :: wAll) ({ frames := 0, cells := 0, slots := 0, locals := 0 }) (va_Pc [.ref ob] (kp G y sz [(ce_X3 ob ob_town ob_code ob_fault ob_place ob_text ob_size ob_begin ob_next ob_kind ob_value), (ce_b1400 y ob_text fob_text)])) (va_Qv (fun (w : va_W) => (∃ (v_67 : Int32), ((0 : Int) ≤ v_67.toInt ∧ v_67.toInt ≤ 1400) ∧ w = [(ce_X3 ob ob_town ob_code ob_fault ob_place ob_text ob_size ob_begin v_67 1 ob_value), (ce_b1400 y ob_text fob_text)])) (kq G (va_A [(ce_X3 ob ob_town ob_code ob_fault ob_place ob_text ob_size ob_begin ob_next ob_kind ob_value), (ce_b1400 y ob_text fob_text)] sz)) (va_A [(ce_X3 ob ob_town ob_code ob_fault ob_place ob_text ob_size ob_begin ob_next ob_kind ob_value), (ce_b1400 y ob_text fob_text)] sz)) 0 0 (va_A [(ce_X3 ob ob_town ob_code ob_fault ob_place ob_text ob_size ob_begin ob_next ob_kind ob_value), (ce_b1400 y ob_text fob_text)] sz) := by
  refine Met.ofW (cc := cX3_takeWord) (maxL := 1) (ret := none) (by decide) rfl ?_
  intro p e s m args below meth c s₁ B hml hv
  obtain ⟨rfl, hsz, hP, hK, hD0⟩ := hv
  have hx := B.exec
  have hb := B.bytes
  have hr := B.returns
  have hw0 : ∀ w ∈ wAll, w.before _ s = true := fun w h => atoms_spec (ws := Cond.code yX3_takeWord cX3_takeWord 1 none :: wAll) B.pre w (List.mem_cons_of_mem _ h)
  have hown : s.vm.findClass RX3 = some m.cls := findClass_of_methodNamed B.named
  subst hsz
  have hD := hD0.self (sz := s.heap.size)
  generalize hAe : va_A [(ce_X3 ob ob_town ob_code ob_fault ob_place ob_text ob_size ob_begin ob_next ob_kind ob_value), (ce_b1400 y ob_text fob_text)] s.heap.size = A at hD ⊢
  have hA : ∀ q : Nat, s.heap.size ≤ q → A q := fun q h => by rw [← hAe]; exact Or.inr h
  have hS : va_S A s.heap s.heap [] := va_S.rf
  have hP : va_P G vwCl [(ce_X3 ob ob_town ob_code ob_fault ob_place ob_text ob_size ob_begin ob_next ob_kind ob_value), (ce_b1400 y ob_text fob_text)] s.heap := hP
  have hl := lv_entry ([.ref ob]) (n := 1) (Nat.le_of_ble_eq_true rfl)
  rw [lg_entry_eq]
  generalize (lg_sl ([.ref ob]) ++ List.replicate (1 - (lg_sl ([.ref ob])).length) Slot.unset).toArray = ls at hl ⊢
  have hl : lv_has ls 1 [(0, .ref ob)] := hl
  refine lv_aload_n hx hb dX3_takeWord_0 rfl (lv_at hl 0 rfl) ?_
  refine lv_iconst (v := 1) hx hb dX3_takeWord_1 (by decide) ?_
  refine va_put (D := G) (ci := 3) (v := .int 1) (ty := .int) (C := RX3) (T := TX3) (N := 10) hx hb hw0 inA_wsX30 tyX3 tyX3_ok nmX3 hown hK.1 hP hD hS 0 rfl rfl 8 (by decide) (hw0 _ m_719) (fun _ h9 => h9) rfl fd_X3_8 rfl rfl (Nat.le_of_ble_eq_true rfl) dX3_takeWord_2 (fun H locs hP hD hS => ?_)
  obtain ⟨hP, hD⟩ : vPD G A H [(ce_X3 ob ob_town ob_code ob_fault ob_place ob_text ob_size ob_begin ob_next 1 ob_value), (ce_b1400 y ob_text fob_text)] := ⟨hP, hD⟩
  refine loopX (fun n H locs ls st => ∃ (v_1021 : Int32), (1400 - v_1021.toInt).toNat = n ∧ ((0 : Int) ≤ v_1021.toInt ∧ v_1021.toInt ≤ 1400) ∧ st = [] ∧ vPD G A H [(ce_X3 ob ob_town ob_code ob_fault ob_place ob_text ob_size ob_begin v_1021 1 ob_value), (ce_b1400 y ob_text fob_text)] ∧ va_S A s.heap H locs ∧ lv_has ls 1 [(0, .ref ob)]) ?_ (n := (1400 - ob_next.toInt).toNat) ⟨ob_next, rfl, p_ob_next, rfl, ⟨hP, hD⟩, hS, lv_sub hl [0] rfl⟩
  rintro n ih_1027 H locs ls st ⟨v_1021, hn_1027, bv_1021, rfl, ⟨hP, hD⟩, hS, hl⟩
  refine lv_aload_n hx hb dX3_takeWord_5 rfl (lv_at hl 0 rfl) ?_
  refine va_get (D := G) (ci := 3) (v := .int v_1021) (C := RX3) (T := TX3) (N := 10) hx hb hw0 inA_wsX30 hown hK.1 hP 0 rfl rfl 7 (by decide) (hw0 _ m_715) (fun _ h9 => h9) rfl dX3_takeWord_6 ?_
  refine lv_aload_n hx hb dX3_takeWord_9 rfl (lv_at hl 0 rfl) ?_
  refine va_get (D := G) (ci := 3) (v := .int ob_size) (C := RX3) (T := TX3) (N := 10) hx hb hw0 inA_wsX30 hown hK.1 hP 0 rfl rfl 5 (by decide) (hw0 _ m_716) (fun _ h9 => h9) rfl dX3_takeWord_10 ?_
  refine lv_icmp_ge (tgt := 57) hx hb dX3_takeWord_13 (by decide) (fun c_1028 => ?_) (fun c_1028 => ?_)
  · skip
    have nc_1028 := nb_le (1400) (0) c_1028 p_ob_size bv_1021 (by decide)
    exact W.vret hx hb hr (fun t ht hW => ⟨⟨_, rfl, ⟨v_1021, nc_1028.2.1, rfl⟩, by rw [ht]; exact hP, hD⟩, hS.F ht⟩) hS.2.2 dX3_takeWord_57
  · skip
    have nc_1028 := nb_nle (1399) (1) c_1028 bv_1021 p_ob_size (by decide)
    refine lv_aload_n hx hb dX3_takeWord_16 rfl (lv_at hl 0 rfl) ?_
    refine va_get (D := G) (ci := 3) (v := .ref ob_text) (C := RX3) (T := TX3) (N := 10) hx hb hw0 inA_wsX30 hown hK.1 hP 0 rfl rfl 4 (by decide) (hw0 _ m_717) (fun _ h9 => h9) rfl dX3_takeWord_17 ?_
    refine lv_aload_n hx hb dX3_takeWord_20 rfl (lv_at hl 0 rfl) ?_
    refine va_get (D := G) (ci := 3) (v := .int v_1021) (C := RX3) (T := TX3) (N := 10) hx hb hw0 inA_wsX30 hown hK.1 hP 0 rfl rfl 7 (by decide) (hw0 _ m_715) (fun _ h9 => h9) rfl dX3_takeWord_21 ?_
    refine va_bald hx hb hK.1 hP 1 0 rfl rfl (vi nc_1028.1 (by decide)) dX3_takeWord_24 ?_
    refine lv_topi (fun v_1029 ev_1029 => ?_)
    refine lv_bipush (v := 97) hx hb dX3_takeWord_25 (by decide) ?_
    refine lv_icmp_lt (tgt := 57) hx hb dX3_takeWord_27 (by decide) (fun c_1030 => ?_) (fun c_1030 => ?_)
    · skip
      have nc_1030 := nb_lt (96) (97) c_1030 (btop v_1029) (bkc (x := 97) (c := 97) (by decide)) (by decide)
      exact W.vret hx hb hr (fun t ht hW => ⟨⟨_, rfl, ⟨v_1021, (bw (0) (1400) nc_1028.1 (by decide)), rfl⟩, by rw [ht]; exact hP, hD⟩, hS.F ht⟩) hS.2.2 dX3_takeWord_57
    · skip
      have nc_1030 := nb_nlt (97) (97) c_1030 (bkc (x := 97) (c := 97) (by decide)) (btop v_1029) (by decide)
      refine lv_aload_n hx hb dX3_takeWord_30 rfl (lv_at hl 0 rfl) ?_
      refine va_get (D := G) (ci := 3) (v := .ref ob_text) (C := RX3) (T := TX3) (N := 10) hx hb hw0 inA_wsX30 hown hK.1 hP 0 rfl rfl 4 (by decide) (hw0 _ m_717) (fun _ h9 => h9) rfl dX3_takeWord_31 ?_
      refine lv_aload_n hx hb dX3_takeWord_34 rfl (lv_at hl 0 rfl) ?_
      refine va_get (D := G) (ci := 3) (v := .int v_1021) (C := RX3) (T := TX3) (N := 10) hx hb hw0 inA_wsX30 hown hK.1 hP 0 rfl rfl 7 (by decide) (hw0 _ m_715) (fun _ h9 => h9) rfl dX3_takeWord_35 ?_
      refine va_bald hx hb hK.1 hP 1 0 rfl rfl (vi nc_1028.1 (by decide)) dX3_takeWord_38 ?_
      refine lv_topi (fun v_1031 ev_1031 => ?_)
      obtain rfl : v_1029 = v_1031 := (ev_1031.trans (ev_1029.symm)).symm
      refine lv_bipush (v := 122) hx hb dX3_takeWord_39 (by decide) ?_
      refine lv_icmp_gt (tgt := 57) hx hb dX3_takeWord_41 (by decide) (fun c_1032 => ?_) (fun c_1032 => ?_)
      · skip
        have nc_1032 := nb_lt (122) (123) c_1032 (bkc (x := 122) (c := 122) (by decide)) nc_1030.2.1 (by decide)
        exact W.vret hx hb hr (fun t ht hW => ⟨⟨_, rfl, ⟨v_1021, (bw (0) (1400) nc_1028.1 (by decide)), rfl⟩, by rw [ht]; exact hP, hD⟩, hS.F ht⟩) hS.2.2 dX3_takeWord_57
      · skip
        have nc_1032 := nb_nlt (122) (122) c_1032 nc_1030.2.1 (bkc (x := 122) (c := 122) (by decide)) (by decide)
        refine lv_aload_n hx hb dX3_takeWord_44 rfl (lv_at hl 0 rfl) ?_
        refine lv_dup hx hb dX3_takeWord_45 rfl ?_
        refine va_get (D := G) (ci := 3) (v := .int v_1021) (C := RX3) (T := TX3) (N := 10) hx hb hw0 inA_wsX30 hown hK.1 hP 0 rfl rfl 7 (by decide) (hw0 _ m_715) (fun _ h9 => h9) rfl dX3_takeWord_46 ?_
        refine lv_iconst (v := 1) hx hb dX3_takeWord_49 (by decide) ?_
        refine lv_iadd hx hb dX3_takeWord_50 ?_
        refine lv_topi (fun v_1033 ev_1033 => ?_)
        have qv_1033 := ba_add ev_1033 nc_1028.1 (bkc (x := 1) (c := 1) (by decide)) (by decide)
        have bv_1033 : (1 : Int) ≤ v_1033.toInt ∧ v_1033.toInt ≤ 1400 := bq_add qv_1033 nc_1028.1 (bkc (x := 1) (c := 1) (by decide)) _ _ (by decide)
        have qv_1033 : v_1033.toInt = v_1021.toInt + (1) := qv_1033
        refine va_put (D := G) (ci := 3) (v := .int v_1033) (ty := .int) (C := RX3) (T := TX3) (N := 10) hx hb hw0 inA_wsX30 tyX3 tyX3_ok nmX3 hown hK.1 hP hD hS 0 rfl rfl 7 (by decide) (hw0 _ m_715) (fun _ h9 => h9) rfl fd_X3_7 rfl rfl (Nat.le_of_ble_eq_true rfl) dX3_takeWord_51 (fun H locs hP hD hS => ?_)
        obtain ⟨hP, hD⟩ : vPD G A H [(ce_X3 ob ob_town ob_code ob_fault ob_place ob_text ob_size ob_begin v_1033 1 ob_value), (ce_b1400 y ob_text fob_text)] := ⟨hP, hD⟩
        refine lv_goto (tgt := 5) hx hb dX3_takeWord_54 (by decide) ?_
        exact ih_1027 _ (ml_inc (hi := 1400) hn_1027 qv_1033 (by decide) ((bw (0) (1400) bv_1033 (by decide))).2) _ _ _ _ ⟨v_1033, rfl, (bw (0) (1400) bv_1033 (by decide)), rfl, ⟨hP, hD⟩, hS, lv_sub hl [0] rfl⟩

set_option maxHeartbeats 4000000 in
set_option maxRecDepth 100000 in
theorem sX3_takeNumber (l : Launch) (G : va_G) (y : Nat → ClassId) (sz : Nat) (ob : Nat) (ob_town : Nat) (ob_code : Nat) (ob_fault : Int32) (ob_place : Int32) (ob_text : Nat) (ob_size : Int32) (ob_begin : Int32) (ob_next : Int32) (ob_kind : Int32) (ob_value : Int32) (fob_text : Nat → Int32) (p_ob_fault : (0 : Int) ≤ ob_fault.toInt ∧ ob_fault.toInt ≤ 3) (p_ob_size : (0 : Int) ≤ ob_size.toInt ∧ ob_size.toInt ≤ 1400) (p_ob_begin : (0 : Int) ≤ ob_begin.toInt ∧ ob_begin.toInt ≤ 1400) (p_ob_next : (0 : Int) ≤ ob_next.toInt ∧ ob_next.toInt ≤ 1400) (p_ob_kind : (0 : Int) ≤ ob_kind.toInt ∧ ob_kind.toInt ≤ 4) (p_ob_value : (0 : Int) ≤ ob_value.toInt ∧ ob_value.toInt ≤ 1000000) : Met l yX3_takeNumber (Cond.code yX3_takeNumber cX3_takeNumber 1 none :: wAll) ({ frames := 1, cells := 0, slots := 0, locals := 21 }) (va_Pc [.ref ob] (kp G y sz [(ce_X3 ob ob_town ob_code ob_fault ob_place ob_text ob_size ob_begin ob_next ob_kind ob_value), (ce_b1400 y ob_text fob_text)])) (va_Qv (fun (w : va_W) => (∃ (v_149 : Int32) (v_150 : Int32), ((0 : Int) ≤ v_149.toInt ∧ v_149.toInt ≤ 1400) ∧ ((0 : Int) ≤ v_150.toInt ∧ v_150.toInt ≤ 1000000) ∧ w = [(ce_X3 ob ob_town ob_code ob_fault ob_place ob_text ob_size ob_begin v_149 2 v_150), (ce_b1400 y ob_text fob_text)])) (kq G (va_A [(ce_X3 ob ob_town ob_code ob_fault ob_place ob_text ob_size ob_begin ob_next ob_kind ob_value), (ce_b1400 y ob_text fob_text)] sz)) (va_A [(ce_X3 ob ob_town ob_code ob_fault ob_place ob_text ob_size ob_begin ob_next ob_kind ob_value), (ce_b1400 y ob_text fob_text)] sz)) 0 0 (va_A [(ce_X3 ob ob_town ob_code ob_fault ob_place ob_text ob_size ob_begin ob_next ob_kind ob_value), (ce_b1400 y ob_text fob_text)] sz) := by
  refine Met.ofW (cc := cX3_takeNumber) (maxL := 1) (ret := none) (by decide) rfl ?_
  intro p e s m args below meth c s₁ B hml hv
  obtain ⟨rfl, hsz, hP, hK, hD0⟩ := hv
  have hx := B.exec
  have hb := B.bytes
  have hr := B.returns
  have hw0 : ∀ w ∈ wAll, w.before _ s = true := fun w h => atoms_spec (ws := Cond.code yX3_takeNumber cX3_takeNumber 1 none :: wAll) B.pre w (List.mem_cons_of_mem _ h)
  have hown : s.vm.findClass RX3 = some m.cls := findClass_of_methodNamed B.named
  subst hsz
  have hD := hD0.self (sz := s.heap.size)
  generalize hAe : va_A [(ce_X3 ob ob_town ob_code ob_fault ob_place ob_text ob_size ob_begin ob_next ob_kind ob_value), (ce_b1400 y ob_text fob_text)] s.heap.size = A at hD ⊢
  have hA : ∀ q : Nat, s.heap.size ≤ q → A q := fun q h => by rw [← hAe]; exact Or.inr h
  have hS : va_S A s.heap s.heap [] := va_S.rf
  have hP : va_P G vwCl [(ce_X3 ob ob_town ob_code ob_fault ob_place ob_text ob_size ob_begin ob_next ob_kind ob_value), (ce_b1400 y ob_text fob_text)] s.heap := hP
  have hl := lv_entry ([.ref ob]) (n := 1) (Nat.le_of_ble_eq_true rfl)
  rw [lg_entry_eq]
  generalize (lg_sl ([.ref ob]) ++ List.replicate (1 - (lg_sl ([.ref ob])).length) Slot.unset).toArray = ls at hl ⊢
  have hl : lv_has ls 1 [(0, .ref ob)] := hl
  refine lv_aload_n hx hb dX3_takeNumber_0 rfl (lv_at hl 0 rfl) ?_
  refine lv_iconst (v := 2) hx hb dX3_takeNumber_1 (by decide) ?_
  refine va_put (D := G) (ci := 3) (v := .int 2) (ty := .int) (C := RX3) (T := TX3) (N := 10) hx hb hw0 inA_wsX30 tyX3 tyX3_ok nmX3 hown hK.1 hP hD hS 0 rfl rfl 8 (by decide) (hw0 _ m_719) (fun _ h9 => h9) rfl fd_X3_8 rfl rfl (Nat.le_of_ble_eq_true rfl) dX3_takeNumber_2 (fun H locs hP hD hS => ?_)
  obtain ⟨hP, hD⟩ : vPD G A H [(ce_X3 ob ob_town ob_code ob_fault ob_place ob_text ob_size ob_begin ob_next 2 ob_value), (ce_b1400 y ob_text fob_text)] := ⟨hP, hD⟩
  refine lv_aload_n hx hb dX3_takeNumber_5 rfl (lv_at hl 0 rfl) ?_
  refine lv_iconst (v := 0) hx hb dX3_takeNumber_6 (by decide) ?_
  refine va_put (D := G) (ci := 3) (v := .int 0) (ty := .int) (C := RX3) (T := TX3) (N := 10) hx hb hw0 inA_wsX30 tyX3 tyX3_ok nmX3 hown hK.1 hP hD hS 0 rfl rfl 9 (by decide) (hw0 _ m_753) (fun _ h9 => h9) rfl fd_X3_9 rfl rfl (Nat.le_of_ble_eq_true rfl) dX3_takeNumber_7 (fun H locs hP hD hS => ?_)
  obtain ⟨hP, hD⟩ : vPD G A H [(ce_X3 ob ob_town ob_code ob_fault ob_place ob_text ob_size ob_begin ob_next 2 0), (ce_b1400 y ob_text fob_text)] := ⟨hP, hD⟩
  refine loopX (fun n H locs ls st => ∃ (v_1051 : Int32) (v_1052 : Int32), (1400 - v_1051.toInt).toNat = n ∧ ((0 : Int) ≤ v_1051.toInt ∧ v_1051.toInt ≤ 1400) ∧ ((0 : Int) ≤ v_1052.toInt ∧ v_1052.toInt ≤ 1000000) ∧ st = [] ∧ vPD G A H [(ce_X3 ob ob_town ob_code ob_fault ob_place ob_text ob_size ob_begin v_1051 2 v_1052), (ce_b1400 y ob_text fob_text)] ∧ va_S A s.heap H locs ∧ lv_has ls 1 [(0, .ref ob)]) ?_ (n := (1400 - ob_next.toInt).toNat) ⟨ob_next, 0, rfl, p_ob_next, (bw (0) (1000000) (bkc (x := 0) (c := 0) (by decide)) (by decide)), rfl, ⟨hP, hD⟩, hS, lv_sub hl [0] rfl⟩
  rintro n ih_1063 H locs ls st ⟨v_1051, v_1052, hn_1063, bv_1051, bv_1052, rfl, ⟨hP, hD⟩, hS, hl⟩
  refine lv_aload_n hx hb dX3_takeNumber_10 rfl (lv_at hl 0 rfl) ?_
  refine va_get (D := G) (ci := 3) (v := .int v_1051) (C := RX3) (T := TX3) (N := 10) hx hb hw0 inA_wsX30 hown hK.1 hP 0 rfl rfl 7 (by decide) (hw0 _ m_715) (fun _ h9 => h9) rfl dX3_takeNumber_11 ?_
  refine lv_aload_n hx hb dX3_takeNumber_14 rfl (lv_at hl 0 rfl) ?_
  refine va_get (D := G) (ci := 3) (v := .int ob_size) (C := RX3) (T := TX3) (N := 10) hx hb hw0 inA_wsX30 hown hK.1 hP 0 rfl rfl 5 (by decide) (hw0 _ m_716) (fun _ h9 => h9) rfl dX3_takeNumber_15 ?_
  refine lv_icmp_ge (tgt := 91) hx hb dX3_takeNumber_18 (by decide) (fun c_1064 => ?_) (fun c_1064 => ?_)
  · skip
    have nc_1064 := nb_le (1400) (0) c_1064 p_ob_size bv_1051 (by decide)
    exact W.vret hx hb hr (fun t ht hW => ⟨⟨_, rfl, ⟨v_1051, v_1052, nc_1064.2.1, bv_1052, rfl⟩, by rw [ht]; exact hP, hD⟩, hS.F ht⟩) hS.2.2 dX3_takeNumber_91
  · skip
    have nc_1064 := nb_nle (1399) (1) c_1064 bv_1051 p_ob_size (by decide)
    refine lv_aload_n hx hb dX3_takeNumber_21 rfl (lv_at hl 0 rfl) ?_
    refine va_get (D := G) (ci := 3) (v := .ref ob_text) (C := RX3) (T := TX3) (N := 10) hx hb hw0 inA_wsX30 hown hK.1 hP 0 rfl rfl 4 (by decide) (hw0 _ m_717) (fun _ h9 => h9) rfl dX3_takeNumber_22 ?_
    refine lv_aload_n hx hb dX3_takeNumber_25 rfl (lv_at hl 0 rfl) ?_
    refine va_get (D := G) (ci := 3) (v := .int v_1051) (C := RX3) (T := TX3) (N := 10) hx hb hw0 inA_wsX30 hown hK.1 hP 0 rfl rfl 7 (by decide) (hw0 _ m_715) (fun _ h9 => h9) rfl dX3_takeNumber_26 ?_
    refine va_bald hx hb hK.1 hP 1 0 rfl rfl (vi nc_1064.1 (by decide)) dX3_takeNumber_29 ?_
    refine lv_topi (fun v_1065 ev_1065 => ?_)
    refine lv_bipush (v := 48) hx hb dX3_takeNumber_30 (by decide) ?_
    refine lv_icmp_lt (tgt := 91) hx hb dX3_takeNumber_32 (by decide) (fun c_1066 => ?_) (fun c_1066 => ?_)
    · skip
      have nc_1066 := nb_lt (47) (48) c_1066 (btop v_1065) (bkc (x := 48) (c := 48) (by decide)) (by decide)
      exact W.vret hx hb hr (fun t ht hW => ⟨⟨_, rfl, ⟨v_1051, v_1052, (bw (0) (1400) nc_1064.1 (by decide)), bv_1052, rfl⟩, by rw [ht]; exact hP, hD⟩, hS.F ht⟩) hS.2.2 dX3_takeNumber_91
    · skip
      have nc_1066 := nb_nlt (48) (48) c_1066 (bkc (x := 48) (c := 48) (by decide)) (btop v_1065) (by decide)
      refine lv_aload_n hx hb dX3_takeNumber_35 rfl (lv_at hl 0 rfl) ?_
      refine va_get (D := G) (ci := 3) (v := .ref ob_text) (C := RX3) (T := TX3) (N := 10) hx hb hw0 inA_wsX30 hown hK.1 hP 0 rfl rfl 4 (by decide) (hw0 _ m_717) (fun _ h9 => h9) rfl dX3_takeNumber_36 ?_
      refine lv_aload_n hx hb dX3_takeNumber_39 rfl (lv_at hl 0 rfl) ?_
      refine va_get (D := G) (ci := 3) (v := .int v_1051) (C := RX3) (T := TX3) (N := 10) hx hb hw0 inA_wsX30 hown hK.1 hP 0 rfl rfl 7 (by decide) (hw0 _ m_715) (fun _ h9 => h9) rfl dX3_takeNumber_40 ?_
      refine va_bald hx hb hK.1 hP 1 0 rfl rfl (vi nc_1064.1 (by decide)) dX3_takeNumber_43 ?_
      refine lv_topi (fun v_1067 ev_1067 => ?_)
      obtain rfl : v_1065 = v_1067 := (ev_1067.trans (ev_1065.symm)).symm
      refine lv_bipush (v := 57) hx hb dX3_takeNumber_44 (by decide) ?_
      refine lv_icmp_gt (tgt := 91) hx hb dX3_takeNumber_46 (by decide) (fun c_1068 => ?_) (fun c_1068 => ?_)
      · skip
        have nc_1068 := nb_lt (57) (58) c_1068 (bkc (x := 57) (c := 57) (by decide)) nc_1066.2.1 (by decide)
        exact W.vret hx hb hr (fun t ht hW => ⟨⟨_, rfl, ⟨v_1051, v_1052, (bw (0) (1400) nc_1064.1 (by decide)), bv_1052, rfl⟩, by rw [ht]; exact hP, hD⟩, hS.F ht⟩) hS.2.2 dX3_takeNumber_91
      · skip
        have nc_1068 := nb_nlt (57) (57) c_1068 nc_1066.2.1 (bkc (x := 57) (c := 57) (by decide)) (by decide)
        refine lv_aload_n hx hb dX3_takeNumber_49 rfl (lv_at hl 0 rfl) ?_
        refine lv_ldc (own := RX3) (v := 1000000) hx hb hown (hw0 _ m_818) dX3_takeNumber_50 ?_
        refine lv_aload_n hx hb dX3_takeNumber_52 rfl (lv_at hl 0 rfl) ?_
        refine va_get (D := G) (ci := 3) (v := .int v_1052) (C := RX3) (T := TX3) (N := 10) hx hb hw0 inA_wsX30 hown hK.1 hP 0 rfl rfl 9 (by decide) (hw0 _ m_753) (fun _ h9 => h9) rfl dX3_takeNumber_53 ?_
        refine lv_bipush (v := 10) hx hb dX3_takeNumber_56 (by decide) ?_
        refine lv_imul hx hb dX3_takeNumber_58 ?_
        refine lv_topi (fun v_1069 ev_1069 => ?_)
        have qv_1069 := ba_mul 10 ev_1069 bv_1052 (by decide) (by decide) (by decide)
        have bv_1069 : (0 : Int) ≤ v_1069.toInt ∧ v_1069.toInt ≤ 10000000 := qv_1069.2
        refine lv_aload_n hx hb dX3_takeNumber_59 rfl (lv_at hl 0 rfl) ?_
        refine va_get (D := G) (ci := 3) (v := .ref ob_text) (C := RX3) (T := TX3) (N := 10) hx hb hw0 inA_wsX30 hown hK.1 hP 0 rfl rfl 4 (by decide) (hw0 _ m_717) (fun _ h9 => h9) rfl dX3_takeNumber_60 ?_
        refine lv_aload_n hx hb dX3_takeNumber_63 rfl (lv_at hl 0 rfl) ?_
        refine va_get (D := G) (ci := 3) (v := .int v_1051) (C := RX3) (T := TX3) (N := 10) hx hb hw0 inA_wsX30 hown hK.1 hP 0 rfl rfl 7 (by decide) (hw0 _ m_715) (fun _ h9 => h9) rfl dX3_takeNumber_64 ?_
        refine va_bald hx hb hK.1 hP 1 0 rfl rfl (vi nc_1064.1 (by decide)) dX3_takeNumber_67 ?_
        refine lv_topi (fun v_1070 ev_1070 => ?_)
        obtain rfl : v_1065 = v_1070 := (ev_1070.trans (ev_1065.symm)).symm
        refine lv_iadd hx hb dX3_takeNumber_68 ?_
        refine lv_topi (fun v_1071 ev_1071 => ?_)
        have qv_1071 := ba_add ev_1071 bv_1069 nc_1068.1 (by decide)
        have bv_1071 : (48 : Int) ≤ v_1071.toInt ∧ v_1071.toInt ≤ 10000057 := bq_add qv_1071 bv_1069 nc_1068.1 _ _ (by decide)
        refine lv_bipush (v := 48) hx hb dX3_takeNumber_69 (by decide) ?_
        refine lv_isub hx hb dX3_takeNumber_71 ?_
        refine lv_topi (fun v_1072 ev_1072 => ?_)
        have qv_1072 := ba_sub ev_1072 bv_1071 (bkc (x := 48) (c := 48) (by decide)) (by decide)
        have bv_1072 : (0 : Int) ≤ v_1072.toInt ∧ v_1072.toInt ≤ 10000009 := bq_sub qv_1072 bv_1071 (bkc (x := 48) (c := 48) (by decide)) _ _ (by decide)
        have qv_1072 : v_1072.toInt = v_1071.toInt - (48) := qv_1072
        refine va_mmin (own := RX3) hx hb (by rw [hml]; exact hl.1.symm) hown (hw0 _ m_755) (hw0 _ m_282) (hw0 _ m_283) (hw0 _ m_284) (Nat.le_of_ble_eq_true rfl) (Nat.le_of_ble_eq_true rfl) (Nat.zero_le _) (Nat.zero_le _) dX3_takeNumber_72 ?_
        refine lv_topi (fun v_1073 ev_1073 => ?_)
        have bv_1073 : (0 : Int) ≤ v_1073.toInt ∧ v_1073.toInt ≤ 1000000 := bm_min ev_1073 (bkc (x := 1000000) (c := 1000000) (by decide)) bv_1072 _ _ (by decide)
        refine va_put (D := G) (ci := 3) (v := .int v_1073) (ty := .int) (C := RX3) (T := TX3) (N := 10) hx hb hw0 inA_wsX30 tyX3 tyX3_ok nmX3 hown hK.1 hP hD hS 0 rfl rfl 9 (by decide) (hw0 _ m_753) (fun _ h9 => h9) rfl fd_X3_9 rfl rfl (Nat.le_of_ble_eq_true rfl) dX3_takeNumber_75 (fun H locs hP hD hS => ?_)
        obtain ⟨hP, hD⟩ : vPD G A H [(ce_X3 ob ob_town ob_code ob_fault ob_place ob_text ob_size ob_begin v_1051 2 v_1073), (ce_b1400 y ob_text fob_text)] := ⟨hP, hD⟩
        refine lv_aload_n hx hb dX3_takeNumber_78 rfl (lv_at hl 0 rfl) ?_
        refine lv_dup hx hb dX3_takeNumber_79 rfl ?_
        refine va_get (D := G) (ci := 3) (v := .int v_1051) (C := RX3) (T := TX3) (N := 10) hx hb hw0 inA_wsX30 hown hK.1 hP 0 rfl rfl 7 (by decide) (hw0 _ m_715) (fun _ h9 => h9) rfl dX3_takeNumber_80 ?_
        refine lv_iconst (v := 1) hx hb dX3_takeNumber_83 (by decide) ?_
        refine lv_iadd hx hb dX3_takeNumber_84 ?_
        refine lv_topi (fun v_1074 ev_1074 => ?_)
        have qv_1074 := ba_add ev_1074 nc_1064.1 (bkc (x := 1) (c := 1) (by decide)) (by decide)
        have bv_1074 : (1 : Int) ≤ v_1074.toInt ∧ v_1074.toInt ≤ 1400 := bq_add qv_1074 nc_1064.1 (bkc (x := 1) (c := 1) (by decide)) _ _ (by decide)
        have qv_1074 : v_1074.toInt = v_1051.toInt + (1) := qv_1074
        refine va_put (D := G) (ci := 3) (v := .int v_1074) (ty := .int) (C := RX3) (T := TX3) (N := 10) hx hb hw0 inA_wsX30 tyX3 tyX3_ok nmX3 hown hK.1 hP hD hS 0 rfl rfl 7 (by decide) (hw0 _ m_715) (fun _ h9 => h9) rfl fd_X3_7 rfl rfl (Nat.le_of_ble_eq_true rfl) dX3_takeNumber_85 (fun H locs hP hD hS => ?_)
        obtain ⟨hP, hD⟩ : vPD G A H [(ce_X3 ob ob_town ob_code ob_fault ob_place ob_text ob_size ob_begin v_1074 2 v_1073), (ce_b1400 y ob_text fob_text)] := ⟨hP, hD⟩
        refine lv_goto (tgt := 10) hx hb dX3_takeNumber_88 (by decide) ?_
        exact ih_1063 _ (ml_inc (hi := 1400) hn_1063 qv_1074 (by decide) ((bw (0) (1400) bv_1074 (by decide))).2) _ _ _ _ ⟨v_1074, v_1073, rfl, (bw (0) (1400) bv_1074 (by decide)), bv_1073, rfl, ⟨hP, hD⟩, hS, lv_sub hl [0] rfl⟩

set_option maxHeartbeats 4000000 in
set_option maxRecDepth 100000 in
theorem sX3_advance (l : Launch) (G : va_G) (y : Nat → ClassId) (sz : Nat) (ob : Nat) (ob_town : Nat) (ob_code : Nat) (ob_fault : Int32) (ob_place : Int32) (ob_text : Nat) (ob_size : Int32) (ob_begin : Int32) (ob_next : Int32) (ob_kind : Int32) (ob_value : Int32) (fob_text : Nat → Int32) (p_ob_fault : (0 : Int) ≤ ob_fault.toInt ∧ ob_fault.toInt ≤ 3) (p_ob_size : (0 : Int) ≤ ob_size.toInt ∧ ob_size.toInt ≤ 1400) (p_ob_begin : (0 : Int) ≤ ob_begin.toInt ∧ ob_begin.toInt ≤ 1400) (p_ob_next : (0 : Int) ≤ ob_next.toInt ∧ ob_next.toInt ≤ 1400) (p_ob_kind : (0 : Int) ≤ ob_kind.toInt ∧ ob_kind.toInt ≤ 4) (p_ob_value : (0 : Int) ≤ ob_value.toInt ∧ ob_value.toInt ≤ 1000000) : Met l yX3_advance (Cond.code yX3_advance cX3_advance 1 none :: wAll) ({ frames := 2, cells := 0, slots := 0, locals := 41 }) (va_Pc [.ref ob] (kp G y sz [(ce_X3 ob ob_town ob_code ob_fault ob_place ob_text ob_size ob_begin ob_next ob_kind ob_value), (ce_b1400 y ob_text fob_text)])) (va_Qv (fun (w : va_W) => (∃ (v_237 : Int32) (v_238 : Int32) (v_239 : Int32) (v_240 : Int32), ((0 : Int) ≤ v_237.toInt ∧ v_237.toInt ≤ 1400) ∧ ((0 : Int) ≤ v_238.toInt ∧ v_238.toInt ≤ 1400) ∧ ((0 : Int) ≤ v_239.toInt ∧ v_239.toInt ≤ 4) ∧ ((0 : Int) ≤ v_240.toInt ∧ v_240.toInt ≤ 1000000) ∧ w = [(ce_X3 ob ob_town ob_code ob_fault ob_place ob_text ob_size v_237 v_238 v_239 v_240), (ce_b1400 y ob_text fob_text)])) (kq G (va_A [(ce_X3 ob ob_town ob_code ob_fault ob_place ob_text ob_size ob_begin ob_next ob_kind ob_value), (ce_b1400 y ob_text fob_text)] sz)) (va_A [(ce_X3 ob ob_town ob_code ob_fault ob_place ob_text ob_size ob_begin ob_next ob_kind ob_value), (ce_b1400 y ob_text fob_text)] sz)) 0 0 (va_A [(ce_X3 ob ob_town ob_code ob_fault ob_place ob_text ob_size ob_begin ob_next ob_kind ob_value), (ce_b1400 y ob_text fob_text)] sz) := by
  refine Met.ofW (cc := cX3_advance) (maxL := 1) (ret := none) (by decide) rfl ?_
  intro p e s m args below meth c s₁ B hml hv
  obtain ⟨rfl, hsz, hP, hK, hD0⟩ := hv
  have hx := B.exec
  have hb := B.bytes
  have hr := B.returns
  have hw0 : ∀ w ∈ wAll, w.before _ s = true := fun w h => atoms_spec (ws := Cond.code yX3_advance cX3_advance 1 none :: wAll) B.pre w (List.mem_cons_of_mem _ h)
  have hown : s.vm.findClass RX3 = some m.cls := findClass_of_methodNamed B.named
  subst hsz
  have hD := hD0.self (sz := s.heap.size)
  generalize hAe : va_A [(ce_X3 ob ob_town ob_code ob_fault ob_place ob_text ob_size ob_begin ob_next ob_kind ob_value), (ce_b1400 y ob_text fob_text)] s.heap.size = A at hD ⊢
  have hA : ∀ q : Nat, s.heap.size ≤ q → A q := fun q h => by rw [← hAe]; exact Or.inr h
  have hS : va_S A s.heap s.heap [] := va_S.rf
  have hP : va_P G vwCl [(ce_X3 ob ob_town ob_code ob_fault ob_place ob_text ob_size ob_begin ob_next ob_kind ob_value), (ce_b1400 y ob_text fob_text)] s.heap := hP
  have hl := lv_entry ([.ref ob]) (n := 1) (Nat.le_of_ble_eq_true rfl)
  rw [lg_entry_eq]
  generalize (lg_sl ([.ref ob]) ++ List.replicate (1 - (lg_sl ([.ref ob])).length) Slot.unset).toArray = ls at hl ⊢
  have hl : lv_has ls 1 [(0, .ref ob)] := hl
  refine loopX (fun n H locs ls st => ∃ (v_1057 : Int32), (1400 - v_1057.toInt).toNat = n ∧ ((0 : Int) ≤ v_1057.toInt ∧ v_1057.toInt ≤ 1400) ∧ st = [] ∧ vPD G A H [(ce_X3 ob ob_town ob_code ob_fault ob_place ob_text ob_size ob_begin v_1057 ob_kind ob_value), (ce_b1400 y ob_text fob_text)] ∧ va_S A s.heap H locs ∧ lv_has ls 1 [(0, .ref ob)]) ?_ (n := (1400 - ob_next.toInt).toNat) ⟨ob_next, rfl, p_ob_next, rfl, ⟨hP, hD⟩, hS, lv_sub hl [0] rfl⟩
  rintro n ih_1075 H locs ls st ⟨v_1057, hn_1075, bv_1057, rfl, ⟨hP, hD⟩, hS, hl⟩
  refine lv_aload_n hx hb dX3_advance_0 rfl (lv_at hl 0 rfl) ?_
  refine va_get (D := G) (ci := 3) (v := .int v_1057) (C := RX3) (T := TX3) (N := 10) hx hb hw0 inA_wsX30 hown hK.1 hP 0 rfl rfl 7 (by decide) (hw0 _ m_715) (fun _ h9 => h9) rfl dX3_advance_1 ?_
  refine lv_aload_n hx hb dX3_advance_4 rfl (lv_at hl 0 rfl) ?_
  refine va_get (D := G) (ci := 3) (v := .int ob_size) (C := RX3) (T := TX3) (N := 10) hx hb hw0 inA_wsX30 hown hK.1 hP 0 rfl rfl 5 (by decide) (hw0 _ m_716) (fun _ h9 => h9) rfl dX3_advance_5 ?_
  refine cutW 52 (fun H locs ls st => st = [] ∧ vPD G A H [(ce_X3 ob ob_town ob_code ob_fault ob_place ob_text ob_size ob_begin v_1057 ob_kind ob_value), (ce_b1400 y ob_text fob_text)] ∧ va_S A s.heap H locs ∧ lv_has ls 1 [(0, .ref ob)]) ?_ (fun J_52_1084 => ?_)
  · rintro H locs ls st ⟨rfl, ⟨hP, hD⟩, hS, hl⟩
    refine lv_aload_n hx hb dX3_advance_52 rfl (lv_at hl 0 rfl) ?_
    refine lv_aload_n hx hb dX3_advance_53 rfl (lv_at hl 0 rfl) ?_
    refine va_get (D := G) (ci := 3) (v := .int v_1057) (C := RX3) (T := TX3) (N := 10) hx hb hw0 inA_wsX30 hown hK.1 hP 0 rfl rfl 7 (by decide) (hw0 _ m_715) (fun _ h9 => h9) rfl dX3_advance_54 ?_
    refine va_put (D := G) (ci := 3) (v := .int v_1057) (ty := .int) (C := RX3) (T := TX3) (N := 10) hx hb hw0 inA_wsX30 tyX3 tyX3_ok nmX3 hown hK.1 hP hD hS 0 rfl rfl 6 (by decide) (hw0 _ m_718) (fun _ h9 => h9) rfl fd_X3_6 rfl rfl (Nat.le_of_ble_eq_true rfl) dX3_advance_57 (fun H locs hP hD hS => ?_)
    obtain ⟨hP, hD⟩ : vPD G A H [(ce_X3 ob ob_town ob_code ob_fault ob_place ob_text ob_size v_1057 v_1057 ob_kind ob_value), (ce_b1400 y ob_text fob_text)] := ⟨hP, hD⟩
    refine lv_aload_n hx hb dX3_advance_60 rfl (lv_at hl 0 rfl) ?_
    refine va_get (D := G) (ci := 3) (v := .int v_1057) (C := RX3) (T := TX3) (N := 10) hx hb hw0 inA_wsX30 hown hK.1 hP 0 rfl rfl 7 (by decide) (hw0 _ m_715) (fun _ h9 => h9) rfl dX3_advance_61 ?_
    refine lv_aload_n hx hb dX3_advance_64 rfl (lv_at hl 0 rfl) ?_
    refine va_get (D := G) (ci := 3) (v := .int ob_size) (C := RX3) (T := TX3) (N := 10) hx hb hw0 inA_wsX30 hown hK.1 hP 0 rfl rfl 5 (by decide) (hw0 _ m_716) (fun _ h9 => h9) rfl dX3_advance_65 ?_
    refine lv_icmp_lt (tgt := 79) hx hb dX3_advance_68 (by decide) (fun c_1085 => ?_) (fun c_1085 => ?_)
    · skip
      have nc_1085 := nb_lt (1399) (1) c_1085 bv_1057 p_ob_size (by decide)
      refine lv_aload_n hx hb dX3_advance_79 rfl (lv_at hl 0 rfl) ?_
      refine va_get (D := G) (ci := 3) (v := .ref ob_text) (C := RX3) (T := TX3) (N := 10) hx hb hw0 inA_wsX30 hown hK.1 hP 0 rfl rfl 4 (by decide) (hw0 _ m_717) (fun _ h9 => h9) rfl dX3_advance_80 ?_
      refine lv_aload_n hx hb dX3_advance_83 rfl (lv_at hl 0 rfl) ?_
      refine va_get (D := G) (ci := 3) (v := .int v_1057) (C := RX3) (T := TX3) (N := 10) hx hb hw0 inA_wsX30 hown hK.1 hP 0 rfl rfl 7 (by decide) (hw0 _ m_715) (fun _ h9 => h9) rfl dX3_advance_84 ?_
      refine va_bald hx hb hK.1 hP 1 0 rfl rfl (vi nc_1085.1 (by decide)) dX3_advance_87 ?_
      refine lv_topi (fun v_1086 ev_1086 => ?_)
      refine lv_bipush (v := 97) hx hb dX3_advance_88 (by decide) ?_
      refine cutW 114 (fun H locs ls st => st = [] ∧ vPD G A H [(ce_X3 ob ob_town ob_code ob_fault ob_place ob_text ob_size v_1057 v_1057 ob_kind ob_value), (ce_b1400 y ob_text fob_text)] ∧ va_S A s.heap H locs ∧ lv_has ls 1 [(0, .ref ob)]) ?_ (fun J_114_1089 => ?_)
      · rintro H locs ls st ⟨rfl, ⟨hP, hD⟩, hS, hl⟩
        refine lv_aload_n hx hb dX3_advance_114 rfl (lv_at hl 0 rfl) ?_
        refine va_get (D := G) (ci := 3) (v := .ref ob_text) (C := RX3) (T := TX3) (N := 10) hx hb hw0 inA_wsX30 hown hK.1 hP 0 rfl rfl 4 (by decide) (hw0 _ m_717) (fun _ h9 => h9) rfl dX3_advance_115 ?_
        refine lv_aload_n hx hb dX3_advance_118 rfl (lv_at hl 0 rfl) ?_
        refine va_get (D := G) (ci := 3) (v := .int v_1057) (C := RX3) (T := TX3) (N := 10) hx hb hw0 inA_wsX30 hown hK.1 hP 0 rfl rfl 7 (by decide) (hw0 _ m_715) (fun _ h9 => h9) rfl dX3_advance_119 ?_
        refine va_bald hx hb hK.1 hP 1 0 rfl rfl (vi nc_1085.1 (by decide)) dX3_advance_122 ?_
        refine lv_topi (fun v_1090 ev_1090 => ?_)
        obtain rfl : v_1086 = v_1090 := (ev_1090.trans (ev_1086.symm)).symm
        refine lv_bipush (v := 48) hx hb dX3_advance_123 (by decide) ?_
        refine cutW 149 (fun H locs ls st => st = [] ∧ vPD G A H [(ce_X3 ob ob_town ob_code ob_fault ob_place ob_text ob_size v_1057 v_1057 ob_kind ob_value), (ce_b1400 y ob_text fob_text)] ∧ va_S A s.heap H locs ∧ lv_has ls 1 [(0, .ref ob)]) ?_ (fun J_149_1093 => ?_)
        · rintro H locs ls st ⟨rfl, ⟨hP, hD⟩, hS, hl⟩
          refine lv_aload_n hx hb dX3_advance_149 rfl (lv_at hl 0 rfl) ?_
          refine lv_aload_n hx hb dX3_advance_150 rfl (lv_at hl 0 rfl) ?_
          refine va_get (D := G) (ci := 3) (v := .ref ob_text) (C := RX3) (T := TX3) (N := 10) hx hb hw0 inA_wsX30 hown hK.1 hP 0 rfl rfl 4 (by decide) (hw0 _ m_717) (fun _ h9 => h9) rfl dX3_advance_151 ?_
          refine lv_aload_n hx hb dX3_advance_154 rfl (lv_at hl 0 rfl) ?_
          refine va_get (D := G) (ci := 3) (v := .int v_1057) (C := RX3) (T := TX3) (N := 10) hx hb hw0 inA_wsX30 hown hK.1 hP 0 rfl rfl 7 (by decide) (hw0 _ m_715) (fun _ h9 => h9) rfl dX3_advance_155 ?_
          refine va_bald hx hb hK.1 hP 1 0 rfl rfl (vi nc_1085.1 (by decide)) dX3_advance_158 ?_
          refine lv_topi (fun v_1094 ev_1094 => ?_)
          obtain rfl : v_1086 = v_1094 := (ev_1094.trans (ev_1086.symm)).symm
          refine lv_bipush (v := 59) hx hb dX3_advance_159 (by decide) ?_
          refine cutW 169 (fun H locs ls st => ∃ (v_1096 : Int32), ((3 : Int) ≤ v_1096.toInt ∧ v_1096.toInt ≤ 4) ∧ st = [.int v_1096, .ref ob] ∧ vPD G A H [(ce_X3 ob ob_town ob_code ob_fault ob_place ob_text ob_size v_1057 v_1057 ob_kind ob_value), (ce_b1400 y ob_text fob_text)] ∧ va_S A s.heap H locs ∧ lv_has ls 1 [(0, .ref ob)]) ?_ (fun J_169_1096 => ?_)
          · rintro H locs ls st ⟨v_1096, bv_1096, rfl, ⟨hP, hD⟩, hS, hl⟩
            refine va_put (D := G) (ci := 3) (v := .int v_1096) (ty := .int) (C := RX3) (T := TX3) (N := 10) hx hb hw0 inA_wsX30 tyX3 tyX3_ok nmX3 hown hK.1 hP hD hS 0 rfl rfl 8 (by decide) (hw0 _ m_719) (fun _ h9 => h9) rfl fd_X3_8 rfl rfl (Nat.le_of_ble_eq_true rfl) dX3_advance_169 (fun H locs hP hD hS => ?_)
            obtain ⟨hP, hD⟩ : vPD G A H [(ce_X3 ob ob_town ob_code ob_fault ob_place ob_text ob_size v_1057 v_1057 v_1096 ob_value), (ce_b1400 y ob_text fob_text)] := ⟨hP, hD⟩
            refine lv_aload_n hx hb dX3_advance_172 rfl (lv_at hl 0 rfl) ?_
            refine lv_dup hx hb dX3_advance_173 rfl ?_
            refine va_get (D := G) (ci := 3) (v := .int v_1057) (C := RX3) (T := TX3) (N := 10) hx hb hw0 inA_wsX30 hown hK.1 hP 0 rfl rfl 7 (by decide) (hw0 _ m_715) (fun _ h9 => h9) rfl dX3_advance_174 ?_
            refine lv_iconst (v := 1) hx hb dX3_advance_177 (by decide) ?_
            refine lv_iadd hx hb dX3_advance_178 ?_
            refine lv_topi (fun v_1097 ev_1097 => ?_)
            have qv_1097 := ba_add ev_1097 nc_1085.1 (bkc (x := 1) (c := 1) (by decide)) (by decide)
            have bv_1097 : (1 : Int) ≤ v_1097.toInt ∧ v_1097.toInt ≤ 1400 := bq_add qv_1097 nc_1085.1 (bkc (x := 1) (c := 1) (by decide)) _ _ (by decide)
            have qv_1097 : v_1097.toInt = v_1057.toInt + (1) := qv_1097
            refine va_put (D := G) (ci := 3) (v := .int v_1097) (ty := .int) (C := RX3) (T := TX3) (N := 10) hx hb hw0 inA_wsX30 tyX3 tyX3_ok nmX3 hown hK.1 hP hD hS 0 rfl rfl 7 (by decide) (hw0 _ m_715) (fun _ h9 => h9) rfl fd_X3_7 rfl rfl (Nat.le_of_ble_eq_true rfl) dX3_advance_179 (fun H locs hP hD hS => ?_)
            obtain ⟨hP, hD⟩ : vPD G A H [(ce_X3 ob ob_town ob_code ob_fault ob_place ob_text ob_size v_1057 v_1097 v_1096 ob_value), (ce_b1400 y ob_text fob_text)] := ⟨hP, hD⟩
            exact W.vret hx hb hr (fun t ht hW => ⟨⟨_, rfl, ⟨v_1057, v_1097, v_1096, ob_value, (bw (0) (1400) nc_1085.1 (by decide)), (bw (0) (1400) bv_1097 (by decide)), (bw (0) (4) bv_1096 (by decide)), p_ob_value, rfl⟩, by rw [ht]; exact hP, hD⟩, hS.F ht⟩) hS.2.2 dX3_advance_182
          · skip
            refine lv_icmp_ne (tgt := 168) hx hb dX3_advance_161 (by decide) (fun c_1098 => ?_) (fun c_1098 => ?_)
            · skip
              have nc_1098 := nb_ne (-2147483648) (2147483647) c_1098 (btop v_1086) (k := 59) (by decide) (by decide)
              refine lv_iconst (v := 4) hx hb dX3_advance_168 (by decide) ?_
              exact J_169_1096 _ _ _ _ ⟨4, (bw (3) (4) (bkc (x := 4) (c := 4) (by decide)) (by decide)), rfl, ⟨hP, hD⟩, hS, lv_sub hl [0] rfl⟩
            · skip
              have nc_1098 := nb_eq (59) (59) c_1098 (btop v_1086) (bkc (x := 59) (c := 59) (by decide)) (by decide)
              refine lv_iconst (v := 3) hx hb dX3_advance_164 (by decide) ?_
              refine lv_goto (tgt := 169) hx hb dX3_advance_165 (by decide) ?_
              exact J_169_1096 _ _ _ _ ⟨3, (bw (3) (4) (bkc (x := 3) (c := 3) (by decide)) (by decide)), rfl, ⟨hP, hD⟩, hS, lv_sub hl [0] rfl⟩
        · skip
          refine lv_icmp_lt (tgt := 149) hx hb dX3_advance_125 (by decide) (fun c_1099 => ?_) (fun c_1099 => ?_)
          · skip
            have nc_1099 := nb_lt (47) (48) c_1099 (btop v_1086) (bkc (x := 48) (c := 48) (by decide)) (by decide)
            exact J_149_1093 _ _ _ _ ⟨rfl, ⟨hP, hD⟩, hS, lv_sub hl [0] rfl⟩
          · skip
            have nc_1099 := nb_nlt (48) (48) c_1099 (bkc (x := 48) (c := 48) (by decide)) (btop v_1086) (by decide)
            refine lv_aload_n hx hb dX3_advance_128 rfl (lv_at hl 0 rfl) ?_
            refine va_get (D := G) (ci := 3) (v := .ref ob_text) (C := RX3) (T := TX3) (N := 10) hx hb hw0 inA_wsX30 hown hK.1 hP 0 rfl rfl 4 (by decide) (hw0 _ m_717) (fun _ h9 => h9) rfl dX3_advance_129 ?_
            refine lv_aload_n hx hb dX3_advance_132 rfl (lv_at hl 0 rfl) ?_
            refine va_get (D := G) (ci := 3) (v := .int v_1057) (C := RX3) (T := TX3) (N := 10) hx hb hw0 inA_wsX30 hown hK.1 hP 0 rfl rfl 7 (by decide) (hw0 _ m_715) (fun _ h9 => h9) rfl dX3_advance_133 ?_
            refine va_bald hx hb hK.1 hP 1 0 rfl rfl (vi nc_1085.1 (by decide)) dX3_advance_136 ?_
            refine lv_topi (fun v_1100 ev_1100 => ?_)
            obtain rfl : v_1086 = v_1100 := (ev_1100.trans (ev_1086.symm)).symm
            refine lv_bipush (v := 57) hx hb dX3_advance_137 (by decide) ?_
            refine lv_icmp_gt (tgt := 149) hx hb dX3_advance_139 (by decide) (fun c_1101 => ?_) (fun c_1101 => ?_)
            · skip
              have nc_1101 := nb_lt (57) (58) c_1101 (bkc (x := 57) (c := 57) (by decide)) nc_1099.2.1 (by decide)
              exact J_149_1093 _ _ _ _ ⟨rfl, ⟨hP, hD⟩, hS, lv_sub hl [0] rfl⟩
            · skip
              have nc_1101 := nb_nlt (57) (57) c_1101 nc_1099.2.1 (bkc (x := 57) (c := 57) (by decide)) (by decide)
              refine lv_aload_n hx hb dX3_advance_142 rfl (lv_at hl 0 rfl) ?_
              refine cVvm (As := []) (rest := []) ⟨hx, hb, hml, hown, hw0⟩ hA hK hP hD hS [true, true] (sX3_takeNumber l G y _ ob ob_town ob_code ob_fault ob_place ob_text ob_size v_1057 v_1057 ob_kind ob_value fob_text p_ob_fault (bw (0) (1400) nc_1085.2.1 (by decide)) (bw (0) (1400) nc_1085.1 (by decide)) (bw (0) (1400) nc_1085.1 (by decide)) p_ob_kind p_ob_value) rfl ⟨(callB_of 0 hw0 (gA m_817) rfl rfl rfl (hw0 _ m_721) (hw0 _ m_724) cb_X3_takeNumber ⟨Nat.le_of_ble_eq_true rfl, Nat.le_of_ble_eq_true rfl⟩), (hw0 _ m_725), (hw0 _ m_726)⟩ (ci := 3) (q := (RX3, TX3, 10)) rfl rfl rfl hl.1 (Nat.le_of_ble_eq_true rfl) dX3_advance_143 ⟨Nat.le_of_ble_eq_true rfl, Nat.le_of_ble_eq_true rfl⟩ (fun w_1102 H locs hw_1102 hP hD hS => ?_)
              obtain ⟨v_1103, v_1104, bv_1103, bv_1104, rfl⟩ := hw_1102
              obtain ⟨hP, hD⟩ : vPD G A H [(ce_X3 ob ob_town ob_code ob_fault ob_place ob_text ob_size v_1057 v_1103 2 v_1104), (ce_b1400 y ob_text fob_text)] := ⟨hP, hD⟩
              refine lv_goto (tgt := 182) hx hb dX3_advance_146 (by decide) ?_
              exact W.vret hx hb hr (fun t ht hW => ⟨⟨_, rfl, ⟨v_1057, v_1103, 2, v_1104, (bw (0) (1400) nc_1085.1 (by decide)), bv_1103, (bw (0) (4) (bkc (x := 2) (c := 2) (by decide)) (by decide)), bv_1104, rfl⟩, by rw [ht]; exact hP, hD⟩, hS.F ht⟩) hS.2.2 dX3_advance_182
      · skip
        refine lv_icmp_lt (tgt := 114) hx hb dX3_advance_90 (by decide) (fun c_1105 => ?_) (fun c_1105 => ?_)
        · skip
          have nc_1105 := nb_lt (96) (97) c_1105 (btop v_1086) (bkc (x := 97) (c := 97) (by decide)) (by decide)
          exact J_114_1089 _ _ _ _ ⟨rfl, ⟨hP, hD⟩, hS, lv_sub hl [0] rfl⟩
        · skip
          have nc_1105 := nb_nlt (97) (97) c_1105 (bkc (x := 97) (c := 97) (by decide)) (btop v_1086) (by decide)
          refine lv_aload_n hx hb dX3_advance_93 rfl (lv_at hl 0 rfl) ?_
          refine va_get (D := G) (ci := 3) (v := .ref ob_text) (C := RX3) (T := TX3) (N := 10) hx hb hw0 inA_wsX30 hown hK.1 hP 0 rfl rfl 4 (by decide) (hw0 _ m_717) (fun _ h9 => h9) rfl dX3_advance_94 ?_
          refine lv_aload_n hx hb dX3_advance_97 rfl (lv_at hl 0 rfl) ?_
          refine va_get (D := G) (ci := 3) (v := .int v_1057) (C := RX3) (T := TX3) (N := 10) hx hb hw0 inA_wsX30 hown hK.1 hP 0 rfl rfl 7 (by decide) (hw0 _ m_715) (fun _ h9 => h9) rfl dX3_advance_98 ?_
          refine va_bald hx hb hK.1 hP 1 0 rfl rfl (vi nc_1085.1 (by decide)) dX3_advance_101 ?_
          refine lv_topi (fun v_1106 ev_1106 => ?_)
          obtain rfl : v_1086 = v_1106 := (ev_1106.trans (ev_1086.symm)).symm
          refine lv_bipush (v := 122) hx hb dX3_advance_102 (by decide) ?_
          refine lv_icmp_gt (tgt := 114) hx hb dX3_advance_104 (by decide) (fun c_1107 => ?_) (fun c_1107 => ?_)
          · skip
            have nc_1107 := nb_lt (122) (123) c_1107 (bkc (x := 122) (c := 122) (by decide)) nc_1105.2.1 (by decide)
            exact J_114_1089 _ _ _ _ ⟨rfl, ⟨hP, hD⟩, hS, lv_sub hl [0] rfl⟩
          · skip
            have nc_1107 := nb_nlt (122) (122) c_1107 nc_1105.2.1 (bkc (x := 122) (c := 122) (by decide)) (by decide)
            refine lv_aload_n hx hb dX3_advance_107 rfl (lv_at hl 0 rfl) ?_
            refine cVvm (As := []) (rest := []) ⟨hx, hb, hml, hown, hw0⟩ hA hK hP hD hS [true, true] (sX3_takeWord l G y _ ob ob_town ob_code ob_fault ob_place ob_text ob_size v_1057 v_1057 ob_kind ob_value fob_text p_ob_fault (bw (0) (1400) nc_1085.2.1 (by decide)) (bw (0) (1400) nc_1085.1 (by decide)) (bw (0) (1400) nc_1085.1 (by decide)) p_ob_kind p_ob_value) rfl ⟨(callB_of 0 hw0 (gA m_819) rfl rfl rfl (hw0 _ m_721) (hw0 _ m_720) cb_X3_takeWord ⟨Nat.le_of_ble_eq_true rfl, Nat.le_of_ble_eq_true rfl⟩), (hw0 _ m_722), (hw0 _ m_723)⟩ (ci := 3) (q := (RX3, TX3, 10)) rfl rfl rfl hl.1 (Nat.le_of_ble_eq_true rfl) dX3_advance_108 ⟨Nat.le_of_ble_eq_true rfl, Nat.le_of_ble_eq_true rfl⟩ (fun w_1108 H locs hw_1108 hP hD hS => ?_)
            obtain ⟨v_1109, bv_1109, rfl⟩ := hw_1108
            obtain ⟨hP, hD⟩ : vPD G A H [(ce_X3 ob ob_town ob_code ob_fault ob_place ob_text ob_size v_1057 v_1109 1 ob_value), (ce_b1400 y ob_text fob_text)] := ⟨hP, hD⟩
            refine lv_goto (tgt := 182) hx hb dX3_advance_111 (by decide) ?_
            exact W.vret hx hb hr (fun t ht hW => ⟨⟨_, rfl, ⟨v_1057, v_1109, 1, ob_value, (bw (0) (1400) nc_1085.1 (by decide)), bv_1109, (bw (0) (4) (bkc (x := 1) (c := 1) (by decide)) (by decide)), p_ob_value, rfl⟩, by rw [ht]; exact hP, hD⟩, hS.F ht⟩) hS.2.2 dX3_advance_182
    · skip
      have nc_1085 := nb_nlt (1400) (0) c_1085 p_ob_size bv_1057 (by decide)
      refine lv_aload_n hx hb dX3_advance_71 rfl (lv_at hl 0 rfl) ?_
      refine lv_iconst (v := 0) hx hb dX3_advance_72 (by decide) ?_
      refine va_put (D := G) (ci := 3) (v := .int 0) (ty := .int) (C := RX3) (T := TX3) (N := 10) hx hb hw0 inA_wsX30 tyX3 tyX3_ok nmX3 hown hK.1 hP hD hS 0 rfl rfl 8 (by decide) (hw0 _ m_719) (fun _ h9 => h9) rfl fd_X3_8 rfl rfl (Nat.le_of_ble_eq_true rfl) dX3_advance_73 (fun H locs hP hD hS => ?_)
      obtain ⟨hP, hD⟩ : vPD G A H [(ce_X3 ob ob_town ob_code ob_fault ob_place ob_text ob_size v_1057 v_1057 0 ob_value), (ce_b1400 y ob_text fob_text)] := ⟨hP, hD⟩
      refine lv_goto (tgt := 182) hx hb dX3_advance_76 (by decide) ?_
      exact W.vret hx hb hr (fun t ht hW => ⟨⟨_, rfl, ⟨v_1057, v_1057, 0, ob_value, nc_1085.2.1, nc_1085.2.1, (bw (0) (4) (bkc (x := 0) (c := 0) (by decide)) (by decide)), p_ob_value, rfl⟩, by rw [ht]; exact hP, hD⟩, hS.F ht⟩) hS.2.2 dX3_advance_182
  · skip
    refine lv_icmp_ge (tgt := 52) hx hb dX3_advance_8 (by decide) (fun c_1110 => ?_) (fun c_1110 => ?_)
    · skip
      have nc_1110 := nb_le (1400) (0) c_1110 p_ob_size bv_1057 (by decide)
      exact J_52_1084 _ _ _ _ ⟨rfl, ⟨hP, hD⟩, hS, lv_sub hl [0] rfl⟩
    · skip
      have nc_1110 := nb_nle (1399) (1) c_1110 bv_1057 p_ob_size (by decide)
      refine lv_aload_n hx hb dX3_advance_11 rfl (lv_at hl 0 rfl) ?_
      refine va_get (D := G) (ci := 3) (v := .ref ob_text) (C := RX3) (T := TX3) (N := 10) hx hb hw0 inA_wsX30 hown hK.1 hP 0 rfl rfl 4 (by decide) (hw0 _ m_717) (fun _ h9 => h9) rfl dX3_advance_12 ?_
      refine lv_aload_n hx hb dX3_advance_15 rfl (lv_at hl 0 rfl) ?_
      refine va_get (D := G) (ci := 3) (v := .int v_1057) (C := RX3) (T := TX3) (N := 10) hx hb hw0 inA_wsX30 hown hK.1 hP 0 rfl rfl 7 (by decide) (hw0 _ m_715) (fun _ h9 => h9) rfl dX3_advance_16 ?_
      refine va_bald hx hb hK.1 hP 1 0 rfl rfl (vi nc_1110.1 (by decide)) dX3_advance_19 ?_
      refine lv_topi (fun v_1111 ev_1111 => ?_)
      refine lv_bipush (v := 32) hx hb dX3_advance_20 (by decide) ?_
      refine cutW 39 (fun H locs ls st => st = [] ∧ vPD G A H [(ce_X3 ob ob_town ob_code ob_fault ob_place ob_text ob_size ob_begin v_1057 ob_kind ob_value), (ce_b1400 y ob_text fob_text)] ∧ va_S A s.heap H locs ∧ lv_has ls 1 [(0, .ref ob)]) ?_ (fun J_39_1114 => ?_)
      · rintro H locs ls st ⟨rfl, ⟨hP, hD⟩, hS, hl⟩
        refine lv_aload_n hx hb dX3_advance_39 rfl (lv_at hl 0 rfl) ?_
        refine lv_dup hx hb dX3_advance_40 rfl ?_
        refine va_get (D := G) (ci := 3) (v := .int v_1057) (C := RX3) (T := TX3) (N := 10) hx hb hw0 inA_wsX30 hown hK.1 hP 0 rfl rfl 7 (by decide) (hw0 _ m_715) (fun _ h9 => h9) rfl dX3_advance_41 ?_
        refine lv_iconst (v := 1) hx hb dX3_advance_44 (by decide) ?_
        refine lv_iadd hx hb dX3_advance_45 ?_
        refine lv_topi (fun v_1115 ev_1115 => ?_)
        have qv_1115 := ba_add ev_1115 nc_1110.1 (bkc (x := 1) (c := 1) (by decide)) (by decide)
        have bv_1115 : (1 : Int) ≤ v_1115.toInt ∧ v_1115.toInt ≤ 1400 := bq_add qv_1115 nc_1110.1 (bkc (x := 1) (c := 1) (by decide)) _ _ (by decide)
        have qv_1115 : v_1115.toInt = v_1057.toInt + (1) := qv_1115
        refine va_put (D := G) (ci := 3) (v := .int v_1115) (ty := .int) (C := RX3) (T := TX3) (N := 10) hx hb hw0 inA_wsX30 tyX3 tyX3_ok nmX3 hown hK.1 hP hD hS 0 rfl rfl 7 (by decide) (hw0 _ m_715) (fun _ h9 => h9) rfl fd_X3_7 rfl rfl (Nat.le_of_ble_eq_true rfl) dX3_advance_46 (fun H locs hP hD hS => ?_)
        obtain ⟨hP, hD⟩ : vPD G A H [(ce_X3 ob ob_town ob_code ob_fault ob_place ob_text ob_size ob_begin v_1115 ob_kind ob_value), (ce_b1400 y ob_text fob_text)] := ⟨hP, hD⟩
        refine lv_goto (tgt := 0) hx hb dX3_advance_49 (by decide) ?_
        exact ih_1075 _ (ml_inc (hi := 1400) hn_1075 qv_1115 (by decide) ((bw (0) (1400) bv_1115 (by decide))).2) _ _ _ _ ⟨v_1115, rfl, (bw (0) (1400) bv_1115 (by decide)), rfl, ⟨hP, hD⟩, hS, lv_sub hl [0] rfl⟩
      · skip
        refine lv_icmp_eq (tgt := 39) hx hb dX3_advance_22 (by decide) (fun c_1116 => ?_) (fun c_1116 => ?_)
        · skip
          have nc_1116 := nb_eq (32) (32) c_1116 (btop v_1111) (bkc (x := 32) (c := 32) (by decide)) (by decide)
          exact J_39_1114 _ _ _ _ ⟨rfl, ⟨hP, hD⟩, hS, lv_sub hl [0] rfl⟩
        · skip
          have nc_1116 := nb_ne (-2147483648) (2147483647) c_1116 (btop v_1111) (k := 32) (by decide) (by decide)
          refine lv_aload_n hx hb dX3_advance_25 rfl (lv_at hl 0 rfl) ?_
          refine va_get (D := G) (ci := 3) (v := .ref ob_text) (C := RX3) (T := TX3) (N := 10) hx hb hw0 inA_wsX30 hown hK.1 hP 0 rfl rfl 4 (by decide) (hw0 _ m_717) (fun _ h9 => h9) rfl dX3_advance_26 ?_
          refine lv_aload_n hx hb dX3_advance_29 rfl (lv_at hl 0 rfl) ?_
          refine va_get (D := G) (ci := 3) (v := .int v_1057) (C := RX3) (T := TX3) (N := 10) hx hb hw0 inA_wsX30 hown hK.1 hP 0 rfl rfl 7 (by decide) (hw0 _ m_715) (fun _ h9 => h9) rfl dX3_advance_30 ?_
          refine va_bald hx hb hK.1 hP 1 0 rfl rfl (vi nc_1110.1 (by decide)) dX3_advance_33 ?_
          refine lv_topi (fun v_1117 ev_1117 => ?_)
          obtain rfl : v_1111 = v_1117 := (ev_1117.trans (ev_1111.symm)).symm
          refine lv_bipush (v := 10) hx hb dX3_advance_34 (by decide) ?_
          refine lv_icmp_ne (tgt := 52) hx hb dX3_advance_36 (by decide) (fun c_1118 => ?_) (fun c_1118 => ?_)
          · skip
            have nc_1118 := nb_ne (-2147483648) (2147483647) c_1118 nc_1116.1 (k := 10) (by decide) (by decide)
            exact J_52_1084 _ _ _ _ ⟨rfl, ⟨hP, hD⟩, hS, lv_sub hl [0] rfl⟩
          · skip
            have nc_1118 := nb_eq (10) (10) c_1118 nc_1116.1 (bkc (x := 10) (c := 10) (by decide)) (by decide)
            exact J_39_1114 _ _ _ _ ⟨rfl, ⟨hP, hD⟩, hS, lv_sub hl [0] rfl⟩

set_option maxHeartbeats 4000000 in
set_option maxRecDepth 100000 in
theorem snum15 (l : Launch) (G : va_G) (y : Nat → ClassId) (sz : Nat) (ob : Nat) (a2 : Int32) (ob_town : Nat) (ob_code : Nat) (ob_fault : Int32) (ob_place : Int32) (ob_text : Nat) (ob_size : Int32) (ob_begin : Int32) (ob_next : Int32) (ob_kind : Int32) (ob_value : Int32) (fob_text : Nat → Int32) (p_ob_fault : (0 : Int) ≤ ob_fault.toInt ∧ ob_fault.toInt ≤ 3) (p_ob_size : (0 : Int) ≤ ob_size.toInt ∧ ob_size.toInt ≤ 1400) (p_ob_begin : (0 : Int) ≤ ob_begin.toInt ∧ ob_begin.toInt ≤ 1400) (p_ob_next : (0 : Int) ≤ ob_next.toInt ∧ ob_next.toInt ≤ 1400) (p_ob_kind : (0 : Int) ≤ ob_kind.toInt ∧ ob_kind.toInt ≤ 4) (p_ob_value : (0 : Int) ≤ ob_value.toInt ∧ ob_value.toInt ≤ 1000000) (p_a2 : (-1 : Int) ≤ a2.toInt ∧ a2.toInt ≤ 15) : Met l yX3_number (Cond.code yX3_number cX3_number 4 (some .int) :: wAll) ({ frames := 3, cells := 0, slots := 0, locals := 61 }) (va_Pc [.ref ob, .int 0, .int a2] (kp G y sz [(ce_X3 ob ob_town ob_code ob_fault ob_place ob_text ob_size ob_begin ob_next ob_kind ob_value), (ce_b1400 y ob_text fob_text)])) (va_Qi (fun (r : Int32) (w : va_W) => (∃ (v_29 : Int32) (v_30 : Int32) (v_31 : Int32) (v_32 : Int32) (v_33 : Int32) (v_34 : Int32) (v_35 : Int32), ((0 : Int) ≤ v_29.toInt ∧ v_29.toInt ≤ 15) ∧ ((0 : Int) ≤ v_30.toInt ∧ v_30.toInt ≤ 3) ∧ ((0 : Int) ≤ v_32.toInt ∧ v_32.toInt ≤ 1400) ∧ ((0 : Int) ≤ v_33.toInt ∧ v_33.toInt ≤ 1400) ∧ ((0 : Int) ≤ v_34.toInt ∧ v_34.toInt ≤ 4) ∧ ((0 : Int) ≤ v_35.toInt ∧ v_35.toInt ≤ 1000000) ∧ r = v_29 ∧ w = [(ce_X3 ob ob_town ob_code v_30 v_31 ob_text ob_size v_32 v_33 v_34 v_35), (ce_b1400 y ob_text fob_text)])) (kq G (va_A [(ce_X3 ob ob_town ob_code ob_fault ob_place ob_text ob_size ob_begin ob_next ob_kind ob_value), (ce_b1400 y ob_text fob_text)] sz)) (va_A [(ce_X3 ob ob_town ob_code ob_fault ob_place ob_text ob_size ob_begin ob_next ob_kind ob_value), (ce_b1400 y ob_text fob_text)] sz)) 0 0 (va_A [(ce_X3 ob ob_town ob_code ob_fault ob_place ob_text ob_size ob_begin ob_next ob_kind ob_value), (ce_b1400 y ob_text fob_text)] sz) := by
  refine Met.ofW (cc := cX3_number) (maxL := 4) (ret := (some .int)) (by decide) rfl ?_
  intro p e s m args below meth c s₁ B hml hv
  obtain ⟨rfl, hsz, hP, hK, hD0⟩ := hv
  have hx := B.exec
  have hb := B.bytes
  have hr := B.returns
  have hw0 : ∀ w ∈ wAll, w.before _ s = true := fun w h => atoms_spec (ws := Cond.code yX3_number cX3_number 4 (some .int) :: wAll) B.pre w (List.mem_cons_of_mem _ h)
  have hown : s.vm.findClass RX3 = some m.cls := findClass_of_methodNamed B.named
  subst hsz
  have hD := hD0.self (sz := s.heap.size)
  generalize hAe : va_A [(ce_X3 ob ob_town ob_code ob_fault ob_place ob_text ob_size ob_begin ob_next ob_kind ob_value), (ce_b1400 y ob_text fob_text)] s.heap.size = A at hD ⊢
  have hA : ∀ q : Nat, s.heap.size ≤ q → A q := fun q h => by rw [← hAe]; exact Or.inr h
  have hS : va_S A s.heap s.heap [] := va_S.rf
  have hP : va_P G vwCl [(ce_X3 ob ob_town ob_code ob_fault ob_place ob_text ob_size ob_begin ob_next ob_kind ob_value), (ce_b1400 y ob_text fob_text)] s.heap := hP
  have hl := lv_entry ([.ref ob, .int 0, .int a2]) (n := 4) (Nat.le_of_ble_eq_true rfl)
  rw [lg_entry_eq]
  generalize (lg_sl ([.ref ob, .int 0, .int a2]) ++ List.replicate (4 - (lg_sl ([.ref ob, .int 0, .int a2])).length) Slot.unset).toArray = ls at hl ⊢
  have hl : lv_has ls 4 [(0, .ref ob), (1, .int 0), (2, .int a2)] := hl
  refine lv_aload_n hx hb dX3_number_0 rfl (lv_at hl 0 rfl) ?_
  refine va_get (D := G) (ci := 3) (v := .int ob_kind) (C := RX3) (T := TX3) (N := 10) hx hb hw0 inA_wsX30 hown hK.1 hP 0 rfl rfl 8 (by decide) (hw0 _ m_719) (fun _ h9 => h9) rfl dX3_number_1 ?_
  refine lv_iconst (v := 2) hx hb dX3_number_4 (by decide) ?_
  refine lv_icmp_eq (tgt := 16) hx hb dX3_number_5 (by decide) (fun c_1001 => ?_) (fun c_1001 => ?_)
  · skip
    have nc_1001 := nb_eq (2) (2) c_1001 p_ob_kind (bkc (x := 2) (c := 2) (by decide)) (by decide)
    refine lv_aload_n hx hb dX3_number_16 rfl (lv_at hl 0 rfl) ?_
    refine va_get (D := G) (ci := 3) (v := .int ob_value) (C := RX3) (T := TX3) (N := 10) hx hb hw0 inA_wsX30 hown hK.1 hP 0 rfl rfl 9 (by decide) (hw0 _ m_753) (fun _ h9 => h9) rfl dX3_number_17 ?_
    refine lv_iload_n hx hb dX3_number_20 rfl (lv_at hl 1 rfl) ?_
    refine lv_icmp_lt (tgt := 32) hx hb dX3_number_21 (by decide) (fun c9 => absurd c9 (dc_nlt p_ob_value (bkc (x := 0) (c := 0) (by decide)) (by decide))) (fun _ => ?_)
    refine lv_aload_n hx hb dX3_number_24 rfl (lv_at hl 0 rfl) ?_
    refine va_get (D := G) (ci := 3) (v := .int ob_value) (C := RX3) (T := TX3) (N := 10) hx hb hw0 inA_wsX30 hown hK.1 hP 0 rfl rfl 9 (by decide) (hw0 _ m_753) (fun _ h9 => h9) rfl dX3_number_25 ?_
    refine lv_iload_n hx hb dX3_number_28 rfl (lv_at hl 2 rfl) ?_
    refine lv_icmp_le (tgt := 37) hx hb dX3_number_29 (by decide) (fun c_1002 => ?_) (fun c_1002 => ?_)
    · skip
      have nc_1002 := nb_le (15) (0) c_1002 p_ob_value p_a2 (by decide)
      refine lv_aload_n hx hb dX3_number_37 rfl (lv_at hl 0 rfl) ?_
      refine va_get (D := G) (ci := 3) (v := .int ob_fault) (C := RX3) (T := TX3) (N := 10) hx hb hw0 inA_wsX30 hown hK.1 hP 0 rfl rfl 2 (by decide) (hw0 _ m_737) (fun _ h9 => h9) rfl dX3_number_38 ?_
      refine lv_if_eq (tgt := 46) hx hb dX3_number_41 (by decide) (fun c_1003 => ?_) (fun c_1003 => ?_)
      · skip
        have nc_1003 := nb_eq (0) (0) c_1003 p_ob_fault (bkc (x := 0) (c := 0) (by decide)) (by decide)
        refine lv_aload_n hx hb dX3_number_46 rfl (lv_at hl 0 rfl) ?_
        refine va_get (D := G) (ci := 3) (v := .int ob_value) (C := RX3) (T := TX3) (N := 10) hx hb hw0 inA_wsX30 hown hK.1 hP 0 rfl rfl 9 (by decide) (hw0 _ m_753) (fun _ h9 => h9) rfl dX3_number_47 ?_
        refine lv_istore_n (lv' := [(3, .int ob_value), (0, .ref ob), (1, .int 0), (2, .int a2)]) hx hb dX3_number_50 rfl hl (by decide) rfl (fun ls hl => ?_)
        refine lv_aload_n hx hb dX3_number_51 rfl (lv_at hl 1 rfl) ?_
        refine cVvm (As := []) (rest := []) ⟨hx, hb, hml, hown, hw0⟩ hA hK hP hD hS [true, true] (sX3_advance l G y _ ob ob_town ob_code ob_fault ob_place ob_text ob_size ob_begin ob_next ob_kind ob_value fob_text (bw (0) (3) nc_1003.1 (by decide)) p_ob_size p_ob_begin p_ob_next (bw (0) (4) nc_1001.1 (by decide)) (bw (0) (1000000) nc_1002.1 (by decide))) rfl ⟨(callB_of 0 hw0 (gA m_714) rfl rfl rfl (hw0 _ m_721) (hw0 _ m_738) cb_X3_advance ⟨Nat.le_of_ble_eq_true rfl, Nat.le_of_ble_eq_true rfl⟩), (hw0 _ m_739), (hw0 _ m_740)⟩ (ci := 3) (q := (RX3, TX3, 10)) rfl rfl rfl hl.1 (Nat.le_of_ble_eq_true rfl) dX3_number_52 ⟨Nat.le_of_ble_eq_true rfl, Nat.le_of_ble_eq_true rfl⟩ (fun w_1004 H locs hw_1004 hP hD hS => ?_)
        obtain ⟨v_1005, v_1006, v_1007, v_1008, bv_1005, bv_1006, bv_1007, bv_1008, rfl⟩ := hw_1004
        obtain ⟨hP, hD⟩ : vPD G A H [(ce_X3 ob ob_town ob_code ob_fault ob_place ob_text ob_size v_1005 v_1006 v_1007 v_1008), (ce_b1400 y ob_text fob_text)] := ⟨hP, hD⟩
        refine lv_iload_n hx hb dX3_number_55 rfl (lv_at hl 0 rfl) ?_
        exact W.iret (v := ob_value) hx hb hr (fun t ht hW => ⟨⟨ob_value, _, rfl, ⟨ob_value, ob_fault, ob_place, v_1005, v_1006, v_1007, v_1008, nc_1002.1, (bw (0) (3) nc_1003.1 (by decide)), bv_1005, bv_1006, bv_1007, bv_1008, rfl, rfl⟩, by rw [ht]; exact hP, hD⟩, hS.F ht⟩) hS.2.2 dX3_number_56
      · skip
        have nc_1003 := nb_ne (1) (3) c_1003 p_ob_fault (k := 0) (by decide) (by decide)
        refine lv_iconst (v := 0) hx hb dX3_number_44 (by decide) ?_
        exact W.iret (v := 0) hx hb hr (fun t ht hW => ⟨⟨0, _, rfl, ⟨0, ob_fault, ob_place, ob_begin, ob_next, ob_kind, ob_value, (bw (0) (15) (bkc (x := 0) (c := 0) (by decide)) (by decide)), (bw (0) (3) nc_1003.1 (by decide)), p_ob_begin, p_ob_next, (bw (0) (4) nc_1001.1 (by decide)), (bw (0) (1000000) nc_1002.1 (by decide)), rfl, rfl⟩, by rw [ht]; exact hP, hD⟩, hS.F ht⟩) hS.2.2 dX3_number_45
    · skip
      have nc_1002 := nb_nle (15) (0) c_1002 p_a2 p_ob_value (by decide)
      refine lv_aload_n hx hb dX3_number_32 rfl (lv_at hl 0 rfl) ?_
      refine lv_iconst (v := 2) hx hb dX3_number_33 (by decide) ?_
      refine cVvm (As := [.int 2]) (rest := []) ⟨hx, hb, hml, hown, hw0⟩ hA hK hP hD hS [true] (sX3_refuse l G y _ ob 2 ob_town ob_code ob_fault ob_place ob_text ob_size ob_begin ob_next ob_kind ob_value p_ob_fault p_ob_size p_ob_begin p_ob_next (bw (0) (4) nc_1001.1 (by decide)) nc_1002.2.1 (bw (1) (3) (bkc (x := 2) (c := 2) (by decide)) (by decide))) rfl ⟨(callB_of 1 hw0 (gA m_816) rfl rfl rfl (hw0 _ m_721) (hw0 _ m_734) cb_X3_refuse ⟨Nat.le_of_ble_eq_true rfl, Nat.le_of_ble_eq_true rfl⟩), (hw0 _ m_735), (hw0 _ m_736)⟩ (ci := 3) (q := (RX3, TX3, 10)) rfl rfl rfl hl.1 (Nat.le_of_ble_eq_true rfl) dX3_number_34 ⟨Nat.le_of_ble_eq_true rfl, Nat.le_of_ble_eq_true rfl⟩ (fun w_1009 H locs hw_1009 hP hD hS => ?_)
      obtain ⟨v_1010, v_1011, bv_1010, rfl⟩ := hw_1009
      obtain ⟨hP, hD⟩ : vPD G A H [(ce_X3 ob ob_town ob_code v_1010 v_1011 ob_text ob_size ob_begin ob_next ob_kind ob_value), (ce_b1400 y ob_text fob_text)] := ⟨hP, hD⟩
      refine lv_aload_n hx hb dX3_number_37 rfl (lv_at hl 0 rfl) ?_
      refine va_get (D := G) (ci := 3) (v := .int v_1010) (C := RX3) (T := TX3) (N := 10) hx hb hw0 inA_wsX30 hown hK.1 hP 0 rfl rfl 2 (by decide) (hw0 _ m_737) (fun _ h9 => h9) rfl dX3_number_38 ?_
      refine lv_if_eq (tgt := 46) hx hb dX3_number_41 (by decide) (fun c9 => absurd c9 (dc_neq bv_1010 (bkc (x := 0) (c := 0) (by decide)) (by decide))) (fun _ => ?_)
      refine lv_iconst (v := 0) hx hb dX3_number_44 (by decide) ?_
      exact W.iret (v := 0) hx hb hr (fun t ht hW => ⟨⟨0, _, rfl, ⟨0, v_1010, v_1011, ob_begin, ob_next, ob_kind, ob_value, (bw (0) (15) (bkc (x := 0) (c := 0) (by decide)) (by decide)), (bw (0) (3) bv_1010 (by decide)), p_ob_begin, p_ob_next, (bw (0) (4) nc_1001.1 (by decide)), nc_1002.2.1, rfl, rfl⟩, by rw [ht]; exact hP, hD⟩, hS.F ht⟩) hS.2.2 dX3_number_45
  · skip
    have nc_1001 := nb_ne (0) (4) c_1001 p_ob_kind (k := 2) (by decide) (by decide)
    refine lv_aload_n hx hb dX3_number_8 rfl (lv_at hl 0 rfl) ?_
    refine lv_iconst (v := 1) hx hb dX3_number_9 (by decide) ?_
    refine cVvm (As := [.int 1]) (rest := []) ⟨hx, hb, hml, hown, hw0⟩ hA hK hP hD hS [true] (sX3_refuse l G y _ ob 1 ob_town ob_code ob_fault ob_place ob_text ob_size ob_begin ob_next ob_kind ob_value p_ob_fault p_ob_size p_ob_begin p_ob_next nc_1001.1 p_ob_value (bw (1) (3) (bkc (x := 1) (c := 1) (by decide)) (by decide))) rfl ⟨(callB_of 1 hw0 (gA m_816) rfl rfl rfl (hw0 _ m_721) (hw0 _ m_734) cb_X3_refuse ⟨Nat.le_of_ble_eq_true rfl, Nat.le_of_ble_eq_true rfl⟩), (hw0 _ m_735), (hw0 _ m_736)⟩ (ci := 3) (q := (RX3, TX3, 10)) rfl rfl rfl hl.1 (Nat.le_of_ble_eq_true rfl) dX3_number_10 ⟨Nat.le_of_ble_eq_true rfl, Nat.le_of_ble_eq_true rfl⟩ (fun w_1012 H locs hw_1012 hP hD hS => ?_)
    obtain ⟨v_1013, v_1014, bv_1013, rfl⟩ := hw_1012
    obtain ⟨hP, hD⟩ : vPD G A H [(ce_X3 ob ob_town ob_code v_1013 v_1014 ob_text ob_size ob_begin ob_next ob_kind ob_value), (ce_b1400 y ob_text fob_text)] := ⟨hP, hD⟩
    refine lv_goto (tgt := 37) hx hb dX3_number_13 (by decide) ?_
    refine lv_aload_n hx hb dX3_number_37 rfl (lv_at hl 0 rfl) ?_
    refine va_get (D := G) (ci := 3) (v := .int v_1013) (C := RX3) (T := TX3) (N := 10) hx hb hw0 inA_wsX30 hown hK.1 hP 0 rfl rfl 2 (by decide) (hw0 _ m_737) (fun _ h9 => h9) rfl dX3_number_38 ?_
    refine lv_if_eq (tgt := 46) hx hb dX3_number_41 (by decide) (fun c9 => absurd c9 (dc_neq bv_1013 (bkc (x := 0) (c := 0) (by decide)) (by decide))) (fun _ => ?_)
    refine lv_iconst (v := 0) hx hb dX3_number_44 (by decide) ?_
    exact W.iret (v := 0) hx hb hr (fun t ht hW => ⟨⟨0, _, rfl, ⟨0, v_1013, v_1014, ob_begin, ob_next, ob_kind, ob_value, (bw (0) (15) (bkc (x := 0) (c := 0) (by decide)) (by decide)), (bw (0) (3) bv_1013 (by decide)), p_ob_begin, p_ob_next, nc_1001.1, p_ob_value, rfl, rfl⟩, by rw [ht]; exact hP, hD⟩, hS.F ht⟩) hS.2.2 dX3_number_45

set_option maxHeartbeats 4000000 in
set_option maxRecDepth 100000 in
theorem sX3_number (l : Launch) (G : va_G) (y : Nat → ClassId) (sz : Nat) (ob : Nat) (a1 : Int32) (a2 : Int32) (ob_town : Nat) (ob_code : Nat) (ob_fault : Int32) (ob_place : Int32) (ob_text : Nat) (ob_size : Int32) (ob_begin : Int32) (ob_next : Int32) (ob_kind : Int32) (ob_value : Int32) (fob_text : Nat → Int32) (p_ob_fault : (0 : Int) ≤ ob_fault.toInt ∧ ob_fault.toInt ≤ 3) (p_ob_size : (0 : Int) ≤ ob_size.toInt ∧ ob_size.toInt ≤ 1400) (p_ob_begin : (0 : Int) ≤ ob_begin.toInt ∧ ob_begin.toInt ≤ 1400) (p_ob_next : (0 : Int) ≤ ob_next.toInt ∧ ob_next.toInt ≤ 1400) (p_ob_kind : (0 : Int) ≤ ob_kind.toInt ∧ ob_kind.toInt ≤ 4) (p_ob_value : (0 : Int) ≤ ob_value.toInt ∧ ob_value.toInt ≤ 1000000) : Met l yX3_number (Cond.code yX3_number cX3_number 4 (some .int) :: wAll) ({ frames := 3, cells := 0, slots := 0, locals := 61 }) (va_Pc [.ref ob, .int a1, .int a2] (kp G y sz [(ce_X3 ob ob_town ob_code ob_fault ob_place ob_text ob_size ob_begin ob_next ob_kind ob_value), (ce_b1400 y ob_text fob_text)])) (va_Qi (fun (r : Int32) (w : va_W) => (∃ (v_37 : Int32) (v_38 : Int32) (v_39 : Int32) (v_40 : Int32) (v_41 : Int32) (v_42 : Int32) (v_43 : Int32), ((0 : Int) ≤ v_37.toInt ∧ v_37.toInt ≤ 1000000) ∧ ((0 : Int) ≤ v_38.toInt ∧ v_38.toInt ≤ 3) ∧ ((0 : Int) ≤ v_40.toInt ∧ v_40.toInt ≤ 1400) ∧ ((0 : Int) ≤ v_41.toInt ∧ v_41.toInt ≤ 1400) ∧ ((0 : Int) ≤ v_42.toInt ∧ v_42.toInt ≤ 4) ∧ ((0 : Int) ≤ v_43.toInt ∧ v_43.toInt ≤ 1000000) ∧ r = v_37 ∧ w = [(ce_X3 ob ob_town ob_code v_38 v_39 ob_text ob_size v_40 v_41 v_42 v_43), (ce_b1400 y ob_text fob_text)])) (kq G (va_A [(ce_X3 ob ob_town ob_code ob_fault ob_place ob_text ob_size ob_begin ob_next ob_kind ob_value), (ce_b1400 y ob_text fob_text)] sz)) (va_A [(ce_X3 ob ob_town ob_code ob_fault ob_place ob_text ob_size ob_begin ob_next ob_kind ob_value), (ce_b1400 y ob_text fob_text)] sz)) 0 0 (va_A [(ce_X3 ob ob_town ob_code ob_fault ob_place ob_text ob_size ob_begin ob_next ob_kind ob_value), (ce_b1400 y ob_text fob_text)] sz) := by
  refine Met.ofW (cc := cX3_number) (maxL := 4) (ret := (some .int)) (by decide) rfl ?_
  intro p e s m args below meth c s₁ B hml hv
  obtain ⟨rfl, hsz, hP, hK, hD0⟩ := hv
  have hx := B.exec
  have hb := B.bytes
  have hr := B.returns
  have hw0 : ∀ w ∈ wAll, w.before _ s = true := fun w h => atoms_spec (ws := Cond.code yX3_number cX3_number 4 (some .int) :: wAll) B.pre w (List.mem_cons_of_mem _ h)
  have hown : s.vm.findClass RX3 = some m.cls := findClass_of_methodNamed B.named
  subst hsz
  have hD := hD0.self (sz := s.heap.size)
  generalize hAe : va_A [(ce_X3 ob ob_town ob_code ob_fault ob_place ob_text ob_size ob_begin ob_next ob_kind ob_value), (ce_b1400 y ob_text fob_text)] s.heap.size = A at hD ⊢
  have hA : ∀ q : Nat, s.heap.size ≤ q → A q := fun q h => by rw [← hAe]; exact Or.inr h
  have hS : va_S A s.heap s.heap [] := va_S.rf
  have hP : va_P G vwCl [(ce_X3 ob ob_town ob_code ob_fault ob_place ob_text ob_size ob_begin ob_next ob_kind ob_value), (ce_b1400 y ob_text fob_text)] s.heap := hP
  have hl := lv_entry ([.ref ob, .int a1, .int a2]) (n := 4) (Nat.le_of_ble_eq_true rfl)
  rw [lg_entry_eq]
  generalize (lg_sl ([.ref ob, .int a1, .int a2]) ++ List.replicate (4 - (lg_sl ([.ref ob, .int a1, .int a2])).length) Slot.unset).toArray = ls at hl ⊢
  have hl : lv_has ls 4 [(0, .ref ob), (1, .int a1), (2, .int a2)] := hl
  refine lv_aload_n hx hb dX3_number_0 rfl (lv_at hl 0 rfl) ?_
  refine va_get (D := G) (ci := 3) (v := .int ob_kind) (C := RX3) (T := TX3) (N := 10) hx hb hw0 inA_wsX30 hown hK.1 hP 0 rfl rfl 8 (by decide) (hw0 _ m_719) (fun _ h9 => h9) rfl dX3_number_1 ?_
  refine lv_iconst (v := 2) hx hb dX3_number_4 (by decide) ?_
  refine lv_icmp_eq (tgt := 16) hx hb dX3_number_5 (by decide) (fun c_1001 => ?_) (fun c_1001 => ?_)
  · skip
    have nc_1001 := nb_eq (2) (2) c_1001 p_ob_kind (bkc (x := 2) (c := 2) (by decide)) (by decide)
    refine lv_aload_n hx hb dX3_number_16 rfl (lv_at hl 0 rfl) ?_
    refine va_get (D := G) (ci := 3) (v := .int ob_value) (C := RX3) (T := TX3) (N := 10) hx hb hw0 inA_wsX30 hown hK.1 hP 0 rfl rfl 9 (by decide) (hw0 _ m_753) (fun _ h9 => h9) rfl dX3_number_17 ?_
    refine lv_iload_n hx hb dX3_number_20 rfl (lv_at hl 1 rfl) ?_
    refine lv_icmp_lt (tgt := 32) hx hb dX3_number_21 (by decide) (fun c_1002 => ?_) (fun c_1002 => ?_)
    · skip
      have nc_1002 := nb_lt (1000000) (1) c_1002 p_ob_value (btop a1) (by decide)
      refine lv_aload_n hx hb dX3_number_32 rfl (lv_at hl 0 rfl) ?_
      refine lv_iconst (v := 2) hx hb dX3_number_33 (by decide) ?_
      refine cVvm (As := [.int 2]) (rest := []) ⟨hx, hb, hml, hown, hw0⟩ hA hK hP hD hS [true] (sX3_refuse l G y _ ob 2 ob_town ob_code ob_fault ob_place ob_text ob_size ob_begin ob_next ob_kind ob_value p_ob_fault p_ob_size p_ob_begin p_ob_next (bw (0) (4) nc_1001.1 (by decide)) nc_1002.1 (bw (1) (3) (bkc (x := 2) (c := 2) (by decide)) (by decide))) rfl ⟨(callB_of 1 hw0 (gA m_816) rfl rfl rfl (hw0 _ m_721) (hw0 _ m_734) cb_X3_refuse ⟨Nat.le_of_ble_eq_true rfl, Nat.le_of_ble_eq_true rfl⟩), (hw0 _ m_735), (hw0 _ m_736)⟩ (ci := 3) (q := (RX3, TX3, 10)) rfl rfl rfl hl.1 (Nat.le_of_ble_eq_true rfl) dX3_number_34 ⟨Nat.le_of_ble_eq_true rfl, Nat.le_of_ble_eq_true rfl⟩ (fun w_1003 H locs hw_1003 hP hD hS => ?_)
      obtain ⟨v_1004, v_1005, bv_1004, rfl⟩ := hw_1003
      obtain ⟨hP, hD⟩ : vPD G A H [(ce_X3 ob ob_town ob_code v_1004 v_1005 ob_text ob_size ob_begin ob_next ob_kind ob_value), (ce_b1400 y ob_text fob_text)] := ⟨hP, hD⟩
      refine lv_aload_n hx hb dX3_number_37 rfl (lv_at hl 0 rfl) ?_
      refine va_get (D := G) (ci := 3) (v := .int v_1004) (C := RX3) (T := TX3) (N := 10) hx hb hw0 inA_wsX30 hown hK.1 hP 0 rfl rfl 2 (by decide) (hw0 _ m_737) (fun _ h9 => h9) rfl dX3_number_38 ?_
      refine lv_if_eq (tgt := 46) hx hb dX3_number_41 (by decide) (fun c9 => absurd c9 (dc_neq bv_1004 (bkc (x := 0) (c := 0) (by decide)) (by decide))) (fun _ => ?_)
      refine lv_iconst (v := 0) hx hb dX3_number_44 (by decide) ?_
      exact W.iret (v := 0) hx hb hr (fun t ht hW => ⟨⟨0, _, rfl, ⟨0, v_1004, v_1005, ob_begin, ob_next, ob_kind, ob_value, (bw (0) (1000000) (bkc (x := 0) (c := 0) (by decide)) (by decide)), (bw (0) (3) bv_1004 (by decide)), p_ob_begin, p_ob_next, (bw (0) (4) nc_1001.1 (by decide)), nc_1002.1, rfl, rfl⟩, by rw [ht]; exact hP, hD⟩, hS.F ht⟩) hS.2.2 dX3_number_45
    · skip
      have nc_1002 := nb_nlt (1000000) (0) c_1002 (btop a1) p_ob_value (by decide)
      refine lv_aload_n hx hb dX3_number_24 rfl (lv_at hl 0 rfl) ?_
      refine va_get (D := G) (ci := 3) (v := .int ob_value) (C := RX3) (T := TX3) (N := 10) hx hb hw0 inA_wsX30 hown hK.1 hP 0 rfl rfl 9 (by decide) (hw0 _ m_753) (fun _ h9 => h9) rfl dX3_number_25 ?_
      refine lv_iload_n hx hb dX3_number_28 rfl (lv_at hl 2 rfl) ?_
      refine lv_icmp_le (tgt := 37) hx hb dX3_number_29 (by decide) (fun c_1006 => ?_) (fun c_1006 => ?_)
      · skip
        have nc_1006 := nb_le (1000000) (0) c_1006 nc_1002.2.1 (btop a2) (by decide)
        refine lv_aload_n hx hb dX3_number_37 rfl (lv_at hl 0 rfl) ?_
        refine va_get (D := G) (ci := 3) (v := .int ob_fault) (C := RX3) (T := TX3) (N := 10) hx hb hw0 inA_wsX30 hown hK.1 hP 0 rfl rfl 2 (by decide) (hw0 _ m_737) (fun _ h9 => h9) rfl dX3_number_38 ?_
        refine lv_if_eq (tgt := 46) hx hb dX3_number_41 (by decide) (fun c_1007 => ?_) (fun c_1007 => ?_)
        · skip
          have nc_1007 := nb_eq (0) (0) c_1007 p_ob_fault (bkc (x := 0) (c := 0) (by decide)) (by decide)
          refine lv_aload_n hx hb dX3_number_46 rfl (lv_at hl 0 rfl) ?_
          refine va_get (D := G) (ci := 3) (v := .int ob_value) (C := RX3) (T := TX3) (N := 10) hx hb hw0 inA_wsX30 hown hK.1 hP 0 rfl rfl 9 (by decide) (hw0 _ m_753) (fun _ h9 => h9) rfl dX3_number_47 ?_
          refine lv_istore_n (lv' := [(3, .int ob_value), (0, .ref ob), (1, .int a1), (2, .int a2)]) hx hb dX3_number_50 rfl hl (by decide) rfl (fun ls hl => ?_)
          refine lv_aload_n hx hb dX3_number_51 rfl (lv_at hl 1 rfl) ?_
          refine cVvm (As := []) (rest := []) ⟨hx, hb, hml, hown, hw0⟩ hA hK hP hD hS [true, true] (sX3_advance l G y _ ob ob_town ob_code ob_fault ob_place ob_text ob_size ob_begin ob_next ob_kind ob_value fob_text (bw (0) (3) nc_1007.1 (by decide)) p_ob_size p_ob_begin p_ob_next (bw (0) (4) nc_1001.1 (by decide)) nc_1006.1) rfl ⟨(callB_of 0 hw0 (gA m_714) rfl rfl rfl (hw0 _ m_721) (hw0 _ m_738) cb_X3_advance ⟨Nat.le_of_ble_eq_true rfl, Nat.le_of_ble_eq_true rfl⟩), (hw0 _ m_739), (hw0 _ m_740)⟩ (ci := 3) (q := (RX3, TX3, 10)) rfl rfl rfl hl.1 (Nat.le_of_ble_eq_true rfl) dX3_number_52 ⟨Nat.le_of_ble_eq_true rfl, Nat.le_of_ble_eq_true rfl⟩ (fun w_1008 H locs hw_1008 hP hD hS => ?_)
          obtain ⟨v_1009, v_1010, v_1011, v_1012, bv_1009, bv_1010, bv_1011, bv_1012, rfl⟩ := hw_1008
          obtain ⟨hP, hD⟩ : vPD G A H [(ce_X3 ob ob_town ob_code ob_fault ob_place ob_text ob_size v_1009 v_1010 v_1011 v_1012), (ce_b1400 y ob_text fob_text)] := ⟨hP, hD⟩
          refine lv_iload_n hx hb dX3_number_55 rfl (lv_at hl 0 rfl) ?_
          exact W.iret (v := ob_value) hx hb hr (fun t ht hW => ⟨⟨ob_value, _, rfl, ⟨ob_value, ob_fault, ob_place, v_1009, v_1010, v_1011, v_1012, nc_1006.1, (bw (0) (3) nc_1007.1 (by decide)), bv_1009, bv_1010, bv_1011, bv_1012, rfl, rfl⟩, by rw [ht]; exact hP, hD⟩, hS.F ht⟩) hS.2.2 dX3_number_56
        · skip
          have nc_1007 := nb_ne (1) (3) c_1007 p_ob_fault (k := 0) (by decide) (by decide)
          refine lv_iconst (v := 0) hx hb dX3_number_44 (by decide) ?_
          exact W.iret (v := 0) hx hb hr (fun t ht hW => ⟨⟨0, _, rfl, ⟨0, ob_fault, ob_place, ob_begin, ob_next, ob_kind, ob_value, (bw (0) (1000000) (bkc (x := 0) (c := 0) (by decide)) (by decide)), (bw (0) (3) nc_1007.1 (by decide)), p_ob_begin, p_ob_next, (bw (0) (4) nc_1001.1 (by decide)), nc_1006.1, rfl, rfl⟩, by rw [ht]; exact hP, hD⟩, hS.F ht⟩) hS.2.2 dX3_number_45
      · skip
        have nc_1006 := nb_nle (999999) (0) c_1006 (btop a2) nc_1002.2.1 (by decide)
        refine lv_aload_n hx hb dX3_number_32 rfl (lv_at hl 0 rfl) ?_
        refine lv_iconst (v := 2) hx hb dX3_number_33 (by decide) ?_
        refine cVvm (As := [.int 2]) (rest := []) ⟨hx, hb, hml, hown, hw0⟩ hA hK hP hD hS [true] (sX3_refuse l G y _ ob 2 ob_town ob_code ob_fault ob_place ob_text ob_size ob_begin ob_next ob_kind ob_value p_ob_fault p_ob_size p_ob_begin p_ob_next (bw (0) (4) nc_1001.1 (by decide)) nc_1006.2.1 (bw (1) (3) (bkc (x := 2) (c := 2) (by decide)) (by decide))) rfl ⟨(callB_of 1 hw0 (gA m_816) rfl rfl rfl (hw0 _ m_721) (hw0 _ m_734) cb_X3_refuse ⟨Nat.le_of_ble_eq_true rfl, Nat.le_of_ble_eq_true rfl⟩), (hw0 _ m_735), (hw0 _ m_736)⟩ (ci := 3) (q := (RX3, TX3, 10)) rfl rfl rfl hl.1 (Nat.le_of_ble_eq_true rfl) dX3_number_34 ⟨Nat.le_of_ble_eq_true rfl, Nat.le_of_ble_eq_true rfl⟩ (fun w_1013 H locs hw_1013 hP hD hS => ?_)
        obtain ⟨v_1014, v_1015, bv_1014, rfl⟩ := hw_1013
        obtain ⟨hP, hD⟩ : vPD G A H [(ce_X3 ob ob_town ob_code v_1014 v_1015 ob_text ob_size ob_begin ob_next ob_kind ob_value), (ce_b1400 y ob_text fob_text)] := ⟨hP, hD⟩
        refine lv_aload_n hx hb dX3_number_37 rfl (lv_at hl 0 rfl) ?_
        refine va_get (D := G) (ci := 3) (v := .int v_1014) (C := RX3) (T := TX3) (N := 10) hx hb hw0 inA_wsX30 hown hK.1 hP 0 rfl rfl 2 (by decide) (hw0 _ m_737) (fun _ h9 => h9) rfl dX3_number_38 ?_
        refine lv_if_eq (tgt := 46) hx hb dX3_number_41 (by decide) (fun c9 => absurd c9 (dc_neq bv_1014 (bkc (x := 0) (c := 0) (by decide)) (by decide))) (fun _ => ?_)
        refine lv_iconst (v := 0) hx hb dX3_number_44 (by decide) ?_
        exact W.iret (v := 0) hx hb hr (fun t ht hW => ⟨⟨0, _, rfl, ⟨0, v_1014, v_1015, ob_begin, ob_next, ob_kind, ob_value, (bw (0) (1000000) (bkc (x := 0) (c := 0) (by decide)) (by decide)), (bw (0) (3) bv_1014 (by decide)), p_ob_begin, p_ob_next, (bw (0) (4) nc_1001.1 (by decide)), nc_1006.2.1, rfl, rfl⟩, by rw [ht]; exact hP, hD⟩, hS.F ht⟩) hS.2.2 dX3_number_45
  · skip
    have nc_1001 := nb_ne (0) (4) c_1001 p_ob_kind (k := 2) (by decide) (by decide)
    refine lv_aload_n hx hb dX3_number_8 rfl (lv_at hl 0 rfl) ?_
    refine lv_iconst (v := 1) hx hb dX3_number_9 (by decide) ?_
    refine cVvm (As := [.int 1]) (rest := []) ⟨hx, hb, hml, hown, hw0⟩ hA hK hP hD hS [true] (sX3_refuse l G y _ ob 1 ob_town ob_code ob_fault ob_place ob_text ob_size ob_begin ob_next ob_kind ob_value p_ob_fault p_ob_size p_ob_begin p_ob_next nc_1001.1 p_ob_value (bw (1) (3) (bkc (x := 1) (c := 1) (by decide)) (by decide))) rfl ⟨(callB_of 1 hw0 (gA m_816) rfl rfl rfl (hw0 _ m_721) (hw0 _ m_734) cb_X3_refuse ⟨Nat.le_of_ble_eq_true rfl, Nat.le_of_ble_eq_true rfl⟩), (hw0 _ m_735), (hw0 _ m_736)⟩ (ci := 3) (q := (RX3, TX3, 10)) rfl rfl rfl hl.1 (Nat.le_of_ble_eq_true rfl) dX3_number_10 ⟨Nat.le_of_ble_eq_true rfl, Nat.le_of_ble_eq_true rfl⟩ (fun w_1016 H locs hw_1016 hP hD hS => ?_)
    obtain ⟨v_1017, v_1018, bv_1017, rfl⟩ := hw_1016
    obtain ⟨hP, hD⟩ : vPD G A H [(ce_X3 ob ob_town ob_code v_1017 v_1018 ob_text ob_size ob_begin ob_next ob_kind ob_value), (ce_b1400 y ob_text fob_text)] := ⟨hP, hD⟩
    refine lv_goto (tgt := 37) hx hb dX3_number_13 (by decide) ?_
    refine lv_aload_n hx hb dX3_number_37 rfl (lv_at hl 0 rfl) ?_
    refine va_get (D := G) (ci := 3) (v := .int v_1017) (C := RX3) (T := TX3) (N := 10) hx hb hw0 inA_wsX30 hown hK.1 hP 0 rfl rfl 2 (by decide) (hw0 _ m_737) (fun _ h9 => h9) rfl dX3_number_38 ?_
    refine lv_if_eq (tgt := 46) hx hb dX3_number_41 (by decide) (fun c9 => absurd c9 (dc_neq bv_1017 (bkc (x := 0) (c := 0) (by decide)) (by decide))) (fun _ => ?_)
    refine lv_iconst (v := 0) hx hb dX3_number_44 (by decide) ?_
    exact W.iret (v := 0) hx hb hr (fun t ht hW => ⟨⟨0, _, rfl, ⟨0, v_1017, v_1018, ob_begin, ob_next, ob_kind, ob_value, (bw (0) (1000000) (bkc (x := 0) (c := 0) (by decide)) (by decide)), (bw (0) (3) bv_1017 (by decide)), p_ob_begin, p_ob_next, nc_1001.1, p_ob_value, rfl, rfl⟩, by rw [ht]; exact hP, hD⟩, hS.F ht⟩) hS.2.2 dX3_number_45

set_option maxHeartbeats 4000000 in
set_option maxRecDepth 100000 in
theorem sX3_choice (l : Launch) (G : va_G) (y : Nat → ClassId) (aK aV : Nat → Nat) (sz : Nat) (ob : Nat) (i1 : Nat) (ob_town : Nat) (ob_code : Nat) (ob_fault : Int32) (ob_place : Int32) (ob_text : Nat) (ob_size : Int32) (ob_begin : Int32) (ob_next : Int32) (ob_kind : Int32) (ob_value : Int32) (fob_text : Nat → Int32) (p_ob_fault : (0 : Int) ≤ ob_fault.toInt ∧ ob_fault.toInt ≤ 3) (p_ob_size : (0 : Int) ≤ ob_size.toInt ∧ ob_size.toInt ≤ 1400) (p_ob_begin : (0 : Int) ≤ ob_begin.toInt ∧ ob_begin.toInt ≤ 1400) (p_ob_next : (0 : Int) ≤ ob_next.toInt ∧ ob_next.toInt ≤ 1400) (p_ob_kind : (0 : Int) ≤ ob_kind.toInt ∧ ob_kind.toInt ≤ 4) (p_ob_value : (0 : Int) ≤ ob_value.toInt ∧ ob_value.toInt ≤ 1000000) (hi1 : i1 < nS) : Met l yX3_choice (Cond.code yX3_choice cX3_choice 3 (some .int) :: wAll) ({ frames := 5, cells := 0, slots := 0, locals := 111 }) (va_Pc [.ref ob, .ref (aK i1)] (kps G y aK aV sz [(ce_X3 ob ob_town ob_code ob_fault ob_place ob_text ob_size ob_begin ob_next ob_kind ob_value), (ce_b1400 y ob_text fob_text)])) (va_Qi (fun (r : Int32) (w : va_W) => (∃ (v_37 : Int32) (v_38 : Int32) (v_39 : Int32) (v_40 : Int32) (v_41 : Int32) (v_42 : Int32) (v_43 : Int32), ((0 : Int) ≤ v_38.toInt ∧ v_38.toInt ≤ 3) ∧ ((0 : Int) ≤ v_40.toInt ∧ v_40.toInt ≤ 1400) ∧ ((0 : Int) ≤ v_41.toInt ∧ v_41.toInt ≤ 1400) ∧ ((0 : Int) ≤ v_42.toInt ∧ v_42.toInt ≤ 4) ∧ ((0 : Int) ≤ v_43.toInt ∧ v_43.toInt ≤ 1000000) ∧ r = v_37 ∧ w = [(ce_X3 ob ob_town ob_code v_38 v_39 ob_text ob_size v_40 v_41 v_42 v_43), (ce_b1400 y ob_text fob_text)])) (kq G (va_A [(ce_X3 ob ob_town ob_code ob_fault ob_place ob_text ob_size ob_begin ob_next ob_kind ob_value), (ce_b1400 y ob_text fob_text)] sz)) (va_A [(ce_X3 ob ob_town ob_code ob_fault ob_place ob_text ob_size ob_begin ob_next ob_kind ob_value), (ce_b1400 y ob_text fob_text)] sz)) 0 0 (va_A [(ce_X3 ob ob_town ob_code ob_fault ob_place ob_text ob_size ob_begin ob_next ob_kind ob_value), (ce_b1400 y ob_text fob_text)] sz) := by
  refine Met.ofW (cc := cX3_choice) (maxL := 3) (ret := (some .int)) (by decide) rfl ?_
  intro p e s m args below meth c s₁ B hml hv
  obtain ⟨rfl, ⟨hsz, hP, hK, hD0⟩, hE⟩ := hv
  have hx := B.exec
  have hb := B.bytes
  have hr := B.returns
  have hw0 : ∀ w ∈ wAll, w.before _ s = true := fun w h => atoms_spec (ws := Cond.code yX3_choice cX3_choice 3 (some .int) :: wAll) B.pre w (List.mem_cons_of_mem _ h)
  have hown : s.vm.findClass RX3 = some m.cls := findClass_of_methodNamed B.named
  subst hsz
  have hD := hD0.self (sz := s.heap.size)
  generalize hAe : va_A [(ce_X3 ob ob_town ob_code ob_fault ob_place ob_text ob_size ob_begin ob_next ob_kind ob_value), (ce_b1400 y ob_text fob_text)] s.heap.size = A at hD hE ⊢
  have hA : ∀ q : Nat, s.heap.size ≤ q → A q := fun q h => by rw [← hAe]; exact Or.inr h
  have hS : va_S A s.heap s.heap [] := va_S.rf
  have hP : va_P G vwCl [(ce_X3 ob ob_town ob_code ob_fault ob_place ob_text ob_size ob_begin ob_next ob_kind ob_value), (ce_b1400 y ob_text fob_text)] s.heap := hP
  have hl := lv_entry ([.ref ob, .ref (aK i1)]) (n := 3) (Nat.le_of_ble_eq_true rfl)
  rw [lg_entry_eq]
  generalize (lg_sl ([.ref ob, .ref (aK i1)]) ++ List.replicate (3 - (lg_sl ([.ref ob, .ref (aK i1)])).length) Slot.unset).toArray = ls at hl ⊢
  have hl : lv_has ls 3 [(0, .ref ob), (1, .ref (aK i1))] := hl
  refine lv_aload_n hx hb dX3_choice_0 rfl (lv_at hl 0 rfl) ?_
  refine lv_aload_n hx hb dX3_choice_1 rfl (lv_at hl 1 rfl) ?_
  refine cViSm (As := [.ref (aK i1)]) (rest := []) ⟨hx, hb, hml, hown, hw0⟩ hA hK hP hD hS hE [true, true] (sX3_among l G y aK aV _ ob i1 ob_town ob_code ob_fault ob_place ob_text ob_size ob_begin ob_next ob_kind ob_value fob_text p_ob_fault p_ob_size p_ob_begin p_ob_next p_ob_kind p_ob_value hi1) rfl ⟨(callB_of 1 hw0 (gA m_727) rfl rfl rfl (hw0 _ m_721) (hw0 _ m_731) cb_X3_among ⟨Nat.le_of_ble_eq_true rfl, Nat.le_of_ble_eq_true rfl⟩), (hw0 _ m_732), (hw0 _ m_733)⟩ (ci := 3) (q := (RX3, TX3, 10)) rfl rfl rfl hl.1 (Nat.le_of_ble_eq_true rfl) dX3_choice_2 ⟨Nat.le_of_ble_eq_true rfl, Nat.le_of_ble_eq_true rfl⟩ (fun r_1001 w_1001 H locs hw_1001 hP hD hS => ?_)
  obtain ⟨v_1002, er_1001, rfl⟩ := hw_1001
  subst r_1001
  obtain ⟨hP, hD⟩ : vPD G A H [(ce_X3 ob ob_town ob_code ob_fault ob_place ob_text ob_size ob_begin ob_next ob_kind ob_value), (ce_b1400 y ob_text fob_text)] := ⟨hP, hD⟩
  refine lv_istore_n (lv' := [(2, .int v_1002), (0, .ref ob), (1, .ref (aK i1))]) hx hb dX3_choice_5 rfl hl (by decide) rfl (fun ls hl => ?_)
  refine lv_iload_n hx hb dX3_choice_6 rfl (lv_at hl 0 rfl) ?_
  refine cutW 15 (fun H locs ls st => ∃ (v_1007 : Int32) (v_1008 : Int32), ((0 : Int) ≤ v_1007.toInt ∧ v_1007.toInt ≤ 3) ∧ st = [] ∧ vPD G A H [(ce_X3 ob ob_town ob_code v_1007 v_1008 ob_text ob_size ob_begin ob_next ob_kind ob_value), (ce_b1400 y ob_text fob_text)] ∧ va_S A s.heap H locs ∧ lv_has ls 3 [(2, .int v_1002), (0, .ref ob)]) ?_ (fun J_15_1008 => ?_)
  · rintro H locs ls st ⟨v_1007, v_1008, bv_1007, rfl, ⟨hP, hD⟩, hS, hl⟩
    refine lv_aload_n hx hb dX3_choice_15 rfl (lv_at hl 1 rfl) ?_
    refine va_get (D := G) (ci := 3) (v := .int v_1007) (C := RX3) (T := TX3) (N := 10) hx hb hw0 inA_wsX30 hown hK.1 hP 0 rfl rfl 2 (by decide) (hw0 _ m_737) (fun _ h9 => h9) rfl dX3_choice_16 ?_
    refine lv_if_eq (tgt := 24) hx hb dX3_choice_19 (by decide) (fun c_1009 => ?_) (fun c_1009 => ?_)
    · skip
      have nc_1009 := nb_eq (0) (0) c_1009 bv_1007 (bkc (x := 0) (c := 0) (by decide)) (by decide)
      refine lv_aload_n hx hb dX3_choice_24 rfl (lv_at hl 1 rfl) ?_
      refine cVvm (As := []) (rest := []) ⟨hx, hb, hml, hown, hw0⟩ hA hK hP hD hS [true, true] (sX3_advance l G y _ ob ob_town ob_code v_1007 v_1008 ob_text ob_size ob_begin ob_next ob_kind ob_value fob_text (bw (0) (3) nc_1009.1 (by decide)) p_ob_size p_ob_begin p_ob_next p_ob_kind p_ob_value) rfl ⟨(callB_of 0 hw0 (gA m_714) rfl rfl rfl (hw0 _ m_721) (hw0 _ m_738) cb_X3_advance ⟨Nat.le_of_ble_eq_true rfl, Nat.le_of_ble_eq_true rfl⟩), (hw0 _ m_739), (hw0 _ m_740)⟩ (ci := 3) (q := (RX3, TX3, 10)) rfl rfl rfl hl.1 (Nat.le_of_ble_eq_true rfl) dX3_choice_25 ⟨Nat.le_of_ble_eq_true rfl, Nat.le_of_ble_eq_true rfl⟩ (fun w_1010 H locs hw_1010 hP hD hS => ?_)
      obtain ⟨v_1011, v_1012, v_1013, v_1014, bv_1011, bv_1012, bv_1013, bv_1014, rfl⟩ := hw_1010
      obtain ⟨hP, hD⟩ : vPD G A H [(ce_X3 ob ob_town ob_code v_1007 v_1008 ob_text ob_size v_1011 v_1012 v_1013 v_1014), (ce_b1400 y ob_text fob_text)] := ⟨hP, hD⟩
      refine lv_iload_n hx hb dX3_choice_28 rfl (lv_at hl 0 rfl) ?_
      exact W.iret (v := v_1002) hx hb hr (fun t ht hW => ⟨⟨v_1002, _, rfl, ⟨v_1002, v_1007, v_1008, v_1011, v_1012, v_1013, v_1014, (bw (0) (3) nc_1009.1 (by decide)), bv_1011, bv_1012, bv_1013, bv_1014, rfl, rfl⟩, by rw [ht]; exact hP, hD⟩, hS.F ht⟩) hS.2.2 dX3_choice_29
    · skip
      have nc_1009 := nb_ne (1) (3) c_1009 bv_1007 (k := 0) (by decide) (by decide)
      refine lv_iconst (v := 0) hx hb dX3_choice_22 (by decide) ?_
      exact W.iret (v := 0) hx hb hr (fun t ht hW => ⟨⟨0, _, rfl, ⟨0, v_1007, v_1008, ob_begin, ob_next, ob_kind, ob_value, (bw (0) (3) nc_1009.1 (by decide)), p_ob_begin, p_ob_next, p_ob_kind, p_ob_value, rfl, rfl⟩, by rw [ht]; exact hP, hD⟩, hS.F ht⟩) hS.2.2 dX3_choice_23
  · skip
    refine lv_if_ge (tgt := 15) hx hb dX3_choice_7 (by decide) (fun c_1015 => ?_) (fun c_1015 => ?_)
    · skip
      have nc_1015 := nb_le (0) (0) c_1015 (bkc (x := 0) (c := 0) (by decide)) (btop v_1002) (by decide)
      exact J_15_1008 _ _ _ _ ⟨ob_fault, ob_place, p_ob_fault, rfl, ⟨hP, hD⟩, hS, lv_sub hl [0, 1] rfl⟩
    · skip
      have nc_1015 := nb_nle (-1) (0) c_1015 (btop v_1002) (bkc (x := 0) (c := 0) (by decide)) (by decide)
      refine lv_aload_n hx hb dX3_choice_10 rfl (lv_at hl 1 rfl) ?_
      refine lv_iconst (v := 1) hx hb dX3_choice_11 (by decide) ?_
      refine cVvm (As := [.int 1]) (rest := []) ⟨hx, hb, hml, hown, hw0⟩ hA hK hP hD hS [true] (sX3_refuse l G y _ ob 1 ob_town ob_code ob_fault ob_place ob_text ob_size ob_begin ob_next ob_kind ob_value p_ob_fault p_ob_size p_ob_begin p_ob_next p_ob_kind p_ob_value (bw (1) (3) (bkc (x := 1) (c := 1) (by decide)) (by decide))) rfl ⟨(callB_of 1 hw0 (gA m_816) rfl rfl rfl (hw0 _ m_721) (hw0 _ m_734) cb_X3_refuse ⟨Nat.le_of_ble_eq_true rfl, Nat.le_of_ble_eq_true rfl⟩), (hw0 _ m_735), (hw0 _ m_736)⟩ (ci := 3) (q := (RX3, TX3, 10)) rfl rfl rfl hl.1 (Nat.le_of_ble_eq_true rfl) dX3_choice_12 ⟨Nat.le_of_ble_eq_true rfl, Nat.le_of_ble_eq_true rfl⟩ (fun w_1016 H locs hw_1016 hP hD hS => ?_)
      obtain ⟨v_1017, v_1018, bv_1017, rfl⟩ := hw_1016
      obtain ⟨hP, hD⟩ : vPD G A H [(ce_X3 ob ob_town ob_code v_1017 v_1018 ob_text ob_size ob_begin ob_next ob_kind ob_value), (ce_b1400 y ob_text fob_text)] := ⟨hP, hD⟩
      exact J_15_1008 _ _ _ _ ⟨v_1017, v_1018, (bw (0) (3) bv_1017 (by decide)), rfl, ⟨hP, hD⟩, hS, lv_sub hl [0, 1] rfl⟩

set_option maxHeartbeats 4000000 in
set_option maxRecDepth 100000 in
theorem sX3_takes (l : Launch) (G : va_G) (y : Nat → ClassId) (aK aV : Nat → Nat) (sz : Nat) (ob : Nat) (i1 : Nat) (ob_town : Nat) (ob_code : Nat) (ob_fault : Int32) (ob_place : Int32) (ob_text : Nat) (ob_size : Int32) (ob_begin : Int32) (ob_next : Int32) (ob_kind : Int32) (ob_value : Int32) (fob_text : Nat → Int32) (p_ob_fault : (0 : Int) ≤ ob_fault.toInt ∧ ob_fault.toInt ≤ 3) (p_ob_size : (0 : Int) ≤ ob_size.toInt ∧ ob_size.toInt ≤ 1400) (p_ob_begin : (0 : Int) ≤ ob_begin.toInt ∧ ob_begin.toInt ≤ 1400) (p_ob_next : (0 : Int) ≤ ob_next.toInt ∧ ob_next.toInt ≤ 1400) (p_ob_kind : (0 : Int) ≤ ob_kind.toInt ∧ ob_kind.toInt ≤ 4) (p_ob_value : (0 : Int) ≤ ob_value.toInt ∧ ob_value.toInt ≤ 1000000) (hi1 : i1 < nS) : Met l yX3_takes (Cond.code yX3_takes cX3_takes 2 (some .boolean) :: wAll) ({ frames := 5, cells := 0, slots := 0, locals := 111 }) (va_Pc [.ref ob, .ref (aK i1)] (kps G y aK aV sz [(ce_X3 ob ob_town ob_code ob_fault ob_place ob_text ob_size ob_begin ob_next ob_kind ob_value), (ce_b1400 y ob_text fob_text)])) (va_Qi (fun (r : Int32) (w : va_W) => (r = 0 ∧ w = [(ce_X3 ob ob_town ob_code ob_fault ob_place ob_text ob_size ob_begin ob_next ob_kind ob_value), (ce_b1400 y ob_text fob_text)]) ∨ (∃ (v_27 : Int32) (v_28 : Int32) (v_29 : Int32) (v_30 : Int32), ((0 : Int) ≤ v_27.toInt ∧ v_27.toInt ≤ 1400) ∧ ((0 : Int) ≤ v_28.toInt ∧ v_28.toInt ≤ 1400) ∧ ((0 : Int) ≤ v_29.toInt ∧ v_29.toInt ≤ 4) ∧ ((0 : Int) ≤ v_30.toInt ∧ v_30.toInt ≤ 1000000) ∧ ((0 : Int) ≤ ob_fault.toInt ∧ ob_fault.toInt ≤ 0) ∧ r = 1 ∧ w = [(ce_X3 ob ob_town ob_code ob_fault ob_place ob_text ob_size v_27 v_28 v_29 v_30), (ce_b1400 y ob_text fob_text)])) (kq G (va_A [(ce_X3 ob ob_town ob_code ob_fault ob_place ob_text ob_size ob_begin ob_next ob_kind ob_value), (ce_b1400 y ob_text fob_text)] sz)) (va_A [(ce_X3 ob ob_town ob_code ob_fault ob_place ob_text ob_size ob_begin ob_next ob_kind ob_value), (ce_b1400 y ob_text fob_text)] sz)) 0 0 (va_A [(ce_X3 ob ob_town ob_code ob_fault ob_place ob_text ob_size ob_begin ob_next ob_kind ob_value), (ce_b1400 y ob_text fob_text)] sz) := by
  refine Met.ofW (cc := cX3_takes) (maxL := 2) (ret := (some .boolean)) (by decide) rfl ?_
  intro p e s m args below meth c s₁ B hml hv
  obtain ⟨rfl, ⟨hsz, hP, hK, hD0⟩, hE⟩ := hv
  have hx := B.exec
  have hb := B.bytes
  have hr := B.returns
  have hw0 : ∀ w ∈ wAll, w.before _ s = true := fun w h => atoms_spec (ws := Cond.code yX3_takes cX3_takes 2 (some .boolean) :: wAll) B.pre w (List.mem_cons_of_mem _ h)
  have hown : s.vm.findClass RX3 = some m.cls := findClass_of_methodNamed B.named
  subst hsz
  have hD := hD0.self (sz := s.heap.size)
  generalize hAe : va_A [(ce_X3 ob ob_town ob_code ob_fault ob_place ob_text ob_size ob_begin ob_next ob_kind ob_value), (ce_b1400 y ob_text fob_text)] s.heap.size = A at hD hE ⊢
  have hA : ∀ q : Nat, s.heap.size ≤ q → A q := fun q h => by rw [← hAe]; exact Or.inr h
  have hS : va_S A s.heap s.heap [] := va_S.rf
  have hP : va_P G vwCl [(ce_X3 ob ob_town ob_code ob_fault ob_place ob_text ob_size ob_begin ob_next ob_kind ob_value), (ce_b1400 y ob_text fob_text)] s.heap := hP
  have hl := lv_entry ([.ref ob, .ref (aK i1)]) (n := 2) (Nat.le_of_ble_eq_true rfl)
  rw [lg_entry_eq]
  generalize (lg_sl ([.ref ob, .ref (aK i1)]) ++ List.replicate (2 - (lg_sl ([.ref ob, .ref (aK i1)])).length) Slot.unset).toArray = ls at hl ⊢
  have hl : lv_has ls 2 [(0, .ref ob), (1, .ref (aK i1))] := hl
  refine lv_aload_n hx hb dX3_takes_0 rfl (lv_at hl 0 rfl) ?_
  refine va_get (D := G) (ci := 3) (v := .int ob_fault) (C := RX3) (T := TX3) (N := 10) hx hb hw0 inA_wsX30 hown hK.1 hP 0 rfl rfl 2 (by decide) (hw0 _ m_737) (fun _ h9 => h9) rfl dX3_takes_1 ?_
  refine cutW 15 (fun H locs ls st => st = [] ∧ vPD G A H [(ce_X3 ob ob_town ob_code ob_fault ob_place ob_text ob_size ob_begin ob_next ob_kind ob_value), (ce_b1400 y ob_text fob_text)] ∧ va_S A s.heap H locs ∧ lv_has ls 2 []) ?_ (fun J_15_1004 => ?_)
  · rintro H locs ls st ⟨rfl, ⟨hP, hD⟩, hS, hl⟩
    refine lv_iconst (v := 0) hx hb dX3_takes_15 (by decide) ?_
    exact W.zret (v := 0) hx hb hr rfl (fun t ht hW => ⟨⟨0, _, rfl, Or.inl (⟨rfl, rfl⟩), by rw [ht]; exact hP, hD⟩, hS.F ht⟩) hS.2.2 dX3_takes_16
  · skip
    refine lv_if_ne (tgt := 15) hx hb dX3_takes_4 (by decide) (fun c_1005 => ?_) (fun c_1005 => ?_)
    · skip
      have nc_1005 := nb_ne (1) (3) c_1005 p_ob_fault (k := 0) (by decide) (by decide)
      exact J_15_1004 _ _ _ _ ⟨rfl, ⟨hP, hD⟩, hS, lv_sub hl [] rfl⟩
    · skip
      have nc_1005 := nb_eq (0) (0) c_1005 p_ob_fault (bkc (x := 0) (c := 0) (by decide)) (by decide)
      refine lv_aload_n hx hb dX3_takes_7 rfl (lv_at hl 0 rfl) ?_
      refine lv_aload_n hx hb dX3_takes_8 rfl (lv_at hl 1 rfl) ?_
      refine cViSm (As := [.ref (aK i1)]) (rest := []) ⟨hx, hb, hml, hown, hw0⟩ hA hK hP hD hS hE [true, true] (sX3_among l G y aK aV _ ob i1 ob_town ob_code ob_fault ob_place ob_text ob_size ob_begin ob_next ob_kind ob_value fob_text (bw (0) (3) nc_1005.1 (by decide)) p_ob_size p_ob_begin p_ob_next p_ob_kind p_ob_value hi1) rfl ⟨(callB_of 1 hw0 (gA m_727) rfl rfl rfl (hw0 _ m_721) (hw0 _ m_731) cb_X3_among ⟨Nat.le_of_ble_eq_true rfl, Nat.le_of_ble_eq_true rfl⟩), (hw0 _ m_732), (hw0 _ m_733)⟩ (ci := 3) (q := (RX3, TX3, 10)) rfl rfl rfl hl.1 (Nat.le_of_ble_eq_true rfl) dX3_takes_9 ⟨Nat.le_of_ble_eq_true rfl, Nat.le_of_ble_eq_true rfl⟩ (fun r_1006 w_1006 H locs hw_1006 hP hD hS => ?_)
      obtain ⟨v_1007, er_1006, rfl⟩ := hw_1006
      subst r_1006
      obtain ⟨hP, hD⟩ : vPD G A H [(ce_X3 ob ob_town ob_code ob_fault ob_place ob_text ob_size ob_begin ob_next ob_kind ob_value), (ce_b1400 y ob_text fob_text)] := ⟨hP, hD⟩
      refine lv_if_ge (tgt := 17) hx hb dX3_takes_12 (by decide) (fun c_1008 => ?_) (fun c_1008 => ?_)
      · skip
        have nc_1008 := nb_le (0) (0) c_1008 (bkc (x := 0) (c := 0) (by decide)) (btop v_1007) (by decide)
        refine lv_aload_n hx hb dX3_takes_17 rfl (lv_at hl 0 rfl) ?_
        refine cVvm (As := []) (rest := []) ⟨hx, hb, hml, hown, hw0⟩ hA hK hP hD hS [true, true] (sX3_advance l G y _ ob ob_town ob_code ob_fault ob_place ob_text ob_size ob_begin ob_next ob_kind ob_value fob_text (bw (0) (3) nc_1005.1 (by decide)) p_ob_size p_ob_begin p_ob_next p_ob_kind p_ob_value) rfl ⟨(callB_of 0 hw0 (gA m_714) rfl rfl rfl (hw0 _ m_721) (hw0 _ m_738) cb_X3_advance ⟨Nat.le_of_ble_eq_true rfl, Nat.le_of_ble_eq_true rfl⟩), (hw0 _ m_739), (hw0 _ m_740)⟩ (ci := 3) (q := (RX3, TX3, 10)) rfl rfl rfl hl.1 (Nat.le_of_ble_eq_true rfl) dX3_takes_18 ⟨Nat.le_of_ble_eq_true rfl, Nat.le_of_ble_eq_true rfl⟩ (fun w_1009 H locs hw_1009 hP hD hS => ?_)
        obtain ⟨v_1010, v_1011, v_1012, v_1013, bv_1010, bv_1011, bv_1012, bv_1013, rfl⟩ := hw_1009
        obtain ⟨hP, hD⟩ : vPD G A H [(ce_X3 ob ob_town ob_code ob_fault ob_place ob_text ob_size v_1010 v_1011 v_1012 v_1013), (ce_b1400 y ob_text fob_text)] := ⟨hP, hD⟩
        refine lv_iconst (v := 1) hx hb dX3_takes_21 (by decide) ?_
        exact W.zret (v := 1) hx hb hr rfl (fun t ht hW => ⟨⟨1, _, rfl, Or.inr (⟨v_1010, v_1011, v_1012, v_1013, bv_1010, bv_1011, bv_1012, bv_1013, nc_1005.1, rfl, rfl⟩), by rw [ht]; exact hP, hD⟩, hS.F ht⟩) hS.2.2 dX3_takes_22
      · skip
        have nc_1008 := nb_nle (-1) (0) c_1008 (btop v_1007) (bkc (x := 0) (c := 0) (by decide)) (by decide)
        exact J_15_1004 _ _ _ _ ⟨rfl, ⟨hP, hD⟩, hS, lv_sub hl [] rfl⟩

set_option maxHeartbeats 4000000 in
set_option maxRecDepth 100000 in
theorem sX3_readTests (l : Launch) (G : va_G) (y : Nat → ClassId) (aK aV : Nat → Nat) (sz : Nat) (ob : Nat) (ob_town : Nat) (ob_code : Nat) (ob_fault : Int32) (ob_place : Int32) (ob_text : Nat) (ob_size : Int32) (ob_begin : Int32) (ob_next : Int32) (ob_kind : Int32) (ob_value : Int32) (ob_code_lines : Int32) (ob_code_used : Int32) (ob_code_paying : Nat) (ob_code_kind : Nat) (ob_code_within : Nat) (ob_code_start : Nat) (ob_code_stop : Nat) (ob_code_tests : Nat) (ob_code_facts : Nat) (ob_code_beyond : Int32) (fob_code_tests : Nat → Int32) (fob_text : Nat → Int32) (p_ob_code_lines : (0 : Int) ≤ ob_code_lines.toInt ∧ ob_code_lines.toInt ≤ 24) (p_ob_code_used : (0 : Int) ≤ ob_code_used.toInt ∧ ob_code_used.toInt ≤ 700) (p_ob_code_beyond : (0 : Int) ≤ ob_code_beyond.toInt ∧ ob_code_beyond.toInt ≤ 1) (p_ob_fault : (0 : Int) ≤ ob_fault.toInt ∧ ob_fault.toInt ≤ 3) (p_ob_size : (0 : Int) ≤ ob_size.toInt ∧ ob_size.toInt ≤ 1400) (p_ob_begin : (0 : Int) ≤ ob_begin.toInt ∧ ob_begin.toInt ≤ 1400) (p_ob_next : (0 : Int) ≤ ob_next.toInt ∧ ob_next.toInt ≤ 1400) (p_ob_kind : (0 : Int) ≤ ob_kind.toInt ∧ ob_kind.toInt ≤ 4) (p_ob_value : (0 : Int) ≤ ob_value.toInt ∧ ob_value.toInt ≤ 1000000) : Met l yX3_readTests (Cond.code yX3_readTests cX3_readTests 7 none :: wAll) ({ frames := 6, cells := 0, slots := 0, locals := 133 }) (va_Pc [.ref ob] (kps G y aK aV sz [(ce_X3 ob ob_town ob_code ob_fault ob_place ob_text ob_size ob_begin ob_next ob_kind ob_value), (ce_X0 ob_code ob_code_lines ob_code_used ob_code_paying ob_code_kind ob_code_within ob_code_start ob_code_stop ob_code_tests ob_code_facts ob_code_beyond), (ce_i700 y ob_code_tests fob_code_tests), (ce_b1400 y ob_text fob_text)])) (va_Qv (fun (w : va_W) => (∃ (v_3253 : Int32) (v_3254 : Int32) (v_3255 : Int32) (v_3256 : Int32) (v_3257 : Int32) (v_3258 : Int32) (v_3259 : Int32) (f_3260 : Nat → Int32), ((0 : Int) ≤ v_3253.toInt ∧ v_3253.toInt ≤ 3) ∧ ((0 : Int) ≤ v_3255.toInt ∧ v_3255.toInt ≤ 1400) ∧ ((0 : Int) ≤ v_3256.toInt ∧ v_3256.toInt ≤ 1400) ∧ ((0 : Int) ≤ v_3257.toInt ∧ v_3257.toInt ≤ 4) ∧ ((0 : Int) ≤ v_3258.toInt ∧ v_3258.toInt ≤ 1000000) ∧ ((0 : Int) ≤ v_3259.toInt ∧ v_3259.toInt ≤ 700) ∧ w = [(ce_X3 ob ob_town ob_code v_3253 v_3254 ob_text ob_size v_3255 v_3256 v_3257 v_3258), (ce_X0 ob_code ob_code_lines v_3259 ob_code_paying ob_code_kind ob_code_within ob_code_start ob_code_stop ob_code_tests ob_code_facts ob_code_beyond), (ce_i700 y ob_code_tests f_3260), (ce_b1400 y ob_text fob_text)])) (kq G (va_A [(ce_X3 ob ob_town ob_code ob_fault ob_place ob_text ob_size ob_begin ob_next ob_kind ob_value), (ce_X0 ob_code ob_code_lines ob_code_used ob_code_paying ob_code_kind ob_code_within ob_code_start ob_code_stop ob_code_tests ob_code_facts ob_code_beyond), (ce_i700 y ob_code_tests fob_code_tests), (ce_b1400 y ob_text fob_text)] sz)) (va_A [(ce_X3 ob ob_town ob_code ob_fault ob_place ob_text ob_size ob_begin ob_next ob_kind ob_value), (ce_X0 ob_code ob_code_lines ob_code_used ob_code_paying ob_code_kind ob_code_within ob_code_start ob_code_stop ob_code_tests ob_code_facts ob_code_beyond), (ce_i700 y ob_code_tests fob_code_tests), (ce_b1400 y ob_text fob_text)] sz)) 0 0 (va_A [(ce_X3 ob ob_town ob_code ob_fault ob_place ob_text ob_size ob_begin ob_next ob_kind ob_value), (ce_X0 ob_code ob_code_lines ob_code_used ob_code_paying ob_code_kind ob_code_within ob_code_start ob_code_stop ob_code_tests ob_code_facts ob_code_beyond), (ce_i700 y ob_code_tests fob_code_tests), (ce_b1400 y ob_text fob_text)] sz) := by
  refine Met.ofW (cc := cX3_readTests) (maxL := 7) (ret := none) (by decide) rfl ?_
  intro p e s m args below meth c s₁ B hml hv
  obtain ⟨rfl, ⟨hsz, hP, hK, hD0⟩, hE⟩ := hv
  have hx := B.exec
  have hb := B.bytes
  have hr := B.returns
  have hw0 : ∀ w ∈ wAll, w.before _ s = true := fun w h => atoms_spec (ws := Cond.code yX3_readTests cX3_readTests 7 none :: wAll) B.pre w (List.mem_cons_of_mem _ h)
  have hown : s.vm.findClass RX3 = some m.cls := findClass_of_methodNamed B.named
  subst hsz
  have hD := hD0.self (sz := s.heap.size)
  generalize hAe : va_A [(ce_X3 ob ob_town ob_code ob_fault ob_place ob_text ob_size ob_begin ob_next ob_kind ob_value), (ce_X0 ob_code ob_code_lines ob_code_used ob_code_paying ob_code_kind ob_code_within ob_code_start ob_code_stop ob_code_tests ob_code_facts ob_code_beyond), (ce_i700 y ob_code_tests fob_code_tests), (ce_b1400 y ob_text fob_text)] s.heap.size = A at hD hE ⊢
  have hA : ∀ q : Nat, s.heap.size ≤ q → A q := fun q h => by rw [← hAe]; exact Or.inr h
  have hS : va_S A s.heap s.heap [] := va_S.rf
  have hP : va_P G vwCl [(ce_X3 ob ob_town ob_code ob_fault ob_place ob_text ob_size ob_begin ob_next ob_kind ob_value), (ce_X0 ob_code ob_code_lines ob_code_used ob_code_paying ob_code_kind ob_code_within ob_code_start ob_code_stop ob_code_tests ob_code_facts ob_code_beyond), (ce_i700 y ob_code_tests fob_code_tests), (ce_b1400 y ob_text fob_text)] s.heap := hP
  have hl := lv_entry ([.ref ob]) (n := 7) (Nat.le_of_ble_eq_true rfl)
  rw [lg_entry_eq]
  generalize (lg_sl ([.ref ob]) ++ List.replicate (7 - (lg_sl ([.ref ob])).length) Slot.unset).toArray = ls at hl ⊢
  have hl : lv_has ls 7 [(0, .ref ob)] := hl
  refine lv_iconst (v := 0) hx hb dX3_readTests_0 (by decide) ?_
  refine lv_istore_n (lv' := [(1, .int 0), (0, .ref ob)]) hx hb dX3_readTests_1 rfl hl (by decide) rfl (fun ls hl => ?_)
  refine lv_iconst (v := 0) hx hb dX3_readTests_2 (by decide) ?_
  refine lv_istore_n (lv' := [(2, .int 0), (1, .int 0), (0, .ref ob)]) hx hb dX3_readTests_3 rfl hl (by decide) rfl (fun ls hl => ?_)
  refine loopX (fun n H locs ls st => ∃ (v_2396 : Int32) (v_2397 : Int32) (v_2398 : Int32) (v_2399 : Int32) (v_2400 : Int32) (v_2401 : Int32) (v_2402 : Int32) (v_2403 : Int32) (v_2404 : Int32) (f_2405 : Nat → Int32), (1401 - v_2396.toInt).toNat = n ∧ ((0 : Int) ≤ v_2396.toInt ∧ v_2396.toInt ≤ 1401) ∧ ((0 : Int) ≤ v_2397.toInt ∧ v_2397.toInt ≤ 1) ∧ ((0 : Int) ≤ v_2398.toInt ∧ v_2398.toInt ≤ 3) ∧ ((0 : Int) ≤ v_2400.toInt ∧ v_2400.toInt ≤ 1400) ∧ ((0 : Int) ≤ v_2401.toInt ∧ v_2401.toInt ≤ 1400) ∧ ((0 : Int) ≤ v_2402.toInt ∧ v_2402.toInt ≤ 4) ∧ ((0 : Int) ≤ v_2403.toInt ∧ v_2403.toInt ≤ 1000000) ∧ ((0 : Int) ≤ v_2404.toInt ∧ v_2404.toInt ≤ 700) ∧ st = [] ∧ vPD G A H [(ce_X3 ob ob_town ob_code v_2398 v_2399 ob_text ob_size v_2400 v_2401 v_2402 v_2403), (ce_X0 ob_code ob_code_lines v_2404 ob_code_paying ob_code_kind ob_code_within ob_code_start ob_code_stop ob_code_tests ob_code_facts ob_code_beyond), (ce_i700 y ob_code_tests f_2405), (ce_b1400 y ob_text fob_text)] ∧ va_S A s.heap H locs ∧ lv_has ls 7 [(2, .int v_2396), (1, .int v_2397), (0, .ref ob)]) ?_ (n := (1401 - (0 : Int32).toInt).toNat) ⟨0, 0, ob_fault, ob_place, ob_begin, ob_next, ob_kind, ob_value, ob_code_used, fob_code_tests, rfl, (bw (0) (1401) (bkc (x := 0) (c := 0) (by decide)) (by decide)), (bw (0) (1) (bkc (x := 0) (c := 0) (by decide)) (by decide)), p_ob_fault, p_ob_begin, p_ob_next, p_ob_kind, p_ob_value, p_ob_code_used, rfl, ⟨hP, hD⟩, hS, lv_sub hl [0, 1, 2] rfl⟩
  rintro n ih_2514 H locs ls st ⟨v_2396, v_2397, v_2398, v_2399, v_2400, v_2401, v_2402, v_2403, v_2404, f_2405, hn_2514, bv_2396, bv_2397, bv_2398, bv_2400, bv_2401, bv_2402, bv_2403, bv_2404, rfl, ⟨hP, hD⟩, hS, hl⟩
  refine lv_iload_n hx hb dX3_readTests_4 rfl (lv_at hl 0 rfl) ?_
  refine lv_sipush (v := 1400) hx hb dX3_readTests_5 (by decide) ?_
  refine lv_icmp_gt (tgt := 194) hx hb dX3_readTests_8 (by decide) (fun c_2515 => ?_) (fun c_2515 => ?_)
  · skip
    have nc_2515 := nb_lt (1400) (1401) c_2515 (bkc (x := 1400) (c := 1400) (by decide)) bv_2396 (by decide)
    exact W.vret hx hb hr (fun t ht hW => ⟨⟨_, rfl, ⟨v_2398, v_2399, v_2400, v_2401, v_2402, v_2403, v_2404, f_2405, bv_2398, bv_2400, bv_2401, bv_2402, bv_2403, bv_2404, rfl⟩, by rw [ht]; exact hP, hD⟩, hS.F ht⟩) hS.2.2 dX3_readTests_194
  · skip
    have nc_2515 := nb_nlt (1400) (1400) c_2515 bv_2396 (bkc (x := 1400) (c := 1400) (by decide)) (by decide)
    refine lv_aload_n hx hb dX3_readTests_11 rfl (lv_at hl 2 rfl) ?_
    refine va_get (D := G) (ci := 3) (v := .int v_2402) (C := RX3) (T := TX3) (N := 10) hx hb hw0 inA_wsX30 hown hK.1 hP 0 rfl rfl 8 (by decide) (hw0 _ m_719) (fun _ h9 => h9) rfl dX3_readTests_12 ?_
    refine lv_iconst (v := 2) hx hb dX3_readTests_15 (by decide) ?_
    refine cutW 24 (fun H locs ls st => ∃ (v_2517 : Int32), ((0 : Int) ≤ v_2517.toInt ∧ v_2517.toInt ≤ 1) ∧ st = [.int v_2517] ∧ vPD G A H [(ce_X3 ob ob_town ob_code v_2398 v_2399 ob_text ob_size v_2400 v_2401 v_2402 v_2403), (ce_X0 ob_code ob_code_lines v_2404 ob_code_paying ob_code_kind ob_code_within ob_code_start ob_code_stop ob_code_tests ob_code_facts ob_code_beyond), (ce_i700 y ob_code_tests f_2405), (ce_b1400 y ob_text fob_text)] ∧ va_S A s.heap H locs ∧ lv_has ls 7 [(2, .int v_2396), (1, .int v_2397), (0, .ref ob)]) ?_ (fun J_24_2517 => ?_)
    · rintro H locs ls st ⟨v_2517, bv_2517, rfl, ⟨hP, hD⟩, hS, hl⟩
      refine lv_istore_n (lv' := [(3, .int v_2517), (2, .int v_2396), (1, .int v_2397), (0, .ref ob)]) hx hb dX3_readTests_24 rfl hl (by decide) rfl (fun ls hl => ?_)
      refine lv_aload_n hx hb dX3_readTests_25 rfl (lv_at hl 3 rfl) ?_
      refine va_get (D := G) (ci := 3) (v := .ref ob_code) (C := RX3) (T := TX3) (N := 10) hx hb hw0 inA_wsX30 hown hK.1 hP 0 rfl rfl 1 (by decide) (hw0 _ m_750) (fun _ h9 => h9) rfl dX3_readTests_26 ?_
      refine lv_iload_n hx hb dX3_readTests_29 rfl (lv_at hl 0 rfl) ?_
      refine cutW 54 (fun H locs ls st => ∃ (v_2537 : Int32) (v_2538 : Int32) (v_2539 : Int32) (v_2540 : Int32) (v_2541 : Int32) (v_2542 : Int32) (v_2543 : Int32), ((0 : Int) ≤ v_2538.toInt ∧ v_2538.toInt ≤ 3) ∧ ((0 : Int) ≤ v_2540.toInt ∧ v_2540.toInt ≤ 1400) ∧ ((0 : Int) ≤ v_2541.toInt ∧ v_2541.toInt ≤ 1400) ∧ ((0 : Int) ≤ v_2542.toInt ∧ v_2542.toInt ≤ 4) ∧ ((0 : Int) ≤ v_2543.toInt ∧ v_2543.toInt ≤ 1000000) ∧ st = [.int v_2537, .ref ob_code] ∧ vPD G A H [(ce_X3 ob ob_town ob_code v_2538 v_2539 ob_text ob_size v_2540 v_2541 v_2542 v_2543), (ce_X0 ob_code ob_code_lines v_2404 ob_code_paying ob_code_kind ob_code_within ob_code_start ob_code_stop ob_code_tests ob_code_facts ob_code_beyond), (ce_i700 y ob_code_tests f_2405), (ce_b1400 y ob_text fob_text)] ∧ va_S A s.heap H locs ∧ lv_has ls 7 [(2, .int v_2396), (1, .int v_2397), (0, .ref ob)]) ?_ (fun J_54_2543 => ?_)
      · rintro H locs ls st ⟨v_2537, v_2538, v_2539, v_2540, v_2541, v_2542, v_2543, bv_2538, bv_2540, bv_2541, bv_2542, bv_2543, rfl, ⟨hP, hD⟩, hS, hl⟩
        refine cVvm (As := [.int v_2537]) (rest := []) ⟨hx, hb, hml, hown, hw0⟩ hA hK hP hD hS [false, true, true] (sX0_put l G y _ ob_code v_2537 ob_code_lines v_2404 ob_code_paying ob_code_kind ob_code_within ob_code_start ob_code_stop ob_code_tests ob_code_facts ob_code_beyond f_2405 p_ob_code_lines bv_2404 p_ob_code_beyond) rfl ⟨(callB_of 1 hw0 (gA m_305) rfl rfl rfl (hw0 _ m_286) (hw0 _ m_813) cb_X0_put ⟨Nat.le_of_ble_eq_true rfl, Nat.le_of_ble_eq_true rfl⟩), (hw0 _ m_814), (hw0 _ m_815)⟩ (ci := 0) (q := (RX0, TX0, 10)) rfl rfl rfl hl.1 (Nat.le_of_ble_eq_true rfl) dX3_readTests_54 ⟨Nat.le_of_ble_eq_true rfl, Nat.le_of_ble_eq_true rfl⟩ (fun w_2544 H locs hw_2544 hP hD hS => ?_)
        obtain ⟨v_2545, f_2546, bv_2545, rfl⟩ := hw_2544
        obtain ⟨hP, hD⟩ : vPD G A H [(ce_X3 ob ob_town ob_code v_2538 v_2539 ob_text ob_size v_2540 v_2541 v_2542 v_2543), (ce_X0 ob_code ob_code_lines v_2545 ob_code_paying ob_code_kind ob_code_within ob_code_start ob_code_stop ob_code_tests ob_code_facts ob_code_beyond), (ce_i700 y ob_code_tests f_2546), (ce_b1400 y ob_text fob_text)] := ⟨hP, hD⟩
        refine lv_aload_n hx hb dX3_readTests_57 rfl (lv_at hl 2 rfl) ?_
        refine va_get (D := G) (ci := 3) (v := .int v_2538) (C := RX3) (T := TX3) (N := 10) hx hb hw0 inA_wsX30 hown hK.1 hP 0 rfl rfl 2 (by decide) (hw0 _ m_737) (fun _ h9 => h9) rfl dX3_readTests_58 ?_
        refine lv_if_ne (tgt := 76) hx hb dX3_readTests_61 (by decide) (fun c_2547 => ?_) (fun c_2547 => ?_)
        · skip
          have nc_2547 := nb_ne (1) (3) c_2547 bv_2538 (k := 0) (by decide) (by decide)
          exact W.vret hx hb hr (fun t ht hW => ⟨⟨_, rfl, ⟨v_2538, v_2539, v_2540, v_2541, v_2542, v_2543, v_2545, f_2546, (bw (0) (3) nc_2547.1 (by decide)), bv_2540, bv_2541, bv_2542, bv_2543, (bw (0) (700) bv_2545 (by decide)), rfl⟩, by rw [ht]; exact hP, hD⟩, hS.F ht⟩) hS.2.2 dX3_readTests_76
        · skip
          have nc_2547 := nb_eq (0) (0) c_2547 bv_2538 (bkc (x := 0) (c := 0) (by decide)) (by decide)
          refine lv_iload_n hx hb dX3_readTests_64 rfl (lv_at hl 1 rfl) ?_
          refine cutW 77 (fun H locs ls st => st = [] ∧ vPD G A H [(ce_X3 ob ob_town ob_code v_2538 v_2539 ob_text ob_size v_2540 v_2541 v_2542 v_2543), (ce_X0 ob_code ob_code_lines v_2545 ob_code_paying ob_code_kind ob_code_within ob_code_start ob_code_stop ob_code_tests ob_code_facts ob_code_beyond), (ce_i700 y ob_code_tests f_2546), (ce_b1400 y ob_text fob_text)] ∧ va_S A s.heap H locs ∧ lv_has ls 7 [(2, .int v_2396), (1, .int v_2397), (0, .ref ob)]) ?_ (fun J_77_2549 => ?_)
          · rintro H locs ls st ⟨rfl, ⟨hP, hD⟩, hS, hl⟩
            refine lv_sipush (v := 2000) hx hb dX3_readTests_77 (by decide) ?_
            refine lv_aload_n hx hb dX3_readTests_80 rfl (lv_at hl 2 rfl) ?_
            refine va_ldcS (own := RX3) (tx := "plus minus times more less same and") (q := aK 6) hx hb hown (hE.2.1 ("CardBowl$Reader", 177, "plus minus times more less same and", 6) sl_CardBowl_Reader_177) dX3_readTests_81 ?_
            refine cViSm (As := [.ref (aK 6)]) (rest := [.int 2000]) ⟨hx, hb, hml, hown, hw0⟩ hA hK hP hD hS hE [true, false, false, true] (sX3_among l G y aK aV _ ob 6 ob_town ob_code v_2538 v_2539 ob_text ob_size v_2540 v_2541 v_2542 v_2543 fob_text (bw (0) (3) nc_2547.1 (by decide)) p_ob_size bv_2540 bv_2541 bv_2542 bv_2543 (by decide)) rfl ⟨(callB_of 1 hw0 (gA m_727) rfl rfl rfl (hw0 _ m_721) (hw0 _ m_731) cb_X3_among ⟨Nat.le_of_ble_eq_true rfl, Nat.le_of_ble_eq_true rfl⟩), (hw0 _ m_732), (hw0 _ m_733)⟩ (ci := 3) (q := (RX3, TX3, 10)) rfl rfl rfl hl.1 (Nat.le_of_ble_eq_true rfl) dX3_readTests_83 ⟨Nat.le_of_ble_eq_true rfl, Nat.le_of_ble_eq_true rfl⟩ (fun r_2550 w_2550 H locs hw_2550 hP hD hS => ?_)
            obtain ⟨v_2551, er_2550, rfl⟩ := hw_2550
            subst r_2550
            have hLh_2552 : ((lenS.getD 6 0 : Nat) : Int) = 35 := by decide
            obtain ⟨hP, hD⟩ : vPD G A H [(ce_X3 ob ob_town ob_code v_2538 v_2539 ob_text ob_size v_2540 v_2541 v_2542 v_2543), (ce_X0 ob_code ob_code_lines v_2545 ob_code_paying ob_code_kind ob_code_within ob_code_start ob_code_stop ob_code_tests ob_code_facts ob_code_beyond), (ce_i700 y ob_code_tests f_2546), (ce_b1400 y ob_text fob_text)] := ⟨hP, hD⟩
            refine lv_iadd hx hb dX3_readTests_86 ?_
            refine lv_topi (fun v_2553 ev_2553 => ?_)
            refine lv_istore (lv' := [(4, .int v_2553), (2, .int v_2396), (1, .int v_2397), (0, .ref ob)]) hx hb dX3_readTests_87 hl (by decide) rfl (fun ls hl => ?_)
            refine lv_iload hx hb dX3_readTests_89 (lv_at hl 0 rfl) ?_
            refine lv_sipush (v := 2000) hx hb dX3_readTests_91 (by decide) ?_
            refine cutW 110 (fun H locs ls st => ∃ (v_2558 : Int32), ((0 : Int) ≤ v_2558.toInt ∧ v_2558.toInt ≤ 1) ∧ st = [.int v_2558] ∧ vPD G A H [(ce_X3 ob ob_town ob_code v_2538 v_2539 ob_text ob_size v_2540 v_2541 v_2542 v_2543), (ce_X0 ob_code ob_code_lines v_2545 ob_code_paying ob_code_kind ob_code_within ob_code_start ob_code_stop ob_code_tests ob_code_facts ob_code_beyond), (ce_i700 y ob_code_tests f_2546), (ce_b1400 y ob_text fob_text)] ∧ va_S A s.heap H locs ∧ lv_has ls 7 [(4, .int v_2553), (2, .int v_2396), (1, .int v_2397), (0, .ref ob)]) ?_ (fun J_110_2558 => ?_)
            · rintro H locs ls st ⟨v_2558, bv_2558, rfl, ⟨hP, hD⟩, hS, hl⟩
              refine lv_istore (lv' := [(5, .int v_2558), (4, .int v_2553), (2, .int v_2396), (1, .int v_2397), (0, .ref ob)]) hx hb dX3_readTests_110 hl (by decide) rfl (fun ls hl => ?_)
              refine lv_iload hx hb dX3_readTests_112 (lv_at hl 1 rfl) ?_
              refine lv_sipush (v := 2003) hx hb dX3_readTests_114 (by decide) ?_
              refine cutW 133 (fun H locs ls st => ∃ (v_2563 : Int32), ((0 : Int) ≤ v_2563.toInt ∧ v_2563.toInt ≤ 1) ∧ st = [.int v_2563] ∧ vPD G A H [(ce_X3 ob ob_town ob_code v_2538 v_2539 ob_text ob_size v_2540 v_2541 v_2542 v_2543), (ce_X0 ob_code ob_code_lines v_2545 ob_code_paying ob_code_kind ob_code_within ob_code_start ob_code_stop ob_code_tests ob_code_facts ob_code_beyond), (ce_i700 y ob_code_tests f_2546), (ce_b1400 y ob_text fob_text)] ∧ va_S A s.heap H locs ∧ lv_has ls 7 [(5, .int v_2558), (4, .int v_2553), (2, .int v_2396), (1, .int v_2397), (0, .ref ob)]) ?_ (fun J_133_2563 => ?_)
              · rintro H locs ls st ⟨v_2563, bv_2563, rfl, ⟨hP, hD⟩, hS, hl⟩
                refine lv_istore (lv' := [(6, .int v_2563), (5, .int v_2558), (4, .int v_2553), (2, .int v_2396), (1, .int v_2397), (0, .ref ob)]) hx hb dX3_readTests_133 hl (by decide) rfl (fun ls hl => ?_)
                refine lv_iload hx hb dX3_readTests_135 (lv_at hl 1 rfl) ?_
                refine cutW 167 (fun H locs ls st => st = [] ∧ vPD G A H [(ce_X3 ob ob_town ob_code v_2538 v_2539 ob_text ob_size v_2540 v_2541 v_2542 v_2543), (ce_X0 ob_code ob_code_lines v_2545 ob_code_paying ob_code_kind ob_code_within ob_code_start ob_code_stop ob_code_tests ob_code_facts ob_code_beyond), (ce_i700 y ob_code_tests f_2546), (ce_b1400 y ob_text fob_text)] ∧ va_S A s.heap H locs ∧ lv_has ls 7 [(6, .int v_2563), (5, .int v_2558), (4, .int v_2553), (2, .int v_2396), (1, .int v_2397), (0, .ref ob)]) ?_ (fun J_167_2572 => ?_)
                · rintro H locs ls st ⟨rfl, ⟨hP, hD⟩, hS, hl⟩
                  refine lv_iload hx hb dX3_readTests_167 (lv_at hl 1 rfl) ?_
                  refine cutW 175 (fun H locs ls st => ∃ (v_2574 : Int32), ((0 : Int) ≤ v_2574.toInt ∧ v_2574.toInt ≤ 1) ∧ st = [] ∧ vPD G A H [(ce_X3 ob ob_town ob_code v_2538 v_2539 ob_text ob_size v_2540 v_2541 v_2542 v_2543), (ce_X0 ob_code ob_code_lines v_2545 ob_code_paying ob_code_kind ob_code_within ob_code_start ob_code_stop ob_code_tests ob_code_facts ob_code_beyond), (ce_i700 y ob_code_tests f_2546), (ce_b1400 y ob_text fob_text)] ∧ va_S A s.heap H locs ∧ lv_has ls 7 [(4, .int v_2553), (2, .int v_2396), (1, .int v_2574), (0, .ref ob)]) ?_ (fun J_175_2574 => ?_)
                  · rintro H locs ls st ⟨v_2574, bv_2574, rfl, ⟨hP, hD⟩, hS, hl⟩
                    refine lv_aload_n hx hb dX3_readTests_175 rfl (lv_at hl 3 rfl) ?_
                    refine va_get (D := G) (ci := 3) (v := .ref ob_code) (C := RX3) (T := TX3) (N := 10) hx hb hw0 inA_wsX30 hown hK.1 hP 0 rfl rfl 1 (by decide) (hw0 _ m_750) (fun _ h9 => h9) rfl dX3_readTests_176 ?_
                    refine lv_iload hx hb dX3_readTests_179 (lv_at hl 0 rfl) ?_
                    refine cVvm (As := [.int v_2553]) (rest := []) ⟨hx, hb, hml, hown, hw0⟩ hA hK hP hD hS [false, true, true] (sX0_put l G y _ ob_code v_2553 ob_code_lines v_2545 ob_code_paying ob_code_kind ob_code_within ob_code_start ob_code_stop ob_code_tests ob_code_facts ob_code_beyond f_2546 p_ob_code_lines (bw (0) (700) bv_2545 (by decide)) p_ob_code_beyond) rfl ⟨(callB_of 1 hw0 (gA m_305) rfl rfl rfl (hw0 _ m_286) (hw0 _ m_813) cb_X0_put ⟨Nat.le_of_ble_eq_true rfl, Nat.le_of_ble_eq_true rfl⟩), (hw0 _ m_814), (hw0 _ m_815)⟩ (ci := 0) (q := (RX0, TX0, 10)) rfl rfl rfl hl.1 (Nat.le_of_ble_eq_true rfl) dX3_readTests_181 ⟨Nat.le_of_ble_eq_true rfl, Nat.le_of_ble_eq_true rfl⟩ (fun w_2575 H locs hw_2575 hP hD hS => ?_)
                    obtain ⟨v_2576, f_2577, bv_2576, rfl⟩ := hw_2575
                    obtain ⟨hP, hD⟩ : vPD G A H [(ce_X3 ob ob_town ob_code v_2538 v_2539 ob_text ob_size v_2540 v_2541 v_2542 v_2543), (ce_X0 ob_code ob_code_lines v_2576 ob_code_paying ob_code_kind ob_code_within ob_code_start ob_code_stop ob_code_tests ob_code_facts ob_code_beyond), (ce_i700 y ob_code_tests f_2577), (ce_b1400 y ob_text fob_text)] := ⟨hP, hD⟩
                    refine lv_aload_n hx hb dX3_readTests_184 rfl (lv_at hl 3 rfl) ?_
                    refine cVvm (As := []) (rest := []) ⟨hx, hb, hml, hown, hw0⟩ hA hK hP hD hS [true, false, false, true] (sX3_advance l G y _ ob ob_town ob_code v_2538 v_2539 ob_text ob_size v_2540 v_2541 v_2542 v_2543 fob_text (bw (0) (3) nc_2547.1 (by decide)) p_ob_size bv_2540 bv_2541 bv_2542 bv_2543) rfl ⟨(callB_of 0 hw0 (gA m_714) rfl rfl rfl (hw0 _ m_721) (hw0 _ m_738) cb_X3_advance ⟨Nat.le_of_ble_eq_true rfl, Nat.le_of_ble_eq_true rfl⟩), (hw0 _ m_739), (hw0 _ m_740)⟩ (ci := 3) (q := (RX3, TX3, 10)) rfl rfl rfl hl.1 (Nat.le_of_ble_eq_true rfl) dX3_readTests_185 ⟨Nat.le_of_ble_eq_true rfl, Nat.le_of_ble_eq_true rfl⟩ (fun w_2578 H locs hw_2578 hP hD hS => ?_)
                    obtain ⟨v_2579, v_2580, v_2581, v_2582, bv_2579, bv_2580, bv_2581, bv_2582, rfl⟩ := hw_2578
                    obtain ⟨hP, hD⟩ : vPD G A H [(ce_X3 ob ob_town ob_code v_2538 v_2539 ob_text ob_size v_2579 v_2580 v_2581 v_2582), (ce_X0 ob_code ob_code_lines v_2576 ob_code_paying ob_code_kind ob_code_within ob_code_start ob_code_stop ob_code_tests ob_code_facts ob_code_beyond), (ce_i700 y ob_code_tests f_2577), (ce_b1400 y ob_text fob_text)] := ⟨hP, hD⟩
                    obtain ⟨v_2583, ev_2583⟩ : ∃ z : Int32, z = v_2396 + 1 := ⟨_, rfl⟩
                    have qv_2583 := ba_add ev_2583 nc_2515.1 (bkc (x := 1) (c := 1) (by decide)) (by decide)
                    have bv_2583 : (1 : Int) ≤ v_2583.toInt ∧ v_2583.toInt ≤ 1401 := bq_add qv_2583 nc_2515.1 (bkc (x := 1) (c := 1) (by decide)) _ _ (by decide)
                    have qv_2583 : v_2583.toInt = v_2396.toInt + (1) := qv_2583
                    refine lv_iinc (v := v_2583) (lv' := [(2, .int v_2583), (4, .int v_2553), (1, .int v_2574), (0, .ref ob)]) hx hb dX3_readTests_188 hl (k := 1) rfl (ev_2583.symm) (by decide) rfl (fun ls hl => ?_)
                    refine lv_goto (tgt := 4) hx hb dX3_readTests_191 (by decide) ?_
                    exact ih_2514 _ (ml_inc (hi := 1401) hn_2514 qv_2583 (by decide) ((bw (0) (1401) bv_2583 (by decide))).2) _ _ _ _ ⟨v_2583, v_2574, v_2538, v_2539, v_2579, v_2580, v_2581, v_2582, v_2576, f_2577, rfl, (bw (0) (1401) bv_2583 (by decide)), bv_2574, (bw (0) (3) nc_2547.1 (by decide)), bv_2579, bv_2580, bv_2581, bv_2582, (bw (0) (700) bv_2576 (by decide)), rfl, ⟨hP, hD⟩, hS, lv_sub hl [0, 2, 3] rfl⟩
                  · skip
                    refine lv_if_ne (tgt := 175) hx hb dX3_readTests_169 (by decide) (fun c_2584 => ?_) (fun c_2584 => ?_)
                    · skip
                      have nc_2584 := nb_ne (1) (1) c_2584 bv_2558 (k := 0) (by decide) (by decide)
                      exact J_175_2574 _ _ _ _ ⟨v_2397, bv_2397, rfl, ⟨hP, hD⟩, hS, lv_sub hl [2, 3, 4, 5] rfl⟩
                    · skip
                      have nc_2584 := nb_eq (0) (0) c_2584 bv_2558 (bkc (x := 0) (c := 0) (by decide)) (by decide)
                      refine lv_iload hx hb dX3_readTests_172 (lv_at hl 0 rfl) ?_
                      refine lv_istore_n (lv' := [(1, .int v_2563), (6, .int v_2563), (5, .int v_2558), (4, .int v_2553), (2, .int v_2396), (0, .ref ob)]) hx hb dX3_readTests_174 rfl hl (by decide) rfl (fun ls hl => ?_)
                      exact J_175_2574 _ _ _ _ ⟨v_2563, bv_2563, rfl, ⟨hP, hD⟩, hS, lv_sub hl [3, 4, 0, 5] rfl⟩
                · skip
                  refine lv_if_ne (tgt := 167) hx hb dX3_readTests_137 (by decide) (fun c_2585 => ?_) (fun c_2585 => ?_)
                  · skip
                    have nc_2585 := nb_ne (1) (1) c_2585 bv_2558 (k := 0) (by decide) (by decide)
                    exact J_167_2572 _ _ _ _ ⟨rfl, ⟨hP, hD⟩, hS, lv_sub hl [0, 1, 2, 3, 4, 5] rfl⟩
                  · skip
                    have nc_2585 := nb_eq (0) (0) c_2585 bv_2558 (bkc (x := 0) (c := 0) (by decide)) (by decide)
                    refine lv_iload hx hb dX3_readTests_140 (lv_at hl 0 rfl) ?_
                    refine cutW 149 (fun H locs ls st => st = [] ∧ vPD G A H [(ce_X3 ob ob_town ob_code v_2538 v_2539 ob_text ob_size v_2540 v_2541 v_2542 v_2543), (ce_X0 ob_code ob_code_lines v_2545 ob_code_paying ob_code_kind ob_code_within ob_code_start ob_code_stop ob_code_tests ob_code_facts ob_code_beyond), (ce_i700 y ob_code_tests f_2546), (ce_b1400 y ob_text fob_text)] ∧ va_S A s.heap H locs ∧ lv_has ls 7 [(6, .int v_2563), (5, .int v_2558), (4, .int v_2553), (2, .int v_2396), (1, .int v_2397), (0, .ref ob)]) ?_ (fun J_149_2587 => ?_)
                    · rintro H locs ls st ⟨rfl, ⟨hP, hD⟩, hS, hl⟩
                      refine lv_iload hx hb dX3_readTests_149 (lv_at hl 2 rfl) ?_
                      refine lv_sipush (v := 2006) hx hb dX3_readTests_151 (by decide) ?_
                      refine cutW 161 (fun H locs ls st => st = [] ∧ vPD G A H [(ce_X3 ob ob_town ob_code v_2538 v_2539 ob_text ob_size v_2540 v_2541 v_2542 v_2543), (ce_X0 ob_code ob_code_lines v_2545 ob_code_paying ob_code_kind ob_code_within ob_code_start ob_code_stop ob_code_tests ob_code_facts ob_code_beyond), (ce_i700 y ob_code_tests f_2546), (ce_b1400 y ob_text fob_text)] ∧ va_S A s.heap H locs ∧ lv_has ls 7 [(0, .ref ob)]) ?_ (fun J_161_2589 => ?_)
                      · rintro H locs ls st ⟨rfl, ⟨hP, hD⟩, hS, hl⟩
                        refine lv_aload_n hx hb dX3_readTests_161 rfl (lv_at hl 0 rfl) ?_
                        refine lv_iconst (v := 1) hx hb dX3_readTests_162 (by decide) ?_
                        refine cVvm (As := [.int 1]) (rest := []) ⟨hx, hb, hml, hown, hw0⟩ hA hK hP hD hS [true] (sX3_refuse l G y _ ob 1 ob_town ob_code v_2538 v_2539 ob_text ob_size v_2540 v_2541 v_2542 v_2543 (bw (0) (3) nc_2547.1 (by decide)) p_ob_size bv_2540 bv_2541 bv_2542 bv_2543 (bw (1) (3) (bkc (x := 1) (c := 1) (by decide)) (by decide))) rfl ⟨(callB_of 1 hw0 (gA m_816) rfl rfl rfl (hw0 _ m_721) (hw0 _ m_734) cb_X3_refuse ⟨Nat.le_of_ble_eq_true rfl, Nat.le_of_ble_eq_true rfl⟩), (hw0 _ m_735), (hw0 _ m_736)⟩ (ci := 3) (q := (RX3, TX3, 10)) rfl rfl rfl hl.1 (Nat.le_of_ble_eq_true rfl) dX3_readTests_163 ⟨Nat.le_of_ble_eq_true rfl, Nat.le_of_ble_eq_true rfl⟩ (fun w_2590 H locs hw_2590 hP hD hS => ?_)
                        obtain ⟨v_2591, v_2592, bv_2591, rfl⟩ := hw_2590
                        obtain ⟨hP, hD⟩ : vPD G A H [(ce_X3 ob ob_town ob_code v_2591 v_2592 ob_text ob_size v_2540 v_2541 v_2542 v_2543), (ce_X0 ob_code ob_code_lines v_2545 ob_code_paying ob_code_kind ob_code_within ob_code_start ob_code_stop ob_code_tests ob_code_facts ob_code_beyond), (ce_i700 y ob_code_tests f_2546), (ce_b1400 y ob_text fob_text)] := ⟨hP, hD⟩
                        exact W.vret hx hb hr (fun t ht hW => ⟨⟨_, rfl, ⟨v_2591, v_2592, v_2540, v_2541, v_2542, v_2543, v_2545, f_2546, (bw (0) (3) bv_2591 (by decide)), bv_2540, bv_2541, bv_2542, bv_2543, (bw (0) (700) bv_2545 (by decide)), rfl⟩, by rw [ht]; exact hP, hD⟩, hS.F ht⟩) hS.2.2 dX3_readTests_166
                      · skip
                        refine lv_icmp_ne (tgt := 161) hx hb dX3_readTests_154 (by decide) (fun c_2593 => ?_) (fun c_2593 => ?_)
                        · skip
                          have nc_2593 := nb_ne (-2147483648) (2147483647) c_2593 (btop v_2553) (k := 2006) (by decide) (by decide)
                          exact J_161_2589 _ _ _ _ ⟨rfl, ⟨hP, hD⟩, hS, lv_sub hl [5] rfl⟩
                        · skip
                          have nc_2593 := nb_eq (2006) (2006) c_2593 (btop v_2553) (bkc (x := 2006) (c := 2006) (by decide)) (by decide)
                          refine lv_iload_n hx hb dX3_readTests_157 rfl (lv_at hl 4 rfl) ?_
                          refine lv_if_ne (tgt := 167) hx hb dX3_readTests_158 (by decide) (fun c_2594 => ?_) (fun c_2594 => ?_)
                          · skip
                            have nc_2594 := nb_ne (1) (1) c_2594 bv_2397 (k := 0) (by decide) (by decide)
                            exact J_167_2572 _ _ _ _ ⟨rfl, ⟨hP, hD⟩, hS, lv_sub hl [0, 1, 2, 3, 4, 5] rfl⟩
                          · skip
                            have nc_2594 := nb_eq (0) (0) c_2594 bv_2397 (bkc (x := 0) (c := 0) (by decide)) (by decide)
                            exact J_161_2589 _ _ _ _ ⟨rfl, ⟨hP, hD⟩, hS, lv_sub hl [5] rfl⟩
                    · skip
                      refine lv_if_eq (tgt := 149) hx hb dX3_readTests_142 (by decide) (fun c_2595 => ?_) (fun c_2595 => ?_)
                      · skip
                        have nc_2595 := nb_eq (0) (0) c_2595 bv_2563 (bkc (x := 0) (c := 0) (by decide)) (by decide)
                        exact J_149_2587 _ _ _ _ ⟨rfl, ⟨hP, hD⟩, hS, lv_sub hl [0, 1, 2, 3, 4, 5] rfl⟩
                      · skip
                        have nc_2595 := nb_ne (1) (1) c_2595 bv_2563 (k := 0) (by decide) (by decide)
                        refine lv_iload_n hx hb dX3_readTests_145 rfl (lv_at hl 4 rfl) ?_
                        refine lv_if_eq (tgt := 167) hx hb dX3_readTests_146 (by decide) (fun c_2596 => ?_) (fun c_2596 => ?_)
                        · skip
                          have nc_2596 := nb_eq (0) (0) c_2596 bv_2397 (bkc (x := 0) (c := 0) (by decide)) (by decide)
                          exact J_167_2572 _ _ _ _ ⟨rfl, ⟨hP, hD⟩, hS, lv_sub hl [0, 1, 2, 3, 4, 5] rfl⟩
                        · skip
                          have nc_2596 := nb_ne (1) (1) c_2596 bv_2397 (k := 0) (by decide) (by decide)
                          exact J_149_2587 _ _ _ _ ⟨rfl, ⟨hP, hD⟩, hS, lv_sub hl [0, 1, 2, 3, 4, 5] rfl⟩
              · skip
                refine cutW 132 (fun H locs ls st => st = [] ∧ vPD G A H [(ce_X3 ob ob_town ob_code v_2538 v_2539 ob_text ob_size v_2540 v_2541 v_2542 v_2543), (ce_X0 ob_code ob_code_lines v_2545 ob_code_paying ob_code_kind ob_code_within ob_code_start ob_code_stop ob_code_tests ob_code_facts ob_code_beyond), (ce_i700 y ob_code_tests f_2546), (ce_b1400 y ob_text fob_text)] ∧ va_S A s.heap H locs ∧ lv_has ls 7 [(5, .int v_2558), (4, .int v_2553), (2, .int v_2396), (1, .int v_2397), (0, .ref ob)]) ?_ (fun J_132_2598 => ?_)
                · rintro H locs ls st ⟨rfl, ⟨hP, hD⟩, hS, hl⟩
                  refine lv_iconst (v := 0) hx hb dX3_readTests_132 (by decide) ?_
                  exact J_133_2563 _ _ _ _ ⟨0, (bw (0) (1) (bkc (x := 0) (c := 0) (by decide)) (by decide)), rfl, ⟨hP, hD⟩, hS, lv_sub hl [0, 1, 2, 3, 4] rfl⟩
                · skip
                  refine lv_icmp_lt (tgt := 132) hx hb dX3_readTests_117 (by decide) (fun c_2599 => ?_) (fun c_2599 => ?_)
                  · skip
                    have nc_2599 := nb_lt (2002) (2003) c_2599 (btop v_2553) (bkc (x := 2003) (c := 2003) (by decide)) (by decide)
                    exact J_132_2598 _ _ _ _ ⟨rfl, ⟨hP, hD⟩, hS, lv_sub hl [0, 1, 2, 3, 4] rfl⟩
                  · skip
                    have nc_2599 := nb_nlt (2003) (2003) c_2599 (bkc (x := 2003) (c := 2003) (by decide)) (btop v_2553) (by decide)
                    refine lv_iload hx hb dX3_readTests_120 (lv_at hl 1 rfl) ?_
                    refine lv_sipush (v := 2005) hx hb dX3_readTests_122 (by decide) ?_
                    refine lv_icmp_gt (tgt := 132) hx hb dX3_readTests_125 (by decide) (fun c_2600 => ?_) (fun c_2600 => ?_)
                    · skip
                      have nc_2600 := nb_lt (2005) (2006) c_2600 (bkc (x := 2005) (c := 2005) (by decide)) nc_2599.2.1 (by decide)
                      exact J_132_2598 _ _ _ _ ⟨rfl, ⟨hP, hD⟩, hS, lv_sub hl [0, 1, 2, 3, 4] rfl⟩
                    · skip
                      have nc_2600 := nb_nlt (2005) (2005) c_2600 nc_2599.2.1 (bkc (x := 2005) (c := 2005) (by decide)) (by decide)
                      refine lv_iconst (v := 1) hx hb dX3_readTests_128 (by decide) ?_
                      refine lv_goto (tgt := 133) hx hb dX3_readTests_129 (by decide) ?_
                      exact J_133_2563 _ _ _ _ ⟨1, (bw (0) (1) (bkc (x := 1) (c := 1) (by decide)) (by decide)), rfl, ⟨hP, hD⟩, hS, lv_sub hl [0, 1, 2, 3, 4] rfl⟩
            · skip
              refine cutW 109 (fun H locs ls st => st = [] ∧ vPD G A H [(ce_X3 ob ob_town ob_code v_2538 v_2539 ob_text ob_size v_2540 v_2541 v_2542 v_2543), (ce_X0 ob_code ob_code_lines v_2545 ob_code_paying ob_code_kind ob_code_within ob_code_start ob_code_stop ob_code_tests ob_code_facts ob_code_beyond), (ce_i700 y ob_code_tests f_2546), (ce_b1400 y ob_text fob_text)] ∧ va_S A s.heap H locs ∧ lv_has ls 7 [(4, .int v_2553), (2, .int v_2396), (1, .int v_2397), (0, .ref ob)]) ?_ (fun J_109_2602 => ?_)
              · rintro H locs ls st ⟨rfl, ⟨hP, hD⟩, hS, hl⟩
                refine lv_iconst (v := 0) hx hb dX3_readTests_109 (by decide) ?_
                exact J_110_2558 _ _ _ _ ⟨0, (bw (0) (1) (bkc (x := 0) (c := 0) (by decide)) (by decide)), rfl, ⟨hP, hD⟩, hS, lv_sub hl [0, 1, 2, 3] rfl⟩
              · skip
                refine lv_icmp_lt (tgt := 109) hx hb dX3_readTests_94 (by decide) (fun c_2603 => ?_) (fun c_2603 => ?_)
                · skip
                  have nc_2603 := nb_lt (1999) (2000) c_2603 (btop v_2553) (bkc (x := 2000) (c := 2000) (by decide)) (by decide)
                  exact J_109_2602 _ _ _ _ ⟨rfl, ⟨hP, hD⟩, hS, lv_sub hl [0, 1, 2, 3] rfl⟩
                · skip
                  have nc_2603 := nb_nlt (2000) (2000) c_2603 (bkc (x := 2000) (c := 2000) (by decide)) (btop v_2553) (by decide)
                  refine lv_iload hx hb dX3_readTests_97 (lv_at hl 0 rfl) ?_
                  refine lv_sipush (v := 2002) hx hb dX3_readTests_99 (by decide) ?_
                  refine lv_icmp_gt (tgt := 109) hx hb dX3_readTests_102 (by decide) (fun c_2604 => ?_) (fun c_2604 => ?_)
                  · skip
                    have nc_2604 := nb_lt (2002) (2003) c_2604 (bkc (x := 2002) (c := 2002) (by decide)) nc_2603.2.1 (by decide)
                    exact J_109_2602 _ _ _ _ ⟨rfl, ⟨hP, hD⟩, hS, lv_sub hl [0, 1, 2, 3] rfl⟩
                  · skip
                    have nc_2604 := nb_nlt (2002) (2002) c_2604 nc_2603.2.1 (bkc (x := 2002) (c := 2002) (by decide)) (by decide)
                    refine lv_iconst (v := 1) hx hb dX3_readTests_105 (by decide) ?_
                    refine lv_goto (tgt := 110) hx hb dX3_readTests_106 (by decide) ?_
                    exact J_110_2558 _ _ _ _ ⟨1, (bw (0) (1) (bkc (x := 1) (c := 1) (by decide)) (by decide)), rfl, ⟨hP, hD⟩, hS, lv_sub hl [0, 1, 2, 3] rfl⟩
          · skip
            refine lv_if_eq (tgt := 77) hx hb dX3_readTests_65 (by decide) (fun c_2605 => ?_) (fun c_2605 => ?_)
            · skip
              have nc_2605 := nb_eq (0) (0) c_2605 bv_2397 (bkc (x := 0) (c := 0) (by decide)) (by decide)
              exact J_77_2549 _ _ _ _ ⟨rfl, ⟨hP, hD⟩, hS, lv_sub hl [0, 1, 2] rfl⟩
            · skip
              have nc_2605 := nb_ne (1) (1) c_2605 bv_2397 (k := 0) (by decide) (by decide)
              refine lv_aload_n hx hb dX3_readTests_68 rfl (lv_at hl 2 rfl) ?_
              refine va_get (D := G) (ci := 3) (v := .int v_2542) (C := RX3) (T := TX3) (N := 10) hx hb hw0 inA_wsX30 hown hK.1 hP 0 rfl rfl 8 (by decide) (hw0 _ m_719) (fun _ h9 => h9) rfl dX3_readTests_69 ?_
              refine lv_iconst (v := 3) hx hb dX3_readTests_72 (by decide) ?_
              refine lv_icmp_ne (tgt := 77) hx hb dX3_readTests_73 (by decide) (fun c_2606 => ?_) (fun c_2606 => ?_)
              · skip
                have nc_2606 := nb_ne (0) (4) c_2606 bv_2542 (k := 3) (by decide) (by decide)
                exact J_77_2549 _ _ _ _ ⟨rfl, ⟨hP, hD⟩, hS, lv_sub hl [0, 1, 2] rfl⟩
              · skip
                have nc_2606 := nb_eq (3) (3) c_2606 bv_2542 (bkc (x := 3) (c := 3) (by decide)) (by decide)
                exact W.vret hx hb hr (fun t ht hW => ⟨⟨_, rfl, ⟨v_2538, v_2539, v_2540, v_2541, v_2542, v_2543, v_2545, f_2546, (bw (0) (3) nc_2547.1 (by decide)), bv_2540, bv_2541, (bw (0) (4) nc_2606.1 (by decide)), bv_2543, (bw (0) (700) bv_2545 (by decide)), rfl⟩, by rw [ht]; exact hP, hD⟩, hS.F ht⟩) hS.2.2 dX3_readTests_76
      · skip
        refine lv_if_eq (tgt := 44) hx hb dX3_readTests_30 (by decide) (fun c_2607 => ?_) (fun c_2607 => ?_)
        · skip
          have nc_2607 := nb_eq (0) (0) c_2607 bv_2517 (bkc (x := 0) (c := 0) (by decide)) (by decide)
          refine lv_sipush (v := 1000) hx hb dX3_readTests_44 (by decide) ?_
          refine lv_aload_n hx hb dX3_readTests_47 rfl (lv_at hl 3 rfl) ?_
          refine va_ldcS (own := RX3) (tx := "mine theirs debts day known") (q := aK 5) hx hb hown (hE.2.1 ("CardBowl$Reader", 172, "mine theirs debts day known", 5) sl_CardBowl_Reader_172) dX3_readTests_48 ?_
          refine cViSm (As := [.ref (aK 5)]) (rest := [.int 1000, .ref ob_code]) ⟨hx, hb, hml, hown, hw0⟩ hA hK hP hD hS hE [true, false, false, true] (sX3_choice l G y aK aV _ ob 5 ob_town ob_code v_2398 v_2399 ob_text ob_size v_2400 v_2401 v_2402 v_2403 fob_text bv_2398 p_ob_size bv_2400 bv_2401 bv_2402 bv_2403 (by decide)) rfl ⟨(callB_of 1 hw0 (gA m_730) rfl rfl rfl (hw0 _ m_721) (hw0 _ m_773) cb_X3_choice ⟨Nat.le_of_ble_eq_true rfl, Nat.le_of_ble_eq_true rfl⟩), (hw0 _ m_774), (hw0 _ m_775)⟩ (ci := 3) (q := (RX3, TX3, 10)) rfl rfl rfl hl.1 (Nat.le_of_ble_eq_true rfl) dX3_readTests_50 ⟨Nat.le_of_ble_eq_true rfl, Nat.le_of_ble_eq_true rfl⟩ (fun r_2608 w_2608 H locs hw_2608 hP hD hS => ?_)
          obtain ⟨v_2609, v_2610, v_2611, v_2612, v_2613, v_2614, v_2615, bv_2610, bv_2612, bv_2613, bv_2614, bv_2615, er_2608, rfl⟩ := hw_2608
          subst r_2608
          have hLh_2616 : ((lenS.getD 5 0 : Nat) : Int) = 27 := by decide
          obtain ⟨hP, hD⟩ : vPD G A H [(ce_X3 ob ob_town ob_code v_2610 v_2611 ob_text ob_size v_2612 v_2613 v_2614 v_2615), (ce_X0 ob_code ob_code_lines v_2404 ob_code_paying ob_code_kind ob_code_within ob_code_start ob_code_stop ob_code_tests ob_code_facts ob_code_beyond), (ce_i700 y ob_code_tests f_2405), (ce_b1400 y ob_text fob_text)] := ⟨hP, hD⟩
          refine lv_iadd hx hb dX3_readTests_53 ?_
          refine lv_topi (fun v_2617 ev_2617 => ?_)
          exact J_54_2543 _ _ _ _ ⟨v_2617, v_2610, v_2611, v_2612, v_2613, v_2614, v_2615, bv_2610, bv_2612, bv_2613, bv_2614, bv_2615, rfl, ⟨hP, hD⟩, hS, lv_sub hl [1, 2, 3] rfl⟩
        · skip
          have nc_2607 := nb_ne (1) (1) c_2607 bv_2517 (k := 0) (by decide) (by decide)
          refine lv_aload_n hx hb dX3_readTests_33 rfl (lv_at hl 3 rfl) ?_
          refine lv_iconst (v := 0) hx hb dX3_readTests_34 (by decide) ?_
          refine lv_sipush (v := 999) hx hb dX3_readTests_35 (by decide) ?_
          refine cVim (As := [.int 0, .int 999]) (rest := [.ref ob_code]) ⟨hx, hb, hml, hown, hw0⟩ hA hK hP hD hS [true, false, false, true] (sX3_number l G y _ ob 0 999 ob_town ob_code v_2398 v_2399 ob_text ob_size v_2400 v_2401 v_2402 v_2403 fob_text bv_2398 p_ob_size bv_2400 bv_2401 bv_2402 bv_2403) rfl ⟨(callB_of 2 hw0 (gA m_752) rfl rfl rfl (hw0 _ m_721) (hw0 _ m_777) cb_X3_number ⟨Nat.le_of_ble_eq_true rfl, Nat.le_of_ble_eq_true rfl⟩), (hw0 _ m_778), (hw0 _ m_779)⟩ (ci := 3) (q := (RX3, TX3, 10)) rfl rfl rfl hl.1 (Nat.le_of_ble_eq_true rfl) dX3_readTests_38 ⟨Nat.le_of_ble_eq_true rfl, Nat.le_of_ble_eq_true rfl⟩ (fun r_2618 w_2618 H locs hw_2618 hP hD hS => ?_)
          obtain ⟨v_2619, v_2620, v_2621, v_2622, v_2623, v_2624, v_2625, bv_2619, bv_2620, bv_2622, bv_2623, bv_2624, bv_2625, er_2618, rfl⟩ := hw_2618
          subst r_2618
          obtain ⟨hP, hD⟩ : vPD G A H [(ce_X3 ob ob_town ob_code v_2620 v_2621 ob_text ob_size v_2622 v_2623 v_2624 v_2625), (ce_X0 ob_code ob_code_lines v_2404 ob_code_paying ob_code_kind ob_code_within ob_code_start ob_code_stop ob_code_tests ob_code_facts ob_code_beyond), (ce_i700 y ob_code_tests f_2405), (ce_b1400 y ob_text fob_text)] := ⟨hP, hD⟩
          refine lv_goto (tgt := 54) hx hb dX3_readTests_41 (by decide) ?_
          exact J_54_2543 _ _ _ _ ⟨v_2619, v_2620, v_2621, v_2622, v_2623, v_2624, v_2625, bv_2620, bv_2622, bv_2623, bv_2624, bv_2625, rfl, ⟨hP, hD⟩, hS, lv_sub hl [1, 2, 3] rfl⟩
    · skip
      refine lv_icmp_ne (tgt := 23) hx hb dX3_readTests_16 (by decide) (fun c_2626 => ?_) (fun c_2626 => ?_)
      · skip
        have nc_2626 := nb_ne (0) (4) c_2626 bv_2402 (k := 2) (by decide) (by decide)
        refine lv_iconst (v := 0) hx hb dX3_readTests_23 (by decide) ?_
        exact J_24_2517 _ _ _ _ ⟨0, (bw (0) (1) (bkc (x := 0) (c := 0) (by decide)) (by decide)), rfl, ⟨hP, hD⟩, hS, lv_sub hl [0, 1, 2] rfl⟩
      · skip
        have nc_2626 := nb_eq (2) (2) c_2626 bv_2402 (bkc (x := 2) (c := 2) (by decide)) (by decide)
        refine lv_iconst (v := 1) hx hb dX3_readTests_19 (by decide) ?_
        refine lv_goto (tgt := 24) hx hb dX3_readTests_20 (by decide) ?_
        exact J_24_2517 _ _ _ _ ⟨1, (bw (0) (1) (bkc (x := 1) (c := 1) (by decide)) (by decide)), rfl, ⟨hP, hD⟩, hS, lv_sub hl [0, 1, 2] rfl⟩

set_option maxHeartbeats 4000000 in
set_option maxRecDepth 100000 in
theorem sX3_readOwes (l : Launch) (G : va_G) (y : Nat → ClassId) (aK aV : Nat → Nat) (sz : Nat) (ob : Nat) (a1 : Int32) (ob_town : Nat) (ob_code : Nat) (ob_fault : Int32) (ob_place : Int32) (ob_text : Nat) (ob_size : Int32) (ob_begin : Int32) (ob_next : Int32) (ob_kind : Int32) (ob_value : Int32) (ob_code_lines : Int32) (ob_code_used : Int32) (ob_code_paying : Nat) (ob_code_kind : Nat) (ob_code_within : Nat) (ob_code_start : Nat) (ob_code_stop : Nat) (ob_code_tests : Nat) (ob_code_facts : Nat) (ob_code_beyond : Int32) (fob_code_paying : Nat → Int32) (fob_code_kind : Nat → Int32) (fob_code_within : Nat → Int32) (fob_code_start : Nat → Int32) (fob_code_stop : Nat → Int32) (fob_code_tests : Nat → Int32) (fob_text : Nat → Int32) (p_ob_code_lines : (0 : Int) ≤ ob_code_lines.toInt ∧ ob_code_lines.toInt ≤ 24) (p_ob_code_used : (0 : Int) ≤ ob_code_used.toInt ∧ ob_code_used.toInt ≤ 700) (p_fob_code_start : ∀ i, (0 : Int) ≤ (fob_code_start i).toInt ∧ (fob_code_start i).toInt ≤ 700) (p_fob_code_stop : ∀ i, (0 : Int) ≤ (fob_code_stop i).toInt ∧ (fob_code_stop i).toInt ≤ 700) (p_ob_code_beyond : (0 : Int) ≤ ob_code_beyond.toInt ∧ ob_code_beyond.toInt ≤ 1) (p_ob_fault : (0 : Int) ≤ ob_fault.toInt ∧ ob_fault.toInt ≤ 3) (p_ob_size : (0 : Int) ≤ ob_size.toInt ∧ ob_size.toInt ≤ 1400) (p_ob_begin : (0 : Int) ≤ ob_begin.toInt ∧ ob_begin.toInt ≤ 1400) (p_ob_next : (0 : Int) ≤ ob_next.toInt ∧ ob_next.toInt ≤ 1400) (p_ob_kind : (0 : Int) ≤ ob_kind.toInt ∧ ob_kind.toInt ≤ 4) (p_ob_value : (0 : Int) ≤ ob_value.toInt ∧ ob_value.toInt ≤ 1000000) : Met l yX3_readOwes (Cond.code yX3_readOwes cX3_readOwes 3 none :: wAll) ({ frames := 7, cells := 0, slots := 0, locals := 159 }) (va_Pc [.ref ob, .int a1] (kps G y aK aV sz [(ce_X3 ob ob_town ob_code ob_fault ob_place ob_text ob_size ob_begin ob_next ob_kind ob_value), (ce_X0 ob_code ob_code_lines ob_code_used ob_code_paying ob_code_kind ob_code_within ob_code_start ob_code_stop ob_code_tests ob_code_facts ob_code_beyond), (ce_i24 y ob_code_paying fob_code_paying), (ce_i24 y ob_code_kind fob_code_kind), (ce_i24 y ob_code_within fob_code_within), (ce_i24 y ob_code_start fob_code_start), (ce_i24 y ob_code_stop fob_code_stop), (ce_i700 y ob_code_tests fob_code_tests), (ce_b1400 y ob_text fob_text)])) (va_Qv (fun (w : va_W) => (∃ (v_185 : Int32) (v_186 : Int32) (v_187 : Int32) (v_188 : Int32) (v_189 : Int32) (v_190 : Int32) (v_191 : Int32) (v_192 : Int32) (f_193 : Nat → Int32) (f_194 : Nat → Int32) (f_195 : Nat → Int32) (f_196 : Nat → Int32) (f_197 : Nat → Int32) (f_198 : Nat → Int32), ((0 : Int) ≤ v_185.toInt ∧ v_185.toInt ≤ 3) ∧ ((0 : Int) ≤ v_187.toInt ∧ v_187.toInt ≤ 1400) ∧ ((0 : Int) ≤ v_188.toInt ∧ v_188.toInt ≤ 1400) ∧ ((0 : Int) ≤ v_189.toInt ∧ v_189.toInt ≤ 4) ∧ ((0 : Int) ≤ v_190.toInt ∧ v_190.toInt ≤ 1000000) ∧ ((1 : Int) ≤ v_191.toInt ∧ v_191.toInt ≤ 24) ∧ ((0 : Int) ≤ v_192.toInt ∧ v_192.toInt ≤ 700) ∧ (∀ i, (0 : Int) ≤ (f_196 i).toInt ∧ (f_196 i).toInt ≤ 700) ∧ (∀ i, (0 : Int) ≤ (f_197 i).toInt ∧ (f_197 i).toInt ≤ 700) ∧ w = [(ce_X3 ob ob_town ob_code v_185 v_186 ob_text ob_size v_187 v_188 v_189 v_190), (ce_X0 ob_code v_191 v_192 ob_code_paying ob_code_kind ob_code_within ob_code_start ob_code_stop ob_code_tests ob_code_facts ob_code_beyond), (ce_i24 y ob_code_paying f_193), (ce_i24 y ob_code_kind f_194), (ce_i24 y ob_code_within f_195), (ce_i24 y ob_code_start f_196), (ce_i24 y ob_code_stop f_197), (ce_i700 y ob_code_tests f_198), (ce_b1400 y ob_text fob_text)])) (kq G (va_A [(ce_X3 ob ob_town ob_code ob_fault ob_place ob_text ob_size ob_begin ob_next ob_kind ob_value), (ce_X0 ob_code ob_code_lines ob_code_used ob_code_paying ob_code_kind ob_code_within ob_code_start ob_code_stop ob_code_tests ob_code_facts ob_code_beyond), (ce_i24 y ob_code_paying fob_code_paying), (ce_i24 y ob_code_kind fob_code_kind), (ce_i24 y ob_code_within fob_code_within), (ce_i24 y ob_code_start fob_code_start), (ce_i24 y ob_code_stop fob_code_stop), (ce_i700 y ob_code_tests fob_code_tests), (ce_b1400 y ob_text fob_text)] sz)) (va_A [(ce_X3 ob ob_town ob_code ob_fault ob_place ob_text ob_size ob_begin ob_next ob_kind ob_value), (ce_X0 ob_code ob_code_lines ob_code_used ob_code_paying ob_code_kind ob_code_within ob_code_start ob_code_stop ob_code_tests ob_code_facts ob_code_beyond), (ce_i24 y ob_code_paying fob_code_paying), (ce_i24 y ob_code_kind fob_code_kind), (ce_i24 y ob_code_within fob_code_within), (ce_i24 y ob_code_start fob_code_start), (ce_i24 y ob_code_stop fob_code_stop), (ce_i700 y ob_code_tests fob_code_tests), (ce_b1400 y ob_text fob_text)] sz)) 0 0 (va_A [(ce_X3 ob ob_town ob_code ob_fault ob_place ob_text ob_size ob_begin ob_next ob_kind ob_value), (ce_X0 ob_code ob_code_lines ob_code_used ob_code_paying ob_code_kind ob_code_within ob_code_start ob_code_stop ob_code_tests ob_code_facts ob_code_beyond), (ce_i24 y ob_code_paying fob_code_paying), (ce_i24 y ob_code_kind fob_code_kind), (ce_i24 y ob_code_within fob_code_within), (ce_i24 y ob_code_start fob_code_start), (ce_i24 y ob_code_stop fob_code_stop), (ce_i700 y ob_code_tests fob_code_tests), (ce_b1400 y ob_text fob_text)] sz) := by
  refine Met.ofW (cc := cX3_readOwes) (maxL := 3) (ret := none) (by decide) rfl ?_
  intro p e s m args below meth c s₁ B hml hv
  obtain ⟨rfl, ⟨hsz, hP, hK, hD0⟩, hE⟩ := hv
  have hx := B.exec
  have hb := B.bytes
  have hr := B.returns
  have hw0 : ∀ w ∈ wAll, w.before _ s = true := fun w h => atoms_spec (ws := Cond.code yX3_readOwes cX3_readOwes 3 none :: wAll) B.pre w (List.mem_cons_of_mem _ h)
  have hown : s.vm.findClass RX3 = some m.cls := findClass_of_methodNamed B.named
  subst hsz
  have hD := hD0.self (sz := s.heap.size)
  generalize hAe : va_A [(ce_X3 ob ob_town ob_code ob_fault ob_place ob_text ob_size ob_begin ob_next ob_kind ob_value), (ce_X0 ob_code ob_code_lines ob_code_used ob_code_paying ob_code_kind ob_code_within ob_code_start ob_code_stop ob_code_tests ob_code_facts ob_code_beyond), (ce_i24 y ob_code_paying fob_code_paying), (ce_i24 y ob_code_kind fob_code_kind), (ce_i24 y ob_code_within fob_code_within), (ce_i24 y ob_code_start fob_code_start), (ce_i24 y ob_code_stop fob_code_stop), (ce_i700 y ob_code_tests fob_code_tests), (ce_b1400 y ob_text fob_text)] s.heap.size = A at hD hE ⊢
  have hA : ∀ q : Nat, s.heap.size ≤ q → A q := fun q h => by rw [← hAe]; exact Or.inr h
  have hS : va_S A s.heap s.heap [] := va_S.rf
  have hP : va_P G vwCl [(ce_X3 ob ob_town ob_code ob_fault ob_place ob_text ob_size ob_begin ob_next ob_kind ob_value), (ce_X0 ob_code ob_code_lines ob_code_used ob_code_paying ob_code_kind ob_code_within ob_code_start ob_code_stop ob_code_tests ob_code_facts ob_code_beyond), (ce_i24 y ob_code_paying fob_code_paying), (ce_i24 y ob_code_kind fob_code_kind), (ce_i24 y ob_code_within fob_code_within), (ce_i24 y ob_code_start fob_code_start), (ce_i24 y ob_code_stop fob_code_stop), (ce_i700 y ob_code_tests fob_code_tests), (ce_b1400 y ob_text fob_text)] s.heap := hP
  have hl := lv_entry ([.ref ob, .int a1]) (n := 3) (Nat.le_of_ble_eq_true rfl)
  rw [lg_entry_eq]
  generalize (lg_sl ([.ref ob, .int a1]) ++ List.replicate (3 - (lg_sl ([.ref ob, .int a1])).length) Slot.unset).toArray = ls at hl ⊢
  have hl : lv_has ls 3 [(0, .ref ob), (1, .int a1)] := hl
  refine lv_aload_n hx hb dX3_readOwes_0 rfl (lv_at hl 0 rfl) ?_
  refine va_get (D := G) (ci := 3) (v := .ref ob_code) (C := RX3) (T := TX3) (N := 10) hx hb hw0 inA_wsX30 hown hK.1 hP 0 rfl rfl 1 (by decide) (hw0 _ m_750) (fun _ h9 => h9) rfl dX3_readOwes_1 ?_
  refine va_get (D := G) (ci := 0) (v := .int ob_code_lines) (C := RX0) (T := TX0) (N := 10) hx hb hw0 inA_wsX00 hown hK.1 hP 1 rfl rfl 0 (by decide) (hw0 _ m_802) (fun _ h9 => h9) rfl dX3_readOwes_4 ?_
  refine lv_istore_n (lv' := [(2, .int ob_code_lines), (0, .ref ob), (1, .int a1)]) hx hb dX3_readOwes_7 rfl hl (by decide) rfl (fun ls hl => ?_)
  refine lv_iload_n hx hb dX3_readOwes_8 rfl (lv_at hl 0 rfl) ?_
  refine lv_bipush (v := 24) hx hb dX3_readOwes_9 (by decide) ?_
  refine lv_icmp_lt (tgt := 20) hx hb dX3_readOwes_11 (by decide) (fun c_1001 => ?_) (fun c_1001 => ?_)
  · skip
    have nc_1001 := nb_lt (23) (24) c_1001 p_ob_code_lines (bkc (x := 24) (c := 24) (by decide)) (by decide)
    refine lv_aload_n hx hb dX3_readOwes_20 rfl (lv_at hl 1 rfl) ?_
    refine cVvm (As := []) (rest := []) ⟨hx, hb, hml, hown, hw0⟩ hA hK hP hD hS [true, false, false, false, false, false, false, false, true] (sX3_advance l G y _ ob ob_town ob_code ob_fault ob_place ob_text ob_size ob_begin ob_next ob_kind ob_value fob_text p_ob_fault p_ob_size p_ob_begin p_ob_next p_ob_kind p_ob_value) rfl ⟨(callB_of 0 hw0 (gA m_714) rfl rfl rfl (hw0 _ m_721) (hw0 _ m_738) cb_X3_advance ⟨Nat.le_of_ble_eq_true rfl, Nat.le_of_ble_eq_true rfl⟩), (hw0 _ m_739), (hw0 _ m_740)⟩ (ci := 3) (q := (RX3, TX3, 10)) rfl rfl rfl hl.1 (Nat.le_of_ble_eq_true rfl) dX3_readOwes_21 ⟨Nat.le_of_ble_eq_true rfl, Nat.le_of_ble_eq_true rfl⟩ (fun w_1002 H locs hw_1002 hP hD hS => ?_)
    obtain ⟨v_1003, v_1004, v_1005, v_1006, bv_1003, bv_1004, bv_1005, bv_1006, rfl⟩ := hw_1002
    obtain ⟨hP, hD⟩ : vPD G A H [(ce_X3 ob ob_town ob_code ob_fault ob_place ob_text ob_size v_1003 v_1004 v_1005 v_1006), (ce_X0 ob_code ob_code_lines ob_code_used ob_code_paying ob_code_kind ob_code_within ob_code_start ob_code_stop ob_code_tests ob_code_facts ob_code_beyond), (ce_i24 y ob_code_paying fob_code_paying), (ce_i24 y ob_code_kind fob_code_kind), (ce_i24 y ob_code_within fob_code_within), (ce_i24 y ob_code_start fob_code_start), (ce_i24 y ob_code_stop fob_code_stop), (ce_i700 y ob_code_tests fob_code_tests), (ce_b1400 y ob_text fob_text)] := ⟨hP, hD⟩
    refine lv_aload_n hx hb dX3_readOwes_24 rfl (lv_at hl 1 rfl) ?_
    refine va_ldcS (own := RX3) (tx := "owes") (q := aK 1) hx hb hown (hE.2.1 ("CardBowl$Reader", 145, "owes", 1) sl_CardBowl_Reader_145) dX3_readOwes_25 ?_
    refine cViSm (As := [.ref (aK 1)]) (rest := []) ⟨hx, hb, hml, hown, hw0⟩ hA hK hP hD hS hE [true, false, false, false, false, false, false, false, true] (sX3_choice l G y aK aV _ ob 1 ob_town ob_code ob_fault ob_place ob_text ob_size v_1003 v_1004 v_1005 v_1006 fob_text p_ob_fault p_ob_size bv_1003 bv_1004 bv_1005 bv_1006 (by decide)) rfl ⟨(callB_of 1 hw0 (gA m_730) rfl rfl rfl (hw0 _ m_721) (hw0 _ m_773) cb_X3_choice ⟨Nat.le_of_ble_eq_true rfl, Nat.le_of_ble_eq_true rfl⟩), (hw0 _ m_774), (hw0 _ m_775)⟩ (ci := 3) (q := (RX3, TX3, 10)) rfl rfl rfl hl.1 (Nat.le_of_ble_eq_true rfl) dX3_readOwes_27 ⟨Nat.le_of_ble_eq_true rfl, Nat.le_of_ble_eq_true rfl⟩ (fun r_1007 w_1007 H locs hw_1007 hP hD hS => ?_)
    obtain ⟨v_1008, v_1009, v_1010, v_1011, v_1012, v_1013, v_1014, bv_1009, bv_1011, bv_1012, bv_1013, bv_1014, er_1007, rfl⟩ := hw_1007
    subst r_1007
    have hLh_1015 : ((lenS.getD 1 0 : Nat) : Int) = 4 := by decide
    obtain ⟨hP, hD⟩ : vPD G A H [(ce_X3 ob ob_town ob_code v_1009 v_1010 ob_text ob_size v_1011 v_1012 v_1013 v_1014), (ce_X0 ob_code ob_code_lines ob_code_used ob_code_paying ob_code_kind ob_code_within ob_code_start ob_code_stop ob_code_tests ob_code_facts ob_code_beyond), (ce_i24 y ob_code_paying fob_code_paying), (ce_i24 y ob_code_kind fob_code_kind), (ce_i24 y ob_code_within fob_code_within), (ce_i24 y ob_code_start fob_code_start), (ce_i24 y ob_code_stop fob_code_stop), (ce_i700 y ob_code_tests fob_code_tests), (ce_b1400 y ob_text fob_text)] := ⟨hP, hD⟩
    refine lv_pop hx hb dX3_readOwes_30 rfl ?_
    refine lv_aload_n hx hb dX3_readOwes_31 rfl (lv_at hl 1 rfl) ?_
    refine va_get (D := G) (ci := 3) (v := .ref ob_code) (C := RX3) (T := TX3) (N := 10) hx hb hw0 inA_wsX30 hown hK.1 hP 0 rfl rfl 1 (by decide) (hw0 _ m_750) (fun _ h9 => h9) rfl dX3_readOwes_32 ?_
    refine va_get (D := G) (ci := 0) (v := .ref ob_code_paying) (C := RX0) (T := TX0) (N := 10) hx hb hw0 inA_wsX00 hown hK.1 hP 1 rfl rfl 2 (by decide) (hw0 _ m_803) (fun _ h9 => h9) rfl dX3_readOwes_35 ?_
    refine lv_iload_n hx hb dX3_readOwes_38 rfl (lv_at hl 0 rfl) ?_
    refine lv_iload_n hx hb dX3_readOwes_39 rfl (lv_at hl 2 rfl) ?_
    refine va_iast hx hb hK.1 hP hD hS 2 1 rfl rfl (vi nc_1001.1 (by decide)) dX3_readOwes_40 (fun H locs hP hD hS => ?_)
    generalize hf_1016 : (upd fob_code_paying (ob_code_lines : Int32).toNatClampNeg a1) = f_1016 at hP hD
    obtain ⟨hP, hD⟩ : vPD G A H [(ce_X3 ob ob_town ob_code v_1009 v_1010 ob_text ob_size v_1011 v_1012 v_1013 v_1014), (ce_X0 ob_code ob_code_lines ob_code_used ob_code_paying ob_code_kind ob_code_within ob_code_start ob_code_stop ob_code_tests ob_code_facts ob_code_beyond), (ce_i24 y ob_code_paying f_1016), (ce_i24 y ob_code_kind fob_code_kind), (ce_i24 y ob_code_within fob_code_within), (ce_i24 y ob_code_start fob_code_start), (ce_i24 y ob_code_stop fob_code_stop), (ce_i700 y ob_code_tests fob_code_tests), (ce_b1400 y ob_text fob_text)] := ⟨hP, hD⟩
    refine lv_aload_n hx hb dX3_readOwes_41 rfl (lv_at hl 1 rfl) ?_
    refine va_get (D := G) (ci := 3) (v := .ref ob_code) (C := RX3) (T := TX3) (N := 10) hx hb hw0 inA_wsX30 hown hK.1 hP 0 rfl rfl 1 (by decide) (hw0 _ m_750) (fun _ h9 => h9) rfl dX3_readOwes_42 ?_
    refine va_get (D := G) (ci := 0) (v := .ref ob_code_kind) (C := RX0) (T := TX0) (N := 10) hx hb hw0 inA_wsX00 hown hK.1 hP 1 rfl rfl 3 (by decide) (hw0 _ m_804) (fun _ h9 => h9) rfl dX3_readOwes_45 ?_
    refine lv_iload_n hx hb dX3_readOwes_48 rfl (lv_at hl 0 rfl) ?_
    refine lv_aload_n hx hb dX3_readOwes_49 rfl (lv_at hl 1 rfl) ?_
    refine va_ldcS (own := RX3) (tx := "sent card call dinner") (q := aK 2) hx hb hown (hE.2.1 ("CardBowl$Reader", 152, "sent card call dinner", 2) sl_CardBowl_Reader_152) dX3_readOwes_50 ?_
    refine cViSm (As := [.ref (aK 2)]) (rest := [.int ob_code_lines, .ref ob_code_kind]) ⟨hx, hb, hml, hown, hw0⟩ hA hK hP hD hS hE [true, false, false, false, false, false, false, false, true] (sX3_choice l G y aK aV _ ob 2 ob_town ob_code v_1009 v_1010 ob_text ob_size v_1011 v_1012 v_1013 v_1014 fob_text bv_1009 p_ob_size bv_1011 bv_1012 bv_1013 bv_1014 (by decide)) rfl ⟨(callB_of 1 hw0 (gA m_730) rfl rfl rfl (hw0 _ m_721) (hw0 _ m_773) cb_X3_choice ⟨Nat.le_of_ble_eq_true rfl, Nat.le_of_ble_eq_true rfl⟩), (hw0 _ m_774), (hw0 _ m_775)⟩ (ci := 3) (q := (RX3, TX3, 10)) rfl rfl rfl hl.1 (Nat.le_of_ble_eq_true rfl) dX3_readOwes_52 ⟨Nat.le_of_ble_eq_true rfl, Nat.le_of_ble_eq_true rfl⟩ (fun r_1017 w_1017 H locs hw_1017 hP hD hS => ?_)
    obtain ⟨v_1018, v_1019, v_1020, v_1021, v_1022, v_1023, v_1024, bv_1019, bv_1021, bv_1022, bv_1023, bv_1024, er_1017, rfl⟩ := hw_1017
    subst r_1017
    have hLh_1025 : ((lenS.getD 2 0 : Nat) : Int) = 21 := by decide
    obtain ⟨hP, hD⟩ : vPD G A H [(ce_X3 ob ob_town ob_code v_1019 v_1020 ob_text ob_size v_1021 v_1022 v_1023 v_1024), (ce_X0 ob_code ob_code_lines ob_code_used ob_code_paying ob_code_kind ob_code_within ob_code_start ob_code_stop ob_code_tests ob_code_facts ob_code_beyond), (ce_i24 y ob_code_paying f_1016), (ce_i24 y ob_code_kind fob_code_kind), (ce_i24 y ob_code_within fob_code_within), (ce_i24 y ob_code_start fob_code_start), (ce_i24 y ob_code_stop fob_code_stop), (ce_i700 y ob_code_tests fob_code_tests), (ce_b1400 y ob_text fob_text)] := ⟨hP, hD⟩
    refine va_iast hx hb hK.1 hP hD hS 3 1 rfl rfl (vi nc_1001.1 (by decide)) dX3_readOwes_55 (fun H locs hP hD hS => ?_)
    generalize hf_1026 : (upd fob_code_kind (ob_code_lines : Int32).toNatClampNeg v_1018) = f_1026 at hP hD
    obtain ⟨hP, hD⟩ : vPD G A H [(ce_X3 ob ob_town ob_code v_1019 v_1020 ob_text ob_size v_1021 v_1022 v_1023 v_1024), (ce_X0 ob_code ob_code_lines ob_code_used ob_code_paying ob_code_kind ob_code_within ob_code_start ob_code_stop ob_code_tests ob_code_facts ob_code_beyond), (ce_i24 y ob_code_paying f_1016), (ce_i24 y ob_code_kind f_1026), (ce_i24 y ob_code_within fob_code_within), (ce_i24 y ob_code_start fob_code_start), (ce_i24 y ob_code_stop fob_code_stop), (ce_i700 y ob_code_tests fob_code_tests), (ce_b1400 y ob_text fob_text)] := ⟨hP, hD⟩
    refine lv_aload_n hx hb dX3_readOwes_56 rfl (lv_at hl 1 rfl) ?_
    refine va_ldcS (own := RX3) (tx := "within") (q := aK 3) hx hb hown (hE.2.1 ("CardBowl$Reader", 154, "within", 3) sl_CardBowl_Reader_154) dX3_readOwes_57 ?_
    refine cViSm (As := [.ref (aK 3)]) (rest := []) ⟨hx, hb, hml, hown, hw0⟩ hA hK hP hD hS hE [true, false, false, false, false, false, false, false, true] (sX3_choice l G y aK aV _ ob 3 ob_town ob_code v_1019 v_1020 ob_text ob_size v_1021 v_1022 v_1023 v_1024 fob_text bv_1019 p_ob_size bv_1021 bv_1022 bv_1023 bv_1024 (by decide)) rfl ⟨(callB_of 1 hw0 (gA m_730) rfl rfl rfl (hw0 _ m_721) (hw0 _ m_773) cb_X3_choice ⟨Nat.le_of_ble_eq_true rfl, Nat.le_of_ble_eq_true rfl⟩), (hw0 _ m_774), (hw0 _ m_775)⟩ (ci := 3) (q := (RX3, TX3, 10)) rfl rfl rfl hl.1 (Nat.le_of_ble_eq_true rfl) dX3_readOwes_59 ⟨Nat.le_of_ble_eq_true rfl, Nat.le_of_ble_eq_true rfl⟩ (fun r_1027 w_1027 H locs hw_1027 hP hD hS => ?_)
    obtain ⟨v_1028, v_1029, v_1030, v_1031, v_1032, v_1033, v_1034, bv_1029, bv_1031, bv_1032, bv_1033, bv_1034, er_1027, rfl⟩ := hw_1027
    subst r_1027
    have hLh_1035 : ((lenS.getD 3 0 : Nat) : Int) = 6 := by decide
    obtain ⟨hP, hD⟩ : vPD G A H [(ce_X3 ob ob_town ob_code v_1029 v_1030 ob_text ob_size v_1031 v_1032 v_1033 v_1034), (ce_X0 ob_code ob_code_lines ob_code_used ob_code_paying ob_code_kind ob_code_within ob_code_start ob_code_stop ob_code_tests ob_code_facts ob_code_beyond), (ce_i24 y ob_code_paying f_1016), (ce_i24 y ob_code_kind f_1026), (ce_i24 y ob_code_within fob_code_within), (ce_i24 y ob_code_start fob_code_start), (ce_i24 y ob_code_stop fob_code_stop), (ce_i700 y ob_code_tests fob_code_tests), (ce_b1400 y ob_text fob_text)] := ⟨hP, hD⟩
    refine lv_pop hx hb dX3_readOwes_62 rfl ?_
    refine lv_aload_n hx hb dX3_readOwes_63 rfl (lv_at hl 1 rfl) ?_
    refine va_get (D := G) (ci := 3) (v := .ref ob_code) (C := RX3) (T := TX3) (N := 10) hx hb hw0 inA_wsX30 hown hK.1 hP 0 rfl rfl 1 (by decide) (hw0 _ m_750) (fun _ h9 => h9) rfl dX3_readOwes_64 ?_
    refine va_get (D := G) (ci := 0) (v := .ref ob_code_within) (C := RX0) (T := TX0) (N := 10) hx hb hw0 inA_wsX00 hown hK.1 hP 1 rfl rfl 4 (by decide) (hw0 _ m_805) (fun _ h9 => h9) rfl dX3_readOwes_67 ?_
    refine lv_iload_n hx hb dX3_readOwes_70 rfl (lv_at hl 0 rfl) ?_
    refine lv_aload_n hx hb dX3_readOwes_71 rfl (lv_at hl 1 rfl) ?_
    refine lv_iconst (v := 0) hx hb dX3_readOwes_72 (by decide) ?_
    refine lv_bipush (v := 99) hx hb dX3_readOwes_73 (by decide) ?_
    refine cVim (As := [.int 0, .int 99]) (rest := [.int ob_code_lines, .ref ob_code_within]) ⟨hx, hb, hml, hown, hw0⟩ hA hK hP hD hS [true, false, false, false, false, false, false, false, true] (sX3_number l G y _ ob 0 99 ob_town ob_code v_1029 v_1030 ob_text ob_size v_1031 v_1032 v_1033 v_1034 fob_text bv_1029 p_ob_size bv_1031 bv_1032 bv_1033 bv_1034) rfl ⟨(callB_of 2 hw0 (gA m_752) rfl rfl rfl (hw0 _ m_721) (hw0 _ m_777) cb_X3_number ⟨Nat.le_of_ble_eq_true rfl, Nat.le_of_ble_eq_true rfl⟩), (hw0 _ m_778), (hw0 _ m_779)⟩ (ci := 3) (q := (RX3, TX3, 10)) rfl rfl rfl hl.1 (Nat.le_of_ble_eq_true rfl) dX3_readOwes_75 ⟨Nat.le_of_ble_eq_true rfl, Nat.le_of_ble_eq_true rfl⟩ (fun r_1036 w_1036 H locs hw_1036 hP hD hS => ?_)
    obtain ⟨v_1037, v_1038, v_1039, v_1040, v_1041, v_1042, v_1043, bv_1037, bv_1038, bv_1040, bv_1041, bv_1042, bv_1043, er_1036, rfl⟩ := hw_1036
    subst r_1036
    obtain ⟨hP, hD⟩ : vPD G A H [(ce_X3 ob ob_town ob_code v_1038 v_1039 ob_text ob_size v_1040 v_1041 v_1042 v_1043), (ce_X0 ob_code ob_code_lines ob_code_used ob_code_paying ob_code_kind ob_code_within ob_code_start ob_code_stop ob_code_tests ob_code_facts ob_code_beyond), (ce_i24 y ob_code_paying f_1016), (ce_i24 y ob_code_kind f_1026), (ce_i24 y ob_code_within fob_code_within), (ce_i24 y ob_code_start fob_code_start), (ce_i24 y ob_code_stop fob_code_stop), (ce_i700 y ob_code_tests fob_code_tests), (ce_b1400 y ob_text fob_text)] := ⟨hP, hD⟩
    refine va_iast hx hb hK.1 hP hD hS 4 1 rfl rfl (vi nc_1001.1 (by decide)) dX3_readOwes_78 (fun H locs hP hD hS => ?_)
    generalize hf_1044 : (upd fob_code_within (ob_code_lines : Int32).toNatClampNeg v_1037) = f_1044 at hP hD
    obtain ⟨hP, hD⟩ : vPD G A H [(ce_X3 ob ob_town ob_code v_1038 v_1039 ob_text ob_size v_1040 v_1041 v_1042 v_1043), (ce_X0 ob_code ob_code_lines ob_code_used ob_code_paying ob_code_kind ob_code_within ob_code_start ob_code_stop ob_code_tests ob_code_facts ob_code_beyond), (ce_i24 y ob_code_paying f_1016), (ce_i24 y ob_code_kind f_1026), (ce_i24 y ob_code_within f_1044), (ce_i24 y ob_code_start fob_code_start), (ce_i24 y ob_code_stop fob_code_stop), (ce_i700 y ob_code_tests fob_code_tests), (ce_b1400 y ob_text fob_text)] := ⟨hP, hD⟩
    refine lv_aload_n hx hb dX3_readOwes_79 rfl (lv_at hl 1 rfl) ?_
    refine va_get (D := G) (ci := 3) (v := .ref ob_code) (C := RX3) (T := TX3) (N := 10) hx hb hw0 inA_wsX30 hown hK.1 hP 0 rfl rfl 1 (by decide) (hw0 _ m_750) (fun _ h9 => h9) rfl dX3_readOwes_80 ?_
    refine va_get (D := G) (ci := 0) (v := .ref ob_code_start) (C := RX0) (T := TX0) (N := 10) hx hb hw0 inA_wsX00 hown hK.1 hP 1 rfl rfl 5 (by decide) (hw0 _ m_806) (fun _ h9 => h9) rfl dX3_readOwes_83 ?_
    refine lv_iload_n hx hb dX3_readOwes_86 rfl (lv_at hl 0 rfl) ?_
    refine lv_aload_n hx hb dX3_readOwes_87 rfl (lv_at hl 1 rfl) ?_
    refine va_get (D := G) (ci := 3) (v := .ref ob_code) (C := RX3) (T := TX3) (N := 10) hx hb hw0 inA_wsX30 hown hK.1 hP 0 rfl rfl 1 (by decide) (hw0 _ m_750) (fun _ h9 => h9) rfl dX3_readOwes_88 ?_
    refine va_get (D := G) (ci := 0) (v := .int ob_code_used) (C := RX0) (T := TX0) (N := 10) hx hb hw0 inA_wsX00 hown hK.1 hP 1 rfl rfl 1 (by decide) (hw0 _ m_807) (fun _ h9 => h9) rfl dX3_readOwes_91 ?_
    refine va_iast hx hb hK.1 hP hD hS 5 1 rfl rfl (vi nc_1001.1 (by decide)) dX3_readOwes_94 (fun H locs hP hD hS => ?_)
    generalize hf_1045 : (upd fob_code_start (ob_code_lines : Int32).toNatClampNeg ob_code_used) = f_1045 at hP hD
    have bf_1045 : ∀ i, (0 : Int) ≤ (f_1045 i).toInt ∧ (f_1045 i).toInt ≤ 700 := hf_1045 ▸ up_b p_fob_code_start p_ob_code_used
    obtain ⟨hP, hD⟩ : vPD G A H [(ce_X3 ob ob_town ob_code v_1038 v_1039 ob_text ob_size v_1040 v_1041 v_1042 v_1043), (ce_X0 ob_code ob_code_lines ob_code_used ob_code_paying ob_code_kind ob_code_within ob_code_start ob_code_stop ob_code_tests ob_code_facts ob_code_beyond), (ce_i24 y ob_code_paying f_1016), (ce_i24 y ob_code_kind f_1026), (ce_i24 y ob_code_within f_1044), (ce_i24 y ob_code_start f_1045), (ce_i24 y ob_code_stop fob_code_stop), (ce_i700 y ob_code_tests fob_code_tests), (ce_b1400 y ob_text fob_text)] := ⟨hP, hD⟩
    refine lv_aload_n hx hb dX3_readOwes_95 rfl (lv_at hl 1 rfl) ?_
    refine va_ldcS (own := RX3) (tx := "if") (q := aK 4) hx hb hown (hE.2.1 ("CardBowl$Reader", 164, "if", 4) sl_CardBowl_Reader_164) dX3_readOwes_96 ?_
    refine cutW 108 (fun H locs ls st => ∃ (v_1063 : Int32) (v_1064 : Int32) (v_1065 : Int32) (v_1066 : Int32) (v_1067 : Int32) (v_1068 : Int32) (v_1069 : Int32) (f_1070 : Nat → Int32), ((0 : Int) ≤ v_1063.toInt ∧ v_1063.toInt ≤ 3) ∧ ((0 : Int) ≤ v_1065.toInt ∧ v_1065.toInt ≤ 1400) ∧ ((0 : Int) ≤ v_1066.toInt ∧ v_1066.toInt ≤ 1400) ∧ ((0 : Int) ≤ v_1067.toInt ∧ v_1067.toInt ≤ 4) ∧ ((0 : Int) ≤ v_1068.toInt ∧ v_1068.toInt ≤ 1000000) ∧ ((0 : Int) ≤ v_1069.toInt ∧ v_1069.toInt ≤ 700) ∧ st = [] ∧ vPD G A H [(ce_X3 ob ob_town ob_code v_1063 v_1064 ob_text ob_size v_1065 v_1066 v_1067 v_1068), (ce_X0 ob_code ob_code_lines v_1069 ob_code_paying ob_code_kind ob_code_within ob_code_start ob_code_stop ob_code_tests ob_code_facts ob_code_beyond), (ce_i24 y ob_code_paying f_1016), (ce_i24 y ob_code_kind f_1026), (ce_i24 y ob_code_within f_1044), (ce_i24 y ob_code_start f_1045), (ce_i24 y ob_code_stop fob_code_stop), (ce_i700 y ob_code_tests f_1070), (ce_b1400 y ob_text fob_text)] ∧ va_S A s.heap H locs ∧ lv_has ls 3 [(2, .int ob_code_lines), (0, .ref ob)]) ?_ (fun J_108_1070 => ?_)
    · rintro H locs ls st ⟨v_1063, v_1064, v_1065, v_1066, v_1067, v_1068, v_1069, f_1070, bv_1063, bv_1065, bv_1066, bv_1067, bv_1068, bv_1069, rfl, ⟨hP, hD⟩, hS, hl⟩
      refine lv_aload_n hx hb dX3_readOwes_108 rfl (lv_at hl 1 rfl) ?_
      refine va_get (D := G) (ci := 3) (v := .ref ob_code) (C := RX3) (T := TX3) (N := 10) hx hb hw0 inA_wsX30 hown hK.1 hP 0 rfl rfl 1 (by decide) (hw0 _ m_750) (fun _ h9 => h9) rfl dX3_readOwes_109 ?_
      refine va_get (D := G) (ci := 0) (v := .ref ob_code_stop) (C := RX0) (T := TX0) (N := 10) hx hb hw0 inA_wsX00 hown hK.1 hP 1 rfl rfl 6 (by decide) (hw0 _ m_811) (fun _ h9 => h9) rfl dX3_readOwes_112 ?_
      refine lv_iload_n hx hb dX3_readOwes_115 rfl (lv_at hl 0 rfl) ?_
      refine lv_aload_n hx hb dX3_readOwes_116 rfl (lv_at hl 1 rfl) ?_
      refine va_get (D := G) (ci := 3) (v := .ref ob_code) (C := RX3) (T := TX3) (N := 10) hx hb hw0 inA_wsX30 hown hK.1 hP 0 rfl rfl 1 (by decide) (hw0 _ m_750) (fun _ h9 => h9) rfl dX3_readOwes_117 ?_
      refine va_get (D := G) (ci := 0) (v := .int v_1069) (C := RX0) (T := TX0) (N := 10) hx hb hw0 inA_wsX00 hown hK.1 hP 1 rfl rfl 1 (by decide) (hw0 _ m_807) (fun _ h9 => h9) rfl dX3_readOwes_120 ?_
      refine va_iast hx hb hK.1 hP hD hS 6 1 rfl rfl (vi nc_1001.1 (by decide)) dX3_readOwes_123 (fun H locs hP hD hS => ?_)
      generalize hf_1071 : (upd fob_code_stop (ob_code_lines : Int32).toNatClampNeg v_1069) = f_1071 at hP hD
      have bf_1071 : ∀ i, (0 : Int) ≤ (f_1071 i).toInt ∧ (f_1071 i).toInt ≤ 700 := hf_1071 ▸ up_b p_fob_code_stop bv_1069
      obtain ⟨hP, hD⟩ : vPD G A H [(ce_X3 ob ob_town ob_code v_1063 v_1064 ob_text ob_size v_1065 v_1066 v_1067 v_1068), (ce_X0 ob_code ob_code_lines v_1069 ob_code_paying ob_code_kind ob_code_within ob_code_start ob_code_stop ob_code_tests ob_code_facts ob_code_beyond), (ce_i24 y ob_code_paying f_1016), (ce_i24 y ob_code_kind f_1026), (ce_i24 y ob_code_within f_1044), (ce_i24 y ob_code_start f_1045), (ce_i24 y ob_code_stop f_1071), (ce_i700 y ob_code_tests f_1070), (ce_b1400 y ob_text fob_text)] := ⟨hP, hD⟩
      refine lv_aload_n hx hb dX3_readOwes_124 rfl (lv_at hl 1 rfl) ?_
      refine va_get (D := G) (ci := 3) (v := .ref ob_code) (C := RX3) (T := TX3) (N := 10) hx hb hw0 inA_wsX30 hown hK.1 hP 0 rfl rfl 1 (by decide) (hw0 _ m_750) (fun _ h9 => h9) rfl dX3_readOwes_125 ?_
      refine lv_dup hx hb dX3_readOwes_128 rfl ?_
      refine va_get (D := G) (ci := 0) (v := .int ob_code_lines) (C := RX0) (T := TX0) (N := 10) hx hb hw0 inA_wsX00 hown hK.1 hP 1 rfl rfl 0 (by decide) (hw0 _ m_802) (fun _ h9 => h9) rfl dX3_readOwes_129 ?_
      refine lv_iconst (v := 1) hx hb dX3_readOwes_132 (by decide) ?_
      refine lv_iadd hx hb dX3_readOwes_133 ?_
      refine lv_topi (fun v_1072 ev_1072 => ?_)
      have qv_1072 := ba_add ev_1072 nc_1001.1 (bkc (x := 1) (c := 1) (by decide)) (by decide)
      have bv_1072 : (1 : Int) ≤ v_1072.toInt ∧ v_1072.toInt ≤ 24 := bq_add qv_1072 nc_1001.1 (bkc (x := 1) (c := 1) (by decide)) _ _ (by decide)
      have qv_1072 : v_1072.toInt = ob_code_lines.toInt + (1) := qv_1072
      refine va_put (D := G) (ci := 0) (v := .int v_1072) (ty := .int) (C := RX0) (T := TX0) (N := 10) hx hb hw0 inA_wsX00 tyX0 tyX0_ok nmX0 hown hK.1 hP hD hS 1 rfl rfl 0 (by decide) (hw0 _ m_802) (fun _ h9 => h9) rfl fd_X0_0 rfl rfl (Nat.le_of_ble_eq_true rfl) dX3_readOwes_134 (fun H locs hP hD hS => ?_)
      obtain ⟨hP, hD⟩ : vPD G A H [(ce_X3 ob ob_town ob_code v_1063 v_1064 ob_text ob_size v_1065 v_1066 v_1067 v_1068), (ce_X0 ob_code v_1072 v_1069 ob_code_paying ob_code_kind ob_code_within ob_code_start ob_code_stop ob_code_tests ob_code_facts ob_code_beyond), (ce_i24 y ob_code_paying f_1016), (ce_i24 y ob_code_kind f_1026), (ce_i24 y ob_code_within f_1044), (ce_i24 y ob_code_start f_1045), (ce_i24 y ob_code_stop f_1071), (ce_i700 y ob_code_tests f_1070), (ce_b1400 y ob_text fob_text)] := ⟨hP, hD⟩
      exact W.vret hx hb hr (fun t ht hW => ⟨⟨_, rfl, ⟨v_1063, v_1064, v_1065, v_1066, v_1067, v_1068, v_1072, v_1069, f_1016, f_1026, f_1044, f_1045, f_1071, f_1070, bv_1063, bv_1065, bv_1066, bv_1067, bv_1068, bv_1072, bv_1069, bf_1045, bf_1071, rfl⟩, by rw [ht]; exact hP, hD⟩, hS.F ht⟩) hS.2.2 dX3_readOwes_137
    · skip
      refine cViSm (As := [.ref (aK 4)]) (rest := []) ⟨hx, hb, hml, hown, hw0⟩ hA hK hP hD hS hE [true, false, false, false, false, false, false, false, true] (sX3_takes l G y aK aV _ ob 4 ob_town ob_code v_1038 v_1039 ob_text ob_size v_1040 v_1041 v_1042 v_1043 fob_text bv_1038 p_ob_size bv_1040 bv_1041 bv_1042 bv_1043 (by decide)) rfl ⟨(callB_of 1 hw0 (gA m_820) rfl rfl rfl (hw0 _ m_721) (hw0 _ m_786) cb_X3_takes ⟨Nat.le_of_ble_eq_true rfl, Nat.le_of_ble_eq_true rfl⟩), (hw0 _ m_787), (hw0 _ m_788)⟩ (ci := 3) (q := (RX3, TX3, 10)) rfl rfl rfl hl.1 (Nat.le_of_ble_eq_true rfl) dX3_readOwes_98 ⟨Nat.le_of_ble_eq_true rfl, Nat.le_of_ble_eq_true rfl⟩ (fun r_1073 w_1073 H locs hw_1073 hP hD hS => ?_)
      rcases hw_1073 with ⟨rfl, rfl⟩ | ⟨v_1074, v_1075, v_1076, v_1077, bv_1074, bv_1075, bv_1076, bv_1077, h_1078, rfl, rfl⟩
      · skip
        have hLh_1079 : ((lenS.getD 4 0 : Nat) : Int) = 2 := by decide
        obtain ⟨hP, hD⟩ : vPD G A H [(ce_X3 ob ob_town ob_code v_1038 v_1039 ob_text ob_size v_1040 v_1041 v_1042 v_1043), (ce_X0 ob_code ob_code_lines ob_code_used ob_code_paying ob_code_kind ob_code_within ob_code_start ob_code_stop ob_code_tests ob_code_facts ob_code_beyond), (ce_i24 y ob_code_paying f_1016), (ce_i24 y ob_code_kind f_1026), (ce_i24 y ob_code_within f_1044), (ce_i24 y ob_code_start f_1045), (ce_i24 y ob_code_stop fob_code_stop), (ce_i700 y ob_code_tests fob_code_tests), (ce_b1400 y ob_text fob_text)] := ⟨hP, hD⟩
        refine lv_if_eq (tgt := 108) hx hb dX3_readOwes_101 (by decide) (fun _ => ?_) (fun c9 => absurd (by decide) c9)
        exact J_108_1070 _ _ _ _ ⟨v_1038, v_1039, v_1040, v_1041, v_1042, v_1043, ob_code_used, fob_code_tests, bv_1038, bv_1040, bv_1041, bv_1042, bv_1043, p_ob_code_used, rfl, ⟨hP, hD⟩, hS, lv_sub hl [0, 1] rfl⟩
      · skip
        have hLh_1080 : ((lenS.getD 4 0 : Nat) : Int) = 2 := by decide
        obtain ⟨hP, hD⟩ : vPD G A H [(ce_X3 ob ob_town ob_code v_1038 v_1039 ob_text ob_size v_1074 v_1075 v_1076 v_1077), (ce_X0 ob_code ob_code_lines ob_code_used ob_code_paying ob_code_kind ob_code_within ob_code_start ob_code_stop ob_code_tests ob_code_facts ob_code_beyond), (ce_i24 y ob_code_paying f_1016), (ce_i24 y ob_code_kind f_1026), (ce_i24 y ob_code_within f_1044), (ce_i24 y ob_code_start f_1045), (ce_i24 y ob_code_stop fob_code_stop), (ce_i700 y ob_code_tests fob_code_tests), (ce_b1400 y ob_text fob_text)] := ⟨hP, hD⟩
        refine lv_if_eq (tgt := 108) hx hb dX3_readOwes_101 (by decide) (fun c9 => absurd c9 (by decide)) (fun _ => ?_)
        refine lv_aload_n hx hb dX3_readOwes_104 rfl (lv_at hl 1 rfl) ?_
        refine cVvSm (As := []) (rest := []) ⟨hx, hb, hml, hown, hw0⟩ hA hK hP hD hS hE [true, true, false, false, false, false, false, true, true] (sX3_readTests l G y aK aV _ ob ob_town ob_code v_1038 v_1039 ob_text ob_size v_1074 v_1075 v_1076 v_1077 ob_code_lines ob_code_used ob_code_paying ob_code_kind ob_code_within ob_code_start ob_code_stop ob_code_tests ob_code_facts ob_code_beyond fob_code_tests fob_text (bw (0) (24) nc_1001.1 (by decide)) p_ob_code_used p_ob_code_beyond (bw (0) (3) h_1078 (by decide)) p_ob_size bv_1074 bv_1075 bv_1076 bv_1077) rfl ⟨(callB_of 0 hw0 (gA m_812) rfl rfl rfl (hw0 _ m_721) (hw0 _ m_808) cb_X3_readTests ⟨Nat.le_of_ble_eq_true rfl, Nat.le_of_ble_eq_true rfl⟩), (hw0 _ m_809), (hw0 _ m_810)⟩ (ci := 3) (q := (RX3, TX3, 10)) rfl rfl rfl hl.1 (Nat.le_of_ble_eq_true rfl) dX3_readOwes_105 ⟨Nat.le_of_ble_eq_true rfl, Nat.le_of_ble_eq_true rfl⟩ (fun w_1081 H locs hw_1081 hP hD hS => ?_)
        obtain ⟨v_1082, v_1083, v_1084, v_1085, v_1086, v_1087, v_1088, f_1089, bv_1082, bv_1084, bv_1085, bv_1086, bv_1087, bv_1088, rfl⟩ := hw_1081
        obtain ⟨hP, hD⟩ : vPD G A H [(ce_X3 ob ob_town ob_code v_1082 v_1083 ob_text ob_size v_1084 v_1085 v_1086 v_1087), (ce_X0 ob_code ob_code_lines v_1088 ob_code_paying ob_code_kind ob_code_within ob_code_start ob_code_stop ob_code_tests ob_code_facts ob_code_beyond), (ce_i24 y ob_code_paying f_1016), (ce_i24 y ob_code_kind f_1026), (ce_i24 y ob_code_within f_1044), (ce_i24 y ob_code_start f_1045), (ce_i24 y ob_code_stop fob_code_stop), (ce_i700 y ob_code_tests f_1089), (ce_b1400 y ob_text fob_text)] := ⟨hP, hD⟩
        exact J_108_1070 _ _ _ _ ⟨v_1082, v_1083, v_1084, v_1085, v_1086, v_1087, v_1088, f_1089, bv_1082, bv_1084, bv_1085, bv_1086, bv_1087, bv_1088, rfl, ⟨hP, hD⟩, hS, lv_sub hl [0, 1] rfl⟩
  · skip
    have nc_1001 := nb_nlt (24) (24) c_1001 (bkc (x := 24) (c := 24) (by decide)) p_ob_code_lines (by decide)
    refine lv_aload_n hx hb dX3_readOwes_14 rfl (lv_at hl 1 rfl) ?_
    refine lv_iconst (v := 3) hx hb dX3_readOwes_15 (by decide) ?_
    refine cVvm (As := [.int 3]) (rest := []) ⟨hx, hb, hml, hown, hw0⟩ hA hK hP hD hS [true] (sX3_refuse l G y _ ob 3 ob_town ob_code ob_fault ob_place ob_text ob_size ob_begin ob_next ob_kind ob_value p_ob_fault p_ob_size p_ob_begin p_ob_next p_ob_kind p_ob_value (bw (1) (3) (bkc (x := 3) (c := 3) (by decide)) (by decide))) rfl ⟨(callB_of 1 hw0 (gA m_816) rfl rfl rfl (hw0 _ m_721) (hw0 _ m_734) cb_X3_refuse ⟨Nat.le_of_ble_eq_true rfl, Nat.le_of_ble_eq_true rfl⟩), (hw0 _ m_735), (hw0 _ m_736)⟩ (ci := 3) (q := (RX3, TX3, 10)) rfl rfl rfl hl.1 (Nat.le_of_ble_eq_true rfl) dX3_readOwes_16 ⟨Nat.le_of_ble_eq_true rfl, Nat.le_of_ble_eq_true rfl⟩ (fun w_1090 H locs hw_1090 hP hD hS => ?_)
    obtain ⟨v_1091, v_1092, bv_1091, rfl⟩ := hw_1090
    obtain ⟨hP, hD⟩ : vPD G A H [(ce_X3 ob ob_town ob_code v_1091 v_1092 ob_text ob_size ob_begin ob_next ob_kind ob_value), (ce_X0 ob_code ob_code_lines ob_code_used ob_code_paying ob_code_kind ob_code_within ob_code_start ob_code_stop ob_code_tests ob_code_facts ob_code_beyond), (ce_i24 y ob_code_paying fob_code_paying), (ce_i24 y ob_code_kind fob_code_kind), (ce_i24 y ob_code_within fob_code_within), (ce_i24 y ob_code_start fob_code_start), (ce_i24 y ob_code_stop fob_code_stop), (ce_i700 y ob_code_tests fob_code_tests), (ce_b1400 y ob_text fob_text)] := ⟨hP, hD⟩
    exact W.vret hx hb hr (fun t ht hW => ⟨⟨_, rfl, ⟨v_1091, v_1092, ob_begin, ob_next, ob_kind, ob_value, ob_code_lines, ob_code_used, fob_code_paying, fob_code_kind, fob_code_within, fob_code_start, fob_code_stop, fob_code_tests, (bw (0) (3) bv_1091 (by decide)), p_ob_begin, p_ob_next, p_ob_kind, p_ob_value, (bw (1) (24) nc_1001.2.1 (by decide)), p_ob_code_used, p_fob_code_start, p_fob_code_stop, rfl⟩, by rw [ht]; exact hP, hD⟩, hS.F ht⟩) hS.2.2 dX3_readOwes_19

set_option maxHeartbeats 4000000 in
set_option maxRecDepth 100000 in
theorem sX3_readKnow (l : Launch) (G : va_G) (y : Nat → ClassId) (sz : Nat) (ob : Nat) (ob_town : Nat) (ob_code : Nat) (ob_fault : Int32) (ob_place : Int32) (ob_text : Nat) (ob_size : Int32) (ob_begin : Int32) (ob_next : Int32) (ob_kind : Int32) (ob_value : Int32) (ob_town_houses : Int32) (ob_town_fresh : Int32) (ob_town_introducers : Int32) (ob_town_x : Nat) (ob_town_y : Nat) (ob_town_rank : Nat) (ob_town_weekday : Nat) (ob_town_from : Nat) (ob_town_to : Nat) (ob_town_came : Nat) (ob_town_bride : Nat) (ob_town_told : Nat) (fob_town_told : Nat → Int32) (fob_text : Nat → Int32) (p_ob_town_houses : (0 : Int) ≤ ob_town_houses.toInt ∧ ob_town_houses.toInt ≤ 16) (p_ob_fault : (0 : Int) ≤ ob_fault.toInt ∧ ob_fault.toInt ≤ 3) (p_ob_size : (0 : Int) ≤ ob_size.toInt ∧ ob_size.toInt ≤ 1400) (p_ob_begin : (0 : Int) ≤ ob_begin.toInt ∧ ob_begin.toInt ≤ 1400) (p_ob_next : (0 : Int) ≤ ob_next.toInt ∧ ob_next.toInt ≤ 1400) (p_ob_kind : (0 : Int) ≤ ob_kind.toInt ∧ ob_kind.toInt ≤ 4) (p_ob_value : (0 : Int) ≤ ob_value.toInt ∧ ob_value.toInt ≤ 1000000) : Met l yX3_readKnow (Cond.code yX3_readKnow cX3_readKnow 3 none :: wAll) ({ frames := 4, cells := 0, slots := 0, locals := 84 }) (va_Pc [.ref ob] (kp G y sz [(ce_X3 ob ob_town ob_code ob_fault ob_place ob_text ob_size ob_begin ob_next ob_kind ob_value), (ce_X7 ob_town ob_town_houses ob_town_fresh ob_town_introducers ob_town_x ob_town_y ob_town_rank ob_town_weekday ob_town_from ob_town_to ob_town_came ob_town_bride ob_town_told), (ce_i16 y ob_town_told fob_town_told), (ce_b1400 y ob_text fob_text)])) (va_Qv (fun (w : va_W) => (∃ (v_89 : Int32) (v_90 : Int32) (v_91 : Int32) (v_92 : Int32) (v_93 : Int32) (v_94 : Int32) (f_95 : Nat → Int32), ((0 : Int) ≤ v_89.toInt ∧ v_89.toInt ≤ 3) ∧ ((0 : Int) ≤ v_91.toInt ∧ v_91.toInt ≤ 1400) ∧ ((0 : Int) ≤ v_92.toInt ∧ v_92.toInt ≤ 1400) ∧ ((0 : Int) ≤ v_93.toInt ∧ v_93.toInt ≤ 4) ∧ ((0 : Int) ≤ v_94.toInt ∧ v_94.toInt ≤ 1000000) ∧ w = [(ce_X3 ob ob_town ob_code v_89 v_90 ob_text ob_size v_91 v_92 v_93 v_94), (ce_X7 ob_town ob_town_houses ob_town_fresh ob_town_introducers ob_town_x ob_town_y ob_town_rank ob_town_weekday ob_town_from ob_town_to ob_town_came ob_town_bride ob_town_told), (ce_i16 y ob_town_told f_95), (ce_b1400 y ob_text fob_text)])) (kq G (va_A [(ce_X3 ob ob_town ob_code ob_fault ob_place ob_text ob_size ob_begin ob_next ob_kind ob_value), (ce_X7 ob_town ob_town_houses ob_town_fresh ob_town_introducers ob_town_x ob_town_y ob_town_rank ob_town_weekday ob_town_from ob_town_to ob_town_came ob_town_bride ob_town_told), (ce_i16 y ob_town_told fob_town_told), (ce_b1400 y ob_text fob_text)] sz)) (va_A [(ce_X3 ob ob_town ob_code ob_fault ob_place ob_text ob_size ob_begin ob_next ob_kind ob_value), (ce_X7 ob_town ob_town_houses ob_town_fresh ob_town_introducers ob_town_x ob_town_y ob_town_rank ob_town_weekday ob_town_from ob_town_to ob_town_came ob_town_bride ob_town_told), (ce_i16 y ob_town_told fob_town_told), (ce_b1400 y ob_text fob_text)] sz)) 0 0 (va_A [(ce_X3 ob ob_town ob_code ob_fault ob_place ob_text ob_size ob_begin ob_next ob_kind ob_value), (ce_X7 ob_town ob_town_houses ob_town_fresh ob_town_introducers ob_town_x ob_town_y ob_town_rank ob_town_weekday ob_town_from ob_town_to ob_town_came ob_town_bride ob_town_told), (ce_i16 y ob_town_told fob_town_told), (ce_b1400 y ob_text fob_text)] sz) := by
  refine Met.ofW (cc := cX3_readKnow) (maxL := 3) (ret := none) (by decide) rfl ?_
  intro p e s m args below meth c s₁ B hml hv
  obtain ⟨rfl, hsz, hP, hK, hD0⟩ := hv
  have hx := B.exec
  have hb := B.bytes
  have hr := B.returns
  have hw0 : ∀ w ∈ wAll, w.before _ s = true := fun w h => atoms_spec (ws := Cond.code yX3_readKnow cX3_readKnow 3 none :: wAll) B.pre w (List.mem_cons_of_mem _ h)
  have hown : s.vm.findClass RX3 = some m.cls := findClass_of_methodNamed B.named
  subst hsz
  have hD := hD0.self (sz := s.heap.size)
  generalize hAe : va_A [(ce_X3 ob ob_town ob_code ob_fault ob_place ob_text ob_size ob_begin ob_next ob_kind ob_value), (ce_X7 ob_town ob_town_houses ob_town_fresh ob_town_introducers ob_town_x ob_town_y ob_town_rank ob_town_weekday ob_town_from ob_town_to ob_town_came ob_town_bride ob_town_told), (ce_i16 y ob_town_told fob_town_told), (ce_b1400 y ob_text fob_text)] s.heap.size = A at hD ⊢
  have hA : ∀ q : Nat, s.heap.size ≤ q → A q := fun q h => by rw [← hAe]; exact Or.inr h
  have hS : va_S A s.heap s.heap [] := va_S.rf
  have hP : va_P G vwCl [(ce_X3 ob ob_town ob_code ob_fault ob_place ob_text ob_size ob_begin ob_next ob_kind ob_value), (ce_X7 ob_town ob_town_houses ob_town_fresh ob_town_introducers ob_town_x ob_town_y ob_town_rank ob_town_weekday ob_town_from ob_town_to ob_town_came ob_town_bride ob_town_told), (ce_i16 y ob_town_told fob_town_told), (ce_b1400 y ob_text fob_text)] s.heap := hP
  have hl := lv_entry ([.ref ob]) (n := 3) (Nat.le_of_ble_eq_true rfl)
  rw [lg_entry_eq]
  generalize (lg_sl ([.ref ob]) ++ List.replicate (3 - (lg_sl ([.ref ob])).length) Slot.unset).toArray = ls at hl ⊢
  have hl : lv_has ls 3 [(0, .ref ob)] := hl
  refine lv_aload_n hx hb dX3_readKnow_0 rfl (lv_at hl 0 rfl) ?_
  refine cVvm (As := []) (rest := []) ⟨hx, hb, hml, hown, hw0⟩ hA hK hP hD hS [true, false, false, true] (sX3_advance l G y _ ob ob_town ob_code ob_fault ob_place ob_text ob_size ob_begin ob_next ob_kind ob_value fob_text p_ob_fault p_ob_size p_ob_begin p_ob_next p_ob_kind p_ob_value) rfl ⟨(callB_of 0 hw0 (gA m_714) rfl rfl rfl (hw0 _ m_721) (hw0 _ m_738) cb_X3_advance ⟨Nat.le_of_ble_eq_true rfl, Nat.le_of_ble_eq_true rfl⟩), (hw0 _ m_739), (hw0 _ m_740)⟩ (ci := 3) (q := (RX3, TX3, 10)) rfl rfl rfl hl.1 (Nat.le_of_ble_eq_true rfl) dX3_readKnow_1 ⟨Nat.le_of_ble_eq_true rfl, Nat.le_of_ble_eq_true rfl⟩ (fun w_1001 H locs hw_1001 hP hD hS => ?_)
  obtain ⟨v_1002, v_1003, v_1004, v_1005, bv_1002, bv_1003, bv_1004, bv_1005, rfl⟩ := hw_1001
  obtain ⟨hP, hD⟩ : vPD G A H [(ce_X3 ob ob_town ob_code ob_fault ob_place ob_text ob_size v_1002 v_1003 v_1004 v_1005), (ce_X7 ob_town ob_town_houses ob_town_fresh ob_town_introducers ob_town_x ob_town_y ob_town_rank ob_town_weekday ob_town_from ob_town_to ob_town_came ob_town_bride ob_town_told), (ce_i16 y ob_town_told fob_town_told), (ce_b1400 y ob_text fob_text)] := ⟨hP, hD⟩
  refine lv_aload_n hx hb dX3_readKnow_4 rfl (lv_at hl 0 rfl) ?_
  refine lv_iconst (v := 0) hx hb dX3_readKnow_5 (by decide) ?_
  refine lv_aload_n hx hb dX3_readKnow_6 rfl (lv_at hl 0 rfl) ?_
  refine va_get (D := G) (ci := 3) (v := .ref ob_town) (C := RX3) (T := TX3) (N := 10) hx hb hw0 inA_wsX30 hown hK.1 hP 0 rfl rfl 0 (by decide) (hw0 _ m_747) (fun _ h9 => h9) rfl dX3_readKnow_7 ?_
  refine va_get (D := G) (ci := 7) (v := .int ob_town_houses) (C := RX7) (T := TX7) (N := 12) hx hb hw0 inA_wsX70 hown hK.1 hP 1 rfl rfl 0 (by decide) (hw0 _ m_772) (fun _ h9 => h9) rfl dX3_readKnow_10 ?_
  refine lv_iconst (v := 1) hx hb dX3_readKnow_13 (by decide) ?_
  refine lv_isub hx hb dX3_readKnow_14 ?_
  refine lv_topi (fun v_1006 ev_1006 => ?_)
  have qv_1006 := ba_sub ev_1006 p_ob_town_houses (bkc (x := 1) (c := 1) (by decide)) (by decide)
  have bv_1006 : (-1 : Int) ≤ v_1006.toInt ∧ v_1006.toInt ≤ 15 := bq_sub qv_1006 p_ob_town_houses (bkc (x := 1) (c := 1) (by decide)) _ _ (by decide)
  have qv_1006 : v_1006.toInt = ob_town_houses.toInt - (1) := qv_1006
  refine cVim (As := [.int 0, .int v_1006]) (rest := []) ⟨hx, hb, hml, hown, hw0⟩ hA hK hP hD hS [true, false, false, true] (snum15 l G y _ ob v_1006 ob_town ob_code ob_fault ob_place ob_text ob_size v_1002 v_1003 v_1004 v_1005 fob_text p_ob_fault p_ob_size bv_1002 bv_1003 bv_1004 bv_1005 bv_1006) rfl ⟨(callB_of 2 hw0 (gA m_752) rfl rfl rfl (hw0 _ m_721) (hw0 _ m_777) cb_X3_number ⟨Nat.le_of_ble_eq_true rfl, Nat.le_of_ble_eq_true rfl⟩), (hw0 _ m_778), (hw0 _ m_779)⟩ (ci := 3) (q := (RX3, TX3, 10)) rfl rfl rfl hl.1 (Nat.le_of_ble_eq_true rfl) dX3_readKnow_15 ⟨Nat.le_of_ble_eq_true rfl, Nat.le_of_ble_eq_true rfl⟩ (fun r_1007 w_1007 H locs hw_1007 hP hD hS => ?_)
  obtain ⟨v_1008, v_1009, v_1010, v_1011, v_1012, v_1013, v_1014, bv_1008, bv_1009, bv_1011, bv_1012, bv_1013, bv_1014, er_1007, rfl⟩ := hw_1007
  subst r_1007
  obtain ⟨hP, hD⟩ : vPD G A H [(ce_X3 ob ob_town ob_code v_1009 v_1010 ob_text ob_size v_1011 v_1012 v_1013 v_1014), (ce_X7 ob_town ob_town_houses ob_town_fresh ob_town_introducers ob_town_x ob_town_y ob_town_rank ob_town_weekday ob_town_from ob_town_to ob_town_came ob_town_bride ob_town_told), (ce_i16 y ob_town_told fob_town_told), (ce_b1400 y ob_text fob_text)] := ⟨hP, hD⟩
  refine lv_istore_n (lv' := [(1, .int v_1008), (0, .ref ob)]) hx hb dX3_readKnow_18 rfl hl (by decide) rfl (fun ls hl => ?_)
  refine lv_aload_n hx hb dX3_readKnow_19 rfl (lv_at hl 1 rfl) ?_
  refine va_get (D := G) (ci := 3) (v := .int v_1013) (C := RX3) (T := TX3) (N := 10) hx hb hw0 inA_wsX30 hown hK.1 hP 0 rfl rfl 8 (by decide) (hw0 _ m_719) (fun _ h9 => h9) rfl dX3_readKnow_20 ?_
  refine lv_iconst (v := 2) hx hb dX3_readKnow_23 (by decide) ?_
  refine cutW 40 (fun H locs ls st => ∃ (v_1020 : Int32) (v_1021 : Int32), ((0 : Int) ≤ v_1020.toInt ∧ v_1020.toInt ≤ 3) ∧ st = [] ∧ vPD G A H [(ce_X3 ob ob_town ob_code v_1020 v_1021 ob_text ob_size v_1011 v_1012 v_1013 v_1014), (ce_X7 ob_town ob_town_houses ob_town_fresh ob_town_introducers ob_town_x ob_town_y ob_town_rank ob_town_weekday ob_town_from ob_town_to ob_town_came ob_town_bride ob_town_told), (ce_i16 y ob_town_told fob_town_told), (ce_b1400 y ob_text fob_text)] ∧ va_S A s.heap H locs ∧ lv_has ls 3 [(1, .int v_1008), (0, .ref ob)]) ?_ (fun J_40_1021 => ?_)
  · rintro H locs ls st ⟨v_1020, v_1021, bv_1020, rfl, ⟨hP, hD⟩, hS, hl⟩
    refine lv_aload_n hx hb dX3_readKnow_40 rfl (lv_at hl 1 rfl) ?_
    refine lv_iconst (v := 0) hx hb dX3_readKnow_41 (by decide) ?_
    refine lv_aload_n hx hb dX3_readKnow_42 rfl (lv_at hl 1 rfl) ?_
    refine va_get (D := G) (ci := 3) (v := .ref ob_town) (C := RX3) (T := TX3) (N := 10) hx hb hw0 inA_wsX30 hown hK.1 hP 0 rfl rfl 0 (by decide) (hw0 _ m_747) (fun _ h9 => h9) rfl dX3_readKnow_43 ?_
    refine va_get (D := G) (ci := 7) (v := .int ob_town_houses) (C := RX7) (T := TX7) (N := 12) hx hb hw0 inA_wsX70 hown hK.1 hP 1 rfl rfl 0 (by decide) (hw0 _ m_772) (fun _ h9 => h9) rfl dX3_readKnow_46 ?_
    refine lv_iconst (v := 1) hx hb dX3_readKnow_49 (by decide) ?_
    refine lv_isub hx hb dX3_readKnow_50 ?_
    refine lv_topi (fun v_1022 ev_1022 => ?_)
    obtain rfl : v_1006 = v_1022 := (ev_1022.trans (ev_1006.symm)).symm
    refine cVim (As := [.int 0, .int v_1006]) (rest := []) ⟨hx, hb, hml, hown, hw0⟩ hA hK hP hD hS [true, false, false, true] (snum15 l G y _ ob v_1006 ob_town ob_code v_1020 v_1021 ob_text ob_size v_1011 v_1012 v_1013 v_1014 fob_text bv_1020 p_ob_size bv_1011 bv_1012 bv_1013 bv_1014 bv_1006) rfl ⟨(callB_of 2 hw0 (gA m_752) rfl rfl rfl (hw0 _ m_721) (hw0 _ m_777) cb_X3_number ⟨Nat.le_of_ble_eq_true rfl, Nat.le_of_ble_eq_true rfl⟩), (hw0 _ m_778), (hw0 _ m_779)⟩ (ci := 3) (q := (RX3, TX3, 10)) rfl rfl rfl hl.1 (Nat.le_of_ble_eq_true rfl) dX3_readKnow_51 ⟨Nat.le_of_ble_eq_true rfl, Nat.le_of_ble_eq_true rfl⟩ (fun r_1023 w_1023 H locs hw_1023 hP hD hS => ?_)
    obtain ⟨v_1024, v_1025, v_1026, v_1027, v_1028, v_1029, v_1030, bv_1024, bv_1025, bv_1027, bv_1028, bv_1029, bv_1030, er_1023, rfl⟩ := hw_1023
    subst r_1023
    obtain ⟨hP, hD⟩ : vPD G A H [(ce_X3 ob ob_town ob_code v_1025 v_1026 ob_text ob_size v_1027 v_1028 v_1029 v_1030), (ce_X7 ob_town ob_town_houses ob_town_fresh ob_town_introducers ob_town_x ob_town_y ob_town_rank ob_town_weekday ob_town_from ob_town_to ob_town_came ob_town_bride ob_town_told), (ce_i16 y ob_town_told fob_town_told), (ce_b1400 y ob_text fob_text)] := ⟨hP, hD⟩
    refine lv_istore_n (lv' := [(2, .int v_1024), (1, .int v_1008), (0, .ref ob)]) hx hb dX3_readKnow_54 rfl hl (by decide) rfl (fun ls hl => ?_)
    refine lv_aload_n hx hb dX3_readKnow_55 rfl (lv_at hl 2 rfl) ?_
    refine va_get (D := G) (ci := 3) (v := .int v_1025) (C := RX3) (T := TX3) (N := 10) hx hb hw0 inA_wsX30 hown hK.1 hP 0 rfl rfl 2 (by decide) (hw0 _ m_737) (fun _ h9 => h9) rfl dX3_readKnow_56 ?_
    refine lv_if_ne (tgt := 92) hx hb dX3_readKnow_59 (by decide) (fun c_1031 => ?_) (fun c_1031 => ?_)
    · skip
      have nc_1031 := nb_ne (1) (3) c_1031 bv_1025 (k := 0) (by decide) (by decide)
      exact W.vret hx hb hr (fun t ht hW => ⟨⟨_, rfl, ⟨v_1025, v_1026, v_1027, v_1028, v_1029, v_1030, fob_town_told, (bw (0) (3) nc_1031.1 (by decide)), bv_1027, bv_1028, bv_1029, bv_1030, rfl⟩, by rw [ht]; exact hP, hD⟩, hS.F ht⟩) hS.2.2 dX3_readKnow_92
    · skip
      have nc_1031 := nb_eq (0) (0) c_1031 bv_1025 (bkc (x := 0) (c := 0) (by decide)) (by decide)
      refine lv_aload_n hx hb dX3_readKnow_62 rfl (lv_at hl 2 rfl) ?_
      refine va_get (D := G) (ci := 3) (v := .ref ob_town) (C := RX3) (T := TX3) (N := 10) hx hb hw0 inA_wsX30 hown hK.1 hP 0 rfl rfl 0 (by decide) (hw0 _ m_747) (fun _ h9 => h9) rfl dX3_readKnow_63 ?_
      refine va_get (D := G) (ci := 7) (v := .ref ob_town_told) (C := RX7) (T := TX7) (N := 12) hx hb hw0 inA_wsX70 hown hK.1 hP 1 rfl rfl 11 (by decide) (hw0 _ m_791) (fun _ h9 => h9) rfl dX3_readKnow_66 ?_
      refine lv_iload_n hx hb dX3_readKnow_69 rfl (lv_at hl 1 rfl) ?_
      refine lv_dup2_11 hx hb dX3_readKnow_70 rfl rfl ?_
      refine va_iald hx hb hK.1 hP 2 1 rfl rfl (vi bv_1008 (by decide)) dX3_readKnow_71 ?_
      refine lv_topi (fun v_1032 ev_1032 => ?_)
      refine lv_iconst (v := 1) hx hb dX3_readKnow_72 (by decide) ?_
      refine lv_iload_n hx hb dX3_readKnow_73 rfl (lv_at hl 0 rfl) ?_
      refine lv_ishl hx hb dX3_readKnow_74 ?_
      refine lv_topi (fun v_1033 ev_1033 => ?_)
      have bv_1033 : (1 : Int) ≤ v_1033.toInt ∧ v_1033.toInt ≤ 32768 := ba_shl 0 15 ev_1033 bv_1024 (by decide)
      refine lv_ior hx hb dX3_readKnow_75 ?_
      refine lv_topi (fun v_1034 ev_1034 => ?_)
      refine va_iast hx hb hK.1 hP hD hS 2 1 rfl rfl (vi bv_1008 (by decide)) dX3_readKnow_76 (fun H locs hP hD hS => ?_)
      generalize hf_1035 : (upd fob_town_told (v_1008 : Int32).toNatClampNeg v_1034) = f_1035 at hP hD
      obtain ⟨hP, hD⟩ : vPD G A H [(ce_X3 ob ob_town ob_code v_1025 v_1026 ob_text ob_size v_1027 v_1028 v_1029 v_1030), (ce_X7 ob_town ob_town_houses ob_town_fresh ob_town_introducers ob_town_x ob_town_y ob_town_rank ob_town_weekday ob_town_from ob_town_to ob_town_came ob_town_bride ob_town_told), (ce_i16 y ob_town_told f_1035), (ce_b1400 y ob_text fob_text)] := ⟨hP, hD⟩
      refine lv_aload_n hx hb dX3_readKnow_77 rfl (lv_at hl 2 rfl) ?_
      refine va_get (D := G) (ci := 3) (v := .ref ob_town) (C := RX3) (T := TX3) (N := 10) hx hb hw0 inA_wsX30 hown hK.1 hP 0 rfl rfl 0 (by decide) (hw0 _ m_747) (fun _ h9 => h9) rfl dX3_readKnow_78 ?_
      refine va_get (D := G) (ci := 7) (v := .ref ob_town_told) (C := RX7) (T := TX7) (N := 12) hx hb hw0 inA_wsX70 hown hK.1 hP 1 rfl rfl 11 (by decide) (hw0 _ m_791) (fun _ h9 => h9) rfl dX3_readKnow_81 ?_
      refine lv_iload_n hx hb dX3_readKnow_84 rfl (lv_at hl 0 rfl) ?_
      refine lv_dup2_11 hx hb dX3_readKnow_85 rfl rfl ?_
      refine va_iald hx hb hK.1 hP 2 1 rfl rfl (vi bv_1024 (by decide)) dX3_readKnow_86 ?_
      refine lv_topi (fun v_1036 ev_1036 => ?_)
      refine lv_iconst (v := 1) hx hb dX3_readKnow_87 (by decide) ?_
      refine lv_iload_n hx hb dX3_readKnow_88 rfl (lv_at hl 1 rfl) ?_
      refine lv_ishl hx hb dX3_readKnow_89 ?_
      refine lv_topi (fun v_1037 ev_1037 => ?_)
      have bv_1037 : (1 : Int) ≤ v_1037.toInt ∧ v_1037.toInt ≤ 32768 := ba_shl 0 15 ev_1037 bv_1008 (by decide)
      refine lv_ior hx hb dX3_readKnow_90 ?_
      refine lv_topi (fun v_1038 ev_1038 => ?_)
      refine va_iast hx hb hK.1 hP hD hS 2 1 rfl rfl (vi bv_1024 (by decide)) dX3_readKnow_91 (fun H locs hP hD hS => ?_)
      generalize hf_1039 : (upd f_1035 (v_1024 : Int32).toNatClampNeg v_1038) = f_1039 at hP hD
      obtain ⟨hP, hD⟩ : vPD G A H [(ce_X3 ob ob_town ob_code v_1025 v_1026 ob_text ob_size v_1027 v_1028 v_1029 v_1030), (ce_X7 ob_town ob_town_houses ob_town_fresh ob_town_introducers ob_town_x ob_town_y ob_town_rank ob_town_weekday ob_town_from ob_town_to ob_town_came ob_town_bride ob_town_told), (ce_i16 y ob_town_told f_1039), (ce_b1400 y ob_text fob_text)] := ⟨hP, hD⟩
      exact W.vret hx hb hr (fun t ht hW => ⟨⟨_, rfl, ⟨v_1025, v_1026, v_1027, v_1028, v_1029, v_1030, f_1039, (bw (0) (3) nc_1031.1 (by decide)), bv_1027, bv_1028, bv_1029, bv_1030, rfl⟩, by rw [ht]; exact hP, hD⟩, hS.F ht⟩) hS.2.2 dX3_readKnow_92
  · skip
    refine lv_icmp_ne (tgt := 40) hx hb dX3_readKnow_24 (by decide) (fun c_1040 => ?_) (fun c_1040 => ?_)
    · skip
      have nc_1040 := nb_ne (0) (4) c_1040 bv_1013 (k := 2) (by decide) (by decide)
      exact J_40_1021 _ _ _ _ ⟨v_1009, v_1010, bv_1009, rfl, ⟨hP, hD⟩, hS, lv_sub hl [0, 1] rfl⟩
    · skip
      have nc_1040 := nb_eq (2) (2) c_1040 bv_1013 (bkc (x := 2) (c := 2) (by decide)) (by decide)
      refine lv_aload_n hx hb dX3_readKnow_27 rfl (lv_at hl 1 rfl) ?_
      refine va_get (D := G) (ci := 3) (v := .int v_1014) (C := RX3) (T := TX3) (N := 10) hx hb hw0 inA_wsX30 hown hK.1 hP 0 rfl rfl 9 (by decide) (hw0 _ m_753) (fun _ h9 => h9) rfl dX3_readKnow_28 ?_
      refine lv_iload_n hx hb dX3_readKnow_31 rfl (lv_at hl 0 rfl) ?_
      refine lv_icmp_ne (tgt := 40) hx hb dX3_readKnow_32 (by decide) (fun c_1041 => ?_) (fun c_1041 => ?_)
      · skip
        exact J_40_1021 _ _ _ _ ⟨v_1009, v_1010, bv_1009, rfl, ⟨hP, hD⟩, hS, lv_sub hl [0, 1] rfl⟩
      · skip
        have nc_1041 := nb_eq (0) (15) c_1041 bv_1014 bv_1008 (by decide)
        refine lv_aload_n hx hb dX3_readKnow_35 rfl (lv_at hl 1 rfl) ?_
        refine lv_iconst (v := 2) hx hb dX3_readKnow_36 (by decide) ?_
        refine cVvm (As := [.int 2]) (rest := []) ⟨hx, hb, hml, hown, hw0⟩ hA hK hP hD hS [true] (sX3_refuse l G y _ ob 2 ob_town ob_code v_1009 v_1010 ob_text ob_size v_1011 v_1012 v_1013 v_1014 bv_1009 p_ob_size bv_1011 bv_1012 (bw (0) (4) nc_1040.1 (by decide)) (bw (0) (1000000) nc_1041.1 (by decide)) (bw (1) (3) (bkc (x := 2) (c := 2) (by decide)) (by decide))) rfl ⟨(callB_of 1 hw0 (gA m_816) rfl rfl rfl (hw0 _ m_721) (hw0 _ m_734) cb_X3_refuse ⟨Nat.le_of_ble_eq_true rfl, Nat.le_of_ble_eq_true rfl⟩), (hw0 _ m_735), (hw0 _ m_736)⟩ (ci := 3) (q := (RX3, TX3, 10)) rfl rfl rfl hl.1 (Nat.le_of_ble_eq_true rfl) dX3_readKnow_37 ⟨Nat.le_of_ble_eq_true rfl, Nat.le_of_ble_eq_true rfl⟩ (fun w_1042 H locs hw_1042 hP hD hS => ?_)
        obtain ⟨v_1043, v_1044, bv_1043, rfl⟩ := hw_1042
        obtain ⟨hP, hD⟩ : vPD G A H [(ce_X3 ob ob_town ob_code v_1043 v_1044 ob_text ob_size v_1011 v_1012 v_1013 v_1014), (ce_X7 ob_town ob_town_houses ob_town_fresh ob_town_introducers ob_town_x ob_town_y ob_town_rank ob_town_weekday ob_town_from ob_town_to ob_town_came ob_town_bride ob_town_told), (ce_i16 y ob_town_told fob_town_told), (ce_b1400 y ob_text fob_text)] := ⟨hP, hD⟩
        exact J_40_1021 _ _ _ _ ⟨v_1043, v_1044, (bw (0) (3) bv_1043 (by decide)), rfl, ⟨hP, hD⟩, hS, lv_sub hl [0, 1] rfl⟩

set_option maxHeartbeats 4000000 in
set_option maxRecDepth 100000 in
theorem sX3_readHouse (l : Launch) (G : va_G) (y : Nat → ClassId) (aK aV : Nat → Nat) (sz : Nat) (ob : Nat) (ob_town : Nat) (ob_code : Nat) (ob_fault : Int32) (ob_place : Int32) (ob_text : Nat) (ob_size : Int32) (ob_begin : Int32) (ob_next : Int32) (ob_kind : Int32) (ob_value : Int32) (ob_town_houses : Int32) (ob_town_fresh : Int32) (ob_town_introducers : Int32) (ob_town_x : Nat) (ob_town_y : Nat) (ob_town_rank : Nat) (ob_town_weekday : Nat) (ob_town_from : Nat) (ob_town_to : Nat) (ob_town_came : Nat) (ob_town_bride : Nat) (ob_town_told : Nat) (fob_town_x : Nat → Int32) (fob_town_y : Nat → Int32) (fob_town_rank : Nat → Int32) (fob_town_weekday : Nat → Int32) (fob_town_from : Nat → Int32) (fob_town_to : Nat → Int32) (fob_town_came : Nat → Int32) (fob_town_bride : Nat → Int32) (fob_text : Nat → Int32) (p_ob_town_houses : (0 : Int) ≤ ob_town_houses.toInt ∧ ob_town_houses.toInt ≤ 16) (p_ob_fault : (0 : Int) ≤ ob_fault.toInt ∧ ob_fault.toInt ≤ 3) (p_ob_size : (0 : Int) ≤ ob_size.toInt ∧ ob_size.toInt ≤ 1400) (p_ob_begin : (0 : Int) ≤ ob_begin.toInt ∧ ob_begin.toInt ≤ 1400) (p_ob_next : (0 : Int) ≤ ob_next.toInt ∧ ob_next.toInt ≤ 1400) (p_ob_kind : (0 : Int) ≤ ob_kind.toInt ∧ ob_kind.toInt ≤ 4) (p_ob_value : (0 : Int) ≤ ob_value.toInt ∧ ob_value.toInt ≤ 1000000) : Met l yX3_readHouse (Cond.code yX3_readHouse cX3_readHouse 2 none :: wAll) ({ frames := 6, cells := 0, slots := 0, locals := 133 }) (va_Pc [.ref ob] (kps G y aK aV sz [(ce_X3 ob ob_town ob_code ob_fault ob_place ob_text ob_size ob_begin ob_next ob_kind ob_value), (ce_X7 ob_town ob_town_houses ob_town_fresh ob_town_introducers ob_town_x ob_town_y ob_town_rank ob_town_weekday ob_town_from ob_town_to ob_town_came ob_town_bride ob_town_told), (ce_i16 y ob_town_x fob_town_x), (ce_i16 y ob_town_y fob_town_y), (ce_i16 y ob_town_rank fob_town_rank), (ce_i16 y ob_town_weekday fob_town_weekday), (ce_i16 y ob_town_from fob_town_from), (ce_i16 y ob_town_to fob_town_to), (ce_i16 y ob_town_came fob_town_came), (ce_i16 y ob_town_bride fob_town_bride), (ce_b1400 y ob_text fob_text)])) (va_Qv (fun (w : va_W) => (∃ (v_347 : Int32) (v_348 : Int32) (v_349 : Int32) (v_350 : Int32) (v_351 : Int32) (v_352 : Int32) (v_353 : Int32) (f_354 : Nat → Int32) (f_355 : Nat → Int32) (f_356 : Nat → Int32) (f_357 : Nat → Int32) (f_358 : Nat → Int32) (f_359 : Nat → Int32) (f_360 : Nat → Int32) (f_361 : Nat → Int32), ((0 : Int) ≤ v_347.toInt ∧ v_347.toInt ≤ 3) ∧ ((0 : Int) ≤ v_349.toInt ∧ v_349.toInt ≤ 1400) ∧ ((0 : Int) ≤ v_350.toInt ∧ v_350.toInt ≤ 1400) ∧ ((0 : Int) ≤ v_351.toInt ∧ v_351.toInt ≤ 4) ∧ ((0 : Int) ≤ v_352.toInt ∧ v_352.toInt ≤ 1000000) ∧ ((1 : Int) ≤ v_353.toInt ∧ v_353.toInt ≤ 16) ∧ w = [(ce_X3 ob ob_town ob_code v_347 v_348 ob_text ob_size v_349 v_350 v_351 v_352), (ce_X7 ob_town v_353 ob_town_fresh ob_town_introducers ob_town_x ob_town_y ob_town_rank ob_town_weekday ob_town_from ob_town_to ob_town_came ob_town_bride ob_town_told), (ce_i16 y ob_town_x f_354), (ce_i16 y ob_town_y f_355), (ce_i16 y ob_town_rank f_356), (ce_i16 y ob_town_weekday f_357), (ce_i16 y ob_town_from f_358), (ce_i16 y ob_town_to f_359), (ce_i16 y ob_town_came f_360), (ce_i16 y ob_town_bride f_361), (ce_b1400 y ob_text fob_text)])) (kq G (va_A [(ce_X3 ob ob_town ob_code ob_fault ob_place ob_text ob_size ob_begin ob_next ob_kind ob_value), (ce_X7 ob_town ob_town_houses ob_town_fresh ob_town_introducers ob_town_x ob_town_y ob_town_rank ob_town_weekday ob_town_from ob_town_to ob_town_came ob_town_bride ob_town_told), (ce_i16 y ob_town_x fob_town_x), (ce_i16 y ob_town_y fob_town_y), (ce_i16 y ob_town_rank fob_town_rank), (ce_i16 y ob_town_weekday fob_town_weekday), (ce_i16 y ob_town_from fob_town_from), (ce_i16 y ob_town_to fob_town_to), (ce_i16 y ob_town_came fob_town_came), (ce_i16 y ob_town_bride fob_town_bride), (ce_b1400 y ob_text fob_text)] sz)) (va_A [(ce_X3 ob ob_town ob_code ob_fault ob_place ob_text ob_size ob_begin ob_next ob_kind ob_value), (ce_X7 ob_town ob_town_houses ob_town_fresh ob_town_introducers ob_town_x ob_town_y ob_town_rank ob_town_weekday ob_town_from ob_town_to ob_town_came ob_town_bride ob_town_told), (ce_i16 y ob_town_x fob_town_x), (ce_i16 y ob_town_y fob_town_y), (ce_i16 y ob_town_rank fob_town_rank), (ce_i16 y ob_town_weekday fob_town_weekday), (ce_i16 y ob_town_from fob_town_from), (ce_i16 y ob_town_to fob_town_to), (ce_i16 y ob_town_came fob_town_came), (ce_i16 y ob_town_bride fob_town_bride), (ce_b1400 y ob_text fob_text)] sz)) 0 0 (va_A [(ce_X3 ob ob_town ob_code ob_fault ob_place ob_text ob_size ob_begin ob_next ob_kind ob_value), (ce_X7 ob_town ob_town_houses ob_town_fresh ob_town_introducers ob_town_x ob_town_y ob_town_rank ob_town_weekday ob_town_from ob_town_to ob_town_came ob_town_bride ob_town_told), (ce_i16 y ob_town_x fob_town_x), (ce_i16 y ob_town_y fob_town_y), (ce_i16 y ob_town_rank fob_town_rank), (ce_i16 y ob_town_weekday fob_town_weekday), (ce_i16 y ob_town_from fob_town_from), (ce_i16 y ob_town_to fob_town_to), (ce_i16 y ob_town_came fob_town_came), (ce_i16 y ob_town_bride fob_town_bride), (ce_b1400 y ob_text fob_text)] sz) := by
  refine Met.ofW (cc := cX3_readHouse) (maxL := 2) (ret := none) (by decide) rfl ?_
  intro p e s m args below meth c s₁ B hml hv
  obtain ⟨rfl, ⟨hsz, hP, hK, hD0⟩, hE⟩ := hv
  have hx := B.exec
  have hb := B.bytes
  have hr := B.returns
  have hw0 : ∀ w ∈ wAll, w.before _ s = true := fun w h => atoms_spec (ws := Cond.code yX3_readHouse cX3_readHouse 2 none :: wAll) B.pre w (List.mem_cons_of_mem _ h)
  have hown : s.vm.findClass RX3 = some m.cls := findClass_of_methodNamed B.named
  subst hsz
  have hD := hD0.self (sz := s.heap.size)
  generalize hAe : va_A [(ce_X3 ob ob_town ob_code ob_fault ob_place ob_text ob_size ob_begin ob_next ob_kind ob_value), (ce_X7 ob_town ob_town_houses ob_town_fresh ob_town_introducers ob_town_x ob_town_y ob_town_rank ob_town_weekday ob_town_from ob_town_to ob_town_came ob_town_bride ob_town_told), (ce_i16 y ob_town_x fob_town_x), (ce_i16 y ob_town_y fob_town_y), (ce_i16 y ob_town_rank fob_town_rank), (ce_i16 y ob_town_weekday fob_town_weekday), (ce_i16 y ob_town_from fob_town_from), (ce_i16 y ob_town_to fob_town_to), (ce_i16 y ob_town_came fob_town_came), (ce_i16 y ob_town_bride fob_town_bride), (ce_b1400 y ob_text fob_text)] s.heap.size = A at hD hE ⊢
  have hA : ∀ q : Nat, s.heap.size ≤ q → A q := fun q h => by rw [← hAe]; exact Or.inr h
  have hS : va_S A s.heap s.heap [] := va_S.rf
  have hP : va_P G vwCl [(ce_X3 ob ob_town ob_code ob_fault ob_place ob_text ob_size ob_begin ob_next ob_kind ob_value), (ce_X7 ob_town ob_town_houses ob_town_fresh ob_town_introducers ob_town_x ob_town_y ob_town_rank ob_town_weekday ob_town_from ob_town_to ob_town_came ob_town_bride ob_town_told), (ce_i16 y ob_town_x fob_town_x), (ce_i16 y ob_town_y fob_town_y), (ce_i16 y ob_town_rank fob_town_rank), (ce_i16 y ob_town_weekday fob_town_weekday), (ce_i16 y ob_town_from fob_town_from), (ce_i16 y ob_town_to fob_town_to), (ce_i16 y ob_town_came fob_town_came), (ce_i16 y ob_town_bride fob_town_bride), (ce_b1400 y ob_text fob_text)] s.heap := hP
  have hl := lv_entry ([.ref ob]) (n := 2) (Nat.le_of_ble_eq_true rfl)
  rw [lg_entry_eq]
  generalize (lg_sl ([.ref ob]) ++ List.replicate (2 - (lg_sl ([.ref ob])).length) Slot.unset).toArray = ls at hl ⊢
  have hl : lv_has ls 2 [(0, .ref ob)] := hl
  refine lv_aload_n hx hb dX3_readHouse_0 rfl (lv_at hl 0 rfl) ?_
  refine va_get (D := G) (ci := 3) (v := .ref ob_town) (C := RX3) (T := TX3) (N := 10) hx hb hw0 inA_wsX30 hown hK.1 hP 0 rfl rfl 0 (by decide) (hw0 _ m_747) (fun _ h9 => h9) rfl dX3_readHouse_1 ?_
  refine va_get (D := G) (ci := 7) (v := .int ob_town_houses) (C := RX7) (T := TX7) (N := 12) hx hb hw0 inA_wsX70 hown hK.1 hP 1 rfl rfl 0 (by decide) (hw0 _ m_772) (fun _ h9 => h9) rfl dX3_readHouse_4 ?_
  refine lv_istore_n (lv' := [(1, .int ob_town_houses), (0, .ref ob)]) hx hb dX3_readHouse_7 rfl hl (by decide) rfl (fun ls hl => ?_)
  refine lv_iload_n hx hb dX3_readHouse_8 rfl (lv_at hl 0 rfl) ?_
  refine lv_bipush (v := 16) hx hb dX3_readHouse_9 (by decide) ?_
  refine lv_icmp_lt (tgt := 20) hx hb dX3_readHouse_11 (by decide) (fun c_1001 => ?_) (fun c_1001 => ?_)
  · skip
    have nc_1001 := nb_lt (15) (16) c_1001 p_ob_town_houses (bkc (x := 16) (c := 16) (by decide)) (by decide)
    refine lv_aload_n hx hb dX3_readHouse_20 rfl (lv_at hl 1 rfl) ?_
    refine cVvm (As := []) (rest := []) ⟨hx, hb, hml, hown, hw0⟩ hA hK hP hD hS [true, false, false, false, false, false, false, false, false, false, true] (sX3_advance l G y _ ob ob_town ob_code ob_fault ob_place ob_text ob_size ob_begin ob_next ob_kind ob_value fob_text p_ob_fault p_ob_size p_ob_begin p_ob_next p_ob_kind p_ob_value) rfl ⟨(callB_of 0 hw0 (gA m_714) rfl rfl rfl (hw0 _ m_721) (hw0 _ m_738) cb_X3_advance ⟨Nat.le_of_ble_eq_true rfl, Nat.le_of_ble_eq_true rfl⟩), (hw0 _ m_739), (hw0 _ m_740)⟩ (ci := 3) (q := (RX3, TX3, 10)) rfl rfl rfl hl.1 (Nat.le_of_ble_eq_true rfl) dX3_readHouse_21 ⟨Nat.le_of_ble_eq_true rfl, Nat.le_of_ble_eq_true rfl⟩ (fun w_1002 H locs hw_1002 hP hD hS => ?_)
    obtain ⟨v_1003, v_1004, v_1005, v_1006, bv_1003, bv_1004, bv_1005, bv_1006, rfl⟩ := hw_1002
    obtain ⟨hP, hD⟩ : vPD G A H [(ce_X3 ob ob_town ob_code ob_fault ob_place ob_text ob_size v_1003 v_1004 v_1005 v_1006), (ce_X7 ob_town ob_town_houses ob_town_fresh ob_town_introducers ob_town_x ob_town_y ob_town_rank ob_town_weekday ob_town_from ob_town_to ob_town_came ob_town_bride ob_town_told), (ce_i16 y ob_town_x fob_town_x), (ce_i16 y ob_town_y fob_town_y), (ce_i16 y ob_town_rank fob_town_rank), (ce_i16 y ob_town_weekday fob_town_weekday), (ce_i16 y ob_town_from fob_town_from), (ce_i16 y ob_town_to fob_town_to), (ce_i16 y ob_town_came fob_town_came), (ce_i16 y ob_town_bride fob_town_bride), (ce_b1400 y ob_text fob_text)] := ⟨hP, hD⟩
    refine lv_aload_n hx hb dX3_readHouse_24 rfl (lv_at hl 1 rfl) ?_
    refine va_ldcS (own := RX3) (tx := "at") (q := aK 7) hx hb hown (hE.2.1 ("CardBowl$Reader", 95, "at", 7) sl_CardBowl_Reader_95) dX3_readHouse_25 ?_
    refine cViSm (As := [.ref (aK 7)]) (rest := []) ⟨hx, hb, hml, hown, hw0⟩ hA hK hP hD hS hE [true, false, false, false, false, false, false, false, false, false, true] (sX3_choice l G y aK aV _ ob 7 ob_town ob_code ob_fault ob_place ob_text ob_size v_1003 v_1004 v_1005 v_1006 fob_text p_ob_fault p_ob_size bv_1003 bv_1004 bv_1005 bv_1006 (by decide)) rfl ⟨(callB_of 1 hw0 (gA m_730) rfl rfl rfl (hw0 _ m_721) (hw0 _ m_773) cb_X3_choice ⟨Nat.le_of_ble_eq_true rfl, Nat.le_of_ble_eq_true rfl⟩), (hw0 _ m_774), (hw0 _ m_775)⟩ (ci := 3) (q := (RX3, TX3, 10)) rfl rfl rfl hl.1 (Nat.le_of_ble_eq_true rfl) dX3_readHouse_27 ⟨Nat.le_of_ble_eq_true rfl, Nat.le_of_ble_eq_true rfl⟩ (fun r_1007 w_1007 H locs hw_1007 hP hD hS => ?_)
    obtain ⟨v_1008, v_1009, v_1010, v_1011, v_1012, v_1013, v_1014, bv_1009, bv_1011, bv_1012, bv_1013, bv_1014, er_1007, rfl⟩ := hw_1007
    subst r_1007
    have hLh_1015 : ((lenS.getD 7 0 : Nat) : Int) = 2 := by decide
    obtain ⟨hP, hD⟩ : vPD G A H [(ce_X3 ob ob_town ob_code v_1009 v_1010 ob_text ob_size v_1011 v_1012 v_1013 v_1014), (ce_X7 ob_town ob_town_houses ob_town_fresh ob_town_introducers ob_town_x ob_town_y ob_town_rank ob_town_weekday ob_town_from ob_town_to ob_town_came ob_town_bride ob_town_told), (ce_i16 y ob_town_x fob_town_x), (ce_i16 y ob_town_y fob_town_y), (ce_i16 y ob_town_rank fob_town_rank), (ce_i16 y ob_town_weekday fob_town_weekday), (ce_i16 y ob_town_from fob_town_from), (ce_i16 y ob_town_to fob_town_to), (ce_i16 y ob_town_came fob_town_came), (ce_i16 y ob_town_bride fob_town_bride), (ce_b1400 y ob_text fob_text)] := ⟨hP, hD⟩
    refine lv_pop hx hb dX3_readHouse_30 rfl ?_
    refine lv_aload_n hx hb dX3_readHouse_31 rfl (lv_at hl 1 rfl) ?_
    refine va_get (D := G) (ci := 3) (v := .ref ob_town) (C := RX3) (T := TX3) (N := 10) hx hb hw0 inA_wsX30 hown hK.1 hP 0 rfl rfl 0 (by decide) (hw0 _ m_747) (fun _ h9 => h9) rfl dX3_readHouse_32 ?_
    refine va_get (D := G) (ci := 7) (v := .ref ob_town_x) (C := RX7) (T := TX7) (N := 12) hx hb hw0 inA_wsX70 hown hK.1 hP 1 rfl rfl 3 (by decide) (hw0 _ m_776) (fun _ h9 => h9) rfl dX3_readHouse_35 ?_
    refine lv_iload_n hx hb dX3_readHouse_38 rfl (lv_at hl 0 rfl) ?_
    refine lv_aload_n hx hb dX3_readHouse_39 rfl (lv_at hl 1 rfl) ?_
    refine lv_iconst (v := 0) hx hb dX3_readHouse_40 (by decide) ?_
    refine lv_bipush (v := 99) hx hb dX3_readHouse_41 (by decide) ?_
    refine cVim (As := [.int 0, .int 99]) (rest := [.int ob_town_houses, .ref ob_town_x]) ⟨hx, hb, hml, hown, hw0⟩ hA hK hP hD hS [true, false, false, false, false, false, false, false, false, false, true] (sX3_number l G y _ ob 0 99 ob_town ob_code v_1009 v_1010 ob_text ob_size v_1011 v_1012 v_1013 v_1014 fob_text bv_1009 p_ob_size bv_1011 bv_1012 bv_1013 bv_1014) rfl ⟨(callB_of 2 hw0 (gA m_752) rfl rfl rfl (hw0 _ m_721) (hw0 _ m_777) cb_X3_number ⟨Nat.le_of_ble_eq_true rfl, Nat.le_of_ble_eq_true rfl⟩), (hw0 _ m_778), (hw0 _ m_779)⟩ (ci := 3) (q := (RX3, TX3, 10)) rfl rfl rfl hl.1 (Nat.le_of_ble_eq_true rfl) dX3_readHouse_43 ⟨Nat.le_of_ble_eq_true rfl, Nat.le_of_ble_eq_true rfl⟩ (fun r_1016 w_1016 H locs hw_1016 hP hD hS => ?_)
    obtain ⟨v_1017, v_1018, v_1019, v_1020, v_1021, v_1022, v_1023, bv_1017, bv_1018, bv_1020, bv_1021, bv_1022, bv_1023, er_1016, rfl⟩ := hw_1016
    subst r_1016
    obtain ⟨hP, hD⟩ : vPD G A H [(ce_X3 ob ob_town ob_code v_1018 v_1019 ob_text ob_size v_1020 v_1021 v_1022 v_1023), (ce_X7 ob_town ob_town_houses ob_town_fresh ob_town_introducers ob_town_x ob_town_y ob_town_rank ob_town_weekday ob_town_from ob_town_to ob_town_came ob_town_bride ob_town_told), (ce_i16 y ob_town_x fob_town_x), (ce_i16 y ob_town_y fob_town_y), (ce_i16 y ob_town_rank fob_town_rank), (ce_i16 y ob_town_weekday fob_town_weekday), (ce_i16 y ob_town_from fob_town_from), (ce_i16 y ob_town_to fob_town_to), (ce_i16 y ob_town_came fob_town_came), (ce_i16 y ob_town_bride fob_town_bride), (ce_b1400 y ob_text fob_text)] := ⟨hP, hD⟩
    refine va_iast hx hb hK.1 hP hD hS 2 1 rfl rfl (vi nc_1001.1 (by decide)) dX3_readHouse_46 (fun H locs hP hD hS => ?_)
    generalize hf_1024 : (upd fob_town_x (ob_town_houses : Int32).toNatClampNeg v_1017) = f_1024 at hP hD
    obtain ⟨hP, hD⟩ : vPD G A H [(ce_X3 ob ob_town ob_code v_1018 v_1019 ob_text ob_size v_1020 v_1021 v_1022 v_1023), (ce_X7 ob_town ob_town_houses ob_town_fresh ob_town_introducers ob_town_x ob_town_y ob_town_rank ob_town_weekday ob_town_from ob_town_to ob_town_came ob_town_bride ob_town_told), (ce_i16 y ob_town_x f_1024), (ce_i16 y ob_town_y fob_town_y), (ce_i16 y ob_town_rank fob_town_rank), (ce_i16 y ob_town_weekday fob_town_weekday), (ce_i16 y ob_town_from fob_town_from), (ce_i16 y ob_town_to fob_town_to), (ce_i16 y ob_town_came fob_town_came), (ce_i16 y ob_town_bride fob_town_bride), (ce_b1400 y ob_text fob_text)] := ⟨hP, hD⟩
    refine lv_aload_n hx hb dX3_readHouse_47 rfl (lv_at hl 1 rfl) ?_
    refine va_get (D := G) (ci := 3) (v := .ref ob_town) (C := RX3) (T := TX3) (N := 10) hx hb hw0 inA_wsX30 hown hK.1 hP 0 rfl rfl 0 (by decide) (hw0 _ m_747) (fun _ h9 => h9) rfl dX3_readHouse_48 ?_
    refine va_get (D := G) (ci := 7) (v := .ref ob_town_y) (C := RX7) (T := TX7) (N := 12) hx hb hw0 inA_wsX70 hown hK.1 hP 1 rfl rfl 4 (by decide) (hw0 _ m_780) (fun _ h9 => h9) rfl dX3_readHouse_51 ?_
    refine lv_iload_n hx hb dX3_readHouse_54 rfl (lv_at hl 0 rfl) ?_
    refine lv_aload_n hx hb dX3_readHouse_55 rfl (lv_at hl 1 rfl) ?_
    refine lv_iconst (v := 0) hx hb dX3_readHouse_56 (by decide) ?_
    refine lv_bipush (v := 99) hx hb dX3_readHouse_57 (by decide) ?_
    refine cVim (As := [.int 0, .int 99]) (rest := [.int ob_town_houses, .ref ob_town_y]) ⟨hx, hb, hml, hown, hw0⟩ hA hK hP hD hS [true, false, false, false, false, false, false, false, false, false, true] (sX3_number l G y _ ob 0 99 ob_town ob_code v_1018 v_1019 ob_text ob_size v_1020 v_1021 v_1022 v_1023 fob_text bv_1018 p_ob_size bv_1020 bv_1021 bv_1022 bv_1023) rfl ⟨(callB_of 2 hw0 (gA m_752) rfl rfl rfl (hw0 _ m_721) (hw0 _ m_777) cb_X3_number ⟨Nat.le_of_ble_eq_true rfl, Nat.le_of_ble_eq_true rfl⟩), (hw0 _ m_778), (hw0 _ m_779)⟩ (ci := 3) (q := (RX3, TX3, 10)) rfl rfl rfl hl.1 (Nat.le_of_ble_eq_true rfl) dX3_readHouse_59 ⟨Nat.le_of_ble_eq_true rfl, Nat.le_of_ble_eq_true rfl⟩ (fun r_1025 w_1025 H locs hw_1025 hP hD hS => ?_)
    obtain ⟨v_1026, v_1027, v_1028, v_1029, v_1030, v_1031, v_1032, bv_1026, bv_1027, bv_1029, bv_1030, bv_1031, bv_1032, er_1025, rfl⟩ := hw_1025
    subst r_1025
    obtain ⟨hP, hD⟩ : vPD G A H [(ce_X3 ob ob_town ob_code v_1027 v_1028 ob_text ob_size v_1029 v_1030 v_1031 v_1032), (ce_X7 ob_town ob_town_houses ob_town_fresh ob_town_introducers ob_town_x ob_town_y ob_town_rank ob_town_weekday ob_town_from ob_town_to ob_town_came ob_town_bride ob_town_told), (ce_i16 y ob_town_x f_1024), (ce_i16 y ob_town_y fob_town_y), (ce_i16 y ob_town_rank fob_town_rank), (ce_i16 y ob_town_weekday fob_town_weekday), (ce_i16 y ob_town_from fob_town_from), (ce_i16 y ob_town_to fob_town_to), (ce_i16 y ob_town_came fob_town_came), (ce_i16 y ob_town_bride fob_town_bride), (ce_b1400 y ob_text fob_text)] := ⟨hP, hD⟩
    refine va_iast hx hb hK.1 hP hD hS 3 1 rfl rfl (vi nc_1001.1 (by decide)) dX3_readHouse_62 (fun H locs hP hD hS => ?_)
    generalize hf_1033 : (upd fob_town_y (ob_town_houses : Int32).toNatClampNeg v_1026) = f_1033 at hP hD
    obtain ⟨hP, hD⟩ : vPD G A H [(ce_X3 ob ob_town ob_code v_1027 v_1028 ob_text ob_size v_1029 v_1030 v_1031 v_1032), (ce_X7 ob_town ob_town_houses ob_town_fresh ob_town_introducers ob_town_x ob_town_y ob_town_rank ob_town_weekday ob_town_from ob_town_to ob_town_came ob_town_bride ob_town_told), (ce_i16 y ob_town_x f_1024), (ce_i16 y ob_town_y f_1033), (ce_i16 y ob_town_rank fob_town_rank), (ce_i16 y ob_town_weekday fob_town_weekday), (ce_i16 y ob_town_from fob_town_from), (ce_i16 y ob_town_to fob_town_to), (ce_i16 y ob_town_came fob_town_came), (ce_i16 y ob_town_bride fob_town_bride), (ce_b1400 y ob_text fob_text)] := ⟨hP, hD⟩
    refine lv_aload_n hx hb dX3_readHouse_63 rfl (lv_at hl 1 rfl) ?_
    refine va_ldcS (own := RX3) (tx := "rank") (q := aK 8) hx hb hown (hE.2.1 ("CardBowl$Reader", 107, "rank", 8) sl_CardBowl_Reader_107) dX3_readHouse_64 ?_
    refine cViSm (As := [.ref (aK 8)]) (rest := []) ⟨hx, hb, hml, hown, hw0⟩ hA hK hP hD hS hE [true, false, false, false, false, false, false, false, false, false, true] (sX3_choice l G y aK aV _ ob 8 ob_town ob_code v_1027 v_1028 ob_text ob_size v_1029 v_1030 v_1031 v_1032 fob_text bv_1027 p_ob_size bv_1029 bv_1030 bv_1031 bv_1032 (by decide)) rfl ⟨(callB_of 1 hw0 (gA m_730) rfl rfl rfl (hw0 _ m_721) (hw0 _ m_773) cb_X3_choice ⟨Nat.le_of_ble_eq_true rfl, Nat.le_of_ble_eq_true rfl⟩), (hw0 _ m_774), (hw0 _ m_775)⟩ (ci := 3) (q := (RX3, TX3, 10)) rfl rfl rfl hl.1 (Nat.le_of_ble_eq_true rfl) dX3_readHouse_66 ⟨Nat.le_of_ble_eq_true rfl, Nat.le_of_ble_eq_true rfl⟩ (fun r_1034 w_1034 H locs hw_1034 hP hD hS => ?_)
    obtain ⟨v_1035, v_1036, v_1037, v_1038, v_1039, v_1040, v_1041, bv_1036, bv_1038, bv_1039, bv_1040, bv_1041, er_1034, rfl⟩ := hw_1034
    subst r_1034
    have hLh_1042 : ((lenS.getD 8 0 : Nat) : Int) = 4 := by decide
    obtain ⟨hP, hD⟩ : vPD G A H [(ce_X3 ob ob_town ob_code v_1036 v_1037 ob_text ob_size v_1038 v_1039 v_1040 v_1041), (ce_X7 ob_town ob_town_houses ob_town_fresh ob_town_introducers ob_town_x ob_town_y ob_town_rank ob_town_weekday ob_town_from ob_town_to ob_town_came ob_town_bride ob_town_told), (ce_i16 y ob_town_x f_1024), (ce_i16 y ob_town_y f_1033), (ce_i16 y ob_town_rank fob_town_rank), (ce_i16 y ob_town_weekday fob_town_weekday), (ce_i16 y ob_town_from fob_town_from), (ce_i16 y ob_town_to fob_town_to), (ce_i16 y ob_town_came fob_town_came), (ce_i16 y ob_town_bride fob_town_bride), (ce_b1400 y ob_text fob_text)] := ⟨hP, hD⟩
    refine lv_pop hx hb dX3_readHouse_69 rfl ?_
    refine lv_aload_n hx hb dX3_readHouse_70 rfl (lv_at hl 1 rfl) ?_
    refine va_get (D := G) (ci := 3) (v := .ref ob_town) (C := RX3) (T := TX3) (N := 10) hx hb hw0 inA_wsX30 hown hK.1 hP 0 rfl rfl 0 (by decide) (hw0 _ m_747) (fun _ h9 => h9) rfl dX3_readHouse_71 ?_
    refine va_get (D := G) (ci := 7) (v := .ref ob_town_rank) (C := RX7) (T := TX7) (N := 12) hx hb hw0 inA_wsX70 hown hK.1 hP 1 rfl rfl 5 (by decide) (hw0 _ m_781) (fun _ h9 => h9) rfl dX3_readHouse_74 ?_
    refine lv_iload_n hx hb dX3_readHouse_77 rfl (lv_at hl 0 rfl) ?_
    refine lv_aload_n hx hb dX3_readHouse_78 rfl (lv_at hl 1 rfl) ?_
    refine lv_iconst (v := 0) hx hb dX3_readHouse_79 (by decide) ?_
    refine lv_bipush (v := 9) hx hb dX3_readHouse_80 (by decide) ?_
    refine cVim (As := [.int 0, .int 9]) (rest := [.int ob_town_houses, .ref ob_town_rank]) ⟨hx, hb, hml, hown, hw0⟩ hA hK hP hD hS [true, false, false, false, false, false, false, false, false, false, true] (snum15 l G y _ ob 9 ob_town ob_code v_1036 v_1037 ob_text ob_size v_1038 v_1039 v_1040 v_1041 fob_text bv_1036 p_ob_size bv_1038 bv_1039 bv_1040 bv_1041 (bw (-1) (15) (bkc (x := 9) (c := 9) (by decide)) (by decide))) rfl ⟨(callB_of 2 hw0 (gA m_752) rfl rfl rfl (hw0 _ m_721) (hw0 _ m_777) cb_X3_number ⟨Nat.le_of_ble_eq_true rfl, Nat.le_of_ble_eq_true rfl⟩), (hw0 _ m_778), (hw0 _ m_779)⟩ (ci := 3) (q := (RX3, TX3, 10)) rfl rfl rfl hl.1 (Nat.le_of_ble_eq_true rfl) dX3_readHouse_82 ⟨Nat.le_of_ble_eq_true rfl, Nat.le_of_ble_eq_true rfl⟩ (fun r_1043 w_1043 H locs hw_1043 hP hD hS => ?_)
    obtain ⟨v_1044, v_1045, v_1046, v_1047, v_1048, v_1049, v_1050, bv_1044, bv_1045, bv_1047, bv_1048, bv_1049, bv_1050, er_1043, rfl⟩ := hw_1043
    subst r_1043
    obtain ⟨hP, hD⟩ : vPD G A H [(ce_X3 ob ob_town ob_code v_1045 v_1046 ob_text ob_size v_1047 v_1048 v_1049 v_1050), (ce_X7 ob_town ob_town_houses ob_town_fresh ob_town_introducers ob_town_x ob_town_y ob_town_rank ob_town_weekday ob_town_from ob_town_to ob_town_came ob_town_bride ob_town_told), (ce_i16 y ob_town_x f_1024), (ce_i16 y ob_town_y f_1033), (ce_i16 y ob_town_rank fob_town_rank), (ce_i16 y ob_town_weekday fob_town_weekday), (ce_i16 y ob_town_from fob_town_from), (ce_i16 y ob_town_to fob_town_to), (ce_i16 y ob_town_came fob_town_came), (ce_i16 y ob_town_bride fob_town_bride), (ce_b1400 y ob_text fob_text)] := ⟨hP, hD⟩
    refine va_iast hx hb hK.1 hP hD hS 4 1 rfl rfl (vi nc_1001.1 (by decide)) dX3_readHouse_85 (fun H locs hP hD hS => ?_)
    generalize hf_1051 : (upd fob_town_rank (ob_town_houses : Int32).toNatClampNeg v_1044) = f_1051 at hP hD
    obtain ⟨hP, hD⟩ : vPD G A H [(ce_X3 ob ob_town ob_code v_1045 v_1046 ob_text ob_size v_1047 v_1048 v_1049 v_1050), (ce_X7 ob_town ob_town_houses ob_town_fresh ob_town_introducers ob_town_x ob_town_y ob_town_rank ob_town_weekday ob_town_from ob_town_to ob_town_came ob_town_bride ob_town_told), (ce_i16 y ob_town_x f_1024), (ce_i16 y ob_town_y f_1033), (ce_i16 y ob_town_rank f_1051), (ce_i16 y ob_town_weekday fob_town_weekday), (ce_i16 y ob_town_from fob_town_from), (ce_i16 y ob_town_to fob_town_to), (ce_i16 y ob_town_came fob_town_came), (ce_i16 y ob_town_bride fob_town_bride), (ce_b1400 y ob_text fob_text)] := ⟨hP, hD⟩
    refine lv_aload_n hx hb dX3_readHouse_86 rfl (lv_at hl 1 rfl) ?_
    refine va_ldcS (own := RX3) (tx := "home") (q := aK 9) hx hb hown (hE.2.1 ("CardBowl$Reader", 111, "home", 9) sl_CardBowl_Reader_111) dX3_readHouse_87 ?_
    refine cViSm (As := [.ref (aK 9)]) (rest := []) ⟨hx, hb, hml, hown, hw0⟩ hA hK hP hD hS hE [true, false, false, false, false, false, false, false, false, false, true] (sX3_choice l G y aK aV _ ob 9 ob_town ob_code v_1045 v_1046 ob_text ob_size v_1047 v_1048 v_1049 v_1050 fob_text bv_1045 p_ob_size bv_1047 bv_1048 bv_1049 bv_1050 (by decide)) rfl ⟨(callB_of 1 hw0 (gA m_730) rfl rfl rfl (hw0 _ m_721) (hw0 _ m_773) cb_X3_choice ⟨Nat.le_of_ble_eq_true rfl, Nat.le_of_ble_eq_true rfl⟩), (hw0 _ m_774), (hw0 _ m_775)⟩ (ci := 3) (q := (RX3, TX3, 10)) rfl rfl rfl hl.1 (Nat.le_of_ble_eq_true rfl) dX3_readHouse_89 ⟨Nat.le_of_ble_eq_true rfl, Nat.le_of_ble_eq_true rfl⟩ (fun r_1052 w_1052 H locs hw_1052 hP hD hS => ?_)
    obtain ⟨v_1053, v_1054, v_1055, v_1056, v_1057, v_1058, v_1059, bv_1054, bv_1056, bv_1057, bv_1058, bv_1059, er_1052, rfl⟩ := hw_1052
    subst r_1052
    have hLh_1060 : ((lenS.getD 9 0 : Nat) : Int) = 4 := by decide
    obtain ⟨hP, hD⟩ : vPD G A H [(ce_X3 ob ob_town ob_code v_1054 v_1055 ob_text ob_size v_1056 v_1057 v_1058 v_1059), (ce_X7 ob_town ob_town_houses ob_town_fresh ob_town_introducers ob_town_x ob_town_y ob_town_rank ob_town_weekday ob_town_from ob_town_to ob_town_came ob_town_bride ob_town_told), (ce_i16 y ob_town_x f_1024), (ce_i16 y ob_town_y f_1033), (ce_i16 y ob_town_rank f_1051), (ce_i16 y ob_town_weekday fob_town_weekday), (ce_i16 y ob_town_from fob_town_from), (ce_i16 y ob_town_to fob_town_to), (ce_i16 y ob_town_came fob_town_came), (ce_i16 y ob_town_bride fob_town_bride), (ce_b1400 y ob_text fob_text)] := ⟨hP, hD⟩
    refine lv_pop hx hb dX3_readHouse_92 rfl ?_
    refine lv_aload_n hx hb dX3_readHouse_93 rfl (lv_at hl 1 rfl) ?_
    refine va_get (D := G) (ci := 3) (v := .ref ob_town) (C := RX3) (T := TX3) (N := 10) hx hb hw0 inA_wsX30 hown hK.1 hP 0 rfl rfl 0 (by decide) (hw0 _ m_747) (fun _ h9 => h9) rfl dX3_readHouse_94 ?_
    refine va_get (D := G) (ci := 7) (v := .ref ob_town_weekday) (C := RX7) (T := TX7) (N := 12) hx hb hw0 inA_wsX70 hown hK.1 hP 1 rfl rfl 6 (by decide) (hw0 _ m_782) (fun _ h9 => h9) rfl dX3_readHouse_97 ?_
    refine lv_iload_n hx hb dX3_readHouse_100 rfl (lv_at hl 0 rfl) ?_
    refine lv_aload_n hx hb dX3_readHouse_101 rfl (lv_at hl 1 rfl) ?_
    refine va_ldcS (own := RX3) (tx := "sun mon tue wed thu fri sat") (q := aK 10) hx hb hown (hE.2.1 ("CardBowl$Reader", 116, "sun mon tue wed thu fri sat", 10) sl_CardBowl_Reader_116) dX3_readHouse_102 ?_
    refine cViSm (As := [.ref (aK 10)]) (rest := [.int ob_town_houses, .ref ob_town_weekday]) ⟨hx, hb, hml, hown, hw0⟩ hA hK hP hD hS hE [true, false, false, false, false, false, false, false, false, false, true] (sX3_choice l G y aK aV _ ob 10 ob_town ob_code v_1054 v_1055 ob_text ob_size v_1056 v_1057 v_1058 v_1059 fob_text bv_1054 p_ob_size bv_1056 bv_1057 bv_1058 bv_1059 (by decide)) rfl ⟨(callB_of 1 hw0 (gA m_730) rfl rfl rfl (hw0 _ m_721) (hw0 _ m_773) cb_X3_choice ⟨Nat.le_of_ble_eq_true rfl, Nat.le_of_ble_eq_true rfl⟩), (hw0 _ m_774), (hw0 _ m_775)⟩ (ci := 3) (q := (RX3, TX3, 10)) rfl rfl rfl hl.1 (Nat.le_of_ble_eq_true rfl) dX3_readHouse_104 ⟨Nat.le_of_ble_eq_true rfl, Nat.le_of_ble_eq_true rfl⟩ (fun r_1061 w_1061 H locs hw_1061 hP hD hS => ?_)
    obtain ⟨v_1062, v_1063, v_1064, v_1065, v_1066, v_1067, v_1068, bv_1063, bv_1065, bv_1066, bv_1067, bv_1068, er_1061, rfl⟩ := hw_1061
    subst r_1061
    have hLh_1069 : ((lenS.getD 10 0 : Nat) : Int) = 27 := by decide
    obtain ⟨hP, hD⟩ : vPD G A H [(ce_X3 ob ob_town ob_code v_1063 v_1064 ob_text ob_size v_1065 v_1066 v_1067 v_1068), (ce_X7 ob_town ob_town_houses ob_town_fresh ob_town_introducers ob_town_x ob_town_y ob_town_rank ob_town_weekday ob_town_from ob_town_to ob_town_came ob_town_bride ob_town_told), (ce_i16 y ob_town_x f_1024), (ce_i16 y ob_town_y f_1033), (ce_i16 y ob_town_rank f_1051), (ce_i16 y ob_town_weekday fob_town_weekday), (ce_i16 y ob_town_from fob_town_from), (ce_i16 y ob_town_to fob_town_to), (ce_i16 y ob_town_came fob_town_came), (ce_i16 y ob_town_bride fob_town_bride), (ce_b1400 y ob_text fob_text)] := ⟨hP, hD⟩
    refine va_iast hx hb hK.1 hP hD hS 5 1 rfl rfl (vi nc_1001.1 (by decide)) dX3_readHouse_107 (fun H locs hP hD hS => ?_)
    generalize hf_1070 : (upd fob_town_weekday (ob_town_houses : Int32).toNatClampNeg v_1062) = f_1070 at hP hD
    obtain ⟨hP, hD⟩ : vPD G A H [(ce_X3 ob ob_town ob_code v_1063 v_1064 ob_text ob_size v_1065 v_1066 v_1067 v_1068), (ce_X7 ob_town ob_town_houses ob_town_fresh ob_town_introducers ob_town_x ob_town_y ob_town_rank ob_town_weekday ob_town_from ob_town_to ob_town_came ob_town_bride ob_town_told), (ce_i16 y ob_town_x f_1024), (ce_i16 y ob_town_y f_1033), (ce_i16 y ob_town_rank f_1051), (ce_i16 y ob_town_weekday f_1070), (ce_i16 y ob_town_from fob_town_from), (ce_i16 y ob_town_to fob_town_to), (ce_i16 y ob_town_came fob_town_came), (ce_i16 y ob_town_bride fob_town_bride), (ce_b1400 y ob_text fob_text)] := ⟨hP, hD⟩
    refine lv_aload_n hx hb dX3_readHouse_108 rfl (lv_at hl 1 rfl) ?_
    refine va_get (D := G) (ci := 3) (v := .ref ob_town) (C := RX3) (T := TX3) (N := 10) hx hb hw0 inA_wsX30 hown hK.1 hP 0 rfl rfl 0 (by decide) (hw0 _ m_747) (fun _ h9 => h9) rfl dX3_readHouse_109 ?_
    refine va_get (D := G) (ci := 7) (v := .ref ob_town_from) (C := RX7) (T := TX7) (N := 12) hx hb hw0 inA_wsX70 hown hK.1 hP 1 rfl rfl 7 (by decide) (hw0 _ m_783) (fun _ h9 => h9) rfl dX3_readHouse_112 ?_
    refine lv_iload_n hx hb dX3_readHouse_115 rfl (lv_at hl 0 rfl) ?_
    refine lv_aload_n hx hb dX3_readHouse_116 rfl (lv_at hl 1 rfl) ?_
    refine lv_iconst (v := 0) hx hb dX3_readHouse_117 (by decide) ?_
    refine lv_sipush (v := 180) hx hb dX3_readHouse_118 (by decide) ?_
    refine cVim (As := [.int 0, .int 180]) (rest := [.int ob_town_houses, .ref ob_town_from]) ⟨hx, hb, hml, hown, hw0⟩ hA hK hP hD hS [true, false, false, false, false, false, false, false, false, false, true] (sX3_number l G y _ ob 0 180 ob_town ob_code v_1063 v_1064 ob_text ob_size v_1065 v_1066 v_1067 v_1068 fob_text bv_1063 p_ob_size bv_1065 bv_1066 bv_1067 bv_1068) rfl ⟨(callB_of 2 hw0 (gA m_752) rfl rfl rfl (hw0 _ m_721) (hw0 _ m_777) cb_X3_number ⟨Nat.le_of_ble_eq_true rfl, Nat.le_of_ble_eq_true rfl⟩), (hw0 _ m_778), (hw0 _ m_779)⟩ (ci := 3) (q := (RX3, TX3, 10)) rfl rfl rfl hl.1 (Nat.le_of_ble_eq_true rfl) dX3_readHouse_121 ⟨Nat.le_of_ble_eq_true rfl, Nat.le_of_ble_eq_true rfl⟩ (fun r_1071 w_1071 H locs hw_1071 hP hD hS => ?_)
    obtain ⟨v_1072, v_1073, v_1074, v_1075, v_1076, v_1077, v_1078, bv_1072, bv_1073, bv_1075, bv_1076, bv_1077, bv_1078, er_1071, rfl⟩ := hw_1071
    subst r_1071
    obtain ⟨hP, hD⟩ : vPD G A H [(ce_X3 ob ob_town ob_code v_1073 v_1074 ob_text ob_size v_1075 v_1076 v_1077 v_1078), (ce_X7 ob_town ob_town_houses ob_town_fresh ob_town_introducers ob_town_x ob_town_y ob_town_rank ob_town_weekday ob_town_from ob_town_to ob_town_came ob_town_bride ob_town_told), (ce_i16 y ob_town_x f_1024), (ce_i16 y ob_town_y f_1033), (ce_i16 y ob_town_rank f_1051), (ce_i16 y ob_town_weekday f_1070), (ce_i16 y ob_town_from fob_town_from), (ce_i16 y ob_town_to fob_town_to), (ce_i16 y ob_town_came fob_town_came), (ce_i16 y ob_town_bride fob_town_bride), (ce_b1400 y ob_text fob_text)] := ⟨hP, hD⟩
    refine va_iast hx hb hK.1 hP hD hS 6 1 rfl rfl (vi nc_1001.1 (by decide)) dX3_readHouse_124 (fun H locs hP hD hS => ?_)
    generalize hf_1079 : (upd fob_town_from (ob_town_houses : Int32).toNatClampNeg v_1072) = f_1079 at hP hD
    obtain ⟨hP, hD⟩ : vPD G A H [(ce_X3 ob ob_town ob_code v_1073 v_1074 ob_text ob_size v_1075 v_1076 v_1077 v_1078), (ce_X7 ob_town ob_town_houses ob_town_fresh ob_town_introducers ob_town_x ob_town_y ob_town_rank ob_town_weekday ob_town_from ob_town_to ob_town_came ob_town_bride ob_town_told), (ce_i16 y ob_town_x f_1024), (ce_i16 y ob_town_y f_1033), (ce_i16 y ob_town_rank f_1051), (ce_i16 y ob_town_weekday f_1070), (ce_i16 y ob_town_from f_1079), (ce_i16 y ob_town_to fob_town_to), (ce_i16 y ob_town_came fob_town_came), (ce_i16 y ob_town_bride fob_town_bride), (ce_b1400 y ob_text fob_text)] := ⟨hP, hD⟩
    refine lv_aload_n hx hb dX3_readHouse_125 rfl (lv_at hl 1 rfl) ?_
    refine va_get (D := G) (ci := 3) (v := .ref ob_town) (C := RX3) (T := TX3) (N := 10) hx hb hw0 inA_wsX30 hown hK.1 hP 0 rfl rfl 0 (by decide) (hw0 _ m_747) (fun _ h9 => h9) rfl dX3_readHouse_126 ?_
    refine va_get (D := G) (ci := 7) (v := .ref ob_town_to) (C := RX7) (T := TX7) (N := 12) hx hb hw0 inA_wsX70 hown hK.1 hP 1 rfl rfl 8 (by decide) (hw0 _ m_784) (fun _ h9 => h9) rfl dX3_readHouse_129 ?_
    refine lv_iload_n hx hb dX3_readHouse_132 rfl (lv_at hl 0 rfl) ?_
    refine lv_aload_n hx hb dX3_readHouse_133 rfl (lv_at hl 1 rfl) ?_
    refine lv_aload_n hx hb dX3_readHouse_134 rfl (lv_at hl 1 rfl) ?_
    refine va_get (D := G) (ci := 3) (v := .ref ob_town) (C := RX3) (T := TX3) (N := 10) hx hb hw0 inA_wsX30 hown hK.1 hP 0 rfl rfl 0 (by decide) (hw0 _ m_747) (fun _ h9 => h9) rfl dX3_readHouse_135 ?_
    refine va_get (D := G) (ci := 7) (v := .ref ob_town_from) (C := RX7) (T := TX7) (N := 12) hx hb hw0 inA_wsX70 hown hK.1 hP 1 rfl rfl 7 (by decide) (hw0 _ m_783) (fun _ h9 => h9) rfl dX3_readHouse_138 ?_
    refine lv_iload_n hx hb dX3_readHouse_141 rfl (lv_at hl 0 rfl) ?_
    refine va_iald hx hb hK.1 hP 6 1 rfl rfl (vi nc_1001.1 (by decide)) dX3_readHouse_142 ?_
    refine lv_topi (fun v_1080 ev_1080 => ?_)
    refine lv_sipush (v := 180) hx hb dX3_readHouse_143 (by decide) ?_
    refine cVim (As := [.int v_1080, .int 180]) (rest := [.int ob_town_houses, .ref ob_town_to]) ⟨hx, hb, hml, hown, hw0⟩ hA hK hP hD hS [true, false, false, false, false, false, false, false, false, false, true] (sX3_number l G y _ ob v_1080 180 ob_town ob_code v_1073 v_1074 ob_text ob_size v_1075 v_1076 v_1077 v_1078 fob_text bv_1073 p_ob_size bv_1075 bv_1076 bv_1077 bv_1078) rfl ⟨(callB_of 2 hw0 (gA m_752) rfl rfl rfl (hw0 _ m_721) (hw0 _ m_777) cb_X3_number ⟨Nat.le_of_ble_eq_true rfl, Nat.le_of_ble_eq_true rfl⟩), (hw0 _ m_778), (hw0 _ m_779)⟩ (ci := 3) (q := (RX3, TX3, 10)) rfl rfl rfl hl.1 (Nat.le_of_ble_eq_true rfl) dX3_readHouse_146 ⟨Nat.le_of_ble_eq_true rfl, Nat.le_of_ble_eq_true rfl⟩ (fun r_1081 w_1081 H locs hw_1081 hP hD hS => ?_)
    obtain ⟨v_1082, v_1083, v_1084, v_1085, v_1086, v_1087, v_1088, bv_1082, bv_1083, bv_1085, bv_1086, bv_1087, bv_1088, er_1081, rfl⟩ := hw_1081
    subst r_1081
    obtain ⟨hP, hD⟩ : vPD G A H [(ce_X3 ob ob_town ob_code v_1083 v_1084 ob_text ob_size v_1085 v_1086 v_1087 v_1088), (ce_X7 ob_town ob_town_houses ob_town_fresh ob_town_introducers ob_town_x ob_town_y ob_town_rank ob_town_weekday ob_town_from ob_town_to ob_town_came ob_town_bride ob_town_told), (ce_i16 y ob_town_x f_1024), (ce_i16 y ob_town_y f_1033), (ce_i16 y ob_town_rank f_1051), (ce_i16 y ob_town_weekday f_1070), (ce_i16 y ob_town_from f_1079), (ce_i16 y ob_town_to fob_town_to), (ce_i16 y ob_town_came fob_town_came), (ce_i16 y ob_town_bride fob_town_bride), (ce_b1400 y ob_text fob_text)] := ⟨hP, hD⟩
    refine va_iast hx hb hK.1 hP hD hS 7 1 rfl rfl (vi nc_1001.1 (by decide)) dX3_readHouse_149 (fun H locs hP hD hS => ?_)
    generalize hf_1089 : (upd fob_town_to (ob_town_houses : Int32).toNatClampNeg v_1082) = f_1089 at hP hD
    obtain ⟨hP, hD⟩ : vPD G A H [(ce_X3 ob ob_town ob_code v_1083 v_1084 ob_text ob_size v_1085 v_1086 v_1087 v_1088), (ce_X7 ob_town ob_town_houses ob_town_fresh ob_town_introducers ob_town_x ob_town_y ob_town_rank ob_town_weekday ob_town_from ob_town_to ob_town_came ob_town_bride ob_town_told), (ce_i16 y ob_town_x f_1024), (ce_i16 y ob_town_y f_1033), (ce_i16 y ob_town_rank f_1051), (ce_i16 y ob_town_weekday f_1070), (ce_i16 y ob_town_from f_1079), (ce_i16 y ob_town_to f_1089), (ce_i16 y ob_town_came fob_town_came), (ce_i16 y ob_town_bride fob_town_bride), (ce_b1400 y ob_text fob_text)] := ⟨hP, hD⟩
    refine lv_aload_n hx hb dX3_readHouse_150 rfl (lv_at hl 1 rfl) ?_
    refine va_get (D := G) (ci := 3) (v := .ref ob_town) (C := RX3) (T := TX3) (N := 10) hx hb hw0 inA_wsX30 hown hK.1 hP 0 rfl rfl 0 (by decide) (hw0 _ m_747) (fun _ h9 => h9) rfl dX3_readHouse_151 ?_
    refine va_get (D := G) (ci := 7) (v := .ref ob_town_came) (C := RX7) (T := TX7) (N := 12) hx hb hw0 inA_wsX70 hown hK.1 hP 1 rfl rfl 9 (by decide) (hw0 _ m_785) (fun _ h9 => h9) rfl dX3_readHouse_154 ?_
    refine lv_iload_n hx hb dX3_readHouse_157 rfl (lv_at hl 0 rfl) ?_
    refine lv_aload_n hx hb dX3_readHouse_158 rfl (lv_at hl 1 rfl) ?_
    refine va_ldcS (own := RX3) (tx := "came") (q := aK 11) hx hb hown (hE.2.1 ("CardBowl$Reader", 127, "came", 11) sl_CardBowl_Reader_127) dX3_readHouse_159 ?_
    refine cutW 179 (fun H locs ls st => ∃ (v_1106 : Int32) (v_1107 : Int32) (v_1108 : Int32) (v_1109 : Int32) (v_1110 : Int32) (v_1111 : Int32) (v_1112 : Int32), ((0 : Int) ≤ v_1106.toInt ∧ v_1106.toInt ≤ 1000000) ∧ ((0 : Int) ≤ v_1107.toInt ∧ v_1107.toInt ≤ 3) ∧ ((0 : Int) ≤ v_1109.toInt ∧ v_1109.toInt ≤ 1400) ∧ ((0 : Int) ≤ v_1110.toInt ∧ v_1110.toInt ≤ 1400) ∧ ((0 : Int) ≤ v_1111.toInt ∧ v_1111.toInt ≤ 4) ∧ ((0 : Int) ≤ v_1112.toInt ∧ v_1112.toInt ≤ 1000000) ∧ st = [.int v_1106, .int ob_town_houses, .ref ob_town_came] ∧ vPD G A H [(ce_X3 ob ob_town ob_code v_1107 v_1108 ob_text ob_size v_1109 v_1110 v_1111 v_1112), (ce_X7 ob_town ob_town_houses ob_town_fresh ob_town_introducers ob_town_x ob_town_y ob_town_rank ob_town_weekday ob_town_from ob_town_to ob_town_came ob_town_bride ob_town_told), (ce_i16 y ob_town_x f_1024), (ce_i16 y ob_town_y f_1033), (ce_i16 y ob_town_rank f_1051), (ce_i16 y ob_town_weekday f_1070), (ce_i16 y ob_town_from f_1079), (ce_i16 y ob_town_to f_1089), (ce_i16 y ob_town_came fob_town_came), (ce_i16 y ob_town_bride fob_town_bride), (ce_b1400 y ob_text fob_text)] ∧ va_S A s.heap H locs ∧ lv_has ls 2 [(1, .int ob_town_houses), (0, .ref ob)]) ?_ (fun J_179_1112 => ?_)
    · rintro H locs ls st ⟨v_1106, v_1107, v_1108, v_1109, v_1110, v_1111, v_1112, bv_1106, bv_1107, bv_1109, bv_1110, bv_1111, bv_1112, rfl, ⟨hP, hD⟩, hS, hl⟩
      refine va_iast hx hb hK.1 hP hD hS 8 1 rfl rfl (vi nc_1001.1 (by decide)) dX3_readHouse_179 (fun H locs hP hD hS => ?_)
      generalize hf_1113 : (upd fob_town_came (ob_town_houses : Int32).toNatClampNeg v_1106) = f_1113 at hP hD
      obtain ⟨hP, hD⟩ : vPD G A H [(ce_X3 ob ob_town ob_code v_1107 v_1108 ob_text ob_size v_1109 v_1110 v_1111 v_1112), (ce_X7 ob_town ob_town_houses ob_town_fresh ob_town_introducers ob_town_x ob_town_y ob_town_rank ob_town_weekday ob_town_from ob_town_to ob_town_came ob_town_bride ob_town_told), (ce_i16 y ob_town_x f_1024), (ce_i16 y ob_town_y f_1033), (ce_i16 y ob_town_rank f_1051), (ce_i16 y ob_town_weekday f_1070), (ce_i16 y ob_town_from f_1079), (ce_i16 y ob_town_to f_1089), (ce_i16 y ob_town_came f_1113), (ce_i16 y ob_town_bride fob_town_bride), (ce_b1400 y ob_text fob_text)] := ⟨hP, hD⟩
      refine lv_aload_n hx hb dX3_readHouse_180 rfl (lv_at hl 1 rfl) ?_
      refine va_get (D := G) (ci := 3) (v := .ref ob_town) (C := RX3) (T := TX3) (N := 10) hx hb hw0 inA_wsX30 hown hK.1 hP 0 rfl rfl 0 (by decide) (hw0 _ m_747) (fun _ h9 => h9) rfl dX3_readHouse_181 ?_
      refine va_get (D := G) (ci := 7) (v := .ref ob_town_bride) (C := RX7) (T := TX7) (N := 12) hx hb hw0 inA_wsX70 hown hK.1 hP 1 rfl rfl 10 (by decide) (hw0 _ m_789) (fun _ h9 => h9) rfl dX3_readHouse_184 ?_
      refine lv_iload_n hx hb dX3_readHouse_187 rfl (lv_at hl 0 rfl) ?_
      refine lv_aload_n hx hb dX3_readHouse_188 rfl (lv_at hl 1 rfl) ?_
      refine va_ldcS (own := RX3) (tx := "bride") (q := aK 12) hx hb hown (hE.2.1 ("CardBowl$Reader", 135, "bride", 12) sl_CardBowl_Reader_135) dX3_readHouse_189 ?_
      refine cutW 208 (fun H locs ls st => ∃ (v_1130 : Int32) (v_1131 : Int32) (v_1132 : Int32) (v_1133 : Int32) (v_1134 : Int32) (v_1135 : Int32) (v_1136 : Int32), ((0 : Int) ≤ v_1130.toInt ∧ v_1130.toInt ≤ 1000000) ∧ ((0 : Int) ≤ v_1131.toInt ∧ v_1131.toInt ≤ 3) ∧ ((0 : Int) ≤ v_1133.toInt ∧ v_1133.toInt ≤ 1400) ∧ ((0 : Int) ≤ v_1134.toInt ∧ v_1134.toInt ≤ 1400) ∧ ((0 : Int) ≤ v_1135.toInt ∧ v_1135.toInt ≤ 4) ∧ ((0 : Int) ≤ v_1136.toInt ∧ v_1136.toInt ≤ 1000000) ∧ st = [.int v_1130, .int ob_town_houses, .ref ob_town_bride] ∧ vPD G A H [(ce_X3 ob ob_town ob_code v_1131 v_1132 ob_text ob_size v_1133 v_1134 v_1135 v_1136), (ce_X7 ob_town ob_town_houses ob_town_fresh ob_town_introducers ob_town_x ob_town_y ob_town_rank ob_town_weekday ob_town_from ob_town_to ob_town_came ob_town_bride ob_town_told), (ce_i16 y ob_town_x f_1024), (ce_i16 y ob_town_y f_1033), (ce_i16 y ob_town_rank f_1051), (ce_i16 y ob_town_weekday f_1070), (ce_i16 y ob_town_from f_1079), (ce_i16 y ob_town_to f_1089), (ce_i16 y ob_town_came f_1113), (ce_i16 y ob_town_bride fob_town_bride), (ce_b1400 y ob_text fob_text)] ∧ va_S A s.heap H locs ∧ lv_has ls 2 [(0, .ref ob)]) ?_ (fun J_208_1136 => ?_)
      · rintro H locs ls st ⟨v_1130, v_1131, v_1132, v_1133, v_1134, v_1135, v_1136, bv_1130, bv_1131, bv_1133, bv_1134, bv_1135, bv_1136, rfl, ⟨hP, hD⟩, hS, hl⟩
        refine va_iast hx hb hK.1 hP hD hS 9 1 rfl rfl (vi nc_1001.1 (by decide)) dX3_readHouse_208 (fun H locs hP hD hS => ?_)
        generalize hf_1137 : (upd fob_town_bride (ob_town_houses : Int32).toNatClampNeg v_1130) = f_1137 at hP hD
        obtain ⟨hP, hD⟩ : vPD G A H [(ce_X3 ob ob_town ob_code v_1131 v_1132 ob_text ob_size v_1133 v_1134 v_1135 v_1136), (ce_X7 ob_town ob_town_houses ob_town_fresh ob_town_introducers ob_town_x ob_town_y ob_town_rank ob_town_weekday ob_town_from ob_town_to ob_town_came ob_town_bride ob_town_told), (ce_i16 y ob_town_x f_1024), (ce_i16 y ob_town_y f_1033), (ce_i16 y ob_town_rank f_1051), (ce_i16 y ob_town_weekday f_1070), (ce_i16 y ob_town_from f_1079), (ce_i16 y ob_town_to f_1089), (ce_i16 y ob_town_came f_1113), (ce_i16 y ob_town_bride f_1137), (ce_b1400 y ob_text fob_text)] := ⟨hP, hD⟩
        refine lv_aload_n hx hb dX3_readHouse_209 rfl (lv_at hl 0 rfl) ?_
        refine va_get (D := G) (ci := 3) (v := .ref ob_town) (C := RX3) (T := TX3) (N := 10) hx hb hw0 inA_wsX30 hown hK.1 hP 0 rfl rfl 0 (by decide) (hw0 _ m_747) (fun _ h9 => h9) rfl dX3_readHouse_210 ?_
        refine lv_dup hx hb dX3_readHouse_213 rfl ?_
        refine va_get (D := G) (ci := 7) (v := .int ob_town_houses) (C := RX7) (T := TX7) (N := 12) hx hb hw0 inA_wsX70 hown hK.1 hP 1 rfl rfl 0 (by decide) (hw0 _ m_772) (fun _ h9 => h9) rfl dX3_readHouse_214 ?_
        refine lv_iconst (v := 1) hx hb dX3_readHouse_217 (by decide) ?_
        refine lv_iadd hx hb dX3_readHouse_218 ?_
        refine lv_topi (fun v_1138 ev_1138 => ?_)
        have qv_1138 := ba_add ev_1138 nc_1001.1 (bkc (x := 1) (c := 1) (by decide)) (by decide)
        have bv_1138 : (1 : Int) ≤ v_1138.toInt ∧ v_1138.toInt ≤ 16 := bq_add qv_1138 nc_1001.1 (bkc (x := 1) (c := 1) (by decide)) _ _ (by decide)
        have qv_1138 : v_1138.toInt = ob_town_houses.toInt + (1) := qv_1138
        refine va_put (D := G) (ci := 7) (v := .int v_1138) (ty := .int) (C := RX7) (T := TX7) (N := 12) hx hb hw0 inA_wsX70 tyX7 tyX7_ok nmX7 hown hK.1 hP hD hS 1 rfl rfl 0 (by decide) (hw0 _ m_772) (fun _ h9 => h9) rfl fd_X7_0 rfl rfl (Nat.le_of_ble_eq_true rfl) dX3_readHouse_219 (fun H locs hP hD hS => ?_)
        obtain ⟨hP, hD⟩ : vPD G A H [(ce_X3 ob ob_town ob_code v_1131 v_1132 ob_text ob_size v_1133 v_1134 v_1135 v_1136), (ce_X7 ob_town v_1138 ob_town_fresh ob_town_introducers ob_town_x ob_town_y ob_town_rank ob_town_weekday ob_town_from ob_town_to ob_town_came ob_town_bride ob_town_told), (ce_i16 y ob_town_x f_1024), (ce_i16 y ob_town_y f_1033), (ce_i16 y ob_town_rank f_1051), (ce_i16 y ob_town_weekday f_1070), (ce_i16 y ob_town_from f_1079), (ce_i16 y ob_town_to f_1089), (ce_i16 y ob_town_came f_1113), (ce_i16 y ob_town_bride f_1137), (ce_b1400 y ob_text fob_text)] := ⟨hP, hD⟩
        exact W.vret hx hb hr (fun t ht hW => ⟨⟨_, rfl, ⟨v_1131, v_1132, v_1133, v_1134, v_1135, v_1136, v_1138, f_1024, f_1033, f_1051, f_1070, f_1079, f_1089, f_1113, f_1137, bv_1131, bv_1133, bv_1134, bv_1135, bv_1136, bv_1138, rfl⟩, by rw [ht]; exact hP, hD⟩, hS.F ht⟩) hS.2.2 dX3_readHouse_222
      · skip
        refine cViSm (As := [.ref (aK 12)]) (rest := [.int ob_town_houses, .ref ob_town_bride]) ⟨hx, hb, hml, hown, hw0⟩ hA hK hP hD hS hE [true, false, false, false, false, false, false, false, false, false, true] (sX3_takes l G y aK aV _ ob 12 ob_town ob_code v_1107 v_1108 ob_text ob_size v_1109 v_1110 v_1111 v_1112 fob_text bv_1107 p_ob_size bv_1109 bv_1110 bv_1111 bv_1112 (by decide)) rfl ⟨(callB_of 1 hw0 (gA m_820) rfl rfl rfl (hw0 _ m_721) (hw0 _ m_786) cb_X3_takes ⟨Nat.le_of_ble_eq_true rfl, Nat.le_of_ble_eq_true rfl⟩), (hw0 _ m_787), (hw0 _ m_788)⟩ (ci := 3) (q := (RX3, TX3, 10)) rfl rfl rfl hl.1 (Nat.le_of_ble_eq_true rfl) dX3_readHouse_191 ⟨Nat.le_of_ble_eq_true rfl, Nat.le_of_ble_eq_true rfl⟩ (fun r_1139 w_1139 H locs hw_1139 hP hD hS => ?_)
        rcases hw_1139 with ⟨rfl, rfl⟩ | ⟨v_1140, v_1141, v_1142, v_1143, bv_1140, bv_1141, bv_1142, bv_1143, h_1144, rfl, rfl⟩
        · skip
          have hLh_1145 : ((lenS.getD 12 0 : Nat) : Int) = 5 := by decide
          obtain ⟨hP, hD⟩ : vPD G A H [(ce_X3 ob ob_town ob_code v_1107 v_1108 ob_text ob_size v_1109 v_1110 v_1111 v_1112), (ce_X7 ob_town ob_town_houses ob_town_fresh ob_town_introducers ob_town_x ob_town_y ob_town_rank ob_town_weekday ob_town_from ob_town_to ob_town_came ob_town_bride ob_town_told), (ce_i16 y ob_town_x f_1024), (ce_i16 y ob_town_y f_1033), (ce_i16 y ob_town_rank f_1051), (ce_i16 y ob_town_weekday f_1070), (ce_i16 y ob_town_from f_1079), (ce_i16 y ob_town_to f_1089), (ce_i16 y ob_town_came f_1113), (ce_i16 y ob_town_bride fob_town_bride), (ce_b1400 y ob_text fob_text)] := ⟨hP, hD⟩
          refine lv_if_eq (tgt := 207) hx hb dX3_readHouse_194 (by decide) (fun _ => ?_) (fun c9 => absurd (by decide) c9)
          refine lv_iconst (v := 0) hx hb dX3_readHouse_207 (by decide) ?_
          exact J_208_1136 _ _ _ _ ⟨0, v_1107, v_1108, v_1109, v_1110, v_1111, v_1112, (bw (0) (1000000) (bkc (x := 0) (c := 0) (by decide)) (by decide)), bv_1107, bv_1109, bv_1110, bv_1111, bv_1112, rfl, ⟨hP, hD⟩, hS, lv_sub hl [1] rfl⟩
        · skip
          have hLh_1146 : ((lenS.getD 12 0 : Nat) : Int) = 5 := by decide
          obtain ⟨hP, hD⟩ : vPD G A H [(ce_X3 ob ob_town ob_code v_1107 v_1108 ob_text ob_size v_1140 v_1141 v_1142 v_1143), (ce_X7 ob_town ob_town_houses ob_town_fresh ob_town_introducers ob_town_x ob_town_y ob_town_rank ob_town_weekday ob_town_from ob_town_to ob_town_came ob_town_bride ob_town_told), (ce_i16 y ob_town_x f_1024), (ce_i16 y ob_town_y f_1033), (ce_i16 y ob_town_rank f_1051), (ce_i16 y ob_town_weekday f_1070), (ce_i16 y ob_town_from f_1079), (ce_i16 y ob_town_to f_1089), (ce_i16 y ob_town_came f_1113), (ce_i16 y ob_town_bride fob_town_bride), (ce_b1400 y ob_text fob_text)] := ⟨hP, hD⟩
          refine lv_if_eq (tgt := 207) hx hb dX3_readHouse_194 (by decide) (fun c9 => absurd c9 (by decide)) (fun _ => ?_)
          refine lv_aload_n hx hb dX3_readHouse_197 rfl (lv_at hl 1 rfl) ?_
          refine lv_iconst (v := 0) hx hb dX3_readHouse_198 (by decide) ?_
          refine lv_bipush (v := 99) hx hb dX3_readHouse_199 (by decide) ?_
          refine cVim (As := [.int 0, .int 99]) (rest := [.int ob_town_houses, .ref ob_town_bride]) ⟨hx, hb, hml, hown, hw0⟩ hA hK hP hD hS [true, false, false, false, false, false, false, false, false, false, true] (sX3_number l G y _ ob 0 99 ob_town ob_code v_1107 v_1108 ob_text ob_size v_1140 v_1141 v_1142 v_1143 fob_text (bw (0) (3) h_1144 (by decide)) p_ob_size bv_1140 bv_1141 bv_1142 bv_1143) rfl ⟨(callB_of 2 hw0 (gA m_752) rfl rfl rfl (hw0 _ m_721) (hw0 _ m_777) cb_X3_number ⟨Nat.le_of_ble_eq_true rfl, Nat.le_of_ble_eq_true rfl⟩), (hw0 _ m_778), (hw0 _ m_779)⟩ (ci := 3) (q := (RX3, TX3, 10)) rfl rfl rfl hl.1 (Nat.le_of_ble_eq_true rfl) dX3_readHouse_201 ⟨Nat.le_of_ble_eq_true rfl, Nat.le_of_ble_eq_true rfl⟩ (fun r_1147 w_1147 H locs hw_1147 hP hD hS => ?_)
          obtain ⟨v_1148, v_1149, v_1150, v_1151, v_1152, v_1153, v_1154, bv_1148, bv_1149, bv_1151, bv_1152, bv_1153, bv_1154, er_1147, rfl⟩ := hw_1147
          subst r_1147
          obtain ⟨hP, hD⟩ : vPD G A H [(ce_X3 ob ob_town ob_code v_1149 v_1150 ob_text ob_size v_1151 v_1152 v_1153 v_1154), (ce_X7 ob_town ob_town_houses ob_town_fresh ob_town_introducers ob_town_x ob_town_y ob_town_rank ob_town_weekday ob_town_from ob_town_to ob_town_came ob_town_bride ob_town_told), (ce_i16 y ob_town_x f_1024), (ce_i16 y ob_town_y f_1033), (ce_i16 y ob_town_rank f_1051), (ce_i16 y ob_town_weekday f_1070), (ce_i16 y ob_town_from f_1079), (ce_i16 y ob_town_to f_1089), (ce_i16 y ob_town_came f_1113), (ce_i16 y ob_town_bride fob_town_bride), (ce_b1400 y ob_text fob_text)] := ⟨hP, hD⟩
          refine lv_goto (tgt := 208) hx hb dX3_readHouse_204 (by decide) ?_
          exact J_208_1136 _ _ _ _ ⟨v_1148, v_1149, v_1150, v_1151, v_1152, v_1153, v_1154, bv_1148, bv_1149, bv_1151, bv_1152, bv_1153, bv_1154, rfl, ⟨hP, hD⟩, hS, lv_sub hl [1] rfl⟩
    · skip
      refine cViSm (As := [.ref (aK 11)]) (rest := [.int ob_town_houses, .ref ob_town_came]) ⟨hx, hb, hml, hown, hw0⟩ hA hK hP hD hS hE [true, false, false, false, false, false, false, false, false, false, true] (sX3_takes l G y aK aV _ ob 11 ob_town ob_code v_1083 v_1084 ob_text ob_size v_1085 v_1086 v_1087 v_1088 fob_text bv_1083 p_ob_size bv_1085 bv_1086 bv_1087 bv_1088 (by decide)) rfl ⟨(callB_of 1 hw0 (gA m_820) rfl rfl rfl (hw0 _ m_721) (hw0 _ m_786) cb_X3_takes ⟨Nat.le_of_ble_eq_true rfl, Nat.le_of_ble_eq_true rfl⟩), (hw0 _ m_787), (hw0 _ m_788)⟩ (ci := 3) (q := (RX3, TX3, 10)) rfl rfl rfl hl.1 (Nat.le_of_ble_eq_true rfl) dX3_readHouse_161 ⟨Nat.le_of_ble_eq_true rfl, Nat.le_of_ble_eq_true rfl⟩ (fun r_1155 w_1155 H locs hw_1155 hP hD hS => ?_)
      rcases hw_1155 with ⟨rfl, rfl⟩ | ⟨v_1156, v_1157, v_1158, v_1159, bv_1156, bv_1157, bv_1158, bv_1159, h_1160, rfl, rfl⟩
      · skip
        have hLh_1161 : ((lenS.getD 11 0 : Nat) : Int) = 4 := by decide
        obtain ⟨hP, hD⟩ : vPD G A H [(ce_X3 ob ob_town ob_code v_1083 v_1084 ob_text ob_size v_1085 v_1086 v_1087 v_1088), (ce_X7 ob_town ob_town_houses ob_town_fresh ob_town_introducers ob_town_x ob_town_y ob_town_rank ob_town_weekday ob_town_from ob_town_to ob_town_came ob_town_bride ob_town_told), (ce_i16 y ob_town_x f_1024), (ce_i16 y ob_town_y f_1033), (ce_i16 y ob_town_rank f_1051), (ce_i16 y ob_town_weekday f_1070), (ce_i16 y ob_town_from f_1079), (ce_i16 y ob_town_to f_1089), (ce_i16 y ob_town_came fob_town_came), (ce_i16 y ob_town_bride fob_town_bride), (ce_b1400 y ob_text fob_text)] := ⟨hP, hD⟩
        refine lv_if_eq (tgt := 178) hx hb dX3_readHouse_164 (by decide) (fun _ => ?_) (fun c9 => absurd (by decide) c9)
        refine lv_iconst (v := 0) hx hb dX3_readHouse_178 (by decide) ?_
        exact J_179_1112 _ _ _ _ ⟨0, v_1083, v_1084, v_1085, v_1086, v_1087, v_1088, (bw (0) (1000000) (bkc (x := 0) (c := 0) (by decide)) (by decide)), bv_1083, bv_1085, bv_1086, bv_1087, bv_1088, rfl, ⟨hP, hD⟩, hS, lv_sub hl [0, 1] rfl⟩
      · skip
        have hLh_1162 : ((lenS.getD 11 0 : Nat) : Int) = 4 := by decide
        obtain ⟨hP, hD⟩ : vPD G A H [(ce_X3 ob ob_town ob_code v_1083 v_1084 ob_text ob_size v_1156 v_1157 v_1158 v_1159), (ce_X7 ob_town ob_town_houses ob_town_fresh ob_town_introducers ob_town_x ob_town_y ob_town_rank ob_town_weekday ob_town_from ob_town_to ob_town_came ob_town_bride ob_town_told), (ce_i16 y ob_town_x f_1024), (ce_i16 y ob_town_y f_1033), (ce_i16 y ob_town_rank f_1051), (ce_i16 y ob_town_weekday f_1070), (ce_i16 y ob_town_from f_1079), (ce_i16 y ob_town_to f_1089), (ce_i16 y ob_town_came fob_town_came), (ce_i16 y ob_town_bride fob_town_bride), (ce_b1400 y ob_text fob_text)] := ⟨hP, hD⟩
        refine lv_if_eq (tgt := 178) hx hb dX3_readHouse_164 (by decide) (fun c9 => absurd c9 (by decide)) (fun _ => ?_)
        refine lv_aload_n hx hb dX3_readHouse_167 rfl (lv_at hl 1 rfl) ?_
        refine lv_iconst (v := 0) hx hb dX3_readHouse_168 (by decide) ?_
        refine lv_sipush (v := 399) hx hb dX3_readHouse_169 (by decide) ?_
        refine cVim (As := [.int 0, .int 399]) (rest := [.int ob_town_houses, .ref ob_town_came]) ⟨hx, hb, hml, hown, hw0⟩ hA hK hP hD hS [true, false, false, false, false, false, false, false, false, false, true] (sX3_number l G y _ ob 0 399 ob_town ob_code v_1083 v_1084 ob_text ob_size v_1156 v_1157 v_1158 v_1159 fob_text (bw (0) (3) h_1160 (by decide)) p_ob_size bv_1156 bv_1157 bv_1158 bv_1159) rfl ⟨(callB_of 2 hw0 (gA m_752) rfl rfl rfl (hw0 _ m_721) (hw0 _ m_777) cb_X3_number ⟨Nat.le_of_ble_eq_true rfl, Nat.le_of_ble_eq_true rfl⟩), (hw0 _ m_778), (hw0 _ m_779)⟩ (ci := 3) (q := (RX3, TX3, 10)) rfl rfl rfl hl.1 (Nat.le_of_ble_eq_true rfl) dX3_readHouse_172 ⟨Nat.le_of_ble_eq_true rfl, Nat.le_of_ble_eq_true rfl⟩ (fun r_1163 w_1163 H locs hw_1163 hP hD hS => ?_)
        obtain ⟨v_1164, v_1165, v_1166, v_1167, v_1168, v_1169, v_1170, bv_1164, bv_1165, bv_1167, bv_1168, bv_1169, bv_1170, er_1163, rfl⟩ := hw_1163
        subst r_1163
        obtain ⟨hP, hD⟩ : vPD G A H [(ce_X3 ob ob_town ob_code v_1165 v_1166 ob_text ob_size v_1167 v_1168 v_1169 v_1170), (ce_X7 ob_town ob_town_houses ob_town_fresh ob_town_introducers ob_town_x ob_town_y ob_town_rank ob_town_weekday ob_town_from ob_town_to ob_town_came ob_town_bride ob_town_told), (ce_i16 y ob_town_x f_1024), (ce_i16 y ob_town_y f_1033), (ce_i16 y ob_town_rank f_1051), (ce_i16 y ob_town_weekday f_1070), (ce_i16 y ob_town_from f_1079), (ce_i16 y ob_town_to f_1089), (ce_i16 y ob_town_came fob_town_came), (ce_i16 y ob_town_bride fob_town_bride), (ce_b1400 y ob_text fob_text)] := ⟨hP, hD⟩
        refine lv_goto (tgt := 179) hx hb dX3_readHouse_175 (by decide) ?_
        exact J_179_1112 _ _ _ _ ⟨v_1164, v_1165, v_1166, v_1167, v_1168, v_1169, v_1170, bv_1164, bv_1165, bv_1167, bv_1168, bv_1169, bv_1170, rfl, ⟨hP, hD⟩, hS, lv_sub hl [0, 1] rfl⟩
  · skip
    have nc_1001 := nb_nlt (16) (16) c_1001 (bkc (x := 16) (c := 16) (by decide)) p_ob_town_houses (by decide)
    refine lv_aload_n hx hb dX3_readHouse_14 rfl (lv_at hl 1 rfl) ?_
    refine lv_iconst (v := 3) hx hb dX3_readHouse_15 (by decide) ?_
    refine cVvm (As := [.int 3]) (rest := []) ⟨hx, hb, hml, hown, hw0⟩ hA hK hP hD hS [true] (sX3_refuse l G y _ ob 3 ob_town ob_code ob_fault ob_place ob_text ob_size ob_begin ob_next ob_kind ob_value p_ob_fault p_ob_size p_ob_begin p_ob_next p_ob_kind p_ob_value (bw (1) (3) (bkc (x := 3) (c := 3) (by decide)) (by decide))) rfl ⟨(callB_of 1 hw0 (gA m_816) rfl rfl rfl (hw0 _ m_721) (hw0 _ m_734) cb_X3_refuse ⟨Nat.le_of_ble_eq_true rfl, Nat.le_of_ble_eq_true rfl⟩), (hw0 _ m_735), (hw0 _ m_736)⟩ (ci := 3) (q := (RX3, TX3, 10)) rfl rfl rfl hl.1 (Nat.le_of_ble_eq_true rfl) dX3_readHouse_16 ⟨Nat.le_of_ble_eq_true rfl, Nat.le_of_ble_eq_true rfl⟩ (fun w_1171 H locs hw_1171 hP hD hS => ?_)
    obtain ⟨v_1172, v_1173, bv_1172, rfl⟩ := hw_1171
    obtain ⟨hP, hD⟩ : vPD G A H [(ce_X3 ob ob_town ob_code v_1172 v_1173 ob_text ob_size ob_begin ob_next ob_kind ob_value), (ce_X7 ob_town ob_town_houses ob_town_fresh ob_town_introducers ob_town_x ob_town_y ob_town_rank ob_town_weekday ob_town_from ob_town_to ob_town_came ob_town_bride ob_town_told), (ce_i16 y ob_town_x fob_town_x), (ce_i16 y ob_town_y fob_town_y), (ce_i16 y ob_town_rank fob_town_rank), (ce_i16 y ob_town_weekday fob_town_weekday), (ce_i16 y ob_town_from fob_town_from), (ce_i16 y ob_town_to fob_town_to), (ce_i16 y ob_town_came fob_town_came), (ce_i16 y ob_town_bride fob_town_bride), (ce_b1400 y ob_text fob_text)] := ⟨hP, hD⟩
    exact W.vret hx hb hr (fun t ht hW => ⟨⟨_, rfl, ⟨v_1172, v_1173, ob_begin, ob_next, ob_kind, ob_value, ob_town_houses, fob_town_x, fob_town_y, fob_town_rank, fob_town_weekday, fob_town_from, fob_town_to, fob_town_came, fob_town_bride, (bw (0) (3) bv_1172 (by decide)), p_ob_begin, p_ob_next, p_ob_kind, p_ob_value, (bw (1) (16) nc_1001.2.1 (by decide)), rfl⟩, by rw [ht]; exact hP, hD⟩, hS.F ht⟩) hS.2.2 dX3_readHouse_19

set_option maxHeartbeats 4000000 in
set_option maxRecDepth 100000 in
theorem sX3_readOther (l : Launch) (G : va_G) (y : Nat → ClassId) (aK aV : Nat → Nat) (sz : Nat) (ob : Nat) (a1 : Int32) (ob_town : Nat) (ob_code : Nat) (ob_fault : Int32) (ob_place : Int32) (ob_text : Nat) (ob_size : Int32) (ob_begin : Int32) (ob_next : Int32) (ob_kind : Int32) (ob_value : Int32) (ob_town_houses : Int32) (ob_town_fresh : Int32) (ob_town_introducers : Int32) (ob_town_x : Nat) (ob_town_y : Nat) (ob_town_rank : Nat) (ob_town_weekday : Nat) (ob_town_from : Nat) (ob_town_to : Nat) (ob_town_came : Nat) (ob_town_bride : Nat) (ob_town_told : Nat) (fob_town_x : Nat → Int32) (fob_town_y : Nat → Int32) (fob_town_rank : Nat → Int32) (fob_town_weekday : Nat → Int32) (fob_town_from : Nat → Int32) (fob_town_to : Nat → Int32) (fob_town_came : Nat → Int32) (fob_town_bride : Nat → Int32) (fob_town_told : Nat → Int32) (fob_text : Nat → Int32) (p_ob_town_houses : (0 : Int) ≤ ob_town_houses.toInt ∧ ob_town_houses.toInt ≤ 16) (p_ob_fault : (0 : Int) ≤ ob_fault.toInt ∧ ob_fault.toInt ≤ 3) (p_ob_size : (0 : Int) ≤ ob_size.toInt ∧ ob_size.toInt ≤ 1400) (p_ob_begin : (0 : Int) ≤ ob_begin.toInt ∧ ob_begin.toInt ≤ 1400) (p_ob_next : (0 : Int) ≤ ob_next.toInt ∧ ob_next.toInt ≤ 1400) (p_ob_kind : (0 : Int) ≤ ob_kind.toInt ∧ ob_kind.toInt ≤ 4) (p_ob_value : (0 : Int) ≤ ob_value.toInt ∧ ob_value.toInt ≤ 1000000) : Met l yX3_readOther (Cond.code yX3_readOther cX3_readOther 2 none :: wAll) ({ frames := 7, cells := 0, slots := 0, locals := 154 }) (va_Pc [.ref ob, .int a1] (kps G y aK aV sz [(ce_X3 ob ob_town ob_code ob_fault ob_place ob_text ob_size ob_begin ob_next ob_kind ob_value), (ce_X7 ob_town ob_town_houses ob_town_fresh ob_town_introducers ob_town_x ob_town_y ob_town_rank ob_town_weekday ob_town_from ob_town_to ob_town_came ob_town_bride ob_town_told), (ce_i16 y ob_town_x fob_town_x), (ce_i16 y ob_town_y fob_town_y), (ce_i16 y ob_town_rank fob_town_rank), (ce_i16 y ob_town_weekday fob_town_weekday), (ce_i16 y ob_town_from fob_town_from), (ce_i16 y ob_town_to fob_town_to), (ce_i16 y ob_town_came fob_town_came), (ce_i16 y ob_town_bride fob_town_bride), (ce_i16 y ob_town_told fob_town_told), (ce_b1400 y ob_text fob_text)])) (va_Qv (fun (w : va_W) => (∃ (v_107 : Int32) (v_108 : Int32) (v_109 : Int32) (v_110 : Int32) (v_111 : Int32) (v_112 : Int32) (v_113 : Int32) (v_114 : Int32) (v_115 : Int32) (f_116 : Nat → Int32) (f_117 : Nat → Int32) (f_118 : Nat → Int32) (f_119 : Nat → Int32) (f_120 : Nat → Int32) (f_121 : Nat → Int32) (f_122 : Nat → Int32) (f_123 : Nat → Int32) (f_124 : Nat → Int32), ((0 : Int) ≤ v_107.toInt ∧ v_107.toInt ≤ 3) ∧ ((0 : Int) ≤ v_109.toInt ∧ v_109.toInt ≤ 1400) ∧ ((0 : Int) ≤ v_110.toInt ∧ v_110.toInt ≤ 1400) ∧ ((0 : Int) ≤ v_111.toInt ∧ v_111.toInt ≤ 4) ∧ ((0 : Int) ≤ v_112.toInt ∧ v_112.toInt ≤ 1000000) ∧ ((0 : Int) ≤ v_113.toInt ∧ v_113.toInt ≤ 16) ∧ w = [(ce_X3 ob ob_town ob_code v_107 v_108 ob_text ob_size v_109 v_110 v_111 v_112), (ce_X7 ob_town v_113 v_114 v_115 ob_town_x ob_town_y ob_town_rank ob_town_weekday ob_town_from ob_town_to ob_town_came ob_town_bride ob_town_told), (ce_i16 y ob_town_x f_116), (ce_i16 y ob_town_y f_117), (ce_i16 y ob_town_rank f_118), (ce_i16 y ob_town_weekday f_119), (ce_i16 y ob_town_from f_120), (ce_i16 y ob_town_to f_121), (ce_i16 y ob_town_came f_122), (ce_i16 y ob_town_bride f_123), (ce_i16 y ob_town_told f_124), (ce_b1400 y ob_text fob_text)])) (kq G (va_A [(ce_X3 ob ob_town ob_code ob_fault ob_place ob_text ob_size ob_begin ob_next ob_kind ob_value), (ce_X7 ob_town ob_town_houses ob_town_fresh ob_town_introducers ob_town_x ob_town_y ob_town_rank ob_town_weekday ob_town_from ob_town_to ob_town_came ob_town_bride ob_town_told), (ce_i16 y ob_town_x fob_town_x), (ce_i16 y ob_town_y fob_town_y), (ce_i16 y ob_town_rank fob_town_rank), (ce_i16 y ob_town_weekday fob_town_weekday), (ce_i16 y ob_town_from fob_town_from), (ce_i16 y ob_town_to fob_town_to), (ce_i16 y ob_town_came fob_town_came), (ce_i16 y ob_town_bride fob_town_bride), (ce_i16 y ob_town_told fob_town_told), (ce_b1400 y ob_text fob_text)] sz)) (va_A [(ce_X3 ob ob_town ob_code ob_fault ob_place ob_text ob_size ob_begin ob_next ob_kind ob_value), (ce_X7 ob_town ob_town_houses ob_town_fresh ob_town_introducers ob_town_x ob_town_y ob_town_rank ob_town_weekday ob_town_from ob_town_to ob_town_came ob_town_bride ob_town_told), (ce_i16 y ob_town_x fob_town_x), (ce_i16 y ob_town_y fob_town_y), (ce_i16 y ob_town_rank fob_town_rank), (ce_i16 y ob_town_weekday fob_town_weekday), (ce_i16 y ob_town_from fob_town_from), (ce_i16 y ob_town_to fob_town_to), (ce_i16 y ob_town_came fob_town_came), (ce_i16 y ob_town_bride fob_town_bride), (ce_i16 y ob_town_told fob_town_told), (ce_b1400 y ob_text fob_text)] sz)) 0 0 (va_A [(ce_X3 ob ob_town ob_code ob_fault ob_place ob_text ob_size ob_begin ob_next ob_kind ob_value), (ce_X7 ob_town ob_town_houses ob_town_fresh ob_town_introducers ob_town_x ob_town_y ob_town_rank ob_town_weekday ob_town_from ob_town_to ob_town_came ob_town_bride ob_town_told), (ce_i16 y ob_town_x fob_town_x), (ce_i16 y ob_town_y fob_town_y), (ce_i16 y ob_town_rank fob_town_rank), (ce_i16 y ob_town_weekday fob_town_weekday), (ce_i16 y ob_town_from fob_town_from), (ce_i16 y ob_town_to fob_town_to), (ce_i16 y ob_town_came fob_town_came), (ce_i16 y ob_town_bride fob_town_bride), (ce_i16 y ob_town_told fob_town_told), (ce_b1400 y ob_text fob_text)] sz) := by
  refine Met.ofW (cc := cX3_readOther) (maxL := 2) (ret := none) (by decide) rfl ?_
  intro p e s m args below meth c s₁ B hml hv
  obtain ⟨rfl, ⟨hsz, hP, hK, hD0⟩, hE⟩ := hv
  have hx := B.exec
  have hb := B.bytes
  have hr := B.returns
  have hw0 : ∀ w ∈ wAll, w.before _ s = true := fun w h => atoms_spec (ws := Cond.code yX3_readOther cX3_readOther 2 none :: wAll) B.pre w (List.mem_cons_of_mem _ h)
  have hown : s.vm.findClass RX3 = some m.cls := findClass_of_methodNamed B.named
  subst hsz
  have hD := hD0.self (sz := s.heap.size)
  generalize hAe : va_A [(ce_X3 ob ob_town ob_code ob_fault ob_place ob_text ob_size ob_begin ob_next ob_kind ob_value), (ce_X7 ob_town ob_town_houses ob_town_fresh ob_town_introducers ob_town_x ob_town_y ob_town_rank ob_town_weekday ob_town_from ob_town_to ob_town_came ob_town_bride ob_town_told), (ce_i16 y ob_town_x fob_town_x), (ce_i16 y ob_town_y fob_town_y), (ce_i16 y ob_town_rank fob_town_rank), (ce_i16 y ob_town_weekday fob_town_weekday), (ce_i16 y ob_town_from fob_town_from), (ce_i16 y ob_town_to fob_town_to), (ce_i16 y ob_town_came fob_town_came), (ce_i16 y ob_town_bride fob_town_bride), (ce_i16 y ob_town_told fob_town_told), (ce_b1400 y ob_text fob_text)] s.heap.size = A at hD hE ⊢
  have hA : ∀ q : Nat, s.heap.size ≤ q → A q := fun q h => by rw [← hAe]; exact Or.inr h
  have hS : va_S A s.heap s.heap [] := va_S.rf
  have hP : va_P G vwCl [(ce_X3 ob ob_town ob_code ob_fault ob_place ob_text ob_size ob_begin ob_next ob_kind ob_value), (ce_X7 ob_town ob_town_houses ob_town_fresh ob_town_introducers ob_town_x ob_town_y ob_town_rank ob_town_weekday ob_town_from ob_town_to ob_town_came ob_town_bride ob_town_told), (ce_i16 y ob_town_x fob_town_x), (ce_i16 y ob_town_y fob_town_y), (ce_i16 y ob_town_rank fob_town_rank), (ce_i16 y ob_town_weekday fob_town_weekday), (ce_i16 y ob_town_from fob_town_from), (ce_i16 y ob_town_to fob_town_to), (ce_i16 y ob_town_came fob_town_came), (ce_i16 y ob_town_bride fob_town_bride), (ce_i16 y ob_town_told fob_town_told), (ce_b1400 y ob_text fob_text)] s.heap := hP
  have hl := lv_entry ([.ref ob, .int a1]) (n := 2) (Nat.le_of_ble_eq_true rfl)
  rw [lg_entry_eq]
  generalize (lg_sl ([.ref ob, .int a1]) ++ List.replicate (2 - (lg_sl ([.ref ob, .int a1])).length) Slot.unset).toArray = ls at hl ⊢
  have hl : lv_has ls 2 [(0, .ref ob), (1, .int a1)] := hl
  refine lv_iload_n hx hb dX3_readOther_0 rfl (lv_at hl 1 rfl) ?_
  rcases tsw (0) 3 a1 with ⟨j9, hj9, ej9⟩ | t_a1
  · rcases (by omega : j9 = 0 ∨ j9 = 1 ∨ j9 = 2 ∨ j9 = 3) with rfl | rfl | rfl | rfl
    · obtain rfl : 0 = a1 := (ej9.trans (by decide)).symm
      refine lv_tableIn (tgt := 32) hx hb dX3_readOther_1 (by decide) (by decide) rfl (by decide) ?_
      refine lv_aload_n hx hb dX3_readOther_32 rfl (lv_at hl 0 rfl) ?_
      refine cVvSm (As := []) (rest := []) ⟨hx, hb, hml, hown, hw0⟩ hA hK hP hD hS hE [true, true, true, true, true, true, true, true, true, true, false, true] (sX3_readHouse l G y aK aV _ ob ob_town ob_code ob_fault ob_place ob_text ob_size ob_begin ob_next ob_kind ob_value ob_town_houses ob_town_fresh ob_town_introducers ob_town_x ob_town_y ob_town_rank ob_town_weekday ob_town_from ob_town_to ob_town_came ob_town_bride ob_town_told fob_town_x fob_town_y fob_town_rank fob_town_weekday fob_town_from fob_town_to fob_town_came fob_town_bride fob_text p_ob_town_houses p_ob_fault p_ob_size p_ob_begin p_ob_next p_ob_kind p_ob_value) rfl ⟨(callB_of 0 hw0 (gA m_771) rfl rfl rfl (hw0 _ m_721) (hw0 _ m_793) cb_X3_readHouse ⟨Nat.le_of_ble_eq_true rfl, Nat.le_of_ble_eq_true rfl⟩), (hw0 _ m_794), (hw0 _ m_795)⟩ (ci := 3) (q := (RX3, TX3, 10)) rfl rfl rfl hl.1 (Nat.le_of_ble_eq_true rfl) dX3_readOther_33 ⟨Nat.le_of_ble_eq_true rfl, Nat.le_of_ble_eq_true rfl⟩ (fun w_1001 H locs hw_1001 hP hD hS => ?_)
      refine Exists.elim hw_1001 (fun v_1002 hw_1001 => Exists.elim hw_1001 (fun v_1003 hw_1001 => Exists.elim hw_1001 (fun v_1004 hw_1001 => Exists.elim hw_1001 (fun v_1005 hw_1001 => Exists.elim hw_1001 (fun v_1006 hw_1001 => Exists.elim hw_1001 (fun v_1007 hw_1001 => Exists.elim hw_1001 (fun v_1008 hw_1001 => Exists.elim hw_1001 (fun f_1009 hw_1001 => Exists.elim hw_1001 (fun f_1010 hw_1001 => Exists.elim hw_1001 (fun f_1011 hw_1001 => Exists.elim hw_1001 (fun f_1012 hw_1001 => Exists.elim hw_1001 (fun f_1013 hw_1001 => Exists.elim hw_1001 (fun f_1014 hw_1001 => Exists.elim hw_1001 (fun f_1015 hw_1001 => Exists.elim hw_1001 (fun f_1016 hw_1001 => ?_)))))))))))))))
      obtain ⟨bv_1002, bv_1004, bv_1005, bv_1006, bv_1007, bv_1008, rfl⟩ := hw_1001
      obtain ⟨hP, hD⟩ : vPD G A H [(ce_X3 ob ob_town ob_code v_1002 v_1003 ob_text ob_size v_1004 v_1005 v_1006 v_1007), (ce_X7 ob_town v_1008 ob_town_fresh ob_town_introducers ob_town_x ob_town_y ob_town_rank ob_town_weekday ob_town_from ob_town_to ob_town_came ob_town_bride ob_town_told), (ce_i16 y ob_town_x f_1009), (ce_i16 y ob_town_y f_1010), (ce_i16 y ob_town_rank f_1011), (ce_i16 y ob_town_weekday f_1012), (ce_i16 y ob_town_from f_1013), (ce_i16 y ob_town_to f_1014), (ce_i16 y ob_town_came f_1015), (ce_i16 y ob_town_bride f_1016), (ce_i16 y ob_town_told fob_town_told), (ce_b1400 y ob_text fob_text)] := ⟨hP, hD⟩
      refine lv_goto (tgt := 93) hx hb dX3_readOther_36 (by decide) ?_
      exact W.vret hx hb hr (fun t ht hW => ⟨⟨_, rfl, ⟨v_1002, v_1003, v_1004, v_1005, v_1006, v_1007, v_1008, ob_town_fresh, ob_town_introducers, f_1009, f_1010, f_1011, f_1012, f_1013, f_1014, f_1015, f_1016, fob_town_told, bv_1002, bv_1004, bv_1005, bv_1006, bv_1007, (bw (0) (16) bv_1008 (by decide)), rfl⟩, by rw [ht]; exact hP, hD⟩, hS.F ht⟩) hS.2.2 dX3_readOther_93
    · obtain rfl : 1 = a1 := (ej9.trans (by decide)).symm
      refine lv_tableIn (tgt := 39) hx hb dX3_readOther_1 (by decide) (by decide) rfl (by decide) ?_
      refine lv_aload_n hx hb dX3_readOther_39 rfl (lv_at hl 0 rfl) ?_
      refine cVvm (As := []) (rest := []) ⟨hx, hb, hml, hown, hw0⟩ hA hK hP hD hS [true, true, false, false, false, false, false, false, false, false, true, true] (sX3_readKnow l G y _ ob ob_town ob_code ob_fault ob_place ob_text ob_size ob_begin ob_next ob_kind ob_value ob_town_houses ob_town_fresh ob_town_introducers ob_town_x ob_town_y ob_town_rank ob_town_weekday ob_town_from ob_town_to ob_town_came ob_town_bride ob_town_told fob_town_told fob_text p_ob_town_houses p_ob_fault p_ob_size p_ob_begin p_ob_next p_ob_kind p_ob_value) rfl ⟨(callB_of 0 hw0 (gA m_790) rfl rfl rfl (hw0 _ m_721) (hw0 _ m_796) cb_X3_readKnow ⟨Nat.le_of_ble_eq_true rfl, Nat.le_of_ble_eq_true rfl⟩), (hw0 _ m_797), (hw0 _ m_798)⟩ (ci := 3) (q := (RX3, TX3, 10)) rfl rfl rfl hl.1 (Nat.le_of_ble_eq_true rfl) dX3_readOther_40 ⟨Nat.le_of_ble_eq_true rfl, Nat.le_of_ble_eq_true rfl⟩ (fun w_1017 H locs hw_1017 hP hD hS => ?_)
      obtain ⟨v_1018, v_1019, v_1020, v_1021, v_1022, v_1023, f_1024, bv_1018, bv_1020, bv_1021, bv_1022, bv_1023, rfl⟩ := hw_1017
      obtain ⟨hP, hD⟩ : vPD G A H [(ce_X3 ob ob_town ob_code v_1018 v_1019 ob_text ob_size v_1020 v_1021 v_1022 v_1023), (ce_X7 ob_town ob_town_houses ob_town_fresh ob_town_introducers ob_town_x ob_town_y ob_town_rank ob_town_weekday ob_town_from ob_town_to ob_town_came ob_town_bride ob_town_told), (ce_i16 y ob_town_x fob_town_x), (ce_i16 y ob_town_y fob_town_y), (ce_i16 y ob_town_rank fob_town_rank), (ce_i16 y ob_town_weekday fob_town_weekday), (ce_i16 y ob_town_from fob_town_from), (ce_i16 y ob_town_to fob_town_to), (ce_i16 y ob_town_came fob_town_came), (ce_i16 y ob_town_bride fob_town_bride), (ce_i16 y ob_town_told f_1024), (ce_b1400 y ob_text fob_text)] := ⟨hP, hD⟩
      refine lv_goto (tgt := 93) hx hb dX3_readOther_43 (by decide) ?_
      exact W.vret hx hb hr (fun t ht hW => ⟨⟨_, rfl, ⟨v_1018, v_1019, v_1020, v_1021, v_1022, v_1023, ob_town_houses, ob_town_fresh, ob_town_introducers, fob_town_x, fob_town_y, fob_town_rank, fob_town_weekday, fob_town_from, fob_town_to, fob_town_came, fob_town_bride, f_1024, bv_1018, bv_1020, bv_1021, bv_1022, bv_1023, p_ob_town_houses, rfl⟩, by rw [ht]; exact hP, hD⟩, hS.F ht⟩) hS.2.2 dX3_readOther_93
    · obtain rfl : 2 = a1 := (ej9.trans (by decide)).symm
      refine lv_tableIn (tgt := 46) hx hb dX3_readOther_1 (by decide) (by decide) rfl (by decide) ?_
      refine lv_aload_n hx hb dX3_readOther_46 rfl (lv_at hl 0 rfl) ?_
      refine cVvm (As := []) (rest := []) ⟨hx, hb, hml, hown, hw0⟩ hA hK hP hD hS [true, false, false, false, false, false, false, false, false, false, false, true] (sX3_advance l G y _ ob ob_town ob_code ob_fault ob_place ob_text ob_size ob_begin ob_next ob_kind ob_value fob_text p_ob_fault p_ob_size p_ob_begin p_ob_next p_ob_kind p_ob_value) rfl ⟨(callB_of 0 hw0 (gA m_714) rfl rfl rfl (hw0 _ m_721) (hw0 _ m_738) cb_X3_advance ⟨Nat.le_of_ble_eq_true rfl, Nat.le_of_ble_eq_true rfl⟩), (hw0 _ m_739), (hw0 _ m_740)⟩ (ci := 3) (q := (RX3, TX3, 10)) rfl rfl rfl hl.1 (Nat.le_of_ble_eq_true rfl) dX3_readOther_47 ⟨Nat.le_of_ble_eq_true rfl, Nat.le_of_ble_eq_true rfl⟩ (fun w_1025 H locs hw_1025 hP hD hS => ?_)
      obtain ⟨v_1026, v_1027, v_1028, v_1029, bv_1026, bv_1027, bv_1028, bv_1029, rfl⟩ := hw_1025
      obtain ⟨hP, hD⟩ : vPD G A H [(ce_X3 ob ob_town ob_code ob_fault ob_place ob_text ob_size v_1026 v_1027 v_1028 v_1029), (ce_X7 ob_town ob_town_houses ob_town_fresh ob_town_introducers ob_town_x ob_town_y ob_town_rank ob_town_weekday ob_town_from ob_town_to ob_town_came ob_town_bride ob_town_told), (ce_i16 y ob_town_x fob_town_x), (ce_i16 y ob_town_y fob_town_y), (ce_i16 y ob_town_rank fob_town_rank), (ce_i16 y ob_town_weekday fob_town_weekday), (ce_i16 y ob_town_from fob_town_from), (ce_i16 y ob_town_to fob_town_to), (ce_i16 y ob_town_came fob_town_came), (ce_i16 y ob_town_bride fob_town_bride), (ce_i16 y ob_town_told fob_town_told), (ce_b1400 y ob_text fob_text)] := ⟨hP, hD⟩
      refine lv_aload_n hx hb dX3_readOther_50 rfl (lv_at hl 0 rfl) ?_
      refine va_get (D := G) (ci := 3) (v := .ref ob_town) (C := RX3) (T := TX3) (N := 10) hx hb hw0 inA_wsX30 hown hK.1 hP 0 rfl rfl 0 (by decide) (hw0 _ m_747) (fun _ h9 => h9) rfl dX3_readOther_51 ?_
      refine lv_aload_n hx hb dX3_readOther_54 rfl (lv_at hl 0 rfl) ?_
      refine lv_iconst (v := 0) hx hb dX3_readOther_55 (by decide) ?_
      refine lv_bipush (v := 99) hx hb dX3_readOther_56 (by decide) ?_
      refine cVim (As := [.int 0, .int 99]) (rest := [.ref ob_town]) ⟨hx, hb, hml, hown, hw0⟩ hA hK hP hD hS [true, false, false, false, false, false, false, false, false, false, false, true] (sX3_number l G y _ ob 0 99 ob_town ob_code ob_fault ob_place ob_text ob_size v_1026 v_1027 v_1028 v_1029 fob_text p_ob_fault p_ob_size bv_1026 bv_1027 bv_1028 bv_1029) rfl ⟨(callB_of 2 hw0 (gA m_752) rfl rfl rfl (hw0 _ m_721) (hw0 _ m_777) cb_X3_number ⟨Nat.le_of_ble_eq_true rfl, Nat.le_of_ble_eq_true rfl⟩), (hw0 _ m_778), (hw0 _ m_779)⟩ (ci := 3) (q := (RX3, TX3, 10)) rfl rfl rfl hl.1 (Nat.le_of_ble_eq_true rfl) dX3_readOther_58 ⟨Nat.le_of_ble_eq_true rfl, Nat.le_of_ble_eq_true rfl⟩ (fun r_1030 w_1030 H locs hw_1030 hP hD hS => ?_)
      obtain ⟨v_1031, v_1032, v_1033, v_1034, v_1035, v_1036, v_1037, bv_1031, bv_1032, bv_1034, bv_1035, bv_1036, bv_1037, er_1030, rfl⟩ := hw_1030
      subst r_1030
      obtain ⟨hP, hD⟩ : vPD G A H [(ce_X3 ob ob_town ob_code v_1032 v_1033 ob_text ob_size v_1034 v_1035 v_1036 v_1037), (ce_X7 ob_town ob_town_houses ob_town_fresh ob_town_introducers ob_town_x ob_town_y ob_town_rank ob_town_weekday ob_town_from ob_town_to ob_town_came ob_town_bride ob_town_told), (ce_i16 y ob_town_x fob_town_x), (ce_i16 y ob_town_y fob_town_y), (ce_i16 y ob_town_rank fob_town_rank), (ce_i16 y ob_town_weekday fob_town_weekday), (ce_i16 y ob_town_from fob_town_from), (ce_i16 y ob_town_to fob_town_to), (ce_i16 y ob_town_came fob_town_came), (ce_i16 y ob_town_bride fob_town_bride), (ce_i16 y ob_town_told fob_town_told), (ce_b1400 y ob_text fob_text)] := ⟨hP, hD⟩
      refine va_put (D := G) (ci := 7) (v := .int v_1031) (ty := .int) (C := RX7) (T := TX7) (N := 12) hx hb hw0 inA_wsX70 tyX7 tyX7_ok nmX7 hown hK.1 hP hD hS 1 rfl rfl 1 (by decide) (hw0 _ m_799) (fun _ h9 => h9) rfl fd_X7_1 rfl rfl (Nat.le_of_ble_eq_true rfl) dX3_readOther_61 (fun H locs hP hD hS => ?_)
      obtain ⟨hP, hD⟩ : vPD G A H [(ce_X3 ob ob_town ob_code v_1032 v_1033 ob_text ob_size v_1034 v_1035 v_1036 v_1037), (ce_X7 ob_town ob_town_houses v_1031 ob_town_introducers ob_town_x ob_town_y ob_town_rank ob_town_weekday ob_town_from ob_town_to ob_town_came ob_town_bride ob_town_told), (ce_i16 y ob_town_x fob_town_x), (ce_i16 y ob_town_y fob_town_y), (ce_i16 y ob_town_rank fob_town_rank), (ce_i16 y ob_town_weekday fob_town_weekday), (ce_i16 y ob_town_from fob_town_from), (ce_i16 y ob_town_to fob_town_to), (ce_i16 y ob_town_came fob_town_came), (ce_i16 y ob_town_bride fob_town_bride), (ce_i16 y ob_town_told fob_town_told), (ce_b1400 y ob_text fob_text)] := ⟨hP, hD⟩
      refine lv_goto (tgt := 93) hx hb dX3_readOther_64 (by decide) ?_
      exact W.vret hx hb hr (fun t ht hW => ⟨⟨_, rfl, ⟨v_1032, v_1033, v_1034, v_1035, v_1036, v_1037, ob_town_houses, v_1031, ob_town_introducers, fob_town_x, fob_town_y, fob_town_rank, fob_town_weekday, fob_town_from, fob_town_to, fob_town_came, fob_town_bride, fob_town_told, bv_1032, bv_1034, bv_1035, bv_1036, bv_1037, p_ob_town_houses, rfl⟩, by rw [ht]; exact hP, hD⟩, hS.F ht⟩) hS.2.2 dX3_readOther_93
    · obtain rfl : 3 = a1 := (ej9.trans (by decide)).symm
      refine lv_tableIn (tgt := 67) hx hb dX3_readOther_1 (by decide) (by decide) rfl (by decide) ?_
      refine lv_aload_n hx hb dX3_readOther_67 rfl (lv_at hl 0 rfl) ?_
      refine cVvm (As := []) (rest := []) ⟨hx, hb, hml, hown, hw0⟩ hA hK hP hD hS [true, false, false, false, false, false, false, false, false, false, false, true] (sX3_advance l G y _ ob ob_town ob_code ob_fault ob_place ob_text ob_size ob_begin ob_next ob_kind ob_value fob_text p_ob_fault p_ob_size p_ob_begin p_ob_next p_ob_kind p_ob_value) rfl ⟨(callB_of 0 hw0 (gA m_714) rfl rfl rfl (hw0 _ m_721) (hw0 _ m_738) cb_X3_advance ⟨Nat.le_of_ble_eq_true rfl, Nat.le_of_ble_eq_true rfl⟩), (hw0 _ m_739), (hw0 _ m_740)⟩ (ci := 3) (q := (RX3, TX3, 10)) rfl rfl rfl hl.1 (Nat.le_of_ble_eq_true rfl) dX3_readOther_68 ⟨Nat.le_of_ble_eq_true rfl, Nat.le_of_ble_eq_true rfl⟩ (fun w_1038 H locs hw_1038 hP hD hS => ?_)
      obtain ⟨v_1039, v_1040, v_1041, v_1042, bv_1039, bv_1040, bv_1041, bv_1042, rfl⟩ := hw_1038
      obtain ⟨hP, hD⟩ : vPD G A H [(ce_X3 ob ob_town ob_code ob_fault ob_place ob_text ob_size v_1039 v_1040 v_1041 v_1042), (ce_X7 ob_town ob_town_houses ob_town_fresh ob_town_introducers ob_town_x ob_town_y ob_town_rank ob_town_weekday ob_town_from ob_town_to ob_town_came ob_town_bride ob_town_told), (ce_i16 y ob_town_x fob_town_x), (ce_i16 y ob_town_y fob_town_y), (ce_i16 y ob_town_rank fob_town_rank), (ce_i16 y ob_town_weekday fob_town_weekday), (ce_i16 y ob_town_from fob_town_from), (ce_i16 y ob_town_to fob_town_to), (ce_i16 y ob_town_came fob_town_came), (ce_i16 y ob_town_bride fob_town_bride), (ce_i16 y ob_town_told fob_town_told), (ce_b1400 y ob_text fob_text)] := ⟨hP, hD⟩
      refine lv_aload_n hx hb dX3_readOther_71 rfl (lv_at hl 0 rfl) ?_
      refine va_get (D := G) (ci := 3) (v := .ref ob_town) (C := RX3) (T := TX3) (N := 10) hx hb hw0 inA_wsX30 hown hK.1 hP 0 rfl rfl 0 (by decide) (hw0 _ m_747) (fun _ h9 => h9) rfl dX3_readOther_72 ?_
      refine lv_aload_n hx hb dX3_readOther_75 rfl (lv_at hl 0 rfl) ?_
      refine lv_iconst (v := 1) hx hb dX3_readOther_76 (by decide) ?_
      refine lv_bipush (v := 9) hx hb dX3_readOther_77 (by decide) ?_
      refine cVim (As := [.int 1, .int 9]) (rest := [.ref ob_town]) ⟨hx, hb, hml, hown, hw0⟩ hA hK hP hD hS [true, false, false, false, false, false, false, false, false, false, false, true] (sX3_number l G y _ ob 1 9 ob_town ob_code ob_fault ob_place ob_text ob_size v_1039 v_1040 v_1041 v_1042 fob_text p_ob_fault p_ob_size bv_1039 bv_1040 bv_1041 bv_1042) rfl ⟨(callB_of 2 hw0 (gA m_752) rfl rfl rfl (hw0 _ m_721) (hw0 _ m_777) cb_X3_number ⟨Nat.le_of_ble_eq_true rfl, Nat.le_of_ble_eq_true rfl⟩), (hw0 _ m_778), (hw0 _ m_779)⟩ (ci := 3) (q := (RX3, TX3, 10)) rfl rfl rfl hl.1 (Nat.le_of_ble_eq_true rfl) dX3_readOther_79 ⟨Nat.le_of_ble_eq_true rfl, Nat.le_of_ble_eq_true rfl⟩ (fun r_1043 w_1043 H locs hw_1043 hP hD hS => ?_)
      obtain ⟨v_1044, v_1045, v_1046, v_1047, v_1048, v_1049, v_1050, bv_1044, bv_1045, bv_1047, bv_1048, bv_1049, bv_1050, er_1043, rfl⟩ := hw_1043
      subst r_1043
      obtain ⟨hP, hD⟩ : vPD G A H [(ce_X3 ob ob_town ob_code v_1045 v_1046 ob_text ob_size v_1047 v_1048 v_1049 v_1050), (ce_X7 ob_town ob_town_houses ob_town_fresh ob_town_introducers ob_town_x ob_town_y ob_town_rank ob_town_weekday ob_town_from ob_town_to ob_town_came ob_town_bride ob_town_told), (ce_i16 y ob_town_x fob_town_x), (ce_i16 y ob_town_y fob_town_y), (ce_i16 y ob_town_rank fob_town_rank), (ce_i16 y ob_town_weekday fob_town_weekday), (ce_i16 y ob_town_from fob_town_from), (ce_i16 y ob_town_to fob_town_to), (ce_i16 y ob_town_came fob_town_came), (ce_i16 y ob_town_bride fob_town_bride), (ce_i16 y ob_town_told fob_town_told), (ce_b1400 y ob_text fob_text)] := ⟨hP, hD⟩
      refine va_put (D := G) (ci := 7) (v := .int v_1044) (ty := .int) (C := RX7) (T := TX7) (N := 12) hx hb hw0 inA_wsX70 tyX7 tyX7_ok nmX7 hown hK.1 hP hD hS 1 rfl rfl 2 (by decide) (hw0 _ m_800) (fun _ h9 => h9) rfl fd_X7_2 rfl rfl (Nat.le_of_ble_eq_true rfl) dX3_readOther_82 (fun H locs hP hD hS => ?_)
      obtain ⟨hP, hD⟩ : vPD G A H [(ce_X3 ob ob_town ob_code v_1045 v_1046 ob_text ob_size v_1047 v_1048 v_1049 v_1050), (ce_X7 ob_town ob_town_houses ob_town_fresh v_1044 ob_town_x ob_town_y ob_town_rank ob_town_weekday ob_town_from ob_town_to ob_town_came ob_town_bride ob_town_told), (ce_i16 y ob_town_x fob_town_x), (ce_i16 y ob_town_y fob_town_y), (ce_i16 y ob_town_rank fob_town_rank), (ce_i16 y ob_town_weekday fob_town_weekday), (ce_i16 y ob_town_from fob_town_from), (ce_i16 y ob_town_to fob_town_to), (ce_i16 y ob_town_came fob_town_came), (ce_i16 y ob_town_bride fob_town_bride), (ce_i16 y ob_town_told fob_town_told), (ce_b1400 y ob_text fob_text)] := ⟨hP, hD⟩
      refine lv_goto (tgt := 93) hx hb dX3_readOther_85 (by decide) ?_
      exact W.vret hx hb hr (fun t ht hW => ⟨⟨_, rfl, ⟨v_1045, v_1046, v_1047, v_1048, v_1049, v_1050, ob_town_houses, ob_town_fresh, v_1044, fob_town_x, fob_town_y, fob_town_rank, fob_town_weekday, fob_town_from, fob_town_to, fob_town_came, fob_town_bride, fob_town_told, bv_1045, bv_1047, bv_1048, bv_1049, bv_1050, p_ob_town_houses, rfl⟩, by rw [ht]; exact hP, hD⟩, hS.F ht⟩) hS.2.2 dX3_readOther_93
  · refine lv_tableOut (tgt := 88) hx hb dX3_readOther_1 t_a1 (by decide) ?_
    refine lv_aload_n hx hb dX3_readOther_88 rfl (lv_at hl 0 rfl) ?_
    refine lv_iconst (v := 1) hx hb dX3_readOther_89 (by decide) ?_
    refine cVvm (As := [.int 1]) (rest := []) ⟨hx, hb, hml, hown, hw0⟩ hA hK hP hD hS [true] (sX3_refuse l G y _ ob 1 ob_town ob_code ob_fault ob_place ob_text ob_size ob_begin ob_next ob_kind ob_value p_ob_fault p_ob_size p_ob_begin p_ob_next p_ob_kind p_ob_value (bw (1) (3) (bkc (x := 1) (c := 1) (by decide)) (by decide))) rfl ⟨(callB_of 1 hw0 (gA m_816) rfl rfl rfl (hw0 _ m_721) (hw0 _ m_734) cb_X3_refuse ⟨Nat.le_of_ble_eq_true rfl, Nat.le_of_ble_eq_true rfl⟩), (hw0 _ m_735), (hw0 _ m_736)⟩ (ci := 3) (q := (RX3, TX3, 10)) rfl rfl rfl hl.1 (Nat.le_of_ble_eq_true rfl) dX3_readOther_90 ⟨Nat.le_of_ble_eq_true rfl, Nat.le_of_ble_eq_true rfl⟩ (fun w_1051 H locs hw_1051 hP hD hS => ?_)
    obtain ⟨v_1052, v_1053, bv_1052, rfl⟩ := hw_1051
    obtain ⟨hP, hD⟩ : vPD G A H [(ce_X3 ob ob_town ob_code v_1052 v_1053 ob_text ob_size ob_begin ob_next ob_kind ob_value), (ce_X7 ob_town ob_town_houses ob_town_fresh ob_town_introducers ob_town_x ob_town_y ob_town_rank ob_town_weekday ob_town_from ob_town_to ob_town_came ob_town_bride ob_town_told), (ce_i16 y ob_town_x fob_town_x), (ce_i16 y ob_town_y fob_town_y), (ce_i16 y ob_town_rank fob_town_rank), (ce_i16 y ob_town_weekday fob_town_weekday), (ce_i16 y ob_town_from fob_town_from), (ce_i16 y ob_town_to fob_town_to), (ce_i16 y ob_town_came fob_town_came), (ce_i16 y ob_town_bride fob_town_bride), (ce_i16 y ob_town_told fob_town_told), (ce_b1400 y ob_text fob_text)] := ⟨hP, hD⟩
    exact W.vret hx hb hr (fun t ht hW => ⟨⟨_, rfl, ⟨v_1052, v_1053, ob_begin, ob_next, ob_kind, ob_value, ob_town_houses, ob_town_fresh, ob_town_introducers, fob_town_x, fob_town_y, fob_town_rank, fob_town_weekday, fob_town_from, fob_town_to, fob_town_came, fob_town_bride, fob_town_told, (bw (0) (3) bv_1052 (by decide)), p_ob_begin, p_ob_next, p_ob_kind, p_ob_value, p_ob_town_houses, rfl⟩, by rw [ht]; exact hP, hD⟩, hS.F ht⟩) hS.2.2 dX3_readOther_93

set_option maxHeartbeats 4000000 in
set_option maxRecDepth 100000 in
theorem sX3_closeLine (l : Launch) (G : va_G) (y : Nat → ClassId) (sz : Nat) (ob : Nat) (ob_town : Nat) (ob_code : Nat) (ob_fault : Int32) (ob_place : Int32) (ob_text : Nat) (ob_size : Int32) (ob_begin : Int32) (ob_next : Int32) (ob_kind : Int32) (ob_value : Int32) (fob_text : Nat → Int32) (p_ob_fault : (0 : Int) ≤ ob_fault.toInt ∧ ob_fault.toInt ≤ 3) (p_ob_size : (0 : Int) ≤ ob_size.toInt ∧ ob_size.toInt ≤ 1400) (p_ob_begin : (0 : Int) ≤ ob_begin.toInt ∧ ob_begin.toInt ≤ 1400) (p_ob_next : (0 : Int) ≤ ob_next.toInt ∧ ob_next.toInt ≤ 1400) (p_ob_kind : (0 : Int) ≤ ob_kind.toInt ∧ ob_kind.toInt ≤ 4) (p_ob_value : (0 : Int) ≤ ob_value.toInt ∧ ob_value.toInt ≤ 1000000) : Met l yX3_closeLine (Cond.code yX3_closeLine cX3_closeLine 1 none :: wAll) ({ frames := 3, cells := 0, slots := 0, locals := 61 }) (va_Pc [.ref ob] (kp G y sz [(ce_X3 ob ob_town ob_code ob_fault ob_place ob_text ob_size ob_begin ob_next ob_kind ob_value), (ce_b1400 y ob_text fob_text)])) (va_Qv (fun (w : va_W) => (∃ (v_33 : Int32) (v_34 : Int32) (v_35 : Int32) (v_36 : Int32) (v_37 : Int32) (v_38 : Int32), ((0 : Int) ≤ v_33.toInt ∧ v_33.toInt ≤ 3) ∧ ((0 : Int) ≤ v_35.toInt ∧ v_35.toInt ≤ 1400) ∧ ((0 : Int) ≤ v_36.toInt ∧ v_36.toInt ≤ 1400) ∧ ((0 : Int) ≤ v_37.toInt ∧ v_37.toInt ≤ 4) ∧ ((0 : Int) ≤ v_38.toInt ∧ v_38.toInt ≤ 1000000) ∧ w = [(ce_X3 ob ob_town ob_code v_33 v_34 ob_text ob_size v_35 v_36 v_37 v_38), (ce_b1400 y ob_text fob_text)])) (kq G (va_A [(ce_X3 ob ob_town ob_code ob_fault ob_place ob_text ob_size ob_begin ob_next ob_kind ob_value), (ce_b1400 y ob_text fob_text)] sz)) (va_A [(ce_X3 ob ob_town ob_code ob_fault ob_place ob_text ob_size ob_begin ob_next ob_kind ob_value), (ce_b1400 y ob_text fob_text)] sz)) 0 0 (va_A [(ce_X3 ob ob_town ob_code ob_fault ob_place ob_text ob_size ob_begin ob_next ob_kind ob_value), (ce_b1400 y ob_text fob_text)] sz) := by
  refine Met.ofW (cc := cX3_closeLine) (maxL := 1) (ret := none) (by decide) rfl ?_
  intro p e s m args below meth c s₁ B hml hv
  obtain ⟨rfl, hsz, hP, hK, hD0⟩ := hv
  have hx := B.exec
  have hb := B.bytes
  have hr := B.returns
  have hw0 : ∀ w ∈ wAll, w.before _ s = true := fun w h => atoms_spec (ws := Cond.code yX3_closeLine cX3_closeLine 1 none :: wAll) B.pre w (List.mem_cons_of_mem _ h)
  have hown : s.vm.findClass RX3 = some m.cls := findClass_of_methodNamed B.named
  subst hsz
  have hD := hD0.self (sz := s.heap.size)
  generalize hAe : va_A [(ce_X3 ob ob_town ob_code ob_fault ob_place ob_text ob_size ob_begin ob_next ob_kind ob_value), (ce_b1400 y ob_text fob_text)] s.heap.size = A at hD ⊢
  have hA : ∀ q : Nat, s.heap.size ≤ q → A q := fun q h => by rw [← hAe]; exact Or.inr h
  have hS : va_S A s.heap s.heap [] := va_S.rf
  have hP : va_P G vwCl [(ce_X3 ob ob_town ob_code ob_fault ob_place ob_text ob_size ob_begin ob_next ob_kind ob_value), (ce_b1400 y ob_text fob_text)] s.heap := hP
  have hl := lv_entry ([.ref ob]) (n := 1) (Nat.le_of_ble_eq_true rfl)
  rw [lg_entry_eq]
  generalize (lg_sl ([.ref ob]) ++ List.replicate (1 - (lg_sl ([.ref ob])).length) Slot.unset).toArray = ls at hl ⊢
  have hl : lv_has ls 1 [(0, .ref ob)] := hl
  refine lv_aload_n hx hb dX3_closeLine_0 rfl (lv_at hl 0 rfl) ?_
  refine va_get (D := G) (ci := 3) (v := .int ob_kind) (C := RX3) (T := TX3) (N := 10) hx hb hw0 inA_wsX30 hown hK.1 hP 0 rfl rfl 8 (by decide) (hw0 _ m_719) (fun _ h9 => h9) rfl dX3_closeLine_1 ?_
  refine lv_iconst (v := 3) hx hb dX3_closeLine_4 (by decide) ?_
  refine cutW 13 (fun H locs ls st => ∃ (v_1005 : Int32) (v_1006 : Int32), ((0 : Int) ≤ v_1005.toInt ∧ v_1005.toInt ≤ 3) ∧ st = [] ∧ vPD G A H [(ce_X3 ob ob_town ob_code v_1005 v_1006 ob_text ob_size ob_begin ob_next ob_kind ob_value), (ce_b1400 y ob_text fob_text)] ∧ va_S A s.heap H locs ∧ lv_has ls 1 [(0, .ref ob)]) ?_ (fun J_13_1006 => ?_)
  · rintro H locs ls st ⟨v_1005, v_1006, bv_1005, rfl, ⟨hP, hD⟩, hS, hl⟩
    refine lv_aload_n hx hb dX3_closeLine_13 rfl (lv_at hl 0 rfl) ?_
    refine va_get (D := G) (ci := 3) (v := .int v_1005) (C := RX3) (T := TX3) (N := 10) hx hb hw0 inA_wsX30 hown hK.1 hP 0 rfl rfl 2 (by decide) (hw0 _ m_737) (fun _ h9 => h9) rfl dX3_closeLine_14 ?_
    refine lv_if_ne (tgt := 24) hx hb dX3_closeLine_17 (by decide) (fun c_1007 => ?_) (fun c_1007 => ?_)
    · skip
      have nc_1007 := nb_ne (1) (3) c_1007 bv_1005 (k := 0) (by decide) (by decide)
      exact W.vret hx hb hr (fun t ht hW => ⟨⟨_, rfl, ⟨v_1005, v_1006, ob_begin, ob_next, ob_kind, ob_value, (bw (0) (3) nc_1007.1 (by decide)), p_ob_begin, p_ob_next, p_ob_kind, p_ob_value, rfl⟩, by rw [ht]; exact hP, hD⟩, hS.F ht⟩) hS.2.2 dX3_closeLine_24
    · skip
      have nc_1007 := nb_eq (0) (0) c_1007 bv_1005 (bkc (x := 0) (c := 0) (by decide)) (by decide)
      refine lv_aload_n hx hb dX3_closeLine_20 rfl (lv_at hl 0 rfl) ?_
      refine cVvm (As := []) (rest := []) ⟨hx, hb, hml, hown, hw0⟩ hA hK hP hD hS [true, true] (sX3_advance l G y _ ob ob_town ob_code v_1005 v_1006 ob_text ob_size ob_begin ob_next ob_kind ob_value fob_text (bw (0) (3) nc_1007.1 (by decide)) p_ob_size p_ob_begin p_ob_next p_ob_kind p_ob_value) rfl ⟨(callB_of 0 hw0 (gA m_714) rfl rfl rfl (hw0 _ m_721) (hw0 _ m_738) cb_X3_advance ⟨Nat.le_of_ble_eq_true rfl, Nat.le_of_ble_eq_true rfl⟩), (hw0 _ m_739), (hw0 _ m_740)⟩ (ci := 3) (q := (RX3, TX3, 10)) rfl rfl rfl hl.1 (Nat.le_of_ble_eq_true rfl) dX3_closeLine_21 ⟨Nat.le_of_ble_eq_true rfl, Nat.le_of_ble_eq_true rfl⟩ (fun w_1008 H locs hw_1008 hP hD hS => ?_)
      obtain ⟨v_1009, v_1010, v_1011, v_1012, bv_1009, bv_1010, bv_1011, bv_1012, rfl⟩ := hw_1008
      obtain ⟨hP, hD⟩ : vPD G A H [(ce_X3 ob ob_town ob_code v_1005 v_1006 ob_text ob_size v_1009 v_1010 v_1011 v_1012), (ce_b1400 y ob_text fob_text)] := ⟨hP, hD⟩
      exact W.vret hx hb hr (fun t ht hW => ⟨⟨_, rfl, ⟨v_1005, v_1006, v_1009, v_1010, v_1011, v_1012, (bw (0) (3) nc_1007.1 (by decide)), bv_1009, bv_1010, bv_1011, bv_1012, rfl⟩, by rw [ht]; exact hP, hD⟩, hS.F ht⟩) hS.2.2 dX3_closeLine_24
  · skip
    refine lv_icmp_eq (tgt := 13) hx hb dX3_closeLine_5 (by decide) (fun c_1013 => ?_) (fun c_1013 => ?_)
    · skip
      have nc_1013 := nb_eq (3) (3) c_1013 p_ob_kind (bkc (x := 3) (c := 3) (by decide)) (by decide)
      exact J_13_1006 _ _ _ _ ⟨ob_fault, ob_place, p_ob_fault, rfl, ⟨hP, hD⟩, hS, lv_sub hl [0] rfl⟩
    · skip
      have nc_1013 := nb_ne (0) (4) c_1013 p_ob_kind (k := 3) (by decide) (by decide)
      refine lv_aload_n hx hb dX3_closeLine_8 rfl (lv_at hl 0 rfl) ?_
      refine lv_iconst (v := 1) hx hb dX3_closeLine_9 (by decide) ?_
      refine cVvm (As := [.int 1]) (rest := []) ⟨hx, hb, hml, hown, hw0⟩ hA hK hP hD hS [true] (sX3_refuse l G y _ ob 1 ob_town ob_code ob_fault ob_place ob_text ob_size ob_begin ob_next ob_kind ob_value p_ob_fault p_ob_size p_ob_begin p_ob_next nc_1013.1 p_ob_value (bw (1) (3) (bkc (x := 1) (c := 1) (by decide)) (by decide))) rfl ⟨(callB_of 1 hw0 (gA m_816) rfl rfl rfl (hw0 _ m_721) (hw0 _ m_734) cb_X3_refuse ⟨Nat.le_of_ble_eq_true rfl, Nat.le_of_ble_eq_true rfl⟩), (hw0 _ m_735), (hw0 _ m_736)⟩ (ci := 3) (q := (RX3, TX3, 10)) rfl rfl rfl hl.1 (Nat.le_of_ble_eq_true rfl) dX3_closeLine_10 ⟨Nat.le_of_ble_eq_true rfl, Nat.le_of_ble_eq_true rfl⟩ (fun w_1014 H locs hw_1014 hP hD hS => ?_)
      obtain ⟨v_1015, v_1016, bv_1015, rfl⟩ := hw_1014
      obtain ⟨hP, hD⟩ : vPD G A H [(ce_X3 ob ob_town ob_code v_1015 v_1016 ob_text ob_size ob_begin ob_next ob_kind ob_value), (ce_b1400 y ob_text fob_text)] := ⟨hP, hD⟩
      exact J_13_1006 _ _ _ _ ⟨v_1015, v_1016, (bw (0) (3) bv_1015 (by decide)), rfl, ⟨hP, hD⟩, hS, lv_sub hl [0] rfl⟩

set_option maxHeartbeats 4000000 in
set_option maxRecDepth 100000 in
theorem sX3_read (l : Launch) (G : va_G) (y : Nat → ClassId) (aK aV : Nat → Nat) (sz : Nat) (ob : Nat) (tp : Nat) (a2 : Int32) (ob_town : Nat) (ob_code : Nat) (ob_fault : Int32) (ob_place : Int32) (ob_tx : Value) (ob_size : Int32) (ob_begin : Int32) (ob_next : Int32) (ob_kind : Int32) (ob_value : Int32) (ob_town_houses : Int32) (ob_town_fresh : Int32) (ob_town_introducers : Int32) (ob_town_x : Nat) (ob_town_y : Nat) (ob_town_rank : Nat) (ob_town_weekday : Nat) (ob_town_from : Nat) (ob_town_to : Nat) (ob_town_came : Nat) (ob_town_bride : Nat) (ob_town_told : Nat) (fob_town_x : Nat → Int32) (fob_town_y : Nat → Int32) (fob_town_rank : Nat → Int32) (fob_town_weekday : Nat → Int32) (fob_town_from : Nat → Int32) (fob_town_to : Nat → Int32) (fob_town_came : Nat → Int32) (fob_town_bride : Nat → Int32) (fob_town_told : Nat → Int32) (ob_code_lines : Int32) (ob_code_used : Int32) (ob_code_paying : Nat) (ob_code_kind : Nat) (ob_code_within : Nat) (ob_code_start : Nat) (ob_code_stop : Nat) (ob_code_tests : Nat) (ob_code_facts : Nat) (ob_code_beyond : Int32) (fob_code_paying : Nat → Int32) (fob_code_kind : Nat → Int32) (fob_code_within : Nat → Int32) (fob_code_start : Nat → Int32) (fob_code_stop : Nat → Int32) (fob_code_tests : Nat → Int32) (ftp : Nat → Int32) (p_ob_town_houses : (0 : Int) ≤ ob_town_houses.toInt ∧ ob_town_houses.toInt ≤ 16) (p_ob_code_lines : (0 : Int) ≤ ob_code_lines.toInt ∧ ob_code_lines.toInt ≤ 24) (p_ob_code_used : (0 : Int) ≤ ob_code_used.toInt ∧ ob_code_used.toInt ≤ 700) (p_fob_code_start : ∀ i, (0 : Int) ≤ (fob_code_start i).toInt ∧ (fob_code_start i).toInt ≤ 700) (p_fob_code_stop : ∀ i, (0 : Int) ≤ (fob_code_stop i).toInt ∧ (fob_code_stop i).toInt ≤ 700) (p_ob_code_beyond : (0 : Int) ≤ ob_code_beyond.toInt ∧ ob_code_beyond.toInt ≤ 1) (p_ob_fault : (0 : Int) ≤ ob_fault.toInt ∧ ob_fault.toInt ≤ 3) (p_ob_size : (0 : Int) ≤ ob_size.toInt ∧ ob_size.toInt ≤ 1400) (p_ob_begin : (0 : Int) ≤ ob_begin.toInt ∧ ob_begin.toInt ≤ 1400) (p_ob_next : (0 : Int) ≤ ob_next.toInt ∧ ob_next.toInt ≤ 1400) (p_ob_kind : (0 : Int) ≤ ob_kind.toInt ∧ ob_kind.toInt ≤ 4) (p_ob_value : (0 : Int) ≤ ob_value.toInt ∧ ob_value.toInt ≤ 1000000) (p_a2 : (0 : Int) ≤ a2.toInt ∧ a2.toInt ≤ 1400) : Met l yX3_read (Cond.code yX3_read cX3_read 5 none :: wAll) ({ frames := 8, cells := 0, slots := 0, locals := 181 }) (va_Pc [.ref ob, .ref tp, .int a2] (kps G y aK aV sz [(ob, .inr (3, [.ref ob_town, .ref ob_code, .int ob_fault, .int ob_place, ob_tx, .int ob_size, .int ob_begin, .int ob_next, .int ob_kind, .int ob_value])), (ce_X7 ob_town ob_town_houses ob_town_fresh ob_town_introducers ob_town_x ob_town_y ob_town_rank ob_town_weekday ob_town_from ob_town_to ob_town_came ob_town_bride ob_town_told), (ce_i16 y ob_town_x fob_town_x), (ce_i16 y ob_town_y fob_town_y), (ce_i16 y ob_town_rank fob_town_rank), (ce_i16 y ob_town_weekday fob_town_weekday), (ce_i16 y ob_town_from fob_town_from), (ce_i16 y ob_town_to fob_town_to), (ce_i16 y ob_town_came fob_town_came), (ce_i16 y ob_town_bride fob_town_bride), (ce_i16 y ob_town_told fob_town_told), (ce_X0 ob_code ob_code_lines ob_code_used ob_code_paying ob_code_kind ob_code_within ob_code_start ob_code_stop ob_code_tests ob_code_facts ob_code_beyond), (ce_i24 y ob_code_paying fob_code_paying), (ce_i24 y ob_code_kind fob_code_kind), (ce_i24 y ob_code_within fob_code_within), (ce_i24 y ob_code_start fob_code_start), (ce_i24 y ob_code_stop fob_code_stop), (ce_i700 y ob_code_tests fob_code_tests), (ce_b1400 y tp ftp)])) (va_Qv (fun (w : va_W) => (∃ (v_3779 : Int32) (v_3780 : Int32) (v_3781 : Int32) (v_3782 : Int32) (v_3783 : Int32) (v_3784 : Int32) (v_3785 : Int32) (v_3786 : Int32) (v_3787 : Int32) (v_3788 : Int32) (f_3789 : Nat → Int32) (f_3790 : Nat → Int32) (f_3791 : Nat → Int32) (f_3792 : Nat → Int32) (f_3793 : Nat → Int32) (f_3794 : Nat → Int32) (f_3795 : Nat → Int32) (f_3796 : Nat → Int32) (f_3797 : Nat → Int32) (v_3798 : Int32) (v_3799 : Int32) (f_3800 : Nat → Int32) (f_3801 : Nat → Int32) (f_3802 : Nat → Int32) (f_3803 : Nat → Int32) (f_3804 : Nat → Int32) (f_3805 : Nat → Int32), ((0 : Int) ≤ v_3779.toInt ∧ v_3779.toInt ≤ 3) ∧ ((0 : Int) ≤ v_3781.toInt ∧ v_3781.toInt ≤ 1400) ∧ ((0 : Int) ≤ v_3782.toInt ∧ v_3782.toInt ≤ 1400) ∧ ((0 : Int) ≤ v_3783.toInt ∧ v_3783.toInt ≤ 1400) ∧ ((0 : Int) ≤ v_3784.toInt ∧ v_3784.toInt ≤ 4) ∧ ((0 : Int) ≤ v_3785.toInt ∧ v_3785.toInt ≤ 1000000) ∧ ((0 : Int) ≤ v_3786.toInt ∧ v_3786.toInt ≤ 16) ∧ ((0 : Int) ≤ v_3798.toInt ∧ v_3798.toInt ≤ 24) ∧ ((0 : Int) ≤ v_3799.toInt ∧ v_3799.toInt ≤ 700) ∧ (∀ i, (0 : Int) ≤ (f_3803 i).toInt ∧ (f_3803 i).toInt ≤ 700) ∧ (∀ i, (0 : Int) ≤ (f_3804 i).toInt ∧ (f_3804 i).toInt ≤ 700) ∧ w = [(ce_X3 ob ob_town ob_code v_3779 v_3780 tp v_3781 v_3782 v_3783 v_3784 v_3785), (ce_X7 ob_town v_3786 v_3787 v_3788 ob_town_x ob_town_y ob_town_rank ob_town_weekday ob_town_from ob_town_to ob_town_came ob_town_bride ob_town_told), (ce_i16 y ob_town_x f_3789), (ce_i16 y ob_town_y f_3790), (ce_i16 y ob_town_rank f_3791), (ce_i16 y ob_town_weekday f_3792), (ce_i16 y ob_town_from f_3793), (ce_i16 y ob_town_to f_3794), (ce_i16 y ob_town_came f_3795), (ce_i16 y ob_town_bride f_3796), (ce_i16 y ob_town_told f_3797), (ce_X0 ob_code v_3798 v_3799 ob_code_paying ob_code_kind ob_code_within ob_code_start ob_code_stop ob_code_tests ob_code_facts ob_code_beyond), (ce_i24 y ob_code_paying f_3800), (ce_i24 y ob_code_kind f_3801), (ce_i24 y ob_code_within f_3802), (ce_i24 y ob_code_start f_3803), (ce_i24 y ob_code_stop f_3804), (ce_i700 y ob_code_tests f_3805), (ce_b1400 y tp ftp)])) (kq G (va_A [(ob, .inr (3, [.ref ob_town, .ref ob_code, .int ob_fault, .int ob_place, ob_tx, .int ob_size, .int ob_begin, .int ob_next, .int ob_kind, .int ob_value])), (ce_X7 ob_town ob_town_houses ob_town_fresh ob_town_introducers ob_town_x ob_town_y ob_town_rank ob_town_weekday ob_town_from ob_town_to ob_town_came ob_town_bride ob_town_told), (ce_i16 y ob_town_x fob_town_x), (ce_i16 y ob_town_y fob_town_y), (ce_i16 y ob_town_rank fob_town_rank), (ce_i16 y ob_town_weekday fob_town_weekday), (ce_i16 y ob_town_from fob_town_from), (ce_i16 y ob_town_to fob_town_to), (ce_i16 y ob_town_came fob_town_came), (ce_i16 y ob_town_bride fob_town_bride), (ce_i16 y ob_town_told fob_town_told), (ce_X0 ob_code ob_code_lines ob_code_used ob_code_paying ob_code_kind ob_code_within ob_code_start ob_code_stop ob_code_tests ob_code_facts ob_code_beyond), (ce_i24 y ob_code_paying fob_code_paying), (ce_i24 y ob_code_kind fob_code_kind), (ce_i24 y ob_code_within fob_code_within), (ce_i24 y ob_code_start fob_code_start), (ce_i24 y ob_code_stop fob_code_stop), (ce_i700 y ob_code_tests fob_code_tests), (ce_b1400 y tp ftp)] sz)) (va_A [(ob, .inr (3, [.ref ob_town, .ref ob_code, .int ob_fault, .int ob_place, ob_tx, .int ob_size, .int ob_begin, .int ob_next, .int ob_kind, .int ob_value])), (ce_X7 ob_town ob_town_houses ob_town_fresh ob_town_introducers ob_town_x ob_town_y ob_town_rank ob_town_weekday ob_town_from ob_town_to ob_town_came ob_town_bride ob_town_told), (ce_i16 y ob_town_x fob_town_x), (ce_i16 y ob_town_y fob_town_y), (ce_i16 y ob_town_rank fob_town_rank), (ce_i16 y ob_town_weekday fob_town_weekday), (ce_i16 y ob_town_from fob_town_from), (ce_i16 y ob_town_to fob_town_to), (ce_i16 y ob_town_came fob_town_came), (ce_i16 y ob_town_bride fob_town_bride), (ce_i16 y ob_town_told fob_town_told), (ce_X0 ob_code ob_code_lines ob_code_used ob_code_paying ob_code_kind ob_code_within ob_code_start ob_code_stop ob_code_tests ob_code_facts ob_code_beyond), (ce_i24 y ob_code_paying fob_code_paying), (ce_i24 y ob_code_kind fob_code_kind), (ce_i24 y ob_code_within fob_code_within), (ce_i24 y ob_code_start fob_code_start), (ce_i24 y ob_code_stop fob_code_stop), (ce_i700 y ob_code_tests fob_code_tests), (ce_b1400 y tp ftp)] sz)) 0 0 (va_A [(ob, .inr (3, [.ref ob_town, .ref ob_code, .int ob_fault, .int ob_place, ob_tx, .int ob_size, .int ob_begin, .int ob_next, .int ob_kind, .int ob_value])), (ce_X7 ob_town ob_town_houses ob_town_fresh ob_town_introducers ob_town_x ob_town_y ob_town_rank ob_town_weekday ob_town_from ob_town_to ob_town_came ob_town_bride ob_town_told), (ce_i16 y ob_town_x fob_town_x), (ce_i16 y ob_town_y fob_town_y), (ce_i16 y ob_town_rank fob_town_rank), (ce_i16 y ob_town_weekday fob_town_weekday), (ce_i16 y ob_town_from fob_town_from), (ce_i16 y ob_town_to fob_town_to), (ce_i16 y ob_town_came fob_town_came), (ce_i16 y ob_town_bride fob_town_bride), (ce_i16 y ob_town_told fob_town_told), (ce_X0 ob_code ob_code_lines ob_code_used ob_code_paying ob_code_kind ob_code_within ob_code_start ob_code_stop ob_code_tests ob_code_facts ob_code_beyond), (ce_i24 y ob_code_paying fob_code_paying), (ce_i24 y ob_code_kind fob_code_kind), (ce_i24 y ob_code_within fob_code_within), (ce_i24 y ob_code_start fob_code_start), (ce_i24 y ob_code_stop fob_code_stop), (ce_i700 y ob_code_tests fob_code_tests), (ce_b1400 y tp ftp)] sz) := by
  refine Met.ofW (cc := cX3_read) (maxL := 5) (ret := none) (by decide) rfl ?_
  intro p e s m args below meth c s₁ B hml hv
  obtain ⟨rfl, ⟨hsz, hP, hK, hD0⟩, hE⟩ := hv
  have hx := B.exec
  have hb := B.bytes
  have hr := B.returns
  have hw0 : ∀ w ∈ wAll, w.before _ s = true := fun w h => atoms_spec (ws := Cond.code yX3_read cX3_read 5 none :: wAll) B.pre w (List.mem_cons_of_mem _ h)
  have hown : s.vm.findClass RX3 = some m.cls := findClass_of_methodNamed B.named
  subst hsz
  have hD := hD0.self (sz := s.heap.size)
  generalize hAe : va_A [(ob, .inr (3, [.ref ob_town, .ref ob_code, .int ob_fault, .int ob_place, ob_tx, .int ob_size, .int ob_begin, .int ob_next, .int ob_kind, .int ob_value])), (ce_X7 ob_town ob_town_houses ob_town_fresh ob_town_introducers ob_town_x ob_town_y ob_town_rank ob_town_weekday ob_town_from ob_town_to ob_town_came ob_town_bride ob_town_told), (ce_i16 y ob_town_x fob_town_x), (ce_i16 y ob_town_y fob_town_y), (ce_i16 y ob_town_rank fob_town_rank), (ce_i16 y ob_town_weekday fob_town_weekday), (ce_i16 y ob_town_from fob_town_from), (ce_i16 y ob_town_to fob_town_to), (ce_i16 y ob_town_came fob_town_came), (ce_i16 y ob_town_bride fob_town_bride), (ce_i16 y ob_town_told fob_town_told), (ce_X0 ob_code ob_code_lines ob_code_used ob_code_paying ob_code_kind ob_code_within ob_code_start ob_code_stop ob_code_tests ob_code_facts ob_code_beyond), (ce_i24 y ob_code_paying fob_code_paying), (ce_i24 y ob_code_kind fob_code_kind), (ce_i24 y ob_code_within fob_code_within), (ce_i24 y ob_code_start fob_code_start), (ce_i24 y ob_code_stop fob_code_stop), (ce_i700 y ob_code_tests fob_code_tests), (ce_b1400 y tp ftp)] s.heap.size = A at hD hE ⊢
  have hA : ∀ q : Nat, s.heap.size ≤ q → A q := fun q h => by rw [← hAe]; exact Or.inr h
  have hS : va_S A s.heap s.heap [] := va_S.rf
  have hP : va_P G vwCl [(ob, .inr (3, [.ref ob_town, .ref ob_code, .int ob_fault, .int ob_place, ob_tx, .int ob_size, .int ob_begin, .int ob_next, .int ob_kind, .int ob_value])), (ce_X7 ob_town ob_town_houses ob_town_fresh ob_town_introducers ob_town_x ob_town_y ob_town_rank ob_town_weekday ob_town_from ob_town_to ob_town_came ob_town_bride ob_town_told), (ce_i16 y ob_town_x fob_town_x), (ce_i16 y ob_town_y fob_town_y), (ce_i16 y ob_town_rank fob_town_rank), (ce_i16 y ob_town_weekday fob_town_weekday), (ce_i16 y ob_town_from fob_town_from), (ce_i16 y ob_town_to fob_town_to), (ce_i16 y ob_town_came fob_town_came), (ce_i16 y ob_town_bride fob_town_bride), (ce_i16 y ob_town_told fob_town_told), (ce_X0 ob_code ob_code_lines ob_code_used ob_code_paying ob_code_kind ob_code_within ob_code_start ob_code_stop ob_code_tests ob_code_facts ob_code_beyond), (ce_i24 y ob_code_paying fob_code_paying), (ce_i24 y ob_code_kind fob_code_kind), (ce_i24 y ob_code_within fob_code_within), (ce_i24 y ob_code_start fob_code_start), (ce_i24 y ob_code_stop fob_code_stop), (ce_i700 y ob_code_tests fob_code_tests), (ce_b1400 y tp ftp)] s.heap := hP
  have hl := lv_entry ([.ref ob, .ref tp, .int a2]) (n := 5) (Nat.le_of_ble_eq_true rfl)
  rw [lg_entry_eq]
  generalize (lg_sl ([.ref ob, .ref tp, .int a2]) ++ List.replicate (5 - (lg_sl ([.ref ob, .ref tp, .int a2])).length) Slot.unset).toArray = ls at hl ⊢
  have hl : lv_has ls 5 [(0, .ref ob), (1, .ref tp), (2, .int a2)] := hl
  refine lv_aload_n hx hb dX3_read_0 rfl (lv_at hl 0 rfl) ?_
  refine lv_aload_n hx hb dX3_read_1 rfl (lv_at hl 1 rfl) ?_
  refine va_put (D := G) (ci := 3) (v := .ref tp) (ty := (.array .byte)) (C := RX3) (T := TX3) (N := 10) hx hb hw0 inA_wsX30 tyX3 tyX3_ok nmX3 hown hK.1 hP hD hS 0 rfl rfl 4 (by decide) (hw0 _ m_717) (fun _ h9 => h9) rfl fd_X3_4 rfl rfl (Nat.le_of_ble_eq_true rfl) dX3_read_2 (fun H locs hP hD hS => ?_)
  obtain ⟨hP, hD⟩ : vPD G A H [(ce_X3 ob ob_town ob_code ob_fault ob_place tp ob_size ob_begin ob_next ob_kind ob_value), (ce_X7 ob_town ob_town_houses ob_town_fresh ob_town_introducers ob_town_x ob_town_y ob_town_rank ob_town_weekday ob_town_from ob_town_to ob_town_came ob_town_bride ob_town_told), (ce_i16 y ob_town_x fob_town_x), (ce_i16 y ob_town_y fob_town_y), (ce_i16 y ob_town_rank fob_town_rank), (ce_i16 y ob_town_weekday fob_town_weekday), (ce_i16 y ob_town_from fob_town_from), (ce_i16 y ob_town_to fob_town_to), (ce_i16 y ob_town_came fob_town_came), (ce_i16 y ob_town_bride fob_town_bride), (ce_i16 y ob_town_told fob_town_told), (ce_X0 ob_code ob_code_lines ob_code_used ob_code_paying ob_code_kind ob_code_within ob_code_start ob_code_stop ob_code_tests ob_code_facts ob_code_beyond), (ce_i24 y ob_code_paying fob_code_paying), (ce_i24 y ob_code_kind fob_code_kind), (ce_i24 y ob_code_within fob_code_within), (ce_i24 y ob_code_start fob_code_start), (ce_i24 y ob_code_stop fob_code_stop), (ce_i700 y ob_code_tests fob_code_tests), (ce_b1400 y tp ftp)] := ⟨hP, hD⟩
  refine lv_aload_n hx hb dX3_read_5 rfl (lv_at hl 0 rfl) ?_
  refine lv_iload_n hx hb dX3_read_6 rfl (lv_at hl 2 rfl) ?_
  refine lv_aload_n hx hb dX3_read_7 rfl (lv_at hl 1 rfl) ?_
  refine va_alen (v := 1400) hx hb hK.1 hP 18 0 rfl rfl rfl dX3_read_8 ?_
  refine va_mmin (own := RX3) hx hb (by rw [hml]; exact hl.1.symm) hown (hw0 _ m_755) (hw0 _ m_282) (hw0 _ m_283) (hw0 _ m_284) (Nat.le_of_ble_eq_true rfl) (Nat.le_of_ble_eq_true rfl) (Nat.zero_le _) (Nat.zero_le _) dX3_read_9 ?_
  refine lv_topi (fun v_1001 ev_1001 => ?_)
  have bv_1001 : (0 : Int) ≤ v_1001.toInt ∧ v_1001.toInt ≤ 1400 := bm_min ev_1001 p_a2 (bkc (x := 1400) (c := 1400) (by decide)) _ _ (by decide)
  refine va_put (D := G) (ci := 3) (v := .int v_1001) (ty := .int) (C := RX3) (T := TX3) (N := 10) hx hb hw0 inA_wsX30 tyX3 tyX3_ok nmX3 hown hK.1 hP hD hS 0 rfl rfl 5 (by decide) (hw0 _ m_716) (fun _ h9 => h9) rfl fd_X3_5 rfl rfl (Nat.le_of_ble_eq_true rfl) dX3_read_12 (fun H locs hP hD hS => ?_)
  obtain ⟨hP, hD⟩ : vPD G A H [(ce_X3 ob ob_town ob_code ob_fault ob_place tp v_1001 ob_begin ob_next ob_kind ob_value), (ce_X7 ob_town ob_town_houses ob_town_fresh ob_town_introducers ob_town_x ob_town_y ob_town_rank ob_town_weekday ob_town_from ob_town_to ob_town_came ob_town_bride ob_town_told), (ce_i16 y ob_town_x fob_town_x), (ce_i16 y ob_town_y fob_town_y), (ce_i16 y ob_town_rank fob_town_rank), (ce_i16 y ob_town_weekday fob_town_weekday), (ce_i16 y ob_town_from fob_town_from), (ce_i16 y ob_town_to fob_town_to), (ce_i16 y ob_town_came fob_town_came), (ce_i16 y ob_town_bride fob_town_bride), (ce_i16 y ob_town_told fob_town_told), (ce_X0 ob_code ob_code_lines ob_code_used ob_code_paying ob_code_kind ob_code_within ob_code_start ob_code_stop ob_code_tests ob_code_facts ob_code_beyond), (ce_i24 y ob_code_paying fob_code_paying), (ce_i24 y ob_code_kind fob_code_kind), (ce_i24 y ob_code_within fob_code_within), (ce_i24 y ob_code_start fob_code_start), (ce_i24 y ob_code_stop fob_code_stop), (ce_i700 y ob_code_tests fob_code_tests), (ce_b1400 y tp ftp)] := ⟨hP, hD⟩
  refine lv_aload_n hx hb dX3_read_15 rfl (lv_at hl 0 rfl) ?_
  refine lv_iconst (v := 0) hx hb dX3_read_16 (by decide) ?_
  refine va_put (D := G) (ci := 3) (v := .int 0) (ty := .int) (C := RX3) (T := TX3) (N := 10) hx hb hw0 inA_wsX30 tyX3 tyX3_ok nmX3 hown hK.1 hP hD hS 0 rfl rfl 7 (by decide) (hw0 _ m_715) (fun _ h9 => h9) rfl fd_X3_7 rfl rfl (Nat.le_of_ble_eq_true rfl) dX3_read_17 (fun H locs hP hD hS => ?_)
  obtain ⟨hP, hD⟩ : vPD G A H [(ce_X3 ob ob_town ob_code ob_fault ob_place tp v_1001 ob_begin 0 ob_kind ob_value), (ce_X7 ob_town ob_town_houses ob_town_fresh ob_town_introducers ob_town_x ob_town_y ob_town_rank ob_town_weekday ob_town_from ob_town_to ob_town_came ob_town_bride ob_town_told), (ce_i16 y ob_town_x fob_town_x), (ce_i16 y ob_town_y fob_town_y), (ce_i16 y ob_town_rank fob_town_rank), (ce_i16 y ob_town_weekday fob_town_weekday), (ce_i16 y ob_town_from fob_town_from), (ce_i16 y ob_town_to fob_town_to), (ce_i16 y ob_town_came fob_town_came), (ce_i16 y ob_town_bride fob_town_bride), (ce_i16 y ob_town_told fob_town_told), (ce_X0 ob_code ob_code_lines ob_code_used ob_code_paying ob_code_kind ob_code_within ob_code_start ob_code_stop ob_code_tests ob_code_facts ob_code_beyond), (ce_i24 y ob_code_paying fob_code_paying), (ce_i24 y ob_code_kind fob_code_kind), (ce_i24 y ob_code_within fob_code_within), (ce_i24 y ob_code_start fob_code_start), (ce_i24 y ob_code_stop fob_code_stop), (ce_i700 y ob_code_tests fob_code_tests), (ce_b1400 y tp ftp)] := ⟨hP, hD⟩
  refine lv_aload_n hx hb dX3_read_20 rfl (lv_at hl 0 rfl) ?_
  refine lv_iconst (v := 0) hx hb dX3_read_21 (by decide) ?_
  refine va_put (D := G) (ci := 3) (v := .int 0) (ty := .int) (C := RX3) (T := TX3) (N := 10) hx hb hw0 inA_wsX30 tyX3 tyX3_ok nmX3 hown hK.1 hP hD hS 0 rfl rfl 2 (by decide) (hw0 _ m_737) (fun _ h9 => h9) rfl fd_X3_2 rfl rfl (Nat.le_of_ble_eq_true rfl) dX3_read_22 (fun H locs hP hD hS => ?_)
  obtain ⟨hP, hD⟩ : vPD G A H [(ce_X3 ob ob_town ob_code 0 ob_place tp v_1001 ob_begin 0 ob_kind ob_value), (ce_X7 ob_town ob_town_houses ob_town_fresh ob_town_introducers ob_town_x ob_town_y ob_town_rank ob_town_weekday ob_town_from ob_town_to ob_town_came ob_town_bride ob_town_told), (ce_i16 y ob_town_x fob_town_x), (ce_i16 y ob_town_y fob_town_y), (ce_i16 y ob_town_rank fob_town_rank), (ce_i16 y ob_town_weekday fob_town_weekday), (ce_i16 y ob_town_from fob_town_from), (ce_i16 y ob_town_to fob_town_to), (ce_i16 y ob_town_came fob_town_came), (ce_i16 y ob_town_bride fob_town_bride), (ce_i16 y ob_town_told fob_town_told), (ce_X0 ob_code ob_code_lines ob_code_used ob_code_paying ob_code_kind ob_code_within ob_code_start ob_code_stop ob_code_tests ob_code_facts ob_code_beyond), (ce_i24 y ob_code_paying fob_code_paying), (ce_i24 y ob_code_kind fob_code_kind), (ce_i24 y ob_code_within fob_code_within), (ce_i24 y ob_code_start fob_code_start), (ce_i24 y ob_code_stop fob_code_stop), (ce_i700 y ob_code_tests fob_code_tests), (ce_b1400 y tp ftp)] := ⟨hP, hD⟩
  refine lv_aload_n hx hb dX3_read_25 rfl (lv_at hl 0 rfl) ?_
  refine lv_iconst (v := (-1)) hx hb dX3_read_26 (by decide) ?_
  refine va_put (D := G) (ci := 3) (v := .int (-1)) (ty := .int) (C := RX3) (T := TX3) (N := 10) hx hb hw0 inA_wsX30 tyX3 tyX3_ok nmX3 hown hK.1 hP hD hS 0 rfl rfl 3 (by decide) (hw0 _ m_751) (fun _ h9 => h9) rfl fd_X3_3 rfl rfl (Nat.le_of_ble_eq_true rfl) dX3_read_27 (fun H locs hP hD hS => ?_)
  obtain ⟨hP, hD⟩ : vPD G A H [(ce_X3 ob ob_town ob_code 0 (-1) tp v_1001 ob_begin 0 ob_kind ob_value), (ce_X7 ob_town ob_town_houses ob_town_fresh ob_town_introducers ob_town_x ob_town_y ob_town_rank ob_town_weekday ob_town_from ob_town_to ob_town_came ob_town_bride ob_town_told), (ce_i16 y ob_town_x fob_town_x), (ce_i16 y ob_town_y fob_town_y), (ce_i16 y ob_town_rank fob_town_rank), (ce_i16 y ob_town_weekday fob_town_weekday), (ce_i16 y ob_town_from fob_town_from), (ce_i16 y ob_town_to fob_town_to), (ce_i16 y ob_town_came fob_town_came), (ce_i16 y ob_town_bride fob_town_bride), (ce_i16 y ob_town_told fob_town_told), (ce_X0 ob_code ob_code_lines ob_code_used ob_code_paying ob_code_kind ob_code_within ob_code_start ob_code_stop ob_code_tests ob_code_facts ob_code_beyond), (ce_i24 y ob_code_paying fob_code_paying), (ce_i24 y ob_code_kind fob_code_kind), (ce_i24 y ob_code_within fob_code_within), (ce_i24 y ob_code_start fob_code_start), (ce_i24 y ob_code_stop fob_code_stop), (ce_i700 y ob_code_tests fob_code_tests), (ce_b1400 y tp ftp)] := ⟨hP, hD⟩
  refine lv_aload_n hx hb dX3_read_30 rfl (lv_at hl 0 rfl) ?_
  refine va_get (D := G) (ci := 3) (v := .ref ob_town) (C := RX3) (T := TX3) (N := 10) hx hb hw0 inA_wsX30 hown hK.1 hP 0 rfl rfl 0 (by decide) (hw0 _ m_747) (fun _ h9 => h9) rfl dX3_read_31 ?_
  refine cVvm (As := []) (rest := []) ⟨hx, hb, hml, hown, hw0⟩ hA hK hP hD hS [false, true, false, false, false, false, false, false, false, false, true] (sX7_clear l G y _ ob_town ob_town_houses ob_town_fresh ob_town_introducers ob_town_x ob_town_y ob_town_rank ob_town_weekday ob_town_from ob_town_to ob_town_came ob_town_bride ob_town_told fob_town_told p_ob_town_houses) rfl ⟨(callB_of 0 hw0 (gA m_1059) rfl rfl rfl (hw0 _ m_746) (hw0 _ m_756) cb_X7_clear ⟨Nat.le_of_ble_eq_true rfl, Nat.le_of_ble_eq_true rfl⟩), (hw0 _ m_757), (hw0 _ m_758)⟩ (ci := 7) (q := (RX7, TX7, 12)) rfl rfl rfl hl.1 (Nat.le_of_ble_eq_true rfl) dX3_read_34 ⟨Nat.le_of_ble_eq_true rfl, Nat.le_of_ble_eq_true rfl⟩ (fun w_1002 H locs hw_1002 hP hD hS => ?_)
  obtain ⟨f_1003, rfl⟩ := hw_1002
  obtain ⟨hP, hD⟩ : vPD G A H [(ce_X3 ob ob_town ob_code 0 (-1) tp v_1001 ob_begin 0 ob_kind ob_value), (ce_X7 ob_town 0 0 3 ob_town_x ob_town_y ob_town_rank ob_town_weekday ob_town_from ob_town_to ob_town_came ob_town_bride ob_town_told), (ce_i16 y ob_town_x fob_town_x), (ce_i16 y ob_town_y fob_town_y), (ce_i16 y ob_town_rank fob_town_rank), (ce_i16 y ob_town_weekday fob_town_weekday), (ce_i16 y ob_town_from fob_town_from), (ce_i16 y ob_town_to fob_town_to), (ce_i16 y ob_town_came fob_town_came), (ce_i16 y ob_town_bride fob_town_bride), (ce_i16 y ob_town_told f_1003), (ce_X0 ob_code ob_code_lines ob_code_used ob_code_paying ob_code_kind ob_code_within ob_code_start ob_code_stop ob_code_tests ob_code_facts ob_code_beyond), (ce_i24 y ob_code_paying fob_code_paying), (ce_i24 y ob_code_kind fob_code_kind), (ce_i24 y ob_code_within fob_code_within), (ce_i24 y ob_code_start fob_code_start), (ce_i24 y ob_code_stop fob_code_stop), (ce_i700 y ob_code_tests fob_code_tests), (ce_b1400 y tp ftp)] := ⟨hP, hD⟩
  refine lv_aload_n hx hb dX3_read_37 rfl (lv_at hl 0 rfl) ?_
  refine va_get (D := G) (ci := 3) (v := .ref ob_code) (C := RX3) (T := TX3) (N := 10) hx hb hw0 inA_wsX30 hown hK.1 hP 0 rfl rfl 1 (by decide) (hw0 _ m_750) (fun _ h9 => h9) rfl dX3_read_38 ?_
  refine cVvm (As := []) (rest := []) ⟨hx, hb, hml, hown, hw0⟩ hA hK hP hD hS [false, false, false, false, false, false, false, false, false, false, false, true] (sX0_clear l G y _ ob_code ob_code_lines ob_code_used ob_code_paying ob_code_kind ob_code_within ob_code_start ob_code_stop ob_code_tests ob_code_facts ob_code_beyond p_ob_code_lines p_ob_code_used p_ob_code_beyond) rfl ⟨(callB_of 0 hw0 (gA m_265) rfl rfl rfl (hw0 _ m_286) (hw0 _ m_759) cb_X0_clear ⟨Nat.le_of_ble_eq_true rfl, Nat.le_of_ble_eq_true rfl⟩), (hw0 _ m_760), (hw0 _ m_761)⟩ (ci := 0) (q := (RX0, TX0, 10)) rfl rfl rfl hl.1 (Nat.le_of_ble_eq_true rfl) dX3_read_41 ⟨Nat.le_of_ble_eq_true rfl, Nat.le_of_ble_eq_true rfl⟩ (fun w_1004 H locs hw_1004 hP hD hS => ?_)
  obtain rfl := hw_1004
  obtain ⟨hP, hD⟩ : vPD G A H [(ce_X3 ob ob_town ob_code 0 (-1) tp v_1001 ob_begin 0 ob_kind ob_value), (ce_X7 ob_town 0 0 3 ob_town_x ob_town_y ob_town_rank ob_town_weekday ob_town_from ob_town_to ob_town_came ob_town_bride ob_town_told), (ce_i16 y ob_town_x fob_town_x), (ce_i16 y ob_town_y fob_town_y), (ce_i16 y ob_town_rank fob_town_rank), (ce_i16 y ob_town_weekday fob_town_weekday), (ce_i16 y ob_town_from fob_town_from), (ce_i16 y ob_town_to fob_town_to), (ce_i16 y ob_town_came fob_town_came), (ce_i16 y ob_town_bride fob_town_bride), (ce_i16 y ob_town_told f_1003), (ce_X0 ob_code 0 0 ob_code_paying ob_code_kind ob_code_within ob_code_start ob_code_stop ob_code_tests ob_code_facts ob_code_beyond), (ce_i24 y ob_code_paying fob_code_paying), (ce_i24 y ob_code_kind fob_code_kind), (ce_i24 y ob_code_within fob_code_within), (ce_i24 y ob_code_start fob_code_start), (ce_i24 y ob_code_stop fob_code_stop), (ce_i700 y ob_code_tests fob_code_tests), (ce_b1400 y tp ftp)] := ⟨hP, hD⟩
  refine lv_aload_n hx hb dX3_read_44 rfl (lv_at hl 0 rfl) ?_
  refine cVvm (As := []) (rest := []) ⟨hx, hb, hml, hown, hw0⟩ hA hK hP hD hS [true, false, false, false, false, false, false, false, false, false, false, false, false, false, false, false, false, false, true] (sX3_advance l G y _ ob ob_town ob_code 0 (-1) tp v_1001 ob_begin 0 ob_kind ob_value ftp (bw (0) (3) (bkc (x := 0) (c := 0) (by decide)) (by decide)) bv_1001 p_ob_begin (bw (0) (1400) (bkc (x := 0) (c := 0) (by decide)) (by decide)) p_ob_kind p_ob_value) rfl ⟨(callB_of 0 hw0 (gA m_714) rfl rfl rfl (hw0 _ m_721) (hw0 _ m_738) cb_X3_advance ⟨Nat.le_of_ble_eq_true rfl, Nat.le_of_ble_eq_true rfl⟩), (hw0 _ m_739), (hw0 _ m_740)⟩ (ci := 3) (q := (RX3, TX3, 10)) rfl rfl rfl hl.1 (Nat.le_of_ble_eq_true rfl) dX3_read_45 ⟨Nat.le_of_ble_eq_true rfl, Nat.le_of_ble_eq_true rfl⟩ (fun w_1005 H locs hw_1005 hP hD hS => ?_)
  obtain ⟨v_1006, v_1007, v_1008, v_1009, bv_1006, bv_1007, bv_1008, bv_1009, rfl⟩ := hw_1005
  obtain ⟨hP, hD⟩ : vPD G A H [(ce_X3 ob ob_town ob_code 0 (-1) tp v_1001 v_1006 v_1007 v_1008 v_1009), (ce_X7 ob_town 0 0 3 ob_town_x ob_town_y ob_town_rank ob_town_weekday ob_town_from ob_town_to ob_town_came ob_town_bride ob_town_told), (ce_i16 y ob_town_x fob_town_x), (ce_i16 y ob_town_y fob_town_y), (ce_i16 y ob_town_rank fob_town_rank), (ce_i16 y ob_town_weekday fob_town_weekday), (ce_i16 y ob_town_from fob_town_from), (ce_i16 y ob_town_to fob_town_to), (ce_i16 y ob_town_came fob_town_came), (ce_i16 y ob_town_bride fob_town_bride), (ce_i16 y ob_town_told f_1003), (ce_X0 ob_code 0 0 ob_code_paying ob_code_kind ob_code_within ob_code_start ob_code_stop ob_code_tests ob_code_facts ob_code_beyond), (ce_i24 y ob_code_paying fob_code_paying), (ce_i24 y ob_code_kind fob_code_kind), (ce_i24 y ob_code_within fob_code_within), (ce_i24 y ob_code_start fob_code_start), (ce_i24 y ob_code_stop fob_code_stop), (ce_i700 y ob_code_tests fob_code_tests), (ce_b1400 y tp ftp)] := ⟨hP, hD⟩
  refine lv_iconst (v := 0) hx hb dX3_read_48 (by decide) ?_
  refine lv_istore_n (lv' := [(3, .int 0), (0, .ref ob), (1, .ref tp), (2, .int a2)]) hx hb dX3_read_49 rfl hl (by decide) rfl (fun ls hl => ?_)
  refine loopX (fun n H locs ls st => ∃ (v_2639 : Int32) (v_2640 : Int32) (v_2641 : Int32) (v_2642 : Int32) (v_2643 : Int32) (v_2644 : Int32) (v_2645 : Int32) (v_2646 : Int32) (v_2647 : Int32) (v_2648 : Int32) (f_2649 : Nat → Int32) (f_2650 : Nat → Int32) (f_2651 : Nat → Int32) (f_2652 : Nat → Int32) (f_2653 : Nat → Int32) (f_2654 : Nat → Int32) (f_2655 : Nat → Int32) (f_2656 : Nat → Int32) (f_2657 : Nat → Int32) (v_2658 : Int32) (v_2659 : Int32) (f_2660 : Nat → Int32) (f_2661 : Nat → Int32) (f_2662 : Nat → Int32) (f_2663 : Nat → Int32) (f_2664 : Nat → Int32) (f_2665 : Nat → Int32), (1401 - v_2639.toInt).toNat = n ∧ ((0 : Int) ≤ v_2639.toInt ∧ v_2639.toInt ≤ 1401) ∧ ((0 : Int) ≤ v_2640.toInt ∧ v_2640.toInt ≤ 3) ∧ ((0 : Int) ≤ v_2642.toInt ∧ v_2642.toInt ≤ 1400) ∧ ((0 : Int) ≤ v_2643.toInt ∧ v_2643.toInt ≤ 1400) ∧ ((0 : Int) ≤ v_2644.toInt ∧ v_2644.toInt ≤ 4) ∧ ((0 : Int) ≤ v_2645.toInt ∧ v_2645.toInt ≤ 1000000) ∧ ((0 : Int) ≤ v_2646.toInt ∧ v_2646.toInt ≤ 16) ∧ ((0 : Int) ≤ v_2658.toInt ∧ v_2658.toInt ≤ 24) ∧ ((0 : Int) ≤ v_2659.toInt ∧ v_2659.toInt ≤ 700) ∧ (∀ i, (0 : Int) ≤ (f_2663 i).toInt ∧ (f_2663 i).toInt ≤ 700) ∧ (∀ i, (0 : Int) ≤ (f_2664 i).toInt ∧ (f_2664 i).toInt ≤ 700) ∧ st = [] ∧ vPD G A H [(ce_X3 ob ob_town ob_code v_2640 v_2641 tp v_1001 v_2642 v_2643 v_2644 v_2645), (ce_X7 ob_town v_2646 v_2647 v_2648 ob_town_x ob_town_y ob_town_rank ob_town_weekday ob_town_from ob_town_to ob_town_came ob_town_bride ob_town_told), (ce_i16 y ob_town_x f_2649), (ce_i16 y ob_town_y f_2650), (ce_i16 y ob_town_rank f_2651), (ce_i16 y ob_town_weekday f_2652), (ce_i16 y ob_town_from f_2653), (ce_i16 y ob_town_to f_2654), (ce_i16 y ob_town_came f_2655), (ce_i16 y ob_town_bride f_2656), (ce_i16 y ob_town_told f_2657), (ce_X0 ob_code v_2658 v_2659 ob_code_paying ob_code_kind ob_code_within ob_code_start ob_code_stop ob_code_tests ob_code_facts ob_code_beyond), (ce_i24 y ob_code_paying f_2660), (ce_i24 y ob_code_kind f_2661), (ce_i24 y ob_code_within f_2662), (ce_i24 y ob_code_start f_2663), (ce_i24 y ob_code_stop f_2664), (ce_i700 y ob_code_tests f_2665), (ce_b1400 y tp ftp)] ∧ va_S A s.heap H locs ∧ lv_has ls 5 [(3, .int v_2639), (0, .ref ob)]) ?_ (n := (1401 - (0 : Int32).toInt).toNat) ⟨0, 0, (-1), v_1006, v_1007, v_1008, v_1009, 0, 0, 3, fob_town_x, fob_town_y, fob_town_rank, fob_town_weekday, fob_town_from, fob_town_to, fob_town_came, fob_town_bride, f_1003, 0, 0, fob_code_paying, fob_code_kind, fob_code_within, fob_code_start, fob_code_stop, fob_code_tests, rfl, (bw (0) (1401) (bkc (x := 0) (c := 0) (by decide)) (by decide)), (bw (0) (3) (bkc (x := 0) (c := 0) (by decide)) (by decide)), bv_1006, bv_1007, bv_1008, bv_1009, (bw (0) (16) (bkc (x := 0) (c := 0) (by decide)) (by decide)), (bw (0) (24) (bkc (x := 0) (c := 0) (by decide)) (by decide)), (bw (0) (700) (bkc (x := 0) (c := 0) (by decide)) (by decide)), p_fob_code_start, p_fob_code_stop, rfl, ⟨hP, hD⟩, hS, lv_sub hl [0, 1] rfl⟩
  rintro n ih_2777 H locs ls st ⟨v_2639, v_2640, v_2641, v_2642, v_2643, v_2644, v_2645, v_2646, v_2647, v_2648, f_2649, f_2650, f_2651, f_2652, f_2653, f_2654, f_2655, f_2656, f_2657, v_2658, v_2659, f_2660, f_2661, f_2662, f_2663, f_2664, f_2665, hn_2777, bv_2639, bv_2640, bv_2642, bv_2643, bv_2644, bv_2645, bv_2646, bv_2658, bv_2659, bf_2663, bf_2664, rfl, ⟨hP, hD⟩, hS, hl⟩
  refine lv_iload_n hx hb dX3_read_50 rfl (lv_at hl 0 rfl) ?_
  refine lv_sipush (v := 1400) hx hb dX3_read_51 (by decide) ?_
  refine lv_icmp_gt (tgt := 112) hx hb dX3_read_54 (by decide) (fun c_2778 => ?_) (fun c_2778 => ?_)
  · skip
    have nc_2778 := nb_lt (1400) (1401) c_2778 (bkc (x := 1400) (c := 1400) (by decide)) bv_2639 (by decide)
    exact W.vret hx hb hr (fun t ht hW => ⟨⟨_, rfl, ⟨v_2640, v_2641, v_1001, v_2642, v_2643, v_2644, v_2645, v_2646, v_2647, v_2648, f_2649, f_2650, f_2651, f_2652, f_2653, f_2654, f_2655, f_2656, f_2657, v_2658, v_2659, f_2660, f_2661, f_2662, f_2663, f_2664, f_2665, bv_2640, bv_1001, bv_2642, bv_2643, bv_2644, bv_2645, bv_2646, bv_2658, bv_2659, bf_2663, bf_2664, rfl⟩, by rw [ht]; exact hP, hD⟩, hS.F ht⟩) hS.2.2 dX3_read_112
  · skip
    have nc_2778 := nb_nlt (1400) (1400) c_2778 bv_2639 (bkc (x := 1400) (c := 1400) (by decide)) (by decide)
    refine lv_aload_n hx hb dX3_read_57 rfl (lv_at hl 1 rfl) ?_
    refine va_get (D := G) (ci := 3) (v := .int v_2640) (C := RX3) (T := TX3) (N := 10) hx hb hw0 inA_wsX30 hown hK.1 hP 0 rfl rfl 2 (by decide) (hw0 _ m_737) (fun _ h9 => h9) rfl dX3_read_58 ?_
    refine lv_if_ne (tgt := 112) hx hb dX3_read_61 (by decide) (fun c_2779 => ?_) (fun c_2779 => ?_)
    · skip
      have nc_2779 := nb_ne (1) (3) c_2779 bv_2640 (k := 0) (by decide) (by decide)
      exact W.vret hx hb hr (fun t ht hW => ⟨⟨_, rfl, ⟨v_2640, v_2641, v_1001, v_2642, v_2643, v_2644, v_2645, v_2646, v_2647, v_2648, f_2649, f_2650, f_2651, f_2652, f_2653, f_2654, f_2655, f_2656, f_2657, v_2658, v_2659, f_2660, f_2661, f_2662, f_2663, f_2664, f_2665, (bw (0) (3) nc_2779.1 (by decide)), bv_1001, bv_2642, bv_2643, bv_2644, bv_2645, bv_2646, bv_2658, bv_2659, bf_2663, bf_2664, rfl⟩, by rw [ht]; exact hP, hD⟩, hS.F ht⟩) hS.2.2 dX3_read_112
    · skip
      have nc_2779 := nb_eq (0) (0) c_2779 bv_2640 (bkc (x := 0) (c := 0) (by decide)) (by decide)
      refine lv_aload_n hx hb dX3_read_64 rfl (lv_at hl 1 rfl) ?_
      refine va_get (D := G) (ci := 3) (v := .int v_2644) (C := RX3) (T := TX3) (N := 10) hx hb hw0 inA_wsX30 hown hK.1 hP 0 rfl rfl 8 (by decide) (hw0 _ m_719) (fun _ h9 => h9) rfl dX3_read_65 ?_
      refine lv_if_eq (tgt := 112) hx hb dX3_read_68 (by decide) (fun c_2780 => ?_) (fun c_2780 => ?_)
      · skip
        have nc_2780 := nb_eq (0) (0) c_2780 bv_2644 (bkc (x := 0) (c := 0) (by decide)) (by decide)
        exact W.vret hx hb hr (fun t ht hW => ⟨⟨_, rfl, ⟨v_2640, v_2641, v_1001, v_2642, v_2643, v_2644, v_2645, v_2646, v_2647, v_2648, f_2649, f_2650, f_2651, f_2652, f_2653, f_2654, f_2655, f_2656, f_2657, v_2658, v_2659, f_2660, f_2661, f_2662, f_2663, f_2664, f_2665, (bw (0) (3) nc_2779.1 (by decide)), bv_1001, bv_2642, bv_2643, (bw (0) (4) nc_2780.1 (by decide)), bv_2645, bv_2646, bv_2658, bv_2659, bf_2663, bf_2664, rfl⟩, by rw [ht]; exact hP, hD⟩, hS.F ht⟩) hS.2.2 dX3_read_112
      · skip
        have nc_2780 := nb_ne (1) (4) c_2780 bv_2644 (k := 0) (by decide) (by decide)
        refine lv_aload_n hx hb dX3_read_71 rfl (lv_at hl 1 rfl) ?_
        refine va_ldcS (own := RX3) (tx := "house know new introduce sent card call dinner") (q := aK 0) hx hb hown (hE.2.1 ("CardBowl$Reader", 58, "house know new introduce sent card call dinner", 0) sl_CardBowl_Reader_58) dX3_read_72 ?_
        refine cViSm (As := [.ref (aK 0)]) (rest := []) ⟨hx, hb, hml, hown, hw0⟩ hA hK hP hD hS hE [true, false, false, false, false, false, false, false, false, false, false, false, false, false, false, false, false, false, true] (sX3_among l G y aK aV _ ob 0 ob_town ob_code v_2640 v_2641 tp v_1001 v_2642 v_2643 v_2644 v_2645 ftp (bw (0) (3) nc_2779.1 (by decide)) bv_1001 bv_2642 bv_2643 (bw (0) (4) nc_2780.1 (by decide)) bv_2645 (by decide)) rfl ⟨(callB_of 1 hw0 (gA m_727) rfl rfl rfl (hw0 _ m_721) (hw0 _ m_731) cb_X3_among ⟨Nat.le_of_ble_eq_true rfl, Nat.le_of_ble_eq_true rfl⟩), (hw0 _ m_732), (hw0 _ m_733)⟩ (ci := 3) (q := (RX3, TX3, 10)) rfl rfl rfl hl.1 (Nat.le_of_ble_eq_true rfl) dX3_read_74 ⟨Nat.le_of_ble_eq_true rfl, Nat.le_of_ble_eq_true rfl⟩ (fun r_2781 w_2781 H locs hw_2781 hP hD hS => ?_)
        obtain ⟨v_2782, er_2781, rfl⟩ := hw_2781
        subst r_2781
        have hLh_2783 : ((lenS.getD 0 0 : Nat) : Int) = 46 := by decide
        obtain ⟨hP, hD⟩ : vPD G A H [(ce_X3 ob ob_town ob_code v_2640 v_2641 tp v_1001 v_2642 v_2643 v_2644 v_2645), (ce_X7 ob_town v_2646 v_2647 v_2648 ob_town_x ob_town_y ob_town_rank ob_town_weekday ob_town_from ob_town_to ob_town_came ob_town_bride ob_town_told), (ce_i16 y ob_town_x f_2649), (ce_i16 y ob_town_y f_2650), (ce_i16 y ob_town_rank f_2651), (ce_i16 y ob_town_weekday f_2652), (ce_i16 y ob_town_from f_2653), (ce_i16 y ob_town_to f_2654), (ce_i16 y ob_town_came f_2655), (ce_i16 y ob_town_bride f_2656), (ce_i16 y ob_town_told f_2657), (ce_X0 ob_code v_2658 v_2659 ob_code_paying ob_code_kind ob_code_within ob_code_start ob_code_stop ob_code_tests ob_code_facts ob_code_beyond), (ce_i24 y ob_code_paying f_2660), (ce_i24 y ob_code_kind f_2661), (ce_i24 y ob_code_within f_2662), (ce_i24 y ob_code_start f_2663), (ce_i24 y ob_code_stop f_2664), (ce_i700 y ob_code_tests f_2665), (ce_b1400 y tp ftp)] := ⟨hP, hD⟩
        refine lv_istore (lv' := [(4, .int v_2782), (3, .int v_2639), (0, .ref ob)]) hx hb dX3_read_77 hl (by decide) rfl (fun ls hl => ?_)
        refine lv_iload hx hb dX3_read_79 (lv_at hl 0 rfl) ?_
        refine lv_iconst (v := 4) hx hb dX3_read_81 (by decide) ?_
        refine cutW 102 (fun H locs ls st => ∃ (v_2820 : Int32) (v_2821 : Int32) (v_2822 : Int32) (v_2823 : Int32) (v_2824 : Int32) (v_2825 : Int32) (v_2826 : Int32) (v_2827 : Int32) (v_2828 : Int32) (f_2829 : Nat → Int32) (f_2830 : Nat → Int32) (f_2831 : Nat → Int32) (f_2832 : Nat → Int32) (f_2833 : Nat → Int32) (f_2834 : Nat → Int32) (f_2835 : Nat → Int32) (f_2836 : Nat → Int32) (f_2837 : Nat → Int32) (v_2838 : Int32) (v_2839 : Int32) (f_2840 : Nat → Int32) (f_2841 : Nat → Int32) (f_2842 : Nat → Int32) (f_2843 : Nat → Int32) (f_2844 : Nat → Int32) (f_2845 : Nat → Int32), ((0 : Int) ≤ v_2820.toInt ∧ v_2820.toInt ≤ 3) ∧ ((0 : Int) ≤ v_2822.toInt ∧ v_2822.toInt ≤ 1400) ∧ ((0 : Int) ≤ v_2823.toInt ∧ v_2823.toInt ≤ 1400) ∧ ((0 : Int) ≤ v_2824.toInt ∧ v_2824.toInt ≤ 4) ∧ ((0 : Int) ≤ v_2825.toInt ∧ v_2825.toInt ≤ 1000000) ∧ ((0 : Int) ≤ v_2826.toInt ∧ v_2826.toInt ≤ 16) ∧ ((0 : Int) ≤ v_2838.toInt ∧ v_2838.toInt ≤ 24) ∧ ((0 : Int) ≤ v_2839.toInt ∧ v_2839.toInt ≤ 700) ∧ (∀ i, (0 : Int) ≤ (f_2843 i).toInt ∧ (f_2843 i).toInt ≤ 700) ∧ (∀ i, (0 : Int) ≤ (f_2844 i).toInt ∧ (f_2844 i).toInt ≤ 700) ∧ st = [] ∧ vPD G A H [(ce_X3 ob ob_town ob_code v_2820 v_2821 tp v_1001 v_2822 v_2823 v_2824 v_2825), (ce_X7 ob_town v_2826 v_2827 v_2828 ob_town_x ob_town_y ob_town_rank ob_town_weekday ob_town_from ob_town_to ob_town_came ob_town_bride ob_town_told), (ce_i16 y ob_town_x f_2829), (ce_i16 y ob_town_y f_2830), (ce_i16 y ob_town_rank f_2831), (ce_i16 y ob_town_weekday f_2832), (ce_i16 y ob_town_from f_2833), (ce_i16 y ob_town_to f_2834), (ce_i16 y ob_town_came f_2835), (ce_i16 y ob_town_bride f_2836), (ce_i16 y ob_town_told f_2837), (ce_X0 ob_code v_2838 v_2839 ob_code_paying ob_code_kind ob_code_within ob_code_start ob_code_stop ob_code_tests ob_code_facts ob_code_beyond), (ce_i24 y ob_code_paying f_2840), (ce_i24 y ob_code_kind f_2841), (ce_i24 y ob_code_within f_2842), (ce_i24 y ob_code_start f_2843), (ce_i24 y ob_code_stop f_2844), (ce_i700 y ob_code_tests f_2845), (ce_b1400 y tp ftp)] ∧ va_S A s.heap H locs ∧ lv_has ls 5 [(3, .int v_2639), (0, .ref ob)]) ?_ (fun J_102_2845 => ?_)
        · rintro H locs ls st ⟨v_2820, v_2821, v_2822, v_2823, v_2824, v_2825, v_2826, v_2827, v_2828, f_2829, f_2830, f_2831, f_2832, f_2833, f_2834, f_2835, f_2836, f_2837, v_2838, v_2839, f_2840, f_2841, f_2842, f_2843, f_2844, f_2845, bv_2820, bv_2822, bv_2823, bv_2824, bv_2825, bv_2826, bv_2838, bv_2839, bf_2843, bf_2844, rfl, ⟨hP, hD⟩, hS, hl⟩
          refine lv_aload_n hx hb dX3_read_102 rfl (lv_at hl 1 rfl) ?_
          refine cVvm (As := []) (rest := []) ⟨hx, hb, hml, hown, hw0⟩ hA hK hP hD hS [true, false, false, false, false, false, false, false, false, false, false, false, false, false, false, false, false, false, true] (sX3_closeLine l G y _ ob ob_town ob_code v_2820 v_2821 tp v_1001 v_2822 v_2823 v_2824 v_2825 ftp bv_2820 bv_1001 bv_2822 bv_2823 bv_2824 bv_2825) rfl ⟨(callB_of 0 hw0 (gA m_741) rfl rfl rfl (hw0 _ m_721) (hw0 _ m_768) cb_X3_closeLine ⟨Nat.le_of_ble_eq_true rfl, Nat.le_of_ble_eq_true rfl⟩), (hw0 _ m_769), (hw0 _ m_770)⟩ (ci := 3) (q := (RX3, TX3, 10)) rfl rfl rfl hl.1 (Nat.le_of_ble_eq_true rfl) dX3_read_103 ⟨Nat.le_of_ble_eq_true rfl, Nat.le_of_ble_eq_true rfl⟩ (fun w_2846 H locs hw_2846 hP hD hS => ?_)
          obtain ⟨v_2847, v_2848, v_2849, v_2850, v_2851, v_2852, bv_2847, bv_2849, bv_2850, bv_2851, bv_2852, rfl⟩ := hw_2846
          obtain ⟨hP, hD⟩ : vPD G A H [(ce_X3 ob ob_town ob_code v_2847 v_2848 tp v_1001 v_2849 v_2850 v_2851 v_2852), (ce_X7 ob_town v_2826 v_2827 v_2828 ob_town_x ob_town_y ob_town_rank ob_town_weekday ob_town_from ob_town_to ob_town_came ob_town_bride ob_town_told), (ce_i16 y ob_town_x f_2829), (ce_i16 y ob_town_y f_2830), (ce_i16 y ob_town_rank f_2831), (ce_i16 y ob_town_weekday f_2832), (ce_i16 y ob_town_from f_2833), (ce_i16 y ob_town_to f_2834), (ce_i16 y ob_town_came f_2835), (ce_i16 y ob_town_bride f_2836), (ce_i16 y ob_town_told f_2837), (ce_X0 ob_code v_2838 v_2839 ob_code_paying ob_code_kind ob_code_within ob_code_start ob_code_stop ob_code_tests ob_code_facts ob_code_beyond), (ce_i24 y ob_code_paying f_2840), (ce_i24 y ob_code_kind f_2841), (ce_i24 y ob_code_within f_2842), (ce_i24 y ob_code_start f_2843), (ce_i24 y ob_code_stop f_2844), (ce_i700 y ob_code_tests f_2845), (ce_b1400 y tp ftp)] := ⟨hP, hD⟩
          obtain ⟨v_2853, ev_2853⟩ : ∃ z : Int32, z = v_2639 + 1 := ⟨_, rfl⟩
          have qv_2853 := ba_add ev_2853 nc_2778.1 (bkc (x := 1) (c := 1) (by decide)) (by decide)
          have bv_2853 : (1 : Int) ≤ v_2853.toInt ∧ v_2853.toInt ≤ 1401 := bq_add qv_2853 nc_2778.1 (bkc (x := 1) (c := 1) (by decide)) _ _ (by decide)
          have qv_2853 : v_2853.toInt = v_2639.toInt + (1) := qv_2853
          refine lv_iinc (v := v_2853) (lv' := [(3, .int v_2853), (0, .ref ob)]) hx hb dX3_read_106 hl (k := 0) rfl (ev_2853.symm) (by decide) rfl (fun ls hl => ?_)
          refine lv_goto (tgt := 50) hx hb dX3_read_109 (by decide) ?_
          exact ih_2777 _ (ml_inc (hi := 1401) hn_2777 qv_2853 (by decide) ((bw (0) (1401) bv_2853 (by decide))).2) _ _ _ _ ⟨v_2853, v_2847, v_2848, v_2849, v_2850, v_2851, v_2852, v_2826, v_2827, v_2828, f_2829, f_2830, f_2831, f_2832, f_2833, f_2834, f_2835, f_2836, f_2837, v_2838, v_2839, f_2840, f_2841, f_2842, f_2843, f_2844, f_2845, rfl, (bw (0) (1401) bv_2853 (by decide)), bv_2847, bv_2849, bv_2850, bv_2851, bv_2852, bv_2826, bv_2838, bv_2839, bf_2843, bf_2844, rfl, ⟨hP, hD⟩, hS, lv_sub hl [0, 1] rfl⟩
        · skip
          refine lv_icmp_lt (tgt := 96) hx hb dX3_read_82 (by decide) (fun c_2854 => ?_) (fun c_2854 => ?_)
          · skip
            have nc_2854 := nb_lt (3) (4) c_2854 (btop v_2782) (bkc (x := 4) (c := 4) (by decide)) (by decide)
            refine lv_aload_n hx hb dX3_read_96 rfl (lv_at hl 2 rfl) ?_
            refine lv_iload hx hb dX3_read_97 (lv_at hl 0 rfl) ?_
            refine cVvSm (As := [.int v_2782]) (rest := []) ⟨hx, hb, hml, hown, hw0⟩ hA hK hP hD hS hE [true, true, true, true, true, true, true, true, true, true, true, false, false, false, false, false, false, false, true] (sX3_readOther l G y aK aV _ ob v_2782 ob_town ob_code v_2640 v_2641 tp v_1001 v_2642 v_2643 v_2644 v_2645 v_2646 v_2647 v_2648 ob_town_x ob_town_y ob_town_rank ob_town_weekday ob_town_from ob_town_to ob_town_came ob_town_bride ob_town_told f_2649 f_2650 f_2651 f_2652 f_2653 f_2654 f_2655 f_2656 f_2657 ftp bv_2646 (bw (0) (3) nc_2779.1 (by decide)) bv_1001 bv_2642 bv_2643 (bw (0) (4) nc_2780.1 (by decide)) bv_2645) rfl ⟨(callB_of 1 hw0 (gA m_792) rfl rfl rfl (hw0 _ m_721) (hw0 _ m_765) cb_X3_readOther ⟨Nat.le_of_ble_eq_true rfl, Nat.le_of_ble_eq_true rfl⟩), (hw0 _ m_766), (hw0 _ m_767)⟩ (ci := 3) (q := (RX3, TX3, 10)) rfl rfl rfl hl.1 (Nat.le_of_ble_eq_true rfl) dX3_read_99 ⟨Nat.le_of_ble_eq_true rfl, Nat.le_of_ble_eq_true rfl⟩ (fun w_2855 H locs hw_2855 hP hD hS => ?_)
            refine Exists.elim hw_2855 (fun v_2856 hw_2855 => Exists.elim hw_2855 (fun v_2857 hw_2855 => Exists.elim hw_2855 (fun v_2858 hw_2855 => Exists.elim hw_2855 (fun v_2859 hw_2855 => Exists.elim hw_2855 (fun v_2860 hw_2855 => Exists.elim hw_2855 (fun v_2861 hw_2855 => Exists.elim hw_2855 (fun v_2862 hw_2855 => Exists.elim hw_2855 (fun v_2863 hw_2855 => Exists.elim hw_2855 (fun v_2864 hw_2855 => Exists.elim hw_2855 (fun f_2865 hw_2855 => Exists.elim hw_2855 (fun f_2866 hw_2855 => Exists.elim hw_2855 (fun f_2867 hw_2855 => Exists.elim hw_2855 (fun f_2868 hw_2855 => Exists.elim hw_2855 (fun f_2869 hw_2855 => Exists.elim hw_2855 (fun f_2870 hw_2855 => Exists.elim hw_2855 (fun f_2871 hw_2855 => Exists.elim hw_2855 (fun f_2872 hw_2855 => Exists.elim hw_2855 (fun f_2873 hw_2855 => ?_))))))))))))))))))
            obtain ⟨bv_2856, bv_2858, bv_2859, bv_2860, bv_2861, bv_2862, rfl⟩ := hw_2855
            obtain ⟨hP, hD⟩ : vPD G A H [(ce_X3 ob ob_town ob_code v_2856 v_2857 tp v_1001 v_2858 v_2859 v_2860 v_2861), (ce_X7 ob_town v_2862 v_2863 v_2864 ob_town_x ob_town_y ob_town_rank ob_town_weekday ob_town_from ob_town_to ob_town_came ob_town_bride ob_town_told), (ce_i16 y ob_town_x f_2865), (ce_i16 y ob_town_y f_2866), (ce_i16 y ob_town_rank f_2867), (ce_i16 y ob_town_weekday f_2868), (ce_i16 y ob_town_from f_2869), (ce_i16 y ob_town_to f_2870), (ce_i16 y ob_town_came f_2871), (ce_i16 y ob_town_bride f_2872), (ce_i16 y ob_town_told f_2873), (ce_X0 ob_code v_2658 v_2659 ob_code_paying ob_code_kind ob_code_within ob_code_start ob_code_stop ob_code_tests ob_code_facts ob_code_beyond), (ce_i24 y ob_code_paying f_2660), (ce_i24 y ob_code_kind f_2661), (ce_i24 y ob_code_within f_2662), (ce_i24 y ob_code_start f_2663), (ce_i24 y ob_code_stop f_2664), (ce_i700 y ob_code_tests f_2665), (ce_b1400 y tp ftp)] := ⟨hP, hD⟩
            exact J_102_2845 _ _ _ _ ⟨v_2856, v_2857, v_2858, v_2859, v_2860, v_2861, v_2862, v_2863, v_2864, f_2865, f_2866, f_2867, f_2868, f_2869, f_2870, f_2871, f_2872, f_2873, v_2658, v_2659, f_2660, f_2661, f_2662, f_2663, f_2664, f_2665, bv_2856, bv_2858, bv_2859, bv_2860, bv_2861, bv_2862, bv_2658, bv_2659, bf_2663, bf_2664, rfl, ⟨hP, hD⟩, hS, lv_sub hl [1, 2] rfl⟩
          · skip
            have nc_2854 := nb_nlt (4) (4) c_2854 (bkc (x := 4) (c := 4) (by decide)) (btop v_2782) (by decide)
            refine lv_aload_n hx hb dX3_read_85 rfl (lv_at hl 2 rfl) ?_
            refine lv_iload hx hb dX3_read_86 (lv_at hl 0 rfl) ?_
            refine lv_iconst (v := 4) hx hb dX3_read_88 (by decide) ?_
            refine lv_isub hx hb dX3_read_89 ?_
            refine lv_topi (fun v_2874 ev_2874 => ?_)
            have qv_2874 := ba_sub ev_2874 nc_2854.2.1 (bkc (x := 4) (c := 4) (by decide)) (by decide)
            have bv_2874 : (0 : Int) ≤ v_2874.toInt ∧ v_2874.toInt ≤ 2147483643 := bq_sub qv_2874 nc_2854.2.1 (bkc (x := 4) (c := 4) (by decide)) _ _ (by decide)
            have qv_2874 : v_2874.toInt = v_2782.toInt - (4) := qv_2874
            refine cVvSm (As := [.int v_2874]) (rest := []) ⟨hx, hb, hml, hown, hw0⟩ hA hK hP hD hS hE [true, false, false, false, false, false, false, false, false, false, false, true, true, true, true, true, true, true, true] (sX3_readOwes l G y aK aV _ ob v_2874 ob_town ob_code v_2640 v_2641 tp v_1001 v_2642 v_2643 v_2644 v_2645 v_2658 v_2659 ob_code_paying ob_code_kind ob_code_within ob_code_start ob_code_stop ob_code_tests ob_code_facts ob_code_beyond f_2660 f_2661 f_2662 f_2663 f_2664 f_2665 ftp bv_2658 bv_2659 bf_2663 bf_2664 p_ob_code_beyond (bw (0) (3) nc_2779.1 (by decide)) bv_1001 bv_2642 bv_2643 (bw (0) (4) nc_2780.1 (by decide)) bv_2645) rfl ⟨(callB_of 1 hw0 (gA m_801) rfl rfl rfl (hw0 _ m_721) (hw0 _ m_762) cb_X3_readOwes ⟨Nat.le_of_ble_eq_true rfl, Nat.le_of_ble_eq_true rfl⟩), (hw0 _ m_763), (hw0 _ m_764)⟩ (ci := 3) (q := (RX3, TX3, 10)) rfl rfl rfl hl.1 (Nat.le_of_ble_eq_true rfl) dX3_read_90 ⟨Nat.le_of_ble_eq_true rfl, Nat.le_of_ble_eq_true rfl⟩ (fun w_2875 H locs hw_2875 hP hD hS => ?_)
            refine Exists.elim hw_2875 (fun v_2876 hw_2875 => Exists.elim hw_2875 (fun v_2877 hw_2875 => Exists.elim hw_2875 (fun v_2878 hw_2875 => Exists.elim hw_2875 (fun v_2879 hw_2875 => Exists.elim hw_2875 (fun v_2880 hw_2875 => Exists.elim hw_2875 (fun v_2881 hw_2875 => Exists.elim hw_2875 (fun v_2882 hw_2875 => Exists.elim hw_2875 (fun v_2883 hw_2875 => Exists.elim hw_2875 (fun f_2884 hw_2875 => Exists.elim hw_2875 (fun f_2885 hw_2875 => Exists.elim hw_2875 (fun f_2886 hw_2875 => Exists.elim hw_2875 (fun f_2887 hw_2875 => Exists.elim hw_2875 (fun f_2888 hw_2875 => Exists.elim hw_2875 (fun f_2889 hw_2875 => ?_))))))))))))))
            obtain ⟨bv_2876, bv_2878, bv_2879, bv_2880, bv_2881, bv_2882, bv_2883, bf_2887, bf_2888, rfl⟩ := hw_2875
            obtain ⟨hP, hD⟩ : vPD G A H [(ce_X3 ob ob_town ob_code v_2876 v_2877 tp v_1001 v_2878 v_2879 v_2880 v_2881), (ce_X7 ob_town v_2646 v_2647 v_2648 ob_town_x ob_town_y ob_town_rank ob_town_weekday ob_town_from ob_town_to ob_town_came ob_town_bride ob_town_told), (ce_i16 y ob_town_x f_2649), (ce_i16 y ob_town_y f_2650), (ce_i16 y ob_town_rank f_2651), (ce_i16 y ob_town_weekday f_2652), (ce_i16 y ob_town_from f_2653), (ce_i16 y ob_town_to f_2654), (ce_i16 y ob_town_came f_2655), (ce_i16 y ob_town_bride f_2656), (ce_i16 y ob_town_told f_2657), (ce_X0 ob_code v_2882 v_2883 ob_code_paying ob_code_kind ob_code_within ob_code_start ob_code_stop ob_code_tests ob_code_facts ob_code_beyond), (ce_i24 y ob_code_paying f_2884), (ce_i24 y ob_code_kind f_2885), (ce_i24 y ob_code_within f_2886), (ce_i24 y ob_code_start f_2887), (ce_i24 y ob_code_stop f_2888), (ce_i700 y ob_code_tests f_2889), (ce_b1400 y tp ftp)] := ⟨hP, hD⟩
            refine lv_goto (tgt := 102) hx hb dX3_read_93 (by decide) ?_
            exact J_102_2845 _ _ _ _ ⟨v_2876, v_2877, v_2878, v_2879, v_2880, v_2881, v_2646, v_2647, v_2648, f_2649, f_2650, f_2651, f_2652, f_2653, f_2654, f_2655, f_2656, f_2657, v_2882, v_2883, f_2884, f_2885, f_2886, f_2887, f_2888, f_2889, bv_2876, bv_2878, bv_2879, bv_2880, bv_2881, bv_2646, (bw (0) (24) bv_2882 (by decide)), bv_2883, bf_2887, bf_2888, rfl, ⟨hP, hD⟩, hS, lv_sub hl [1, 2] rfl⟩
