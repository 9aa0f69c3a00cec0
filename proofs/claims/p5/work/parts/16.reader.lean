set_option maxHeartbeats 4000000 in
set_option maxRecDepth 100000 in
theorem sJ0_coder_7d493 (l : Launch) (G : va_G) (y : Nat → ClassId) (aK aV : Nat → Nat) (sz : Nat) (i1 : Nat) (hi1 : i1 < nS) : Met l yJ0_coder_7d493 (Cond.code yJ0_coder_7d493 cJ0_coder_7d493 1 (some .byte) :: wAll) ({ frames := 0, cells := 0, slots := 0, locals := 0 }) (va_Pc [.ref (aK i1)] (kps G y aK aV sz [])) (va_Qi (fun (r : Int32) (w : va_W) => (r = 0 ∧ w = [])) (kq G (va_A [] sz)) (va_A [] sz)) 0 0 (va_A [] sz) := by
  refine Met.ofW (cc := cJ0_coder_7d493) (maxL := 1) (ret := (some .byte)) (by decide) rfl ?_
  intro p e s m args below meth c s₁ B hml hv
  obtain ⟨rfl, ⟨hsz, hP, hK, hD0⟩, hE⟩ := hv
  have hx := B.exec
  have hb := B.bytes
  have hr := B.returns
  have hw0 : ∀ w ∈ wAll, w.before _ s = true := fun w h => atoms_spec (ws := Cond.code yJ0_coder_7d493 cJ0_coder_7d493 1 (some .byte) :: wAll) B.pre w (List.mem_cons_of_mem _ h)
  have hown : s.vm.findClass RJ0 = some m.cls := findClass_of_methodNamed B.named
  subst hsz
  have hD := hD0.self (sz := s.heap.size)
  generalize hAe : va_A [] s.heap.size = A at hD hE ⊢
  have hA : ∀ q : Nat, s.heap.size ≤ q → A q := fun q h => by rw [← hAe]; exact Or.inr h
  have hS : va_S A s.heap s.heap [] := va_S.rf
  have hP : va_P G vwCl [] s.heap := hP
  have hl := lv_entry ([.ref (aK i1)]) (n := 1) (Nat.le_of_ble_eq_true rfl)
  rw [lg_entry_eq]
  generalize (lg_sl ([.ref (aK i1)]) ++ List.replicate (1 - (lg_sl ([.ref (aK i1)])).length) Slot.unset).toArray = ls at hl ⊢
  have hl : lv_has ls 1 [(0, .ref (aK i1))] := hl
  refine va_gets hx hb hE.2.2.1 hS hown (hw0 _ m_15) (fun _ h9 => h9) dJ0_coder_7d493_0 ?_
  refine lv_if_eq (tgt := 13) hx hb dJ0_coder_7d493_3 (by decide) (fun c9 => absurd c9 (by decide)) (fun _ => ?_)
  refine lv_aload_n hx hb dJ0_coder_7d493_6 rfl (lv_at hl 0 rfl) ?_
  refine vk_getf hx hb (hE.1 i1 hi1).2.1 hS hown (hw0 _ m_16) (fun _ h9 => h9) dJ0_coder_7d493_7 ?_
  refine lv_goto (tgt := 14) hx hb dJ0_coder_7d493_10 (by decide) ?_
  exact W.zret (v := 0) hx hb hr rfl (fun t ht hW => ⟨⟨0, _, rfl, ⟨rfl, rfl⟩, by rw [ht]; exact hP, hD⟩, hS.F ht⟩) hS.2.2 dJ0_coder_7d493_14

set_option maxHeartbeats 4000000 in
set_option maxRecDepth 100000 in
theorem sJ0_isLatin1_aae02 (l : Launch) (G : va_G) (y : Nat → ClassId) (aK aV : Nat → Nat) (sz : Nat) (i1 : Nat) (hi1 : i1 < nS) : Met l yJ0_isLatin1_aae02 (Cond.code yJ0_isLatin1_aae02 cJ0_isLatin1_aae02 1 (some .boolean) :: wAll) ({ frames := 0, cells := 0, slots := 0, locals := 0 }) (va_Pc [.ref (aK i1)] (kps G y aK aV sz [])) (va_Qi (fun (r : Int32) (w : va_W) => (r = 1 ∧ w = [])) (kq G (va_A [] sz)) (va_A [] sz)) 0 0 (va_A [] sz) := by
  refine Met.ofW (cc := cJ0_isLatin1_aae02) (maxL := 1) (ret := (some .boolean)) (by decide) rfl ?_
  intro p e s m args below meth c s₁ B hml hv
  obtain ⟨rfl, ⟨hsz, hP, hK, hD0⟩, hE⟩ := hv
  have hx := B.exec
  have hb := B.bytes
  have hr := B.returns
  have hw0 : ∀ w ∈ wAll, w.before _ s = true := fun w h => atoms_spec (ws := Cond.code yJ0_isLatin1_aae02 cJ0_isLatin1_aae02 1 (some .boolean) :: wAll) B.pre w (List.mem_cons_of_mem _ h)
  have hown : s.vm.findClass RJ0 = some m.cls := findClass_of_methodNamed B.named
  subst hsz
  have hD := hD0.self (sz := s.heap.size)
  generalize hAe : va_A [] s.heap.size = A at hD hE ⊢
  have hA : ∀ q : Nat, s.heap.size ≤ q → A q := fun q h => by rw [← hAe]; exact Or.inr h
  have hS : va_S A s.heap s.heap [] := va_S.rf
  have hP : va_P G vwCl [] s.heap := hP
  have hl := lv_entry ([.ref (aK i1)]) (n := 1) (Nat.le_of_ble_eq_true rfl)
  rw [lg_entry_eq]
  generalize (lg_sl ([.ref (aK i1)]) ++ List.replicate (1 - (lg_sl ([.ref (aK i1)])).length) Slot.unset).toArray = ls at hl ⊢
  have hl : lv_has ls 1 [(0, .ref (aK i1))] := hl
  refine va_gets hx hb hE.2.2.1 hS hown (hw0 _ m_15) (fun _ h9 => h9) dJ0_isLatin1_aae02_0 ?_
  refine lv_if_eq (tgt := 17) hx hb dJ0_isLatin1_aae02_3 (by decide) (fun c9 => absurd c9 (by decide)) (fun _ => ?_)
  refine lv_aload_n hx hb dJ0_isLatin1_aae02_6 rfl (lv_at hl 0 rfl) ?_
  refine vk_getf hx hb (hE.1 i1 hi1).2.1 hS hown (hw0 _ m_16) (fun _ h9 => h9) dJ0_isLatin1_aae02_7 ?_
  refine lv_if_ne (tgt := 17) hx hb dJ0_isLatin1_aae02_10 (by decide) (fun c9 => absurd (by decide) c9) (fun _ => ?_)
  refine lv_iconst (v := 1) hx hb dJ0_isLatin1_aae02_13 (by decide) ?_
  refine lv_goto (tgt := 18) hx hb dJ0_isLatin1_aae02_14 (by decide) ?_
  exact W.zret (v := 1) hx hb hr rfl (fun t ht hW => ⟨⟨1, _, rfl, ⟨rfl, rfl⟩, by rw [ht]; exact hP, hD⟩, hS.F ht⟩) hS.2.2 dJ0_isLatin1_aae02_18

set_option maxHeartbeats 4000000 in
set_option maxRecDepth 100000 in
theorem sJ0_length_8abf5 (l : Launch) (G : va_G) (y : Nat → ClassId) (aK aV : Nat → Nat) (sz : Nat) (i1 : Nat) (hi1 : i1 < nS) : Met l yJ0_length_8abf5 (Cond.code yJ0_length_8abf5 cJ0_length_8abf5 1 (some .int) :: wAll) ({ frames := 1, cells := 0, slots := 0, locals := 20 }) (va_Pc [.ref (aK i1)] (kps G y aK aV sz [])) (va_Qi (fun (r : Int32) (w : va_W) => (∃ (v_7 : Int32), ((2 : Int) ≤ v_7.toInt ∧ v_7.toInt ≤ 60) ∧ (v_7.toInt = (lenS.getD i1 0 : Int)) ∧ r = v_7 ∧ w = [])) (kq G (va_A [] sz)) (va_A [] sz)) 0 0 (va_A [] sz) := by
  refine Met.ofW (cc := cJ0_length_8abf5) (maxL := 1) (ret := (some .int)) (by decide) rfl ?_
  intro p e s m args below meth c s₁ B hml hv
  obtain ⟨rfl, ⟨hsz, hP, hK, hD0⟩, hE⟩ := hv
  have hx := B.exec
  have hb := B.bytes
  have hr := B.returns
  have hw0 : ∀ w ∈ wAll, w.before _ s = true := fun w h => atoms_spec (ws := Cond.code yJ0_length_8abf5 cJ0_length_8abf5 1 (some .int) :: wAll) B.pre w (List.mem_cons_of_mem _ h)
  have hown : s.vm.findClass RJ0 = some m.cls := findClass_of_methodNamed B.named
  subst hsz
  have hD := hD0.self (sz := s.heap.size)
  generalize hAe : va_A [] s.heap.size = A at hD hE ⊢
  have hA : ∀ q : Nat, s.heap.size ≤ q → A q := fun q h => by rw [← hAe]; exact Or.inr h
  have hS : va_S A s.heap s.heap [] := va_S.rf
  have hP : va_P G vwCl [] s.heap := hP
  have hl := lv_entry ([.ref (aK i1)]) (n := 1) (Nat.le_of_ble_eq_true rfl)
  rw [lg_entry_eq]
  generalize (lg_sl ([.ref (aK i1)]) ++ List.replicate (1 - (lg_sl ([.ref (aK i1)])).length) Slot.unset).toArray = ls at hl ⊢
  have hl : lv_has ls 1 [(0, .ref (aK i1))] := hl
  refine lv_aload_n hx hb dJ0_length_8abf5_0 rfl (lv_at hl 0 rfl) ?_
  refine vk_getf hx hb (hE.1 i1 hi1).2.2.1 hS hown (hw0 _ m_5) (fun _ h9 => h9) dJ0_length_8abf5_1 ?_
  refine va_tlen (v := nI (lenS.getD i1 0)) hx hb (hE.1 i1 hi1).2.2.2 hS rfl dJ0_length_8abf5_4 ?_
  refine lv_topi (fun v_1001 ev_1001 => ?_)
  have qv_1001 := ln_q ev_1001 (lenS_b i1 hi1)
  have bv_1001 : (2 : Int) ≤ v_1001.toInt ∧ v_1001.toInt ≤ 60 := ln_b qv_1001 (lenS_b i1 hi1)
  refine lv_aload_n hx hb dJ0_length_8abf5_5 rfl (lv_at hl 0 rfl) ?_
  refine cQim (As := []) (rest := [.int v_1001]) ⟨hx, hb, hml, hown, hw0⟩ hA hK hP hD hS hE [] (sJ0_coder_7d493 l G y aK aV _ i1 hi1) rfl ⟨(callB_of 0 hw0 (gA m_14) rfl rfl rfl (hw0 _ m_2) (hw0 _ m_19) cb_J0_coder_7d493 ⟨Nat.le_of_ble_eq_true rfl, Nat.le_of_ble_eq_true rfl⟩), (hw0 _ m_20), (hw0 _ m_21)⟩ (i9 := i1) hi1 rfl rfl hl.1 (Nat.le_of_ble_eq_true rfl) dJ0_length_8abf5_6 ⟨Nat.le_of_ble_eq_true rfl, Nat.le_of_ble_eq_true rfl⟩ (fun r_1002 w_1002 H locs hw_1002 hP hD hS => ?_)
  obtain ⟨rfl, rfl⟩ := hw_1002
  obtain ⟨hP, hD⟩ : vPD G A H [] := ⟨hP, hD⟩
  refine lv_ishr hx hb dJ0_length_8abf5_9 ?_
  refine lv_topi (fun v_1003 ev_1003 => ?_)
  obtain rfl : v_1001 = v_1003 := (ev_1003.trans (sb_shr0 _)).symm
  exact W.iret (v := v_1001) hx hb hr (fun t ht hW => ⟨⟨v_1001, _, rfl, ⟨v_1001, bv_1001, by omega, rfl, rfl⟩, by rw [ht]; exact hP, hD⟩, hS.F ht⟩) hS.2.2 dJ0_length_8abf5_10

set_option maxHeartbeats 4000000 in
set_option maxRecDepth 100000 in
theorem schkN (l : Launch) (G : va_G) (y : Nat → ClassId) (sz : Nat) (a1 : Int32) (a2 : Int32) (p_a1 : (0 : Int) ≤ a1.toInt ∧ a1.toInt ≤ 59) (p_a2 : (2 : Int) ≤ a2.toInt ∧ a2.toInt ≤ 60) (hk : a1.toInt < a2.toInt) : Met l yJ3_checkIndex_8e157 (Cond.code yJ3_checkIndex_8e157 cJ3_checkIndex_8e157 3 (some .int) :: wAll) ({ frames := 0, cells := 0, slots := 0, locals := 0 }) (va_Pc [.int a1, .int a2, .null] (kp G y sz [])) (va_Qi (fun (r : Int32) (w : va_W) => (r = a1 ∧ w = [])) (kq G (va_A [] sz)) (va_A [] sz)) 0 0 (va_A [] sz) := by
  refine Met.ofW (cc := cJ3_checkIndex_8e157) (maxL := 3) (ret := (some .int)) (by decide) rfl ?_
  intro p e s m args below meth c s₁ B hml hv
  obtain ⟨rfl, hsz, hP, hK, hD0⟩ := hv
  have hx := B.exec
  have hb := B.bytes
  have hr := B.returns
  have hw0 : ∀ w ∈ wAll, w.before _ s = true := fun w h => atoms_spec (ws := Cond.code yJ3_checkIndex_8e157 cJ3_checkIndex_8e157 3 (some .int) :: wAll) B.pre w (List.mem_cons_of_mem _ h)
  have hown : s.vm.findClass RJ3 = some m.cls := findClass_of_methodNamed B.named
  subst hsz
  have hD := hD0.self (sz := s.heap.size)
  generalize hAe : va_A [] s.heap.size = A at hD ⊢
  have hA : ∀ q : Nat, s.heap.size ≤ q → A q := fun q h => by rw [← hAe]; exact Or.inr h
  have hS : va_S A s.heap s.heap [] := va_S.rf
  have hP : va_P G vwCl [] s.heap := hP
  have hl := lv_entry ([.int a1, .int a2, .null]) (n := 3) (Nat.le_of_ble_eq_true rfl)
  rw [lg_entry_eq]
  generalize (lg_sl ([.int a1, .int a2, .null]) ++ List.replicate (3 - (lg_sl ([.int a1, .int a2, .null])).length) Slot.unset).toArray = ls at hl ⊢
  have hl : lv_has ls 3 [(0, .int a1), (1, .int a2), (2, .null)] := hl
  refine lv_iload_n hx hb dJ3_checkIndex_8e157_0 rfl (lv_at hl 0 rfl) ?_
  refine lv_if_lt (tgt := 9) hx hb dJ3_checkIndex_8e157_1 (by decide) (fun c9 => absurd c9 (dc_nlt p_a1 (bkc (x := 0) (c := 0) (by decide)) (by decide))) (fun _ => ?_)
  refine lv_iload_n hx hb dJ3_checkIndex_8e157_4 rfl (lv_at hl 0 rfl) ?_
  refine lv_iload_n hx hb dJ3_checkIndex_8e157_5 rfl (lv_at hl 1 rfl) ?_
  refine lv_icmp_lt (tgt := 16) hx hb dJ3_checkIndex_8e157_6 (by decide) (fun _ => ?_) (fun c9 => absurd (Int32.lt_iff_toInt_lt.mpr (by omega)) c9)
  refine lv_iload_n hx hb dJ3_checkIndex_8e157_16 rfl (lv_at hl 0 rfl) ?_
  exact W.iret (v := a1) hx hb hr (fun t ht hW => ⟨⟨a1, _, rfl, ⟨rfl, rfl⟩, by rw [ht]; exact hP, hD⟩, hS.F ht⟩) hS.2.2 dJ3_checkIndex_8e157_17

set_option maxHeartbeats 4000000 in
set_option maxRecDepth 100000 in
theorem schkR (l : Launch) (G : va_G) (y : Nat → ClassId) (sz : Nat) (a1 : Int32) (a2 : Int32) (bq : Nat) (p_a1 : (0 : Int) ≤ a1.toInt ∧ a1.toInt ≤ 59) (p_a2 : (2 : Int) ≤ a2.toInt ∧ a2.toInt ≤ 60) (hk : a1.toInt < a2.toInt) : Met l yJ3_checkIndex_8e157 (Cond.code yJ3_checkIndex_8e157 cJ3_checkIndex_8e157 3 (some .int) :: wAll) ({ frames := 0, cells := 0, slots := 0, locals := 0 }) (va_Pc [.int a1, .int a2, .ref bq] (kp G y sz [])) (va_Qi (fun (r : Int32) (w : va_W) => (r = a1 ∧ w = [])) (kq G (va_A [] sz)) (va_A [] sz)) 0 0 (va_A [] sz) := by
  refine Met.ofW (cc := cJ3_checkIndex_8e157) (maxL := 3) (ret := (some .int)) (by decide) rfl ?_
  intro p e s m args below meth c s₁ B hml hv
  obtain ⟨rfl, hsz, hP, hK, hD0⟩ := hv
  have hx := B.exec
  have hb := B.bytes
  have hr := B.returns
  have hw0 : ∀ w ∈ wAll, w.before _ s = true := fun w h => atoms_spec (ws := Cond.code yJ3_checkIndex_8e157 cJ3_checkIndex_8e157 3 (some .int) :: wAll) B.pre w (List.mem_cons_of_mem _ h)
  have hown : s.vm.findClass RJ3 = some m.cls := findClass_of_methodNamed B.named
  subst hsz
  have hD := hD0.self (sz := s.heap.size)
  generalize hAe : va_A [] s.heap.size = A at hD ⊢
  have hA : ∀ q : Nat, s.heap.size ≤ q → A q := fun q h => by rw [← hAe]; exact Or.inr h
  have hS : va_S A s.heap s.heap [] := va_S.rf
  have hP : va_P G vwCl [] s.heap := hP
  have hl := lv_entry ([.int a1, .int a2, .ref bq]) (n := 3) (Nat.le_of_ble_eq_true rfl)
  rw [lg_entry_eq]
  generalize (lg_sl ([.int a1, .int a2, .ref bq]) ++ List.replicate (3 - (lg_sl ([.int a1, .int a2, .ref bq])).length) Slot.unset).toArray = ls at hl ⊢
  have hl : lv_has ls 3 [(0, .int a1), (1, .int a2), (2, .ref bq)] := hl
  refine lv_iload_n hx hb dJ3_checkIndex_8e157_0 rfl (lv_at hl 0 rfl) ?_
  refine lv_if_lt (tgt := 9) hx hb dJ3_checkIndex_8e157_1 (by decide) (fun c9 => absurd c9 (dc_nlt p_a1 (bkc (x := 0) (c := 0) (by decide)) (by decide))) (fun _ => ?_)
  refine lv_iload_n hx hb dJ3_checkIndex_8e157_4 rfl (lv_at hl 0 rfl) ?_
  refine lv_iload_n hx hb dJ3_checkIndex_8e157_5 rfl (lv_at hl 1 rfl) ?_
  refine lv_icmp_lt (tgt := 16) hx hb dJ3_checkIndex_8e157_6 (by decide) (fun _ => ?_) (fun c9 => absurd (Int32.lt_iff_toInt_lt.mpr (by omega)) c9)
  refine lv_iload_n hx hb dJ3_checkIndex_8e157_16 rfl (lv_at hl 0 rfl) ?_
  exact W.iret (v := a1) hx hb hr (fun t ht hW => ⟨⟨a1, _, rfl, ⟨rfl, rfl⟩, by rw [ht]; exact hP, hD⟩, hS.F ht⟩) hS.2.2 dJ3_checkIndex_8e157_17

set_option maxHeartbeats 4000000 in
set_option maxRecDepth 100000 in
theorem sJ0_checkIndex_df160 (l : Launch) (G : va_G) (y : Nat → ClassId) (aK aV : Nat → Nat) (sz : Nat) (a1 : Int32) (a2 : Int32) (p_a1 : (0 : Int) ≤ a1.toInt ∧ a1.toInt ≤ 59) (p_a2 : (2 : Int) ≤ a2.toInt ∧ a2.toInt ≤ 60) (hk : a1.toInt < a2.toInt) : Met l yJ0_checkIndex_df160 (Cond.code yJ0_checkIndex_df160 cJ0_checkIndex_df160 2 none :: wAll) ({ frames := 1, cells := 0, slots := 0, locals := 22 }) (va_Pc [.int a1, .int a2] (kps G y aK aV sz [])) (va_Qv (fun (w : va_W) => (w = [])) (kq G (va_A [] sz)) (va_A [] sz)) 0 0 (va_A [] sz) := by
  refine Met.ofW (cc := cJ0_checkIndex_df160) (maxL := 2) (ret := none) (by decide) rfl ?_
  intro p e s m args below meth c s₁ B hml hv
  obtain ⟨rfl, ⟨hsz, hP, hK, hD0⟩, hE⟩ := hv
  have hx := B.exec
  have hb := B.bytes
  have hr := B.returns
  have hw0 : ∀ w ∈ wAll, w.before _ s = true := fun w h => atoms_spec (ws := Cond.code yJ0_checkIndex_df160 cJ0_checkIndex_df160 2 none :: wAll) B.pre w (List.mem_cons_of_mem _ h)
  have hown : s.vm.findClass RJ0 = some m.cls := findClass_of_methodNamed B.named
  subst hsz
  have hD := hD0.self (sz := s.heap.size)
  generalize hAe : va_A [] s.heap.size = A at hD hE ⊢
  have hA : ∀ q : Nat, s.heap.size ≤ q → A q := fun q h => by rw [← hAe]; exact Or.inr h
  have hS : va_S A s.heap s.heap [] := va_S.rf
  have hP : va_P G vwCl [] s.heap := hP
  have hl := lv_entry ([.int a1, .int a2]) (n := 2) (Nat.le_of_ble_eq_true rfl)
  rw [lg_entry_eq]
  generalize (lg_sl ([.int a1, .int a2]) ++ List.replicate (2 - (lg_sl ([.int a1, .int a2])).length) Slot.unset).toArray = ls at hl ⊢
  have hl : lv_has ls 2 [(0, .int a1), (1, .int a2)] := hl
  refine lv_iload_n hx hb dJ0_checkIndex_df160_0 rfl (lv_at hl 0 rfl) ?_
  refine lv_iload_n hx hb dJ0_checkIndex_df160_1 rfl (lv_at hl 1 rfl) ?_
  obtain ⟨bf9, hbf9, hZ9⟩ := hE.2.2.2
  rcases hbf9 with rfl | ⟨bq9, rfl⟩
  · refine va_gets hx hb hZ9 hS hown (hw0 _ m_10) (fun _ h9 => h9) dJ0_checkIndex_df160_2 ?_
    refine cSim (As := [.int a1, .int a2, .null]) (rest := []) ⟨hx, hb, hml, hown, hw0⟩ hA hK hP hD hS [] (schkN l G y _ a1 a2 p_a1 p_a2 (by omega)) rfl ⟨(callB_of 3 hw0 (gA m_25) rfl rfl rfl (hw0 _ m_12) (hw0 _ m_11) cb_J3_checkIndex_8e157 ⟨Nat.le_of_ble_eq_true rfl, Nat.le_of_ble_eq_true rfl⟩), (hw0 _ m_13)⟩ rfl hl.1 (Nat.le_of_ble_eq_true rfl) dJ0_checkIndex_df160_5 ⟨Nat.le_of_ble_eq_true rfl, Nat.le_of_ble_eq_true rfl⟩ (fun r_1001 w_1001 H locs hw_1001 hP hD hS => ?_)
    obtain ⟨er_1001, rfl⟩ := hw_1001
    subst r_1001
    obtain ⟨hP, hD⟩ : vPD G A H [] := ⟨hP, hD⟩
    refine lv_pop hx hb dJ0_checkIndex_df160_8 rfl ?_
    exact W.vret hx hb hr (fun t ht hW => ⟨⟨_, rfl, rfl, by rw [ht]; exact hP, hD⟩, hS.F ht⟩) hS.2.2 dJ0_checkIndex_df160_9
  · refine va_gets hx hb hZ9 hS hown (hw0 _ m_10) (fun _ h9 => h9) dJ0_checkIndex_df160_2 ?_
    refine cSim (As := [.int a1, .int a2, .ref bq9]) (rest := []) ⟨hx, hb, hml, hown, hw0⟩ hA hK hP hD hS [] (schkR l G y _ a1 a2 bq9 p_a1 p_a2 (by omega)) rfl ⟨(callB_of 3 hw0 (gA m_25) rfl rfl rfl (hw0 _ m_12) (hw0 _ m_11) cb_J3_checkIndex_8e157 ⟨Nat.le_of_ble_eq_true rfl, Nat.le_of_ble_eq_true rfl⟩), (hw0 _ m_13)⟩ rfl hl.1 (Nat.le_of_ble_eq_true rfl) dJ0_checkIndex_df160_5 ⟨Nat.le_of_ble_eq_true rfl, Nat.le_of_ble_eq_true rfl⟩ (fun r_1002 w_1002 H locs hw_1002 hP hD hS => ?_)
    obtain ⟨er_1002, rfl⟩ := hw_1002
    subst r_1002
    obtain ⟨hP, hD⟩ : vPD G A H [] := ⟨hP, hD⟩
    refine lv_pop hx hb dJ0_checkIndex_df160_8 rfl ?_
    exact W.vret hx hb hr (fun t ht hW => ⟨⟨_, rfl, rfl, by rw [ht]; exact hP, hD⟩, hS.F ht⟩) hS.2.2 dJ0_checkIndex_df160_9

set_option maxHeartbeats 4000000 in
set_option maxRecDepth 100000 in
theorem sJ1_charAt_3b067 (l : Launch) (G : va_G) (y : Nat → ClassId) (aK aV : Nat → Nat) (sz : Nat) (i1 : Nat) (a1 : Int32) (p_a1 : (0 : Int) ≤ a1.toInt ∧ a1.toInt ≤ 59) (hi1 : i1 < nS) (hk : a1.toInt < (lenS.getD i1 0 : Int)) : Met l yJ1_charAt_3b067 (Cond.code yJ1_charAt_3b067 cJ1_charAt_3b067 2 (some .char) :: wAll) ({ frames := 2, cells := 0, slots := 0, locals := 43 }) (va_Pc [.ref (aV i1), .int a1] (kps G y aK aV sz [])) (va_Qi (fun (r : Int32) (w : va_W) => (∃ (v_11 : Int32), ((0 : Int) ≤ v_11.toInt ∧ v_11.toInt ≤ 255) ∧ (v_11 = (bytS.getD i1 []).getD a1.toInt.toNat 0) ∧ r = v_11 ∧ w = [])) (kq G (va_A [] sz)) (va_A [] sz)) 0 0 (va_A [] sz) := by
  refine Met.ofW (cc := cJ1_charAt_3b067) (maxL := 2) (ret := (some .char)) (by decide) rfl ?_
  intro p e s m args below meth c s₁ B hml hv
  obtain ⟨rfl, ⟨hsz, hP, hK, hD0⟩, hE⟩ := hv
  have hx := B.exec
  have hb := B.bytes
  have hr := B.returns
  have hw0 : ∀ w ∈ wAll, w.before _ s = true := fun w h => atoms_spec (ws := Cond.code yJ1_charAt_3b067 cJ1_charAt_3b067 2 (some .char) :: wAll) B.pre w (List.mem_cons_of_mem _ h)
  have hown : s.vm.findClass RJ1 = some m.cls := findClass_of_methodNamed B.named
  subst hsz
  have hD := hD0.self (sz := s.heap.size)
  generalize hAe : va_A [] s.heap.size = A at hD hE ⊢
  have hA : ∀ q : Nat, s.heap.size ≤ q → A q := fun q h => by rw [← hAe]; exact Or.inr h
  have hS : va_S A s.heap s.heap [] := va_S.rf
  have hP : va_P G vwCl [] s.heap := hP
  have hl := lv_entry ([.ref (aV i1), .int a1]) (n := 2) (Nat.le_of_ble_eq_true rfl)
  rw [lg_entry_eq]
  generalize (lg_sl ([.ref (aV i1), .int a1]) ++ List.replicate (2 - (lg_sl ([.ref (aV i1), .int a1])).length) Slot.unset).toArray = ls at hl ⊢
  have hl : lv_has ls 2 [(0, .ref (aV i1)), (1, .int a1)] := hl
  refine lv_iload_n hx hb dJ1_charAt_3b067_0 rfl (lv_at hl 1 rfl) ?_
  refine lv_aload_n hx hb dJ1_charAt_3b067_1 rfl (lv_at hl 0 rfl) ?_
  refine va_tlen (v := nI (lenS.getD i1 0)) hx hb (hE.1 i1 hi1).2.2.2 hS rfl dJ1_charAt_3b067_2 ?_
  refine lv_topi (fun v_1001 ev_1001 => ?_)
  have qv_1001 := ln_q ev_1001 (lenS_b i1 hi1)
  have bv_1001 : (2 : Int) ≤ v_1001.toInt ∧ v_1001.toInt ≤ 60 := ln_b qv_1001 (lenS_b i1 hi1)
  refine cSvSm (As := [.int a1, .int v_1001]) (rest := []) ⟨hx, hb, hml, hown, hw0⟩ hA hK hP hD hS hE [] (sJ0_checkIndex_df160 l G y aK aV _ a1 v_1001 p_a1 bv_1001 (by omega)) rfl ⟨(callB_of 2 hw0 (gA m_9) rfl rfl rfl (hw0 _ m_2) (hw0 _ m_23) cb_J0_checkIndex_df160 ⟨Nat.le_of_ble_eq_true rfl, Nat.le_of_ble_eq_true rfl⟩), (hw0 _ m_24)⟩ rfl hl.1 (Nat.le_of_ble_eq_true rfl) dJ1_charAt_3b067_3 ⟨Nat.le_of_ble_eq_true rfl, Nat.le_of_ble_eq_true rfl⟩ (fun w_1002 H locs hw_1002 hP hD hS => ?_)
  obtain rfl := hw_1002
  obtain ⟨hP, hD⟩ : vPD G A H [] := ⟨hP, hD⟩
  refine lv_aload_n hx hb dJ1_charAt_3b067_6 rfl (lv_at hl 0 rfl) ?_
  refine lv_iload_n hx hb dJ1_charAt_3b067_7 rfl (lv_at hl 1 rfl) ?_
  refine va_tb hx hb (hE.1 i1 hi1).2.2.2 hS (vi_n p_a1.1 hk) rfl dJ1_charAt_3b067_8 ?_
  refine lv_topi (fun v_1003 ev_1003 => ?_)
  refine lv_sipush (v := 255) hx hb dJ1_charAt_3b067_9 (by decide) ?_
  refine lv_iand hx hb dJ1_charAt_3b067_12 ?_
  refine lv_topi (fun v_1004 ev_1004 => ?_)
  have bv_1004 : (0 : Int) ≤ v_1004.toInt ∧ v_1004.toInt ≤ 255 := ba_andr ev_1004 (bkc (x := 255) (c := 255) (by decide)) (by decide)
  refine lv_i2c hx hb dJ1_charAt_3b067_13 rfl ?_
  refine lv_topi (fun v_1005 ev_1005 => ?_)
  obtain rfl : v_1004 = v_1005 := (ev_1005.trans (i2c_id ev_1004)).symm
  exact W.zret (v := v_1004) hx hb hr (nc_b bv_1004) (fun t ht hW => ⟨⟨v_1004, _, rfl, ⟨v_1004, bv_1004, ch_eq ev_1004 ev_1003 p_a1, rfl, rfl⟩, by rw [ht]; exact hP, hD⟩, hS.F ht⟩) hS.2.2 dJ1_charAt_3b067_14

set_option maxHeartbeats 4000000 in
set_option maxRecDepth 100000 in
theorem sJ0_charAt_5068e (l : Launch) (G : va_G) (y : Nat → ClassId) (aK aV : Nat → Nat) (sz : Nat) (i1 : Nat) (a1 : Int32) (p_a1 : (0 : Int) ≤ a1.toInt ∧ a1.toInt ≤ 59) (hi1 : i1 < nS) (hk : a1.toInt < (lenS.getD i1 0 : Int)) : Met l yJ0_charAt_5068e (Cond.code yJ0_charAt_5068e cJ0_charAt_5068e 2 (some .char) :: wAll) ({ frames := 3, cells := 0, slots := 0, locals := 64 }) (va_Pc [.ref (aK i1), .int a1] (kps G y aK aV sz [])) (va_Qi (fun (r : Int32) (w : va_W) => (∃ (v_9 : Int32), ((0 : Int) ≤ v_9.toInt ∧ v_9.toInt ≤ 255) ∧ (v_9 = (bytS.getD i1 []).getD a1.toInt.toNat 0) ∧ r = v_9 ∧ w = [])) (kq G (va_A [] sz)) (va_A [] sz)) 0 0 (va_A [] sz) := by
  refine Met.ofW (cc := cJ0_charAt_5068e) (maxL := 2) (ret := (some .char)) (by decide) rfl ?_
  intro p e s m args below meth c s₁ B hml hv
  obtain ⟨rfl, ⟨hsz, hP, hK, hD0⟩, hE⟩ := hv
  have hx := B.exec
  have hb := B.bytes
  have hr := B.returns
  have hw0 : ∀ w ∈ wAll, w.before _ s = true := fun w h => atoms_spec (ws := Cond.code yJ0_charAt_5068e cJ0_charAt_5068e 2 (some .char) :: wAll) B.pre w (List.mem_cons_of_mem _ h)
  have hown : s.vm.findClass RJ0 = some m.cls := findClass_of_methodNamed B.named
  subst hsz
  have hD := hD0.self (sz := s.heap.size)
  generalize hAe : va_A [] s.heap.size = A at hD hE ⊢
  have hA : ∀ q : Nat, s.heap.size ≤ q → A q := fun q h => by rw [← hAe]; exact Or.inr h
  have hS : va_S A s.heap s.heap [] := va_S.rf
  have hP : va_P G vwCl [] s.heap := hP
  have hl := lv_entry ([.ref (aK i1), .int a1]) (n := 2) (Nat.le_of_ble_eq_true rfl)
  rw [lg_entry_eq]
  generalize (lg_sl ([.ref (aK i1), .int a1]) ++ List.replicate (2 - (lg_sl ([.ref (aK i1), .int a1])).length) Slot.unset).toArray = ls at hl ⊢
  have hl : lv_has ls 2 [(0, .ref (aK i1)), (1, .int a1)] := hl
  refine lv_aload_n hx hb dJ0_charAt_5068e_0 rfl (lv_at hl 0 rfl) ?_
  refine cQim (As := []) (rest := []) ⟨hx, hb, hml, hown, hw0⟩ hA hK hP hD hS hE [] (sJ0_isLatin1_aae02 l G y aK aV _ i1 hi1) rfl ⟨(callB_of 0 hw0 (gA m_17) rfl rfl rfl (hw0 _ m_2) (hw0 _ m_1) cb_J0_isLatin1_aae02 ⟨Nat.le_of_ble_eq_true rfl, Nat.le_of_ble_eq_true rfl⟩), (hw0 _ m_3), (hw0 _ m_4)⟩ (i9 := i1) hi1 rfl rfl hl.1 (Nat.le_of_ble_eq_true rfl) dJ0_charAt_5068e_1 ⟨Nat.le_of_ble_eq_true rfl, Nat.le_of_ble_eq_true rfl⟩ (fun r_1001 w_1001 H locs hw_1001 hP hD hS => ?_)
  obtain ⟨rfl, rfl⟩ := hw_1001
  obtain ⟨hP, hD⟩ : vPD G A H [] := ⟨hP, hD⟩
  refine lv_if_eq (tgt := 16) hx hb dJ0_charAt_5068e_4 (by decide) (fun c9 => absurd c9 (by decide)) (fun _ => ?_)
  refine lv_aload_n hx hb dJ0_charAt_5068e_7 rfl (lv_at hl 0 rfl) ?_
  refine vk_getf hx hb (hE.1 i1 hi1).2.2.1 hS hown (hw0 _ m_5) (fun _ h9 => h9) dJ0_charAt_5068e_8 ?_
  refine lv_iload_n hx hb dJ0_charAt_5068e_11 rfl (lv_at hl 1 rfl) ?_
  refine cSiSm (As := [.ref (aV i1), .int a1]) (rest := []) ⟨hx, hb, hml, hown, hw0⟩ hA hK hP hD hS hE [] (sJ1_charAt_3b067 l G y aK aV _ i1 a1 p_a1 hi1 (by omega)) rfl ⟨(callB_of 2 hw0 (gA m_22) rfl rfl rfl (hw0 _ m_7) (hw0 _ m_6) cb_J1_charAt_3b067 ⟨Nat.le_of_ble_eq_true rfl, Nat.le_of_ble_eq_true rfl⟩), (hw0 _ m_8)⟩ rfl hl.1 (Nat.le_of_ble_eq_true rfl) dJ0_charAt_5068e_12 ⟨Nat.le_of_ble_eq_true rfl, Nat.le_of_ble_eq_true rfl⟩ (fun r_1002 w_1002 H locs hw_1002 hP hD hS => ?_)
  obtain ⟨v_1003, bv_1003, h_1004, er_1002, rfl⟩ := hw_1002
  subst r_1002
  obtain ⟨hP, hD⟩ : vPD G A H [] := ⟨hP, hD⟩
  exact W.zret (v := v_1003) hx hb hr (nc_b bv_1003) (fun t ht hW => ⟨⟨v_1003, _, rfl, ⟨v_1003, bv_1003, by assumption, rfl, rfl⟩, by rw [ht]; exact hP, hD⟩, hS.F ht⟩) hS.2.2 dJ0_charAt_5068e_15

set_option maxHeartbeats 4000000 in
set_option maxRecDepth 100000 in
theorem sX3_refuse (l : Launch) (G : va_G) (y : Nat → ClassId) (sz : Nat) (ob : Nat) (a1 : Int32) (ob_town : Nat) (ob_code : Nat) (ob_fault : Int32) (ob_place : Int32) (ob_text : Nat) (ob_size : Int32) (ob_begin : Int32) (ob_next : Int32) (ob_kind : Int32) (ob_value : Int32) (p_ob_fault : (0 : Int) ≤ ob_fault.toInt ∧ ob_fault.toInt ≤ 3) (p_ob_size : (0 : Int) ≤ ob_size.toInt ∧ ob_size.toInt ≤ 1400) (p_ob_begin : (0 : Int) ≤ ob_begin.toInt ∧ ob_begin.toInt ≤ 1400) (p_ob_next : (0 : Int) ≤ ob_next.toInt ∧ ob_next.toInt ≤ 1400) (p_ob_kind : (0 : Int) ≤ ob_kind.toInt ∧ ob_kind.toInt ≤ 4) (p_ob_value : (0 : Int) ≤ ob_value.toInt ∧ ob_value.toInt ≤ 1000000) (p_a1 : (1 : Int) ≤ a1.toInt ∧ a1.toInt ≤ 3) : Met l yX3_refuse (Cond.code yX3_refuse cX3_refuse 2 none :: wAll) ({ frames := 0, cells := 0, slots := 0, locals := 0 }) (va_Pc [.ref ob, .int a1] (kp G y sz [(ce_X3 ob ob_town ob_code ob_fault ob_place ob_text ob_size ob_begin ob_next ob_kind ob_value)])) (va_Qv (fun (w : va_W) => (∃ (v_3 : Int32) (v_4 : Int32), ((1 : Int) ≤ v_3.toInt ∧ v_3.toInt ≤ 3) ∧ (((v_3.toInt, v_4.toInt, ob_begin.toInt) : Int × Int × Int) = r_fl a1.toInt ((ob_fault.toInt, ob_place.toInt, ob_begin.toInt) : Int × Int × Int)) ∧ ((ob_fault.toInt = 0 ∧ v_3.toInt = a1.toInt ∧ v_4.toInt = ob_begin.toInt ∧ ob_begin.toInt = ob_begin.toInt) ∨ (ob_fault.toInt ≠ 0 ∧ v_3.toInt = ob_fault.toInt ∧ v_4.toInt = ob_place.toInt ∧ ob_begin.toInt = ob_begin.toInt)) ∧ w = [(ce_X3 ob ob_town ob_code v_3 v_4 ob_text ob_size ob_begin ob_next ob_kind ob_value)])) (kq G (va_A [(ce_X3 ob ob_town ob_code ob_fault ob_place ob_text ob_size ob_begin ob_next ob_kind ob_value)] sz)) (va_A [(ce_X3 ob ob_town ob_code ob_fault ob_place ob_text ob_size ob_begin ob_next ob_kind ob_value)] sz)) 0 0 (va_A [(ce_X3 ob ob_town ob_code ob_fault ob_place ob_text ob_size ob_begin ob_next ob_kind ob_value)] sz) := by
  refine Met.ofW (cc := cX3_refuse) (maxL := 2) (ret := none) (by decide) rfl ?_
  intro p e s m args below meth c s₁ B hml hv
  obtain ⟨rfl, hsz, hP, hK, hD0⟩ := hv
  have hx := B.exec
  have hb := B.bytes
  have hr := B.returns
  have hw0 : ∀ w ∈ wAll, w.before _ s = true := fun w h => atoms_spec (ws := Cond.code yX3_refuse cX3_refuse 2 none :: wAll) B.pre w (List.mem_cons_of_mem _ h)
  have hown : s.vm.findClass RX3 = some m.cls := findClass_of_methodNamed B.named
  subst hsz
  have hD := hD0.self (sz := s.heap.size)
  generalize hAe : va_A [(ce_X3 ob ob_town ob_code ob_fault ob_place ob_text ob_size ob_begin ob_next ob_kind ob_value)] s.heap.size = A at hD ⊢
  have hA : ∀ q : Nat, s.heap.size ≤ q → A q := fun q h => by rw [← hAe]; exact Or.inr h
  have hS : va_S A s.heap s.heap [] := va_S.rf
  have hP : va_P G vwCl [(ce_X3 ob ob_town ob_code ob_fault ob_place ob_text ob_size ob_begin ob_next ob_kind ob_value)] s.heap := hP
  have hl := lv_entry ([.ref ob, .int a1]) (n := 2) (Nat.le_of_ble_eq_true rfl)
  rw [lg_entry_eq]
  generalize (lg_sl ([.ref ob, .int a1]) ++ List.replicate (2 - (lg_sl ([.ref ob, .int a1])).length) Slot.unset).toArray = ls at hl ⊢
  have hl : lv_has ls 2 [(0, .ref ob), (1, .int a1)] := hl
  refine lv_aload_n hx hb dX3_refuse_0 rfl (lv_at hl 0 rfl) ?_
  refine va_get (D := G) (ci := 3) (v := .int ob_fault) (C := RX3) (T := TX3) (N := 10) hx hb hw0 inA_wsX30 hown hK.1 hP 0 rfl rfl 2 (by decide) (hw0 _ m_737) (fun _ h9 => h9) rfl dX3_refuse_1 ?_
  refine lv_if_ne (tgt := 20) hx hb dX3_refuse_4 (by decide) (fun c_1001 => ?_) (fun c_1001 => ?_)
  · skip
    have nc_1001 := nb_ne (1) (3) c_1001 p_ob_fault (k := 0) (by decide) (by decide)
    exact W.vret hx hb hr (fun t ht hW => ⟨⟨_, rfl, ⟨ob_fault, ob_place, nc_1001.1, (by have lm1 : Int32.toInt (-1) = -1 := (by decide); have l91 : Int32.toInt 1 = 1 := (by decide); have l92 : Int32.toInt 2 = 2 := (by decide); have l93 : Int32.toInt 3 = 3 := (by decide); first | exact fl_y (by omega) (by omega) (by omega) (by omega) | exact fl_n (by omega) (by omega) (by omega) (by omega)), by omega, rfl⟩, by rw [ht]; exact hP, hD⟩, hS.F ht⟩) hS.2.2 dX3_refuse_20
  · skip
    have nc_1001 := nb_eq (0) (0) c_1001 p_ob_fault (bkc (x := 0) (c := 0) (by decide)) (by decide)
    refine lv_aload_n hx hb dX3_refuse_7 rfl (lv_at hl 0 rfl) ?_
    refine lv_iload_n hx hb dX3_refuse_8 rfl (lv_at hl 1 rfl) ?_
    refine va_put (D := G) (ci := 3) (v := .int a1) (ty := .int) (C := RX3) (T := TX3) (N := 10) hx hb hw0 inA_wsX30 tyX3 tyX3_ok nmX3 hown hK.1 hP hD hS 0 rfl rfl 2 (by decide) (hw0 _ m_737) (fun _ h9 => h9) rfl fd_X3_2 rfl rfl (Nat.le_of_ble_eq_true rfl) dX3_refuse_9 (fun H locs hP hD hS => ?_)
    obtain ⟨hP, hD⟩ : vPD G A H [(ce_X3 ob ob_town ob_code a1 ob_place ob_text ob_size ob_begin ob_next ob_kind ob_value)] := ⟨hP, hD⟩
    refine lv_aload_n hx hb dX3_refuse_12 rfl (lv_at hl 0 rfl) ?_
    refine lv_aload_n hx hb dX3_refuse_13 rfl (lv_at hl 0 rfl) ?_
    refine va_get (D := G) (ci := 3) (v := .int ob_begin) (C := RX3) (T := TX3) (N := 10) hx hb hw0 inA_wsX30 hown hK.1 hP 0 rfl rfl 6 (by decide) (hw0 _ m_718) (fun _ h9 => h9) rfl dX3_refuse_14 ?_
    refine va_put (D := G) (ci := 3) (v := .int ob_begin) (ty := .int) (C := RX3) (T := TX3) (N := 10) hx hb hw0 inA_wsX30 tyX3 tyX3_ok nmX3 hown hK.1 hP hD hS 0 rfl rfl 3 (by decide) (hw0 _ m_751) (fun _ h9 => h9) rfl fd_X3_3 rfl rfl (Nat.le_of_ble_eq_true rfl) dX3_refuse_17 (fun H locs hP hD hS => ?_)
    obtain ⟨hP, hD⟩ : vPD G A H [(ce_X3 ob ob_town ob_code a1 ob_begin ob_text ob_size ob_begin ob_next ob_kind ob_value)] := ⟨hP, hD⟩
    exact W.vret hx hb hr (fun t ht hW => ⟨⟨_, rfl, ⟨a1, ob_begin, p_a1, (by have lm1 : Int32.toInt (-1) = -1 := (by decide); have l91 : Int32.toInt 1 = 1 := (by decide); have l92 : Int32.toInt 2 = 2 := (by decide); have l93 : Int32.toInt 3 = 3 := (by decide); first | exact fl_y (by omega) (by omega) (by omega) (by omega) | exact fl_n (by omega) (by omega) (by omega) (by omega)), by omega, rfl⟩, by rw [ht]; exact hP, hD⟩, hS.F ht⟩) hS.2.2 dX3_refuse_20

set_option maxHeartbeats 4000000 in
set_option maxRecDepth 100000 in
theorem sX3_takeWord (l : Launch) (G : va_G) (y : Nat → ClassId) (sz : Nat) (ob : Nat) (ob_town : Nat) (ob_code : Nat) (ob_fault : Int32) (ob_place : Int32) (ob_text : Nat) (ob_size : Int32) (ob_begin : Int32) (ob_next : Int32) (ob_kind : Int32) (ob_value : Int32) (fob_text : Nat → Int32) (p_ob_fault : (0 : Int) ≤ ob_fault.toInt ∧ ob_fault.toInt ≤ 3) (p_ob_size : (0 : Int) ≤ ob_size.toInt ∧ ob_size.toInt ≤ 1400) (p_ob_begin : (0 : Int) ≤ ob_begin.toInt ∧ ob_begin.toInt ≤ 1400) (p_ob_next : (0 : Int) ≤ ob_next.toInt ∧ ob_next.toInt ≤ 1400) (p_ob_kind : (0 : Int) ≤ ob_kind.toInt ∧ ob_kind.toInt ≤ 4) (p_ob_value : (0 : Int) ≤ ob_value.toInt ∧ ob_value.toInt ≤ 1000000) : Met l yX3_takeWord (Cond.code yX3_takeWord cX3_takeWord 1 none :: wAll) ({ frames := 0, cells := 0, slots := 0, locals := 0 }) (va_Pc [.ref ob] (kp G y sz [(ce_X3 ob ob_town ob_code ob_fault ob_place ob_text ob_size ob_begin ob_next ob_kind ob_value), (ce_b1400 y ob_text fob_text)])) (va_Qv (fun (w : va_W) => (∃ (v_67 : Int32), ((0 : Int) ≤ v_67.toInt ∧ v_67.toInt ≤ 1400) ∧ (qrun qcL fob_text ob_size.toInt ob_next.toInt = v_67.toInt) ∧ w = [(ce_X3 ob ob_town ob_code ob_fault ob_place ob_text ob_size ob_begin v_67 1 ob_value), (ce_b1400 y ob_text fob_text)])) (kq G (va_A [(ce_X3 ob ob_town ob_code ob_fault ob_place ob_text ob_size ob_begin ob_next ob_kind ob_value), (ce_b1400 y ob_text fob_text)] sz)) (va_A [(ce_X3 ob ob_town ob_code ob_fault ob_place ob_text ob_size ob_begin ob_next ob_kind ob_value), (ce_b1400 y ob_text fob_text)] sz)) 0 0 (va_A [(ce_X3 ob ob_town ob_code ob_fault ob_place ob_text ob_size ob_begin ob_next ob_kind ob_value), (ce_b1400 y ob_text fob_text)] sz) := by
  refine Met.ofW (cc := cX3_takeWord) (maxL := 1) (ret := none) (by decide) rfl ?_
  intro p e s m args below meth c s₁ B hml hv
  obtain ⟨rfl, hsz, hP, hK, hD0⟩ := hv
  have hx := B.exec
  have hb := B.bytes
  have hr := B.returns
  have hw0 : ∀ w ∈ wAll, w.before _ s = true := fun w h => atoms_spec (ws := Cond.code yX3_takeWord cX3_takeWord 1 none :: wAll) B.pre w (List.mem_cons_of_mem _ h)
  have hown : s.vm.findClass RX3 = some m.cls := findClass_of_methodNamed B.named
  subst hsz
  have hD := hD0.self (sz := s.heap.size)
  generalize hAe : va_A [(ce_X3 ob ob_town ob_code ob_fault ob_place ob_text ob_size ob_begin ob_next ob_kind ob_value), (ce_b1400 y ob_text fob_text)] s.heap.size = A at hD ⊢
  have hA : ∀ q : Nat, s.heap.size ≤ q → A q := fun q h => by rw [← hAe]; exact Or.inr h
  have hS : va_S A s.heap s.heap [] := va_S.rf
  have hP : va_P G vwCl [(ce_X3 ob ob_town ob_code ob_fault ob_place ob_text ob_size ob_begin ob_next ob_kind ob_value), (ce_b1400 y ob_text fob_text)] s.heap := hP
  have hl := lv_entry ([.ref ob]) (n := 1) (Nat.le_of_ble_eq_true rfl)
  rw [lg_entry_eq]
  generalize (lg_sl ([.ref ob]) ++ List.replicate (1 - (lg_sl ([.ref ob])).length) Slot.unset).toArray = ls at hl ⊢
  have hl : lv_has ls 1 [(0, .ref ob)] := hl
  refine lv_aload_n hx hb dX3_takeWord_0 rfl (lv_at hl 0 rfl) ?_
  refine lv_iconst (v := 1) hx hb dX3_takeWord_1 (by decide) ?_
  refine va_put (D := G) (ci := 3) (v := .int 1) (ty := .int) (C := RX3) (T := TX3) (N := 10) hx hb hw0 inA_wsX30 tyX3 tyX3_ok nmX3 hown hK.1 hP hD hS 0 rfl rfl 8 (by decide) (hw0 _ m_719) (fun _ h9 => h9) rfl fd_X3_8 rfl rfl (Nat.le_of_ble_eq_true rfl) dX3_takeWord_2 (fun H locs hP hD hS => ?_)
  obtain ⟨hP, hD⟩ : vPD G A H [(ce_X3 ob ob_town ob_code ob_fault ob_place ob_text ob_size ob_begin ob_next 1 ob_value), (ce_b1400 y ob_text fob_text)] := ⟨hP, hD⟩
  refine loopX (fun n H locs ls st => ∃ (v_1021 : Int32), (1400 - v_1021.toInt).toNat = n ∧ ((0 : Int) ≤ v_1021.toInt ∧ v_1021.toInt ≤ 1400) ∧ (qrn qcL fob_text ob_size.toInt ob_next.toInt v_1021.toInt) ∧ st = [] ∧ vPD G A H [(ce_X3 ob ob_town ob_code ob_fault ob_place ob_text ob_size ob_begin v_1021 1 ob_value), (ce_b1400 y ob_text fob_text)] ∧ va_S A s.heap H locs ∧ lv_has ls 1 [(0, .ref ob)]) ?_ (n := (1400 - ob_next.toInt).toNat) ⟨ob_next, rfl, p_ob_next, (by have lm1 : Int32.toInt (-1) = -1 := (by decide); have l91 : Int32.toInt 1 = 1 := (by decide); have l92 : Int32.toInt 2 = 2 := (by decide); have l93 : Int32.toInt 3 = 3 := (by decide); have h90 : Int32.toInt 1 = 1 := (by decide); first | exact rn_0 (by omega) | exact rn_s rl1021_0 (cL_t ⟨by omega, by omega⟩) (by omega) (by omega)), rfl, ⟨hP, hD⟩, hS, lv_sub hl [0] rfl⟩
  rintro n ih_1027 H locs ls st ⟨v_1021, hn_1027, bv_1021, rl1021_0, rfl, ⟨hP, hD⟩, hS, hl⟩
  refine lv_aload_n hx hb dX3_takeWord_5 rfl (lv_at hl 0 rfl) ?_
  refine va_get (D := G) (ci := 3) (v := .int v_1021) (C := RX3) (T := TX3) (N := 10) hx hb hw0 inA_wsX30 hown hK.1 hP 0 rfl rfl 7 (by decide) (hw0 _ m_715) (fun _ h9 => h9) rfl dX3_takeWord_6 ?_
  refine lv_aload_n hx hb dX3_takeWord_9 rfl (lv_at hl 0 rfl) ?_
  refine va_get (D := G) (ci := 3) (v := .int ob_size) (C := RX3) (T := TX3) (N := 10) hx hb hw0 inA_wsX30 hown hK.1 hP 0 rfl rfl 5 (by decide) (hw0 _ m_716) (fun _ h9 => h9) rfl dX3_takeWord_10 ?_
  refine lv_icmp_ge (tgt := 57) hx hb dX3_takeWord_13 (by decide) (fun c_1028 => ?_) (fun c_1028 => ?_)
  · skip
    have nc_1028 := nb_le (1400) (0) c_1028 p_ob_size bv_1021 (by decide)
    exact W.vret hx hb hr (fun t ht hW => ⟨⟨_, rfl, ⟨v_1021, nc_1028.2.1, (by have lm1 : Int32.toInt (-1) = -1 := (by decide); have l91 : Int32.toInt 1 = 1 := (by decide); have l92 : Int32.toInt 2 = 2 := (by decide); have l93 : Int32.toInt 3 = 3 := (by decide); have h90 : Int32.toInt 1 = 1 := (by decide); exact rn_e rl1021_0 (by first | exact Or.inl (by omega) | exact Or.inr (cL_f (by omega)))), rfl⟩, by rw [ht]; exact hP, hD⟩, hS.F ht⟩) hS.2.2 dX3_takeWord_57
  · skip
    have nc_1028 := nb_nle (1399) (1) c_1028 bv_1021 p_ob_size (by decide)
    refine lv_aload_n hx hb dX3_takeWord_16 rfl (lv_at hl 0 rfl) ?_
    refine va_get (D := G) (ci := 3) (v := .ref ob_text) (C := RX3) (T := TX3) (N := 10) hx hb hw0 inA_wsX30 hown hK.1 hP 0 rfl rfl 4 (by decide) (hw0 _ m_717) (fun _ h9 => h9) rfl dX3_takeWord_17 ?_
    refine lv_aload_n hx hb dX3_takeWord_20 rfl (lv_at hl 0 rfl) ?_
    refine va_get (D := G) (ci := 3) (v := .int v_1021) (C := RX3) (T := TX3) (N := 10) hx hb hw0 inA_wsX30 hown hK.1 hP 0 rfl rfl 7 (by decide) (hw0 _ m_715) (fun _ h9 => h9) rfl dX3_takeWord_21 ?_
    refine va_bald hx hb hK.1 hP 1 0 rfl rfl (vi nc_1028.1 (by decide)) dX3_takeWord_24 ?_
    refine lv_topi (fun v_1029 ev_1029 => ?_)
    have tbv_1029 : qtb fob_text (v_1021 : Int32).toInt = v_1029.toInt := tb_e ev_1029 (by omega)
    refine lv_bipush (v := 97) hx hb dX3_takeWord_25 (by decide) ?_
    refine lv_icmp_lt (tgt := 57) hx hb dX3_takeWord_27 (by decide) (fun c_1030 => ?_) (fun c_1030 => ?_)
    · skip
      have nc_1030 := nb_lt (96) (97) c_1030 (btop v_1029) (bkc (x := 97) (c := 97) (by decide)) (by decide)
      exact W.vret hx hb hr (fun t ht hW => ⟨⟨_, rfl, ⟨v_1021, (bw (0) (1400) nc_1028.1 (by decide)), (by have lm1 : Int32.toInt (-1) = -1 := (by decide); have l91 : Int32.toInt 1 = 1 := (by decide); have l92 : Int32.toInt 2 = 2 := (by decide); have l93 : Int32.toInt 3 = 3 := (by decide); have h90 : Int32.toInt 1 = 1 := (by decide); exact rn_e rl1021_0 (by first | exact Or.inl (by omega) | exact Or.inr (cL_f (by omega)))), rfl⟩, by rw [ht]; exact hP, hD⟩, hS.F ht⟩) hS.2.2 dX3_takeWord_57
    · skip
      have nc_1030 := nb_nlt (97) (97) c_1030 (bkc (x := 97) (c := 97) (by decide)) (btop v_1029) (by decide)
      refine lv_aload_n hx hb dX3_takeWord_30 rfl (lv_at hl 0 rfl) ?_
      refine va_get (D := G) (ci := 3) (v := .ref ob_text) (C := RX3) (T := TX3) (N := 10) hx hb hw0 inA_wsX30 hown hK.1 hP 0 rfl rfl 4 (by decide) (hw0 _ m_717) (fun _ h9 => h9) rfl dX3_takeWord_31 ?_
      refine lv_aload_n hx hb dX3_takeWord_34 rfl (lv_at hl 0 rfl) ?_
      refine va_get (D := G) (ci := 3) (v := .int v_1021) (C := RX3) (T := TX3) (N := 10) hx hb hw0 inA_wsX30 hown hK.1 hP 0 rfl rfl 7 (by decide) (hw0 _ m_715) (fun _ h9 => h9) rfl dX3_takeWord_35 ?_
      refine va_bald hx hb hK.1 hP 1 0 rfl rfl (vi nc_1028.1 (by decide)) dX3_takeWord_38 ?_
      refine lv_topi (fun v_1031 ev_1031 => ?_)
      obtain rfl : v_1029 = v_1031 := (ev_1031.trans (ev_1029.symm)).symm
      refine lv_bipush (v := 122) hx hb dX3_takeWord_39 (by decide) ?_
      refine lv_icmp_gt (tgt := 57) hx hb dX3_takeWord_41 (by decide) (fun c_1032 => ?_) (fun c_1032 => ?_)
      · skip
        have nc_1032 := nb_lt (122) (123) c_1032 (bkc (x := 122) (c := 122) (by decide)) nc_1030.2.1 (by decide)
        exact W.vret hx hb hr (fun t ht hW => ⟨⟨_, rfl, ⟨v_1021, (bw (0) (1400) nc_1028.1 (by decide)), (by have lm1 : Int32.toInt (-1) = -1 := (by decide); have l91 : Int32.toInt 1 = 1 := (by decide); have l92 : Int32.toInt 2 = 2 := (by decide); have l93 : Int32.toInt 3 = 3 := (by decide); have h90 : Int32.toInt 1 = 1 := (by decide); exact rn_e rl1021_0 (by first | exact Or.inl (by omega) | exact Or.inr (cL_f (by omega)))), rfl⟩, by rw [ht]; exact hP, hD⟩, hS.F ht⟩) hS.2.2 dX3_takeWord_57
      · skip
        have nc_1032 := nb_nlt (122) (122) c_1032 nc_1030.2.1 (bkc (x := 122) (c := 122) (by decide)) (by decide)
        refine lv_aload_n hx hb dX3_takeWord_44 rfl (lv_at hl 0 rfl) ?_
        refine lv_dup hx hb dX3_takeWord_45 rfl ?_
        refine va_get (D := G) (ci := 3) (v := .int v_1021) (C := RX3) (T := TX3) (N := 10) hx hb hw0 inA_wsX30 hown hK.1 hP 0 rfl rfl 7 (by decide) (hw0 _ m_715) (fun _ h9 => h9) rfl dX3_takeWord_46 ?_
        refine lv_iconst (v := 1) hx hb dX3_takeWord_49 (by decide) ?_
        refine lv_iadd hx hb dX3_takeWord_50 ?_
        refine lv_topi (fun v_1033 ev_1033 => ?_)
        have qv_1033 := ba_add ev_1033 nc_1028.1 (bkc (x := 1) (c := 1) (by decide)) (by decide)
        have bv_1033 : (1 : Int) ≤ v_1033.toInt ∧ v_1033.toInt ≤ 1400 := bq_add qv_1033 nc_1028.1 (bkc (x := 1) (c := 1) (by decide)) _ _ (by decide)
        have qv_1033 : v_1033.toInt = v_1021.toInt + (1) := qv_1033
        refine va_put (D := G) (ci := 3) (v := .int v_1033) (ty := .int) (C := RX3) (T := TX3) (N := 10) hx hb hw0 inA_wsX30 tyX3 tyX3_ok nmX3 hown hK.1 hP hD hS 0 rfl rfl 7 (by decide) (hw0 _ m_715) (fun _ h9 => h9) rfl fd_X3_7 rfl rfl (Nat.le_of_ble_eq_true rfl) dX3_takeWord_51 (fun H locs hP hD hS => ?_)
        obtain ⟨hP, hD⟩ : vPD G A H [(ce_X3 ob ob_town ob_code ob_fault ob_place ob_text ob_size ob_begin v_1033 1 ob_value), (ce_b1400 y ob_text fob_text)] := ⟨hP, hD⟩
        refine lv_goto (tgt := 5) hx hb dX3_takeWord_54 (by decide) ?_
        exact ih_1027 _ (ml_inc (hi := 1400) hn_1027 qv_1033 (by decide) ((bw (0) (1400) bv_1033 (by decide))).2) _ _ _ _ ⟨v_1033, rfl, (bw (0) (1400) bv_1033 (by decide)), (by have lm1 : Int32.toInt (-1) = -1 := (by decide); have l91 : Int32.toInt 1 = 1 := (by decide); have l92 : Int32.toInt 2 = 2 := (by decide); have l93 : Int32.toInt 3 = 3 := (by decide); have h90 : Int32.toInt 1 = 1 := (by decide); first | exact rn_0 (by omega) | exact rn_s rl1021_0 (cL_t ⟨by omega, by omega⟩) (by omega) (by omega)), rfl, ⟨hP, hD⟩, hS, lv_sub hl [0] rfl⟩

set_option maxHeartbeats 4000000 in
set_option maxRecDepth 100000 in
theorem sX3_takeNumber (l : Launch) (G : va_G) (y : Nat → ClassId) (sz : Nat) (ob : Nat) (ob_town : Nat) (ob_code : Nat) (ob_fault : Int32) (ob_place : Int32) (ob_text : Nat) (ob_size : Int32) (ob_begin : Int32) (ob_next : Int32) (ob_kind : Int32) (ob_value : Int32) (fob_text : Nat → Int32) (p_ob_fault : (0 : Int) ≤ ob_fault.toInt ∧ ob_fault.toInt ≤ 3) (p_ob_size : (0 : Int) ≤ ob_size.toInt ∧ ob_size.toInt ≤ 1400) (p_ob_begin : (0 : Int) ≤ ob_begin.toInt ∧ ob_begin.toInt ≤ 1400) (p_ob_next : (0 : Int) ≤ ob_next.toInt ∧ ob_next.toInt ≤ 1400) (p_ob_kind : (0 : Int) ≤ ob_kind.toInt ∧ ob_kind.toInt ≤ 4) (p_ob_value : (0 : Int) ≤ ob_value.toInt ∧ ob_value.toInt ≤ 1000000) : Met l yX3_takeNumber (Cond.code yX3_takeNumber cX3_takeNumber 1 none :: wAll) ({ frames := 1, cells := 0, slots := 0, locals := 21 }) (va_Pc [.ref ob] (kp G y sz [(ce_X3 ob ob_town ob_code ob_fault ob_place ob_text ob_size ob_begin ob_next ob_kind ob_value), (ce_b1400 y ob_text fob_text)])) (va_Qv (fun (w : va_W) => (∃ (v_149 : Int32) (v_150 : Int32), ((0 : Int) ≤ v_149.toInt ∧ v_149.toInt ≤ 1400) ∧ ((0 : Int) ≤ v_150.toInt ∧ v_150.toInt ≤ 1000000) ∧ (qrun qcN fob_text ob_size.toInt ob_next.toInt = v_149.toInt) ∧ (v_150.toInt = min 1000000 (qdg fob_text ob_next.toInt (v_149.toInt - ob_next.toInt).toNat)) ∧ w = [(ce_X3 ob ob_town ob_code ob_fault ob_place ob_text ob_size ob_begin v_149 2 v_150), (ce_b1400 y ob_text fob_text)])) (kq G (va_A [(ce_X3 ob ob_town ob_code ob_fault ob_place ob_text ob_size ob_begin ob_next ob_kind ob_value), (ce_b1400 y ob_text fob_text)] sz)) (va_A [(ce_X3 ob ob_town ob_code ob_fault ob_place ob_text ob_size ob_begin ob_next ob_kind ob_value), (ce_b1400 y ob_text fob_text)] sz)) 0 0 (va_A [(ce_X3 ob ob_town ob_code ob_fault ob_place ob_text ob_size ob_begin ob_next ob_kind ob_value), (ce_b1400 y ob_text fob_text)] sz) := by
  refine Met.ofW (cc := cX3_takeNumber) (maxL := 1) (ret := none) (by decide) rfl ?_
  intro p e s m args below meth c s₁ B hml hv
  obtain ⟨rfl, hsz, hP, hK, hD0⟩ := hv
  have hx := B.exec
  have hb := B.bytes
  have hr := B.returns
  have hw0 : ∀ w ∈ wAll, w.before _ s = true := fun w h => atoms_spec (ws := Cond.code yX3_takeNumber cX3_takeNumber 1 none :: wAll) B.pre w (List.mem_cons_of_mem _ h)
  have hown : s.vm.findClass RX3 = some m.cls := findClass_of_methodNamed B.named
  subst hsz
  have hD := hD0.self (sz := s.heap.size)
  generalize hAe : va_A [(ce_X3 ob ob_town ob_code ob_fault ob_place ob_text ob_size ob_begin ob_next ob_kind ob_value), (ce_b1400 y ob_text fob_text)] s.heap.size = A at hD ⊢
  have hA : ∀ q : Nat, s.heap.size ≤ q → A q := fun q h => by rw [← hAe]; exact Or.inr h
  have hS : va_S A s.heap s.heap [] := va_S.rf
  have hP : va_P G vwCl [(ce_X3 ob ob_town ob_code ob_fault ob_place ob_text ob_size ob_begin ob_next ob_kind ob_value), (ce_b1400 y ob_text fob_text)] s.heap := hP
  have hl := lv_entry ([.ref ob]) (n := 1) (Nat.le_of_ble_eq_true rfl)
  rw [lg_entry_eq]
  generalize (lg_sl ([.ref ob]) ++ List.replicate (1 - (lg_sl ([.ref ob])).length) Slot.unset).toArray = ls at hl ⊢
  have hl : lv_has ls 1 [(0, .ref ob)] := hl
  refine lv_aload_n hx hb dX3_takeNumber_0 rfl (lv_at hl 0 rfl) ?_
  refine lv_iconst (v := 2) hx hb dX3_takeNumber_1 (by decide) ?_
  refine va_put (D := G) (ci := 3) (v := .int 2) (ty := .int) (C := RX3) (T := TX3) (N := 10) hx hb hw0 inA_wsX30 tyX3 tyX3_ok nmX3 hown hK.1 hP hD hS 0 rfl rfl 8 (by decide) (hw0 _ m_719) (fun _ h9 => h9) rfl fd_X3_8 rfl rfl (Nat.le_of_ble_eq_true rfl) dX3_takeNumber_2 (fun H locs hP hD hS => ?_)
  obtain ⟨hP, hD⟩ : vPD G A H [(ce_X3 ob ob_town ob_code ob_fault ob_place ob_text ob_size ob_begin ob_next 2 ob_value), (ce_b1400 y ob_text fob_text)] := ⟨hP, hD⟩
  refine lv_aload_n hx hb dX3_takeNumber_5 rfl (lv_at hl 0 rfl) ?_
  refine lv_iconst (v := 0) hx hb dX3_takeNumber_6 (by decide) ?_
  refine va_put (D := G) (ci := 3) (v := .int 0) (ty := .int) (C := RX3) (T := TX3) (N := 10) hx hb hw0 inA_wsX30 tyX3 tyX3_ok nmX3 hown hK.1 hP hD hS 0 rfl rfl 9 (by decide) (hw0 _ m_753) (fun _ h9 => h9) rfl fd_X3_9 rfl rfl (Nat.le_of_ble_eq_true rfl) dX3_takeNumber_7 (fun H locs hP hD hS => ?_)
  obtain ⟨hP, hD⟩ : vPD G A H [(ce_X3 ob ob_town ob_code ob_fault ob_place ob_text ob_size ob_begin ob_next 2 0), (ce_b1400 y ob_text fob_text)] := ⟨hP, hD⟩
  refine loopX (fun n H locs ls st => ∃ (v_1051 : Int32) (v_1052 : Int32), (1400 - v_1051.toInt).toNat = n ∧ ((0 : Int) ≤ v_1051.toInt ∧ v_1051.toInt ≤ 1400) ∧ ((0 : Int) ≤ v_1052.toInt ∧ v_1052.toInt ≤ 1000000) ∧ (qrn qcN fob_text ob_size.toInt ob_next.toInt v_1051.toInt) ∧ (v_1052.toInt = min 1000000 (qdg fob_text ob_next.toInt (v_1051.toInt - ob_next.toInt).toNat)) ∧ st = [] ∧ vPD G A H [(ce_X3 ob ob_town ob_code ob_fault ob_place ob_text ob_size ob_begin v_1051 2 v_1052), (ce_b1400 y ob_text fob_text)] ∧ va_S A s.heap H locs ∧ lv_has ls 1 [(0, .ref ob)]) ?_ (n := (1400 - ob_next.toInt).toNat) ⟨ob_next, 0, rfl, p_ob_next, (bw (0) (1000000) (bkc (x := 0) (c := 0) (by decide)) (by decide)), (by have lm1 : Int32.toInt (-1) = -1 := (by decide); have l91 : Int32.toInt 1 = 1 := (by decide); have l92 : Int32.toInt 2 = 2 := (by decide); have l93 : Int32.toInt 3 = 3 := (by decide); have h90 : Int32.toInt 0 = 0 := (by decide); have h91 : Int32.toInt 2 = 2 := (by decide); first | exact rn_0 (by omega) | exact rn_s rl1052_0 (cN_t ⟨by omega, by omega⟩) (by omega) (by omega)), (by have lm1 : Int32.toInt (-1) = -1 := (by decide); have l91 : Int32.toInt 1 = 1 := (by decide); have l92 : Int32.toInt 2 = 2 := (by decide); have l93 : Int32.toInt 3 = 3 := (by decide); have h90 : Int32.toInt 0 = 0 := (by decide); have h91 : Int32.toInt 2 = 2 := (by decide); first | exact dg_0 (by decide) (by omega) (by omega) | exact dg_s (by decide) rl1052_0 rl1052_1 (by omega) ⟨by omega, by omega⟩ (by omega)), rfl, ⟨hP, hD⟩, hS, lv_sub hl [0] rfl⟩
  rintro n ih_1063 H locs ls st ⟨v_1051, v_1052, hn_1063, bv_1051, bv_1052, rl1052_0, rl1052_1, rfl, ⟨hP, hD⟩, hS, hl⟩
  refine lv_aload_n hx hb dX3_takeNumber_10 rfl (lv_at hl 0 rfl) ?_
  refine va_get (D := G) (ci := 3) (v := .int v_1051) (C := RX3) (T := TX3) (N := 10) hx hb hw0 inA_wsX30 hown hK.1 hP 0 rfl rfl 7 (by decide) (hw0 _ m_715) (fun _ h9 => h9) rfl dX3_takeNumber_11 ?_
  refine lv_aload_n hx hb dX3_takeNumber_14 rfl (lv_at hl 0 rfl) ?_
  refine va_get (D := G) (ci := 3) (v := .int ob_size) (C := RX3) (T := TX3) (N := 10) hx hb hw0 inA_wsX30 hown hK.1 hP 0 rfl rfl 5 (by decide) (hw0 _ m_716) (fun _ h9 => h9) rfl dX3_takeNumber_15 ?_
  refine lv_icmp_ge (tgt := 91) hx hb dX3_takeNumber_18 (by decide) (fun c_1064 => ?_) (fun c_1064 => ?_)
  · skip
    have nc_1064 := nb_le (1400) (0) c_1064 p_ob_size bv_1051 (by decide)
    exact W.vret hx hb hr (fun t ht hW => ⟨⟨_, rfl, ⟨v_1051, v_1052, nc_1064.2.1, bv_1052, (by have lm1 : Int32.toInt (-1) = -1 := (by decide); have l91 : Int32.toInt 1 = 1 := (by decide); have l92 : Int32.toInt 2 = 2 := (by decide); have l93 : Int32.toInt 3 = 3 := (by decide); have h90 : Int32.toInt 2 = 2 := (by decide); exact rn_e rl1052_0 (by first | exact Or.inl (by omega) | exact Or.inr (cN_f (by omega)))), (by assumption), rfl⟩, by rw [ht]; exact hP, hD⟩, hS.F ht⟩) hS.2.2 dX3_takeNumber_91
  · skip
    have nc_1064 := nb_nle (1399) (1) c_1064 bv_1051 p_ob_size (by decide)
    refine lv_aload_n hx hb dX3_takeNumber_21 rfl (lv_at hl 0 rfl) ?_
    refine va_get (D := G) (ci := 3) (v := .ref ob_text) (C := RX3) (T := TX3) (N := 10) hx hb hw0 inA_wsX30 hown hK.1 hP 0 rfl rfl 4 (by decide) (hw0 _ m_717) (fun _ h9 => h9) rfl dX3_takeNumber_22 ?_
    refine lv_aload_n hx hb dX3_takeNumber_25 rfl (lv_at hl 0 rfl) ?_
    refine va_get (D := G) (ci := 3) (v := .int v_1051) (C := RX3) (T := TX3) (N := 10) hx hb hw0 inA_wsX30 hown hK.1 hP 0 rfl rfl 7 (by decide) (hw0 _ m_715) (fun _ h9 => h9) rfl dX3_takeNumber_26 ?_
    refine va_bald hx hb hK.1 hP 1 0 rfl rfl (vi nc_1064.1 (by decide)) dX3_takeNumber_29 ?_
    refine lv_topi (fun v_1065 ev_1065 => ?_)
    have tbv_1065 : qtb fob_text (v_1051 : Int32).toInt = v_1065.toInt := tb_e ev_1065 (by omega)
    refine lv_bipush (v := 48) hx hb dX3_takeNumber_30 (by decide) ?_
    refine lv_icmp_lt (tgt := 91) hx hb dX3_takeNumber_32 (by decide) (fun c_1066 => ?_) (fun c_1066 => ?_)
    · skip
      have nc_1066 := nb_lt (47) (48) c_1066 (btop v_1065) (bkc (x := 48) (c := 48) (by decide)) (by decide)
      exact W.vret hx hb hr (fun t ht hW => ⟨⟨_, rfl, ⟨v_1051, v_1052, (bw (0) (1400) nc_1064.1 (by decide)), bv_1052, (by have lm1 : Int32.toInt (-1) = -1 := (by decide); have l91 : Int32.toInt 1 = 1 := (by decide); have l92 : Int32.toInt 2 = 2 := (by decide); have l93 : Int32.toInt 3 = 3 := (by decide); have h90 : Int32.toInt 2 = 2 := (by decide); exact rn_e rl1052_0 (by first | exact Or.inl (by omega) | exact Or.inr (cN_f (by omega)))), (by assumption), rfl⟩, by rw [ht]; exact hP, hD⟩, hS.F ht⟩) hS.2.2 dX3_takeNumber_91
    · skip
      have nc_1066 := nb_nlt (48) (48) c_1066 (bkc (x := 48) (c := 48) (by decide)) (btop v_1065) (by decide)
      refine lv_aload_n hx hb dX3_takeNumber_35 rfl (lv_at hl 0 rfl) ?_
      refine va_get (D := G) (ci := 3) (v := .ref ob_text) (C := RX3) (T := TX3) (N := 10) hx hb hw0 inA_wsX30 hown hK.1 hP 0 rfl rfl 4 (by decide) (hw0 _ m_717) (fun _ h9 => h9) rfl dX3_takeNumber_36 ?_
      refine lv_aload_n hx hb dX3_takeNumber_39 rfl (lv_at hl 0 rfl) ?_
      refine va_get (D := G) (ci := 3) (v := .int v_1051) (C := RX3) (T := TX3) (N := 10) hx hb hw0 inA_wsX30 hown hK.1 hP 0 rfl rfl 7 (by decide) (hw0 _ m_715) (fun _ h9 => h9) rfl dX3_takeNumber_40 ?_
      refine va_bald hx hb hK.1 hP 1 0 rfl rfl (vi nc_1064.1 (by decide)) dX3_takeNumber_43 ?_
      refine lv_topi (fun v_1067 ev_1067 => ?_)
      obtain rfl : v_1065 = v_1067 := (ev_1067.trans (ev_1065.symm)).symm
      refine lv_bipush (v := 57) hx hb dX3_takeNumber_44 (by decide) ?_
      refine lv_icmp_gt (tgt := 91) hx hb dX3_takeNumber_46 (by decide) (fun c_1068 => ?_) (fun c_1068 => ?_)
      · skip
        have nc_1068 := nb_lt (57) (58) c_1068 (bkc (x := 57) (c := 57) (by decide)) nc_1066.2.1 (by decide)
        exact W.vret hx hb hr (fun t ht hW => ⟨⟨_, rfl, ⟨v_1051, v_1052, (bw (0) (1400) nc_1064.1 (by decide)), bv_1052, (by have lm1 : Int32.toInt (-1) = -1 := (by decide); have l91 : Int32.toInt 1 = 1 := (by decide); have l92 : Int32.toInt 2 = 2 := (by decide); have l93 : Int32.toInt 3 = 3 := (by decide); have h90 : Int32.toInt 2 = 2 := (by decide); exact rn_e rl1052_0 (by first | exact Or.inl (by omega) | exact Or.inr (cN_f (by omega)))), (by assumption), rfl⟩, by rw [ht]; exact hP, hD⟩, hS.F ht⟩) hS.2.2 dX3_takeNumber_91
      · skip
        have nc_1068 := nb_nlt (57) (57) c_1068 nc_1066.2.1 (bkc (x := 57) (c := 57) (by decide)) (by decide)
        refine lv_aload_n hx hb dX3_takeNumber_49 rfl (lv_at hl 0 rfl) ?_
        refine lv_ldc (own := RX3) (v := 1000000) hx hb hown (hw0 _ m_818) dX3_takeNumber_50 ?_
        refine lv_aload_n hx hb dX3_takeNumber_52 rfl (lv_at hl 0 rfl) ?_
        refine va_get (D := G) (ci := 3) (v := .int v_1052) (C := RX3) (T := TX3) (N := 10) hx hb hw0 inA_wsX30 hown hK.1 hP 0 rfl rfl 9 (by decide) (hw0 _ m_753) (fun _ h9 => h9) rfl dX3_takeNumber_53 ?_
        refine lv_bipush (v := 10) hx hb dX3_takeNumber_56 (by decide) ?_
        refine lv_imul hx hb dX3_takeNumber_58 ?_
        refine lv_topi (fun v_1069 ev_1069 => ?_)
        have qv_1069 := ba_mul 10 ev_1069 bv_1052 (by decide) (by decide) (by decide)
        have bv_1069 : (0 : Int) ≤ v_1069.toInt ∧ v_1069.toInt ≤ 10000000 := qv_1069.2
        refine lv_aload_n hx hb dX3_takeNumber_59 rfl (lv_at hl 0 rfl) ?_
        refine va_get (D := G) (ci := 3) (v := .ref ob_text) (C := RX3) (T := TX3) (N := 10) hx hb hw0 inA_wsX30 hown hK.1 hP 0 rfl rfl 4 (by decide) (hw0 _ m_717) (fun _ h9 => h9) rfl dX3_takeNumber_60 ?_
        refine lv_aload_n hx hb dX3_takeNumber_63 rfl (lv_at hl 0 rfl) ?_
        refine va_get (D := G) (ci := 3) (v := .int v_1051) (C := RX3) (T := TX3) (N := 10) hx hb hw0 inA_wsX30 hown hK.1 hP 0 rfl rfl 7 (by decide) (hw0 _ m_715) (fun _ h9 => h9) rfl dX3_takeNumber_64 ?_
        refine va_bald hx hb hK.1 hP 1 0 rfl rfl (vi nc_1064.1 (by decide)) dX3_takeNumber_67 ?_
        refine lv_topi (fun v_1070 ev_1070 => ?_)
        obtain rfl : v_1065 = v_1070 := (ev_1070.trans (ev_1065.symm)).symm
        refine lv_iadd hx hb dX3_takeNumber_68 ?_
        refine lv_topi (fun v_1071 ev_1071 => ?_)
        have qv_1071 := ba_add ev_1071 bv_1069 nc_1068.1 (by decide)
        have bv_1071 : (48 : Int) ≤ v_1071.toInt ∧ v_1071.toInt ≤ 10000057 := bq_add qv_1071 bv_1069 nc_1068.1 _ _ (by decide)
        refine lv_bipush (v := 48) hx hb dX3_takeNumber_69 (by decide) ?_
        refine lv_isub hx hb dX3_takeNumber_71 ?_
        refine lv_topi (fun v_1072 ev_1072 => ?_)
        have qv_1072 := ba_sub ev_1072 bv_1071 (bkc (x := 48) (c := 48) (by decide)) (by decide)
        have bv_1072 : (0 : Int) ≤ v_1072.toInt ∧ v_1072.toInt ≤ 10000009 := bq_sub qv_1072 bv_1071 (bkc (x := 48) (c := 48) (by decide)) _ _ (by decide)
        have qv_1072 : v_1072.toInt = v_1071.toInt - (48) := qv_1072
        refine va_mmin (own := RX3) hx hb (by rw [hml]; exact hl.1.symm) hown (hw0 _ m_755) (hw0 _ m_282) (hw0 _ m_283) (hw0 _ m_284) (Nat.le_of_ble_eq_true rfl) (Nat.le_of_ble_eq_true rfl) (Nat.zero_le _) (Nat.zero_le _) dX3_takeNumber_72 ?_
        refine lv_topi (fun v_1073 ev_1073 => ?_)
        have bv_1073 : (0 : Int) ≤ v_1073.toInt ∧ v_1073.toInt ≤ 1000000 := bm_min ev_1073 (bkc (x := 1000000) (c := 1000000) (by decide)) bv_1072 _ _ (by decide)
        have mqv_1073 := mn_q ev_1073
        have mzv_1073 : Int32.toInt 1000000 = 1000000 := by decide
        refine va_put (D := G) (ci := 3) (v := .int v_1073) (ty := .int) (C := RX3) (T := TX3) (N := 10) hx hb hw0 inA_wsX30 tyX3 tyX3_ok nmX3 hown hK.1 hP hD hS 0 rfl rfl 9 (by decide) (hw0 _ m_753) (fun _ h9 => h9) rfl fd_X3_9 rfl rfl (Nat.le_of_ble_eq_true rfl) dX3_takeNumber_75 (fun H locs hP hD hS => ?_)
        obtain ⟨hP, hD⟩ : vPD G A H [(ce_X3 ob ob_town ob_code ob_fault ob_place ob_text ob_size ob_begin v_1051 2 v_1073), (ce_b1400 y ob_text fob_text)] := ⟨hP, hD⟩
        refine lv_aload_n hx hb dX3_takeNumber_78 rfl (lv_at hl 0 rfl) ?_
        refine lv_dup hx hb dX3_takeNumber_79 rfl ?_
        refine va_get (D := G) (ci := 3) (v := .int v_1051) (C := RX3) (T := TX3) (N := 10) hx hb hw0 inA_wsX30 hown hK.1 hP 0 rfl rfl 7 (by decide) (hw0 _ m_715) (fun _ h9 => h9) rfl dX3_takeNumber_80 ?_
        refine lv_iconst (v := 1) hx hb dX3_takeNumber_83 (by decide) ?_
        refine lv_iadd hx hb dX3_takeNumber_84 ?_
        refine lv_topi (fun v_1074 ev_1074 => ?_)
        have qv_1074 := ba_add ev_1074 nc_1064.1 (bkc (x := 1) (c := 1) (by decide)) (by decide)
        have bv_1074 : (1 : Int) ≤ v_1074.toInt ∧ v_1074.toInt ≤ 1400 := bq_add qv_1074 nc_1064.1 (bkc (x := 1) (c := 1) (by decide)) _ _ (by decide)
        have qv_1074 : v_1074.toInt = v_1051.toInt + (1) := qv_1074
        refine va_put (D := G) (ci := 3) (v := .int v_1074) (ty := .int) (C := RX3) (T := TX3) (N := 10) hx hb hw0 inA_wsX30 tyX3 tyX3_ok nmX3 hown hK.1 hP hD hS 0 rfl rfl 7 (by decide) (hw0 _ m_715) (fun _ h9 => h9) rfl fd_X3_7 rfl rfl (Nat.le_of_ble_eq_true rfl) dX3_takeNumber_85 (fun H locs hP hD hS => ?_)
        obtain ⟨hP, hD⟩ : vPD G A H [(ce_X3 ob ob_town ob_code ob_fault ob_place ob_text ob_size ob_begin v_1074 2 v_1073), (ce_b1400 y ob_text fob_text)] := ⟨hP, hD⟩
        refine lv_goto (tgt := 10) hx hb dX3_takeNumber_88 (by decide) ?_
        exact ih_1063 _ (ml_inc (hi := 1400) hn_1063 qv_1074 (by decide) ((bw (0) (1400) bv_1074 (by decide))).2) _ _ _ _ ⟨v_1074, v_1073, rfl, (bw (0) (1400) bv_1074 (by decide)), bv_1073, (by have lm1 : Int32.toInt (-1) = -1 := (by decide); have l91 : Int32.toInt 1 = 1 := (by decide); have l92 : Int32.toInt 2 = 2 := (by decide); have l93 : Int32.toInt 3 = 3 := (by decide); have h90 : Int32.toInt 2 = 2 := (by decide); first | exact rn_0 (by omega) | exact rn_s rl1052_0 (cN_t ⟨by omega, by omega⟩) (by omega) (by omega)), (by have lm1 : Int32.toInt (-1) = -1 := (by decide); have l91 : Int32.toInt 1 = 1 := (by decide); have l92 : Int32.toInt 2 = 2 := (by decide); have l93 : Int32.toInt 3 = 3 := (by decide); have h90 : Int32.toInt 2 = 2 := (by decide); first | exact dg_0 (by decide) (by omega) (by omega) | exact dg_s (by decide) rl1052_0 rl1052_1 (by omega) ⟨by omega, by omega⟩ (by omega)), rfl, ⟨hP, hD⟩, hS, lv_sub hl [0] rfl⟩

set_option maxHeartbeats 4000000 in
set_option maxRecDepth 100000 in
theorem sX3_advance (l : Launch) (G : va_G) (y : Nat → ClassId) (sz : Nat) (ob : Nat) (ob_town : Nat) (ob_code : Nat) (ob_fault : Int32) (ob_place : Int32) (ob_text : Nat) (ob_size : Int32) (ob_begin : Int32) (ob_next : Int32) (ob_kind : Int32) (ob_value : Int32) (fob_text : Nat → Int32) (p_ob_fault : (0 : Int) ≤ ob_fault.toInt ∧ ob_fault.toInt ≤ 3) (p_ob_size : (0 : Int) ≤ ob_size.toInt ∧ ob_size.toInt ≤ 1400) (p_ob_begin : (0 : Int) ≤ ob_begin.toInt ∧ ob_begin.toInt ≤ 1400) (p_ob_next : (0 : Int) ≤ ob_next.toInt ∧ ob_next.toInt ≤ 1400) (p_ob_kind : (0 : Int) ≤ ob_kind.toInt ∧ ob_kind.toInt ≤ 4) (p_ob_value : (0 : Int) ≤ ob_value.toInt ∧ ob_value.toInt ≤ 1000000) (hq0 : ob_next.toInt ≤ ob_size.toInt) : Met l yX3_advance (Cond.code yX3_advance cX3_advance 1 none :: wAll) ({ frames := 2, cells := 0, slots := 0, locals := 41 }) (va_Pc [.ref ob] (kp G y sz [(ce_X3 ob ob_town ob_code ob_fault ob_place ob_text ob_size ob_begin ob_next ob_kind ob_value), (ce_b1400 y ob_text fob_text)])) (va_Qv (fun (w : va_W) => (∃ (v_201 : Int32) (v_202 : Int32) (v_203 : Int32) (v_204 : Int32), ((0 : Int) ≤ v_201.toInt ∧ v_201.toInt ≤ 1400) ∧ ((0 : Int) ≤ v_202.toInt ∧ v_202.toInt ≤ 1400) ∧ ((0 : Int) ≤ v_203.toInt ∧ v_203.toInt ≤ 4) ∧ ((0 : Int) ≤ v_204.toInt ∧ v_204.toInt ≤ 1000000) ∧ (qTok fob_text ob_size.toInt 1000000 v_203.toInt v_201.toInt v_202.toInt v_204.toInt) ∧ (qrun qcB fob_text ob_size.toInt ob_next.toInt = v_201.toInt) ∧ w = [(ce_X3 ob ob_town ob_code ob_fault ob_place ob_text ob_size v_201 v_202 v_203 v_204), (ce_b1400 y ob_text fob_text)])) (kq G (va_A [(ce_X3 ob ob_town ob_code ob_fault ob_place ob_text ob_size ob_begin ob_next ob_kind ob_value), (ce_b1400 y ob_text fob_text)] sz)) (va_A [(ce_X3 ob ob_town ob_code ob_fault ob_place ob_text ob_size ob_begin ob_next ob_kind ob_value), (ce_b1400 y ob_text fob_text)] sz)) 0 0 (va_A [(ce_X3 ob ob_town ob_code ob_fault ob_place ob_text ob_size ob_begin ob_next ob_kind ob_value), (ce_b1400 y ob_text fob_text)] sz) := by
  refine Met.ofW (cc := cX3_advance) (maxL := 1) (ret := none) (by decide) rfl ?_
  intro p e s m args below meth c s₁ B hml hv
  obtain ⟨rfl, hsz, hP, hK, hD0⟩ := hv
  have hx := B.exec
  have hb := B.bytes
  have hr := B.returns
  have hw0 : ∀ w ∈ wAll, w.before _ s = true := fun w h => atoms_spec (ws := Cond.code yX3_advance cX3_advance 1 none :: wAll) B.pre w (List.mem_cons_of_mem _ h)
  have hown : s.vm.findClass RX3 = some m.cls := findClass_of_methodNamed B.named
  subst hsz
  have hD := hD0.self (sz := s.heap.size)
  generalize hAe : va_A [(ce_X3 ob ob_town ob_code ob_fault ob_place ob_text ob_size ob_begin ob_next ob_kind ob_value), (ce_b1400 y ob_text fob_text)] s.heap.size = A at hD ⊢
  have hA : ∀ q : Nat, s.heap.size ≤ q → A q := fun q h => by rw [← hAe]; exact Or.inr h
  have hS : va_S A s.heap s.heap [] := va_S.rf
  have hP : va_P G vwCl [(ce_X3 ob ob_town ob_code ob_fault ob_place ob_text ob_size ob_begin ob_next ob_kind ob_value), (ce_b1400 y ob_text fob_text)] s.heap := hP
  have hl := lv_entry ([.ref ob]) (n := 1) (Nat.le_of_ble_eq_true rfl)
  rw [lg_entry_eq]
  generalize (lg_sl ([.ref ob]) ++ List.replicate (1 - (lg_sl ([.ref ob])).length) Slot.unset).toArray = ls at hl ⊢
  have hl : lv_has ls 1 [(0, .ref ob)] := hl
  refine loopX (fun n H locs ls st => ∃ (v_1045 : Int32), (1400 - v_1045.toInt).toNat = n ∧ ((0 : Int) ≤ v_1045.toInt ∧ v_1045.toInt ≤ 1400) ∧ (v_1045.toInt ≤ ob_size.toInt) ∧ (qrn qcB fob_text ob_size.toInt ob_next.toInt v_1045.toInt) ∧ st = [] ∧ vPD G A H [(ce_X3 ob ob_town ob_code ob_fault ob_place ob_text ob_size ob_begin v_1045 ob_kind ob_value), (ce_b1400 y ob_text fob_text)] ∧ va_S A s.heap H locs ∧ lv_has ls 1 [(0, .ref ob)]) ?_ (n := (1400 - ob_next.toInt).toNat) ⟨ob_next, rfl, p_ob_next, (by omega), (by have lm1 : Int32.toInt (-1) = -1 := (by decide); have l91 : Int32.toInt 1 = 1 := (by decide); have l92 : Int32.toInt 2 = 2 := (by decide); have l93 : Int32.toInt 3 = 3 := (by decide); first | exact rn_0 (by omega) | exact rn_s rl1045_1 (cB_t (by omega)) (by omega) (by omega)), rfl, ⟨hP, hD⟩, hS, lv_sub hl [0] rfl⟩
  rintro n ih_1059 H locs ls st ⟨v_1045, hn_1059, bv_1045, rl1045_0, rl1045_1, rfl, ⟨hP, hD⟩, hS, hl⟩
  refine lv_aload_n hx hb dX3_advance_0 rfl (lv_at hl 0 rfl) ?_
  refine va_get (D := G) (ci := 3) (v := .int v_1045) (C := RX3) (T := TX3) (N := 10) hx hb hw0 inA_wsX30 hown hK.1 hP 0 rfl rfl 7 (by decide) (hw0 _ m_715) (fun _ h9 => h9) rfl dX3_advance_1 ?_
  refine lv_aload_n hx hb dX3_advance_4 rfl (lv_at hl 0 rfl) ?_
  refine va_get (D := G) (ci := 3) (v := .int ob_size) (C := RX3) (T := TX3) (N := 10) hx hb hw0 inA_wsX30 hown hK.1 hP 0 rfl rfl 5 (by decide) (hw0 _ m_716) (fun _ h9 => h9) rfl dX3_advance_5 ?_
  refine cutW 52 (fun H locs ls st => (v_1045.toInt ≤ ob_size.toInt) ∧ (qrun qcB fob_text ob_size.toInt ob_next.toInt = v_1045.toInt) ∧ st = [] ∧ vPD G A H [(ce_X3 ob ob_town ob_code ob_fault ob_place ob_text ob_size ob_begin v_1045 ob_kind ob_value), (ce_b1400 y ob_text fob_text)] ∧ va_S A s.heap H locs ∧ lv_has ls 1 [(0, .ref ob)]) ?_ (fun J_52_1066 => ?_)
  · rintro H locs ls st ⟨rl1066_0, rl1066_1, rfl, ⟨hP, hD⟩, hS, hl⟩
    refine lv_aload_n hx hb dX3_advance_52 rfl (lv_at hl 0 rfl) ?_
    refine lv_aload_n hx hb dX3_advance_53 rfl (lv_at hl 0 rfl) ?_
    refine va_get (D := G) (ci := 3) (v := .int v_1045) (C := RX3) (T := TX3) (N := 10) hx hb hw0 inA_wsX30 hown hK.1 hP 0 rfl rfl 7 (by decide) (hw0 _ m_715) (fun _ h9 => h9) rfl dX3_advance_54 ?_
    refine va_put (D := G) (ci := 3) (v := .int v_1045) (ty := .int) (C := RX3) (T := TX3) (N := 10) hx hb hw0 inA_wsX30 tyX3 tyX3_ok nmX3 hown hK.1 hP hD hS 0 rfl rfl 6 (by decide) (hw0 _ m_718) (fun _ h9 => h9) rfl fd_X3_6 rfl rfl (Nat.le_of_ble_eq_true rfl) dX3_advance_57 (fun H locs hP hD hS => ?_)
    obtain ⟨hP, hD⟩ : vPD G A H [(ce_X3 ob ob_town ob_code ob_fault ob_place ob_text ob_size v_1045 v_1045 ob_kind ob_value), (ce_b1400 y ob_text fob_text)] := ⟨hP, hD⟩
    refine lv_aload_n hx hb dX3_advance_60 rfl (lv_at hl 0 rfl) ?_
    refine va_get (D := G) (ci := 3) (v := .int v_1045) (C := RX3) (T := TX3) (N := 10) hx hb hw0 inA_wsX30 hown hK.1 hP 0 rfl rfl 7 (by decide) (hw0 _ m_715) (fun _ h9 => h9) rfl dX3_advance_61 ?_
    refine lv_aload_n hx hb dX3_advance_64 rfl (lv_at hl 0 rfl) ?_
    refine va_get (D := G) (ci := 3) (v := .int ob_size) (C := RX3) (T := TX3) (N := 10) hx hb hw0 inA_wsX30 hown hK.1 hP 0 rfl rfl 5 (by decide) (hw0 _ m_716) (fun _ h9 => h9) rfl dX3_advance_65 ?_
    refine lv_icmp_lt (tgt := 79) hx hb dX3_advance_68 (by decide) (fun c_1067 => ?_) (fun c_1067 => ?_)
    · skip
      have nc_1067 := nb_lt (1399) (1) c_1067 bv_1045 p_ob_size (by decide)
      refine lv_aload_n hx hb dX3_advance_79 rfl (lv_at hl 0 rfl) ?_
      refine va_get (D := G) (ci := 3) (v := .ref ob_text) (C := RX3) (T := TX3) (N := 10) hx hb hw0 inA_wsX30 hown hK.1 hP 0 rfl rfl 4 (by decide) (hw0 _ m_717) (fun _ h9 => h9) rfl dX3_advance_80 ?_
      refine lv_aload_n hx hb dX3_advance_83 rfl (lv_at hl 0 rfl) ?_
      refine va_get (D := G) (ci := 3) (v := .int v_1045) (C := RX3) (T := TX3) (N := 10) hx hb hw0 inA_wsX30 hown hK.1 hP 0 rfl rfl 7 (by decide) (hw0 _ m_715) (fun _ h9 => h9) rfl dX3_advance_84 ?_
      refine va_bald hx hb hK.1 hP 1 0 rfl rfl (vi nc_1067.1 (by decide)) dX3_advance_87 ?_
      refine lv_topi (fun v_1068 ev_1068 => ?_)
      have tbv_1068 : qtb fob_text (v_1045 : Int32).toInt = v_1068.toInt := tb_e ev_1068 (by omega)
      refine lv_bipush (v := 97) hx hb dX3_advance_88 (by decide) ?_
      refine lv_icmp_lt (tgt := 114) hx hb dX3_advance_90 (by decide) (fun c_1069 => ?_) (fun c_1069 => ?_)
      · skip
        have nc_1069 := nb_lt (96) (97) c_1069 (btop v_1068) (bkc (x := 97) (c := 97) (by decide)) (by decide)
        refine lv_aload_n hx hb dX3_advance_114 rfl (lv_at hl 0 rfl) ?_
        refine va_get (D := G) (ci := 3) (v := .ref ob_text) (C := RX3) (T := TX3) (N := 10) hx hb hw0 inA_wsX30 hown hK.1 hP 0 rfl rfl 4 (by decide) (hw0 _ m_717) (fun _ h9 => h9) rfl dX3_advance_115 ?_
        refine lv_aload_n hx hb dX3_advance_118 rfl (lv_at hl 0 rfl) ?_
        refine va_get (D := G) (ci := 3) (v := .int v_1045) (C := RX3) (T := TX3) (N := 10) hx hb hw0 inA_wsX30 hown hK.1 hP 0 rfl rfl 7 (by decide) (hw0 _ m_715) (fun _ h9 => h9) rfl dX3_advance_119 ?_
        refine va_bald hx hb hK.1 hP 1 0 rfl rfl (vi nc_1067.1 (by decide)) dX3_advance_122 ?_
        refine lv_topi (fun v_1070 ev_1070 => ?_)
        obtain rfl : v_1068 = v_1070 := (ev_1070.trans (ev_1068.symm)).symm
        refine lv_bipush (v := 48) hx hb dX3_advance_123 (by decide) ?_
        refine lv_icmp_lt (tgt := 149) hx hb dX3_advance_125 (by decide) (fun c_1071 => ?_) (fun c_1071 => ?_)
        · skip
          have nc_1071 := nb_lt (47) (48) c_1071 nc_1069.1 (bkc (x := 48) (c := 48) (by decide)) (by decide)
          refine lv_aload_n hx hb dX3_advance_149 rfl (lv_at hl 0 rfl) ?_
          refine lv_aload_n hx hb dX3_advance_150 rfl (lv_at hl 0 rfl) ?_
          refine va_get (D := G) (ci := 3) (v := .ref ob_text) (C := RX3) (T := TX3) (N := 10) hx hb hw0 inA_wsX30 hown hK.1 hP 0 rfl rfl 4 (by decide) (hw0 _ m_717) (fun _ h9 => h9) rfl dX3_advance_151 ?_
          refine lv_aload_n hx hb dX3_advance_154 rfl (lv_at hl 0 rfl) ?_
          refine va_get (D := G) (ci := 3) (v := .int v_1045) (C := RX3) (T := TX3) (N := 10) hx hb hw0 inA_wsX30 hown hK.1 hP 0 rfl rfl 7 (by decide) (hw0 _ m_715) (fun _ h9 => h9) rfl dX3_advance_155 ?_
          refine va_bald hx hb hK.1 hP 1 0 rfl rfl (vi nc_1067.1 (by decide)) dX3_advance_158 ?_
          refine lv_topi (fun v_1072 ev_1072 => ?_)
          obtain rfl : v_1068 = v_1072 := (ev_1072.trans (ev_1068.symm)).symm
          refine lv_bipush (v := 59) hx hb dX3_advance_159 (by decide) ?_
          refine lv_icmp_ne (tgt := 168) hx hb dX3_advance_161 (by decide) (fun _ => ?_) (fun c9 => absurd c9 (dc_neq nc_1071.1 (bkc (x := 59) (c := 59) (by decide)) (by decide)))
          refine lv_iconst (v := 4) hx hb dX3_advance_168 (by decide) ?_
          refine va_put (D := G) (ci := 3) (v := .int 4) (ty := .int) (C := RX3) (T := TX3) (N := 10) hx hb hw0 inA_wsX30 tyX3 tyX3_ok nmX3 hown hK.1 hP hD hS 0 rfl rfl 8 (by decide) (hw0 _ m_719) (fun _ h9 => h9) rfl fd_X3_8 rfl rfl (Nat.le_of_ble_eq_true rfl) dX3_advance_169 (fun H locs hP hD hS => ?_)
          obtain ⟨hP, hD⟩ : vPD G A H [(ce_X3 ob ob_town ob_code ob_fault ob_place ob_text ob_size v_1045 v_1045 4 ob_value), (ce_b1400 y ob_text fob_text)] := ⟨hP, hD⟩
          refine lv_aload_n hx hb dX3_advance_172 rfl (lv_at hl 0 rfl) ?_
          refine lv_dup hx hb dX3_advance_173 rfl ?_
          refine va_get (D := G) (ci := 3) (v := .int v_1045) (C := RX3) (T := TX3) (N := 10) hx hb hw0 inA_wsX30 hown hK.1 hP 0 rfl rfl 7 (by decide) (hw0 _ m_715) (fun _ h9 => h9) rfl dX3_advance_174 ?_
          refine lv_iconst (v := 1) hx hb dX3_advance_177 (by decide) ?_
          refine lv_iadd hx hb dX3_advance_178 ?_
          refine lv_topi (fun v_1073 ev_1073 => ?_)
          have qv_1073 := ba_add ev_1073 nc_1067.1 (bkc (x := 1) (c := 1) (by decide)) (by decide)
          have bv_1073 : (1 : Int) ≤ v_1073.toInt ∧ v_1073.toInt ≤ 1400 := bq_add qv_1073 nc_1067.1 (bkc (x := 1) (c := 1) (by decide)) _ _ (by decide)
          have qv_1073 : v_1073.toInt = v_1045.toInt + (1) := qv_1073
          refine va_put (D := G) (ci := 3) (v := .int v_1073) (ty := .int) (C := RX3) (T := TX3) (N := 10) hx hb hw0 inA_wsX30 tyX3 tyX3_ok nmX3 hown hK.1 hP hD hS 0 rfl rfl 7 (by decide) (hw0 _ m_715) (fun _ h9 => h9) rfl fd_X3_7 rfl rfl (Nat.le_of_ble_eq_true rfl) dX3_advance_179 (fun H locs hP hD hS => ?_)
          obtain ⟨hP, hD⟩ : vPD G A H [(ce_X3 ob ob_town ob_code ob_fault ob_place ob_text ob_size v_1045 v_1073 4 ob_value), (ce_b1400 y ob_text fob_text)] := ⟨hP, hD⟩
          exact W.vret hx hb hr (fun t ht hW => ⟨⟨_, rfl, ⟨v_1045, v_1073, 4, ob_value, (bw (0) (1400) nc_1067.1 (by decide)), (bw (0) (1400) bv_1073 (by decide)), (bw (0) (4) (bkc (x := 4) (c := 4) (by decide)) (by decide)), p_ob_value, (by have lm1 : Int32.toInt (-1) = -1 := (by decide); have l91 : Int32.toInt 1 = 1 := (by decide); have l92 : Int32.toInt 2 = 2 := (by decide); have l93 : Int32.toInt 3 = 3 := (by decide); have h90 : Int32.toInt 4 = 4 := (by decide); first | exact tok_end (by omega) ⟨by omega, by omega⟩ (by omega) (by omega) | exact tok_w (by omega) (by omega) ⟨by omega, by omega⟩ (by omega) (by assumption) | exact tok_n (by omega) (by omega) ⟨by omega, by omega⟩ (by omega) (by assumption) (by assumption) | exact tok_s (by omega) (by omega) (by omega) (by omega) (by omega) | exact tok_x (by omega) (by omega) (by omega) (by omega) (by omega) (by omega) (by omega)), (by assumption), rfl⟩, by rw [ht]; exact hP, hD⟩, hS.F ht⟩) hS.2.2 dX3_advance_182
        · skip
          have nc_1071 := nb_nlt (48) (48) c_1071 (bkc (x := 48) (c := 48) (by decide)) nc_1069.1 (by decide)
          refine lv_aload_n hx hb dX3_advance_128 rfl (lv_at hl 0 rfl) ?_
          refine va_get (D := G) (ci := 3) (v := .ref ob_text) (C := RX3) (T := TX3) (N := 10) hx hb hw0 inA_wsX30 hown hK.1 hP 0 rfl rfl 4 (by decide) (hw0 _ m_717) (fun _ h9 => h9) rfl dX3_advance_129 ?_
          refine lv_aload_n hx hb dX3_advance_132 rfl (lv_at hl 0 rfl) ?_
          refine va_get (D := G) (ci := 3) (v := .int v_1045) (C := RX3) (T := TX3) (N := 10) hx hb hw0 inA_wsX30 hown hK.1 hP 0 rfl rfl 7 (by decide) (hw0 _ m_715) (fun _ h9 => h9) rfl dX3_advance_133 ?_
          refine va_bald hx hb hK.1 hP 1 0 rfl rfl (vi nc_1067.1 (by decide)) dX3_advance_136 ?_
          refine lv_topi (fun v_1074 ev_1074 => ?_)
          obtain rfl : v_1068 = v_1074 := (ev_1074.trans (ev_1068.symm)).symm
          refine lv_bipush (v := 57) hx hb dX3_advance_137 (by decide) ?_
          refine lv_icmp_gt (tgt := 149) hx hb dX3_advance_139 (by decide) (fun c_1075 => ?_) (fun c_1075 => ?_)
          · skip
            have nc_1075 := nb_lt (57) (58) c_1075 (bkc (x := 57) (c := 57) (by decide)) nc_1071.2.1 (by decide)
            refine lv_aload_n hx hb dX3_advance_149 rfl (lv_at hl 0 rfl) ?_
            refine lv_aload_n hx hb dX3_advance_150 rfl (lv_at hl 0 rfl) ?_
            refine va_get (D := G) (ci := 3) (v := .ref ob_text) (C := RX3) (T := TX3) (N := 10) hx hb hw0 inA_wsX30 hown hK.1 hP 0 rfl rfl 4 (by decide) (hw0 _ m_717) (fun _ h9 => h9) rfl dX3_advance_151 ?_
            refine lv_aload_n hx hb dX3_advance_154 rfl (lv_at hl 0 rfl) ?_
            refine va_get (D := G) (ci := 3) (v := .int v_1045) (C := RX3) (T := TX3) (N := 10) hx hb hw0 inA_wsX30 hown hK.1 hP 0 rfl rfl 7 (by decide) (hw0 _ m_715) (fun _ h9 => h9) rfl dX3_advance_155 ?_
            refine va_bald hx hb hK.1 hP 1 0 rfl rfl (vi nc_1067.1 (by decide)) dX3_advance_158 ?_
            refine lv_topi (fun v_1076 ev_1076 => ?_)
            obtain rfl : v_1068 = v_1076 := (ev_1076.trans (ev_1068.symm)).symm
            refine lv_bipush (v := 59) hx hb dX3_advance_159 (by decide) ?_
            refine lv_icmp_ne (tgt := 168) hx hb dX3_advance_161 (by decide) (fun c_1077 => ?_) (fun c_1077 => ?_)
            · skip
              have nc_1077 := nb_ne (58) (96) c_1077 nc_1075.2.1 (k := 59) (by decide) (by decide)
              refine lv_iconst (v := 4) hx hb dX3_advance_168 (by decide) ?_
              refine va_put (D := G) (ci := 3) (v := .int 4) (ty := .int) (C := RX3) (T := TX3) (N := 10) hx hb hw0 inA_wsX30 tyX3 tyX3_ok nmX3 hown hK.1 hP hD hS 0 rfl rfl 8 (by decide) (hw0 _ m_719) (fun _ h9 => h9) rfl fd_X3_8 rfl rfl (Nat.le_of_ble_eq_true rfl) dX3_advance_169 (fun H locs hP hD hS => ?_)
              obtain ⟨hP, hD⟩ : vPD G A H [(ce_X3 ob ob_town ob_code ob_fault ob_place ob_text ob_size v_1045 v_1045 4 ob_value), (ce_b1400 y ob_text fob_text)] := ⟨hP, hD⟩
              refine lv_aload_n hx hb dX3_advance_172 rfl (lv_at hl 0 rfl) ?_
              refine lv_dup hx hb dX3_advance_173 rfl ?_
              refine va_get (D := G) (ci := 3) (v := .int v_1045) (C := RX3) (T := TX3) (N := 10) hx hb hw0 inA_wsX30 hown hK.1 hP 0 rfl rfl 7 (by decide) (hw0 _ m_715) (fun _ h9 => h9) rfl dX3_advance_174 ?_
              refine lv_iconst (v := 1) hx hb dX3_advance_177 (by decide) ?_
              refine lv_iadd hx hb dX3_advance_178 ?_
              refine lv_topi (fun v_1078 ev_1078 => ?_)
              have qv_1078 := ba_add ev_1078 nc_1067.1 (bkc (x := 1) (c := 1) (by decide)) (by decide)
              have bv_1078 : (1 : Int) ≤ v_1078.toInt ∧ v_1078.toInt ≤ 1400 := bq_add qv_1078 nc_1067.1 (bkc (x := 1) (c := 1) (by decide)) _ _ (by decide)
              have qv_1078 : v_1078.toInt = v_1045.toInt + (1) := qv_1078
              refine va_put (D := G) (ci := 3) (v := .int v_1078) (ty := .int) (C := RX3) (T := TX3) (N := 10) hx hb hw0 inA_wsX30 tyX3 tyX3_ok nmX3 hown hK.1 hP hD hS 0 rfl rfl 7 (by decide) (hw0 _ m_715) (fun _ h9 => h9) rfl fd_X3_7 rfl rfl (Nat.le_of_ble_eq_true rfl) dX3_advance_179 (fun H locs hP hD hS => ?_)
              obtain ⟨hP, hD⟩ : vPD G A H [(ce_X3 ob ob_town ob_code ob_fault ob_place ob_text ob_size v_1045 v_1078 4 ob_value), (ce_b1400 y ob_text fob_text)] := ⟨hP, hD⟩
              exact W.vret hx hb hr (fun t ht hW => ⟨⟨_, rfl, ⟨v_1045, v_1078, 4, ob_value, (bw (0) (1400) nc_1067.1 (by decide)), (bw (0) (1400) bv_1078 (by decide)), (bw (0) (4) (bkc (x := 4) (c := 4) (by decide)) (by decide)), p_ob_value, (by have lm1 : Int32.toInt (-1) = -1 := (by decide); have l91 : Int32.toInt 1 = 1 := (by decide); have l92 : Int32.toInt 2 = 2 := (by decide); have l93 : Int32.toInt 3 = 3 := (by decide); have h90 : Int32.toInt 4 = 4 := (by decide); first | exact tok_end (by omega) ⟨by omega, by omega⟩ (by omega) (by omega) | exact tok_w (by omega) (by omega) ⟨by omega, by omega⟩ (by omega) (by assumption) | exact tok_n (by omega) (by omega) ⟨by omega, by omega⟩ (by omega) (by assumption) (by assumption) | exact tok_s (by omega) (by omega) (by omega) (by omega) (by omega) | exact tok_x (by omega) (by omega) (by omega) (by omega) (by omega) (by omega) (by omega)), (by assumption), rfl⟩, by rw [ht]; exact hP, hD⟩, hS.F ht⟩) hS.2.2 dX3_advance_182
            · skip
              have nc_1077 := nb_eq (59) (59) c_1077 nc_1075.2.1 (bkc (x := 59) (c := 59) (by decide)) (by decide)
              refine lv_iconst (v := 3) hx hb dX3_advance_164 (by decide) ?_
              refine lv_goto (tgt := 169) hx hb dX3_advance_165 (by decide) ?_
              refine va_put (D := G) (ci := 3) (v := .int 3) (ty := .int) (C := RX3) (T := TX3) (N := 10) hx hb hw0 inA_wsX30 tyX3 tyX3_ok nmX3 hown hK.1 hP hD hS 0 rfl rfl 8 (by decide) (hw0 _ m_719) (fun _ h9 => h9) rfl fd_X3_8 rfl rfl (Nat.le_of_ble_eq_true rfl) dX3_advance_169 (fun H locs hP hD hS => ?_)
              obtain ⟨hP, hD⟩ : vPD G A H [(ce_X3 ob ob_town ob_code ob_fault ob_place ob_text ob_size v_1045 v_1045 3 ob_value), (ce_b1400 y ob_text fob_text)] := ⟨hP, hD⟩
              refine lv_aload_n hx hb dX3_advance_172 rfl (lv_at hl 0 rfl) ?_
              refine lv_dup hx hb dX3_advance_173 rfl ?_
              refine va_get (D := G) (ci := 3) (v := .int v_1045) (C := RX3) (T := TX3) (N := 10) hx hb hw0 inA_wsX30 hown hK.1 hP 0 rfl rfl 7 (by decide) (hw0 _ m_715) (fun _ h9 => h9) rfl dX3_advance_174 ?_
              refine lv_iconst (v := 1) hx hb dX3_advance_177 (by decide) ?_
              refine lv_iadd hx hb dX3_advance_178 ?_
              refine lv_topi (fun v_1079 ev_1079 => ?_)
              have qv_1079 := ba_add ev_1079 nc_1067.1 (bkc (x := 1) (c := 1) (by decide)) (by decide)
              have bv_1079 : (1 : Int) ≤ v_1079.toInt ∧ v_1079.toInt ≤ 1400 := bq_add qv_1079 nc_1067.1 (bkc (x := 1) (c := 1) (by decide)) _ _ (by decide)
              have qv_1079 : v_1079.toInt = v_1045.toInt + (1) := qv_1079
              refine va_put (D := G) (ci := 3) (v := .int v_1079) (ty := .int) (C := RX3) (T := TX3) (N := 10) hx hb hw0 inA_wsX30 tyX3 tyX3_ok nmX3 hown hK.1 hP hD hS 0 rfl rfl 7 (by decide) (hw0 _ m_715) (fun _ h9 => h9) rfl fd_X3_7 rfl rfl (Nat.le_of_ble_eq_true rfl) dX3_advance_179 (fun H locs hP hD hS => ?_)
              obtain ⟨hP, hD⟩ : vPD G A H [(ce_X3 ob ob_town ob_code ob_fault ob_place ob_text ob_size v_1045 v_1079 3 ob_value), (ce_b1400 y ob_text fob_text)] := ⟨hP, hD⟩
              exact W.vret hx hb hr (fun t ht hW => ⟨⟨_, rfl, ⟨v_1045, v_1079, 3, ob_value, (bw (0) (1400) nc_1067.1 (by decide)), (bw (0) (1400) bv_1079 (by decide)), (bw (0) (4) (bkc (x := 3) (c := 3) (by decide)) (by decide)), p_ob_value, (by have lm1 : Int32.toInt (-1) = -1 := (by decide); have l91 : Int32.toInt 1 = 1 := (by decide); have l92 : Int32.toInt 2 = 2 := (by decide); have l93 : Int32.toInt 3 = 3 := (by decide); have h90 : Int32.toInt 3 = 3 := (by decide); first | exact tok_end (by omega) ⟨by omega, by omega⟩ (by omega) (by omega) | exact tok_w (by omega) (by omega) ⟨by omega, by omega⟩ (by omega) (by assumption) | exact tok_n (by omega) (by omega) ⟨by omega, by omega⟩ (by omega) (by assumption) (by assumption) | exact tok_s (by omega) (by omega) (by omega) (by omega) (by omega) | exact tok_x (by omega) (by omega) (by omega) (by omega) (by omega) (by omega) (by omega)), (by assumption), rfl⟩, by rw [ht]; exact hP, hD⟩, hS.F ht⟩) hS.2.2 dX3_advance_182
          · skip
            have nc_1075 := nb_nlt (57) (57) c_1075 nc_1071.2.1 (bkc (x := 57) (c := 57) (by decide)) (by decide)
            refine lv_aload_n hx hb dX3_advance_142 rfl (lv_at hl 0 rfl) ?_
            refine cVvm (As := []) (rest := []) ⟨hx, hb, hml, hown, hw0⟩ hA hK hP hD hS [true, true] (sX3_takeNumber l G y _ ob ob_town ob_code ob_fault ob_place ob_text ob_size v_1045 v_1045 ob_kind ob_value fob_text p_ob_fault (bw (0) (1400) nc_1067.2.1 (by decide)) (bw (0) (1400) nc_1067.1 (by decide)) (bw (0) (1400) nc_1067.1 (by decide)) p_ob_kind p_ob_value) rfl ⟨(callB_of 0 hw0 (gA m_817) rfl rfl rfl (hw0 _ m_721) (hw0 _ m_724) cb_X3_takeNumber ⟨Nat.le_of_ble_eq_true rfl, Nat.le_of_ble_eq_true rfl⟩), (hw0 _ m_725), (hw0 _ m_726)⟩ (ci := 3) (q := (RX3, TX3, 10)) rfl rfl rfl hl.1 (Nat.le_of_ble_eq_true rfl) dX3_advance_143 ⟨Nat.le_of_ble_eq_true rfl, Nat.le_of_ble_eq_true rfl⟩ (fun w_1080 H locs hw_1080 hP hD hS => ?_)
            obtain ⟨v_1081, v_1082, bv_1081, bv_1082, h_1083, h_1084, rfl⟩ := hw_1080
            obtain ⟨hP, hD⟩ : vPD G A H [(ce_X3 ob ob_town ob_code ob_fault ob_place ob_text ob_size v_1045 v_1081 2 v_1082), (ce_b1400 y ob_text fob_text)] := ⟨hP, hD⟩
            refine lv_goto (tgt := 182) hx hb dX3_advance_146 (by decide) ?_
            exact W.vret hx hb hr (fun t ht hW => ⟨⟨_, rfl, ⟨v_1045, v_1081, 2, v_1082, (bw (0) (1400) nc_1067.1 (by decide)), bv_1081, (bw (0) (4) (bkc (x := 2) (c := 2) (by decide)) (by decide)), bv_1082, (by have lm1 : Int32.toInt (-1) = -1 := (by decide); have l91 : Int32.toInt 1 = 1 := (by decide); have l92 : Int32.toInt 2 = 2 := (by decide); have l93 : Int32.toInt 3 = 3 := (by decide); have h90 : Int32.toInt 2 = 2 := (by decide); first | exact tok_end (by omega) ⟨by omega, by omega⟩ (by omega) (by omega) | exact tok_w (by omega) (by omega) ⟨by omega, by omega⟩ (by omega) (by assumption) | exact tok_n (by omega) (by omega) ⟨by omega, by omega⟩ (by omega) (by assumption) (by assumption) | exact tok_s (by omega) (by omega) (by omega) (by omega) (by omega) | exact tok_x (by omega) (by omega) (by omega) (by omega) (by omega) (by omega) (by omega)), (by assumption), rfl⟩, by rw [ht]; exact hP, hD⟩, hS.F ht⟩) hS.2.2 dX3_advance_182
      · skip
        have nc_1069 := nb_nlt (97) (97) c_1069 (bkc (x := 97) (c := 97) (by decide)) (btop v_1068) (by decide)
        refine lv_aload_n hx hb dX3_advance_93 rfl (lv_at hl 0 rfl) ?_
        refine va_get (D := G) (ci := 3) (v := .ref ob_text) (C := RX3) (T := TX3) (N := 10) hx hb hw0 inA_wsX30 hown hK.1 hP 0 rfl rfl 4 (by decide) (hw0 _ m_717) (fun _ h9 => h9) rfl dX3_advance_94 ?_
        refine lv_aload_n hx hb dX3_advance_97 rfl (lv_at hl 0 rfl) ?_
        refine va_get (D := G) (ci := 3) (v := .int v_1045) (C := RX3) (T := TX3) (N := 10) hx hb hw0 inA_wsX30 hown hK.1 hP 0 rfl rfl 7 (by decide) (hw0 _ m_715) (fun _ h9 => h9) rfl dX3_advance_98 ?_
        refine va_bald hx hb hK.1 hP 1 0 rfl rfl (vi nc_1067.1 (by decide)) dX3_advance_101 ?_
        refine lv_topi (fun v_1085 ev_1085 => ?_)
        obtain rfl : v_1068 = v_1085 := (ev_1085.trans (ev_1068.symm)).symm
        refine lv_bipush (v := 122) hx hb dX3_advance_102 (by decide) ?_
        refine lv_icmp_gt (tgt := 114) hx hb dX3_advance_104 (by decide) (fun c_1086 => ?_) (fun c_1086 => ?_)
        · skip
          have nc_1086 := nb_lt (122) (123) c_1086 (bkc (x := 122) (c := 122) (by decide)) nc_1069.2.1 (by decide)
          refine lv_aload_n hx hb dX3_advance_114 rfl (lv_at hl 0 rfl) ?_
          refine va_get (D := G) (ci := 3) (v := .ref ob_text) (C := RX3) (T := TX3) (N := 10) hx hb hw0 inA_wsX30 hown hK.1 hP 0 rfl rfl 4 (by decide) (hw0 _ m_717) (fun _ h9 => h9) rfl dX3_advance_115 ?_
          refine lv_aload_n hx hb dX3_advance_118 rfl (lv_at hl 0 rfl) ?_
          refine va_get (D := G) (ci := 3) (v := .int v_1045) (C := RX3) (T := TX3) (N := 10) hx hb hw0 inA_wsX30 hown hK.1 hP 0 rfl rfl 7 (by decide) (hw0 _ m_715) (fun _ h9 => h9) rfl dX3_advance_119 ?_
          refine va_bald hx hb hK.1 hP 1 0 rfl rfl (vi nc_1067.1 (by decide)) dX3_advance_122 ?_
          refine lv_topi (fun v_1087 ev_1087 => ?_)
          obtain rfl : v_1068 = v_1087 := (ev_1087.trans (ev_1068.symm)).symm
          refine lv_bipush (v := 48) hx hb dX3_advance_123 (by decide) ?_
          refine lv_icmp_lt (tgt := 149) hx hb dX3_advance_125 (by decide) (fun c9 => absurd c9 (dc_nlt nc_1086.2.1 (bkc (x := 48) (c := 48) (by decide)) (by decide))) (fun _ => ?_)
          refine lv_aload_n hx hb dX3_advance_128 rfl (lv_at hl 0 rfl) ?_
          refine va_get (D := G) (ci := 3) (v := .ref ob_text) (C := RX3) (T := TX3) (N := 10) hx hb hw0 inA_wsX30 hown hK.1 hP 0 rfl rfl 4 (by decide) (hw0 _ m_717) (fun _ h9 => h9) rfl dX3_advance_129 ?_
          refine lv_aload_n hx hb dX3_advance_132 rfl (lv_at hl 0 rfl) ?_
          refine va_get (D := G) (ci := 3) (v := .int v_1045) (C := RX3) (T := TX3) (N := 10) hx hb hw0 inA_wsX30 hown hK.1 hP 0 rfl rfl 7 (by decide) (hw0 _ m_715) (fun _ h9 => h9) rfl dX3_advance_133 ?_
          refine va_bald hx hb hK.1 hP 1 0 rfl rfl (vi nc_1067.1 (by decide)) dX3_advance_136 ?_
          refine lv_topi (fun v_1088 ev_1088 => ?_)
          obtain rfl : v_1068 = v_1088 := (ev_1088.trans (ev_1068.symm)).symm
          refine lv_bipush (v := 57) hx hb dX3_advance_137 (by decide) ?_
          refine lv_icmp_gt (tgt := 149) hx hb dX3_advance_139 (by decide) (fun _ => ?_) (fun c9 => absurd (dc_lt (bkc (x := 57) (c := 57) (by decide)) nc_1086.2.1 (by decide)) c9)
          refine lv_aload_n hx hb dX3_advance_149 rfl (lv_at hl 0 rfl) ?_
          refine lv_aload_n hx hb dX3_advance_150 rfl (lv_at hl 0 rfl) ?_
          refine va_get (D := G) (ci := 3) (v := .ref ob_text) (C := RX3) (T := TX3) (N := 10) hx hb hw0 inA_wsX30 hown hK.1 hP 0 rfl rfl 4 (by decide) (hw0 _ m_717) (fun _ h9 => h9) rfl dX3_advance_151 ?_
          refine lv_aload_n hx hb dX3_advance_154 rfl (lv_at hl 0 rfl) ?_
          refine va_get (D := G) (ci := 3) (v := .int v_1045) (C := RX3) (T := TX3) (N := 10) hx hb hw0 inA_wsX30 hown hK.1 hP 0 rfl rfl 7 (by decide) (hw0 _ m_715) (fun _ h9 => h9) rfl dX3_advance_155 ?_
          refine va_bald hx hb hK.1 hP 1 0 rfl rfl (vi nc_1067.1 (by decide)) dX3_advance_158 ?_
          refine lv_topi (fun v_1089 ev_1089 => ?_)
          obtain rfl : v_1068 = v_1089 := (ev_1089.trans (ev_1068.symm)).symm
          refine lv_bipush (v := 59) hx hb dX3_advance_159 (by decide) ?_
          refine lv_icmp_ne (tgt := 168) hx hb dX3_advance_161 (by decide) (fun _ => ?_) (fun c9 => absurd c9 (dc_neq nc_1086.2.1 (bkc (x := 59) (c := 59) (by decide)) (by decide)))
          refine lv_iconst (v := 4) hx hb dX3_advance_168 (by decide) ?_
          refine va_put (D := G) (ci := 3) (v := .int 4) (ty := .int) (C := RX3) (T := TX3) (N := 10) hx hb hw0 inA_wsX30 tyX3 tyX3_ok nmX3 hown hK.1 hP hD hS 0 rfl rfl 8 (by decide) (hw0 _ m_719) (fun _ h9 => h9) rfl fd_X3_8 rfl rfl (Nat.le_of_ble_eq_true rfl) dX3_advance_169 (fun H locs hP hD hS => ?_)
          obtain ⟨hP, hD⟩ : vPD G A H [(ce_X3 ob ob_town ob_code ob_fault ob_place ob_text ob_size v_1045 v_1045 4 ob_value), (ce_b1400 y ob_text fob_text)] := ⟨hP, hD⟩
          refine lv_aload_n hx hb dX3_advance_172 rfl (lv_at hl 0 rfl) ?_
          refine lv_dup hx hb dX3_advance_173 rfl ?_
          refine va_get (D := G) (ci := 3) (v := .int v_1045) (C := RX3) (T := TX3) (N := 10) hx hb hw0 inA_wsX30 hown hK.1 hP 0 rfl rfl 7 (by decide) (hw0 _ m_715) (fun _ h9 => h9) rfl dX3_advance_174 ?_
          refine lv_iconst (v := 1) hx hb dX3_advance_177 (by decide) ?_
          refine lv_iadd hx hb dX3_advance_178 ?_
          refine lv_topi (fun v_1090 ev_1090 => ?_)
          have qv_1090 := ba_add ev_1090 nc_1067.1 (bkc (x := 1) (c := 1) (by decide)) (by decide)
          have bv_1090 : (1 : Int) ≤ v_1090.toInt ∧ v_1090.toInt ≤ 1400 := bq_add qv_1090 nc_1067.1 (bkc (x := 1) (c := 1) (by decide)) _ _ (by decide)
          have qv_1090 : v_1090.toInt = v_1045.toInt + (1) := qv_1090
          refine va_put (D := G) (ci := 3) (v := .int v_1090) (ty := .int) (C := RX3) (T := TX3) (N := 10) hx hb hw0 inA_wsX30 tyX3 tyX3_ok nmX3 hown hK.1 hP hD hS 0 rfl rfl 7 (by decide) (hw0 _ m_715) (fun _ h9 => h9) rfl fd_X3_7 rfl rfl (Nat.le_of_ble_eq_true rfl) dX3_advance_179 (fun H locs hP hD hS => ?_)
          obtain ⟨hP, hD⟩ : vPD G A H [(ce_X3 ob ob_town ob_code ob_fault ob_place ob_text ob_size v_1045 v_1090 4 ob_value), (ce_b1400 y ob_text fob_text)] := ⟨hP, hD⟩
          exact W.vret hx hb hr (fun t ht hW => ⟨⟨_, rfl, ⟨v_1045, v_1090, 4, ob_value, (bw (0) (1400) nc_1067.1 (by decide)), (bw (0) (1400) bv_1090 (by decide)), (bw (0) (4) (bkc (x := 4) (c := 4) (by decide)) (by decide)), p_ob_value, (by have lm1 : Int32.toInt (-1) = -1 := (by decide); have l91 : Int32.toInt 1 = 1 := (by decide); have l92 : Int32.toInt 2 = 2 := (by decide); have l93 : Int32.toInt 3 = 3 := (by decide); have h90 : Int32.toInt 4 = 4 := (by decide); first | exact tok_end (by omega) ⟨by omega, by omega⟩ (by omega) (by omega) | exact tok_w (by omega) (by omega) ⟨by omega, by omega⟩ (by omega) (by assumption) | exact tok_n (by omega) (by omega) ⟨by omega, by omega⟩ (by omega) (by assumption) (by assumption) | exact tok_s (by omega) (by omega) (by omega) (by omega) (by omega) | exact tok_x (by omega) (by omega) (by omega) (by omega) (by omega) (by omega) (by omega)), (by assumption), rfl⟩, by rw [ht]; exact hP, hD⟩, hS.F ht⟩) hS.2.2 dX3_advance_182
        · skip
          have nc_1086 := nb_nlt (122) (122) c_1086 nc_1069.2.1 (bkc (x := 122) (c := 122) (by decide)) (by decide)
          refine lv_aload_n hx hb dX3_advance_107 rfl (lv_at hl 0 rfl) ?_
          refine cVvm (As := []) (rest := []) ⟨hx, hb, hml, hown, hw0⟩ hA hK hP hD hS [true, true] (sX3_takeWord l G y _ ob ob_town ob_code ob_fault ob_place ob_text ob_size v_1045 v_1045 ob_kind ob_value fob_text p_ob_fault (bw (0) (1400) nc_1067.2.1 (by decide)) (bw (0) (1400) nc_1067.1 (by decide)) (bw (0) (1400) nc_1067.1 (by decide)) p_ob_kind p_ob_value) rfl ⟨(callB_of 0 hw0 (gA m_819) rfl rfl rfl (hw0 _ m_721) (hw0 _ m_720) cb_X3_takeWord ⟨Nat.le_of_ble_eq_true rfl, Nat.le_of_ble_eq_true rfl⟩), (hw0 _ m_722), (hw0 _ m_723)⟩ (ci := 3) (q := (RX3, TX3, 10)) rfl rfl rfl hl.1 (Nat.le_of_ble_eq_true rfl) dX3_advance_108 ⟨Nat.le_of_ble_eq_true rfl, Nat.le_of_ble_eq_true rfl⟩ (fun w_1091 H locs hw_1091 hP hD hS => ?_)
          obtain ⟨v_1092, bv_1092, h_1093, rfl⟩ := hw_1091
          obtain ⟨hP, hD⟩ : vPD G A H [(ce_X3 ob ob_town ob_code ob_fault ob_place ob_text ob_size v_1045 v_1092 1 ob_value), (ce_b1400 y ob_text fob_text)] := ⟨hP, hD⟩
          refine lv_goto (tgt := 182) hx hb dX3_advance_111 (by decide) ?_
          exact W.vret hx hb hr (fun t ht hW => ⟨⟨_, rfl, ⟨v_1045, v_1092, 1, ob_value, (bw (0) (1400) nc_1067.1 (by decide)), bv_1092, (bw (0) (4) (bkc (x := 1) (c := 1) (by decide)) (by decide)), p_ob_value, (by have lm1 : Int32.toInt (-1) = -1 := (by decide); have l91 : Int32.toInt 1 = 1 := (by decide); have l92 : Int32.toInt 2 = 2 := (by decide); have l93 : Int32.toInt 3 = 3 := (by decide); have h90 : Int32.toInt 1 = 1 := (by decide); first | exact tok_end (by omega) ⟨by omega, by omega⟩ (by omega) (by omega) | exact tok_w (by omega) (by omega) ⟨by omega, by omega⟩ (by omega) (by assumption) | exact tok_n (by omega) (by omega) ⟨by omega, by omega⟩ (by omega) (by assumption) (by assumption) | exact tok_s (by omega) (by omega) (by omega) (by omega) (by omega) | exact tok_x (by omega) (by omega) (by omega) (by omega) (by omega) (by omega) (by omega)), (by assumption), rfl⟩, by rw [ht]; exact hP, hD⟩, hS.F ht⟩) hS.2.2 dX3_advance_182
    · skip
      have nc_1067 := nb_nlt (1400) (0) c_1067 p_ob_size bv_1045 (by decide)
      refine lv_aload_n hx hb dX3_advance_71 rfl (lv_at hl 0 rfl) ?_
      refine lv_iconst (v := 0) hx hb dX3_advance_72 (by decide) ?_
      refine va_put (D := G) (ci := 3) (v := .int 0) (ty := .int) (C := RX3) (T := TX3) (N := 10) hx hb hw0 inA_wsX30 tyX3 tyX3_ok nmX3 hown hK.1 hP hD hS 0 rfl rfl 8 (by decide) (hw0 _ m_719) (fun _ h9 => h9) rfl fd_X3_8 rfl rfl (Nat.le_of_ble_eq_true rfl) dX3_advance_73 (fun H locs hP hD hS => ?_)
      obtain ⟨hP, hD⟩ : vPD G A H [(ce_X3 ob ob_town ob_code ob_fault ob_place ob_text ob_size v_1045 v_1045 0 ob_value), (ce_b1400 y ob_text fob_text)] := ⟨hP, hD⟩
      refine lv_goto (tgt := 182) hx hb dX3_advance_76 (by decide) ?_
      exact W.vret hx hb hr (fun t ht hW => ⟨⟨_, rfl, ⟨v_1045, v_1045, 0, ob_value, nc_1067.2.1, nc_1067.2.1, (bw (0) (4) (bkc (x := 0) (c := 0) (by decide)) (by decide)), p_ob_value, (by have lm1 : Int32.toInt (-1) = -1 := (by decide); have l91 : Int32.toInt 1 = 1 := (by decide); have l92 : Int32.toInt 2 = 2 := (by decide); have l93 : Int32.toInt 3 = 3 := (by decide); have h90 : Int32.toInt 0 = 0 := (by decide); first | exact tok_end (by omega) ⟨by omega, by omega⟩ (by omega) (by omega) | exact tok_w (by omega) (by omega) ⟨by omega, by omega⟩ (by omega) (by assumption) | exact tok_n (by omega) (by omega) ⟨by omega, by omega⟩ (by omega) (by assumption) (by assumption) | exact tok_s (by omega) (by omega) (by omega) (by omega) (by omega) | exact tok_x (by omega) (by omega) (by omega) (by omega) (by omega) (by omega) (by omega)), (by assumption), rfl⟩, by rw [ht]; exact hP, hD⟩, hS.F ht⟩) hS.2.2 dX3_advance_182
  · skip
    refine lv_icmp_ge (tgt := 52) hx hb dX3_advance_8 (by decide) (fun c_1094 => ?_) (fun c_1094 => ?_)
    · skip
      have nc_1094 := nb_le (1400) (0) c_1094 p_ob_size bv_1045 (by decide)
      exact J_52_1066 _ _ _ _ ⟨(by omega), (by have lm1 : Int32.toInt (-1) = -1 := (by decide); have l91 : Int32.toInt 1 = 1 := (by decide); have l92 : Int32.toInt 2 = 2 := (by decide); have l93 : Int32.toInt 3 = 3 := (by decide); exact rn_e rl1045_1 (by first | exact Or.inl (by omega) | exact Or.inr (cB_f ⟨by omega, by omega⟩))), rfl, ⟨hP, hD⟩, hS, lv_sub hl [0] rfl⟩
    · skip
      have nc_1094 := nb_nle (1399) (1) c_1094 bv_1045 p_ob_size (by decide)
      refine lv_aload_n hx hb dX3_advance_11 rfl (lv_at hl 0 rfl) ?_
      refine va_get (D := G) (ci := 3) (v := .ref ob_text) (C := RX3) (T := TX3) (N := 10) hx hb hw0 inA_wsX30 hown hK.1 hP 0 rfl rfl 4 (by decide) (hw0 _ m_717) (fun _ h9 => h9) rfl dX3_advance_12 ?_
      refine lv_aload_n hx hb dX3_advance_15 rfl (lv_at hl 0 rfl) ?_
      refine va_get (D := G) (ci := 3) (v := .int v_1045) (C := RX3) (T := TX3) (N := 10) hx hb hw0 inA_wsX30 hown hK.1 hP 0 rfl rfl 7 (by decide) (hw0 _ m_715) (fun _ h9 => h9) rfl dX3_advance_16 ?_
      refine va_bald hx hb hK.1 hP 1 0 rfl rfl (vi nc_1094.1 (by decide)) dX3_advance_19 ?_
      refine lv_topi (fun v_1095 ev_1095 => ?_)
      have tbv_1095 : qtb fob_text (v_1045 : Int32).toInt = v_1095.toInt := tb_e ev_1095 (by omega)
      refine lv_bipush (v := 32) hx hb dX3_advance_20 (by decide) ?_
      refine lv_icmp_eq (tgt := 39) hx hb dX3_advance_22 (by decide) (fun c_1096 => ?_) (fun c_1096 => ?_)
      · skip
        have nc_1096 := nb_eq (32) (32) c_1096 (btop v_1095) (bkc (x := 32) (c := 32) (by decide)) (by decide)
        refine lv_aload_n hx hb dX3_advance_39 rfl (lv_at hl 0 rfl) ?_
        refine lv_dup hx hb dX3_advance_40 rfl ?_
        refine va_get (D := G) (ci := 3) (v := .int v_1045) (C := RX3) (T := TX3) (N := 10) hx hb hw0 inA_wsX30 hown hK.1 hP 0 rfl rfl 7 (by decide) (hw0 _ m_715) (fun _ h9 => h9) rfl dX3_advance_41 ?_
        refine lv_iconst (v := 1) hx hb dX3_advance_44 (by decide) ?_
        refine lv_iadd hx hb dX3_advance_45 ?_
        refine lv_topi (fun v_1097 ev_1097 => ?_)
        have qv_1097 := ba_add ev_1097 nc_1094.1 (bkc (x := 1) (c := 1) (by decide)) (by decide)
        have bv_1097 : (1 : Int) ≤ v_1097.toInt ∧ v_1097.toInt ≤ 1400 := bq_add qv_1097 nc_1094.1 (bkc (x := 1) (c := 1) (by decide)) _ _ (by decide)
        have qv_1097 : v_1097.toInt = v_1045.toInt + (1) := qv_1097
        refine va_put (D := G) (ci := 3) (v := .int v_1097) (ty := .int) (C := RX3) (T := TX3) (N := 10) hx hb hw0 inA_wsX30 tyX3 tyX3_ok nmX3 hown hK.1 hP hD hS 0 rfl rfl 7 (by decide) (hw0 _ m_715) (fun _ h9 => h9) rfl fd_X3_7 rfl rfl (Nat.le_of_ble_eq_true rfl) dX3_advance_46 (fun H locs hP hD hS => ?_)
        obtain ⟨hP, hD⟩ : vPD G A H [(ce_X3 ob ob_town ob_code ob_fault ob_place ob_text ob_size ob_begin v_1097 ob_kind ob_value), (ce_b1400 y ob_text fob_text)] := ⟨hP, hD⟩
        refine lv_goto (tgt := 0) hx hb dX3_advance_49 (by decide) ?_
        exact ih_1059 _ (ml_inc (hi := 1400) hn_1059 qv_1097 (by decide) ((bw (0) (1400) bv_1097 (by decide))).2) _ _ _ _ ⟨v_1097, rfl, (bw (0) (1400) bv_1097 (by decide)), (by omega), (by have lm1 : Int32.toInt (-1) = -1 := (by decide); have l91 : Int32.toInt 1 = 1 := (by decide); have l92 : Int32.toInt 2 = 2 := (by decide); have l93 : Int32.toInt 3 = 3 := (by decide); first | exact rn_0 (by omega) | exact rn_s rl1045_1 (cB_t (by omega)) (by omega) (by omega)), rfl, ⟨hP, hD⟩, hS, lv_sub hl [0] rfl⟩
      · skip
        have nc_1096 := nb_ne (-2147483648) (2147483647) c_1096 (btop v_1095) (k := 32) (by decide) (by decide)
        refine lv_aload_n hx hb dX3_advance_25 rfl (lv_at hl 0 rfl) ?_
        refine va_get (D := G) (ci := 3) (v := .ref ob_text) (C := RX3) (T := TX3) (N := 10) hx hb hw0 inA_wsX30 hown hK.1 hP 0 rfl rfl 4 (by decide) (hw0 _ m_717) (fun _ h9 => h9) rfl dX3_advance_26 ?_
        refine lv_aload_n hx hb dX3_advance_29 rfl (lv_at hl 0 rfl) ?_
        refine va_get (D := G) (ci := 3) (v := .int v_1045) (C := RX3) (T := TX3) (N := 10) hx hb hw0 inA_wsX30 hown hK.1 hP 0 rfl rfl 7 (by decide) (hw0 _ m_715) (fun _ h9 => h9) rfl dX3_advance_30 ?_
        refine va_bald hx hb hK.1 hP 1 0 rfl rfl (vi nc_1094.1 (by decide)) dX3_advance_33 ?_
        refine lv_topi (fun v_1098 ev_1098 => ?_)
        obtain rfl : v_1095 = v_1098 := (ev_1098.trans (ev_1095.symm)).symm
        refine lv_bipush (v := 10) hx hb dX3_advance_34 (by decide) ?_
        refine lv_icmp_ne (tgt := 52) hx hb dX3_advance_36 (by decide) (fun c_1099 => ?_) (fun c_1099 => ?_)
        · skip
          have nc_1099 := nb_ne (-2147483648) (2147483647) c_1099 nc_1096.1 (k := 10) (by decide) (by decide)
          exact J_52_1066 _ _ _ _ ⟨(by omega), (by have lm1 : Int32.toInt (-1) = -1 := (by decide); have l91 : Int32.toInt 1 = 1 := (by decide); have l92 : Int32.toInt 2 = 2 := (by decide); have l93 : Int32.toInt 3 = 3 := (by decide); exact rn_e rl1045_1 (by first | exact Or.inl (by omega) | exact Or.inr (cB_f ⟨by omega, by omega⟩))), rfl, ⟨hP, hD⟩, hS, lv_sub hl [0] rfl⟩
        · skip
          have nc_1099 := nb_eq (10) (10) c_1099 nc_1096.1 (bkc (x := 10) (c := 10) (by decide)) (by decide)
          refine lv_aload_n hx hb dX3_advance_39 rfl (lv_at hl 0 rfl) ?_
          refine lv_dup hx hb dX3_advance_40 rfl ?_
          refine va_get (D := G) (ci := 3) (v := .int v_1045) (C := RX3) (T := TX3) (N := 10) hx hb hw0 inA_wsX30 hown hK.1 hP 0 rfl rfl 7 (by decide) (hw0 _ m_715) (fun _ h9 => h9) rfl dX3_advance_41 ?_
          refine lv_iconst (v := 1) hx hb dX3_advance_44 (by decide) ?_
          refine lv_iadd hx hb dX3_advance_45 ?_
          refine lv_topi (fun v_1100 ev_1100 => ?_)
          have qv_1100 := ba_add ev_1100 nc_1094.1 (bkc (x := 1) (c := 1) (by decide)) (by decide)
          have bv_1100 : (1 : Int) ≤ v_1100.toInt ∧ v_1100.toInt ≤ 1400 := bq_add qv_1100 nc_1094.1 (bkc (x := 1) (c := 1) (by decide)) _ _ (by decide)
          have qv_1100 : v_1100.toInt = v_1045.toInt + (1) := qv_1100
          refine va_put (D := G) (ci := 3) (v := .int v_1100) (ty := .int) (C := RX3) (T := TX3) (N := 10) hx hb hw0 inA_wsX30 tyX3 tyX3_ok nmX3 hown hK.1 hP hD hS 0 rfl rfl 7 (by decide) (hw0 _ m_715) (fun _ h9 => h9) rfl fd_X3_7 rfl rfl (Nat.le_of_ble_eq_true rfl) dX3_advance_46 (fun H locs hP hD hS => ?_)
          obtain ⟨hP, hD⟩ : vPD G A H [(ce_X3 ob ob_town ob_code ob_fault ob_place ob_text ob_size ob_begin v_1100 ob_kind ob_value), (ce_b1400 y ob_text fob_text)] := ⟨hP, hD⟩
          refine lv_goto (tgt := 0) hx hb dX3_advance_49 (by decide) ?_
          exact ih_1059 _ (ml_inc (hi := 1400) hn_1059 qv_1100 (by decide) ((bw (0) (1400) bv_1100 (by decide))).2) _ _ _ _ ⟨v_1100, rfl, (bw (0) (1400) bv_1100 (by decide)), (by omega), (by have lm1 : Int32.toInt (-1) = -1 := (by decide); have l91 : Int32.toInt 1 = 1 := (by decide); have l92 : Int32.toInt 2 = 2 := (by decide); have l93 : Int32.toInt 3 = 3 := (by decide); first | exact rn_0 (by omega) | exact rn_s rl1045_1 (cB_t (by omega)) (by omega) (by omega)), rfl, ⟨hP, hD⟩, hS, lv_sub hl [0] rfl⟩

set_option maxHeartbeats 4000000 in
set_option maxRecDepth 100000 in
theorem sX3_among (l : Launch) (G : va_G) (y : Nat → ClassId) (aK aV : Nat → Nat) (sz : Nat) (ob : Nat) (i1 : Nat) (ob_town : Nat) (ob_code : Nat) (ob_fault : Int32) (ob_place : Int32) (ob_text : Nat) (ob_size : Int32) (ob_begin : Int32) (ob_next : Int32) (ob_kind : Int32) (ob_value : Int32) (fob_text : Nat → Int32) (p_ob_fault : (0 : Int) ≤ ob_fault.toInt ∧ ob_fault.toInt ≤ 3) (p_ob_size : (0 : Int) ≤ ob_size.toInt ∧ ob_size.toInt ≤ 1400) (p_ob_begin : (0 : Int) ≤ ob_begin.toInt ∧ ob_begin.toInt ≤ 1400) (p_ob_next : (0 : Int) ≤ ob_next.toInt ∧ ob_next.toInt ≤ 1400) (p_ob_kind : (0 : Int) ≤ ob_kind.toInt ∧ ob_kind.toInt ≤ 4) (p_ob_value : (0 : Int) ≤ ob_value.toInt ∧ ob_value.toInt ≤ 1000000) (hi1 : i1 < nS) (hq0 : qTok fob_text ob_size.toInt 1000000 ob_kind.toInt ob_begin.toInt ob_next.toInt ob_value.toInt) : Met l yX3_among (Cond.code yX3_among cX3_among 7 (some .int) :: wAll) ({ frames := 4, cells := 0, slots := 0, locals := 85 }) (va_Pc [.ref ob, .ref (aK i1)] (kps G y aK aV sz [(ce_X3 ob ob_town ob_code ob_fault ob_place ob_text ob_size ob_begin ob_next ob_kind ob_value), (ce_b1400 y ob_text fob_text)])) (va_Qi (fun (r : Int32) (w : va_W) => (∃ (v_6141 : Int32), ((-1 : Int) ≤ v_6141.toInt ∧ v_6141.toInt ≤ 61) ∧ (v_6141.toInt = qam fob_text ob_size.toInt ob_begin.toInt i1) ∧ r = v_6141 ∧ w = [(ce_X3 ob ob_town ob_code ob_fault ob_place ob_text ob_size ob_begin ob_next ob_kind ob_value), (ce_b1400 y ob_text fob_text)])) (kq G (va_A [(ce_X3 ob ob_town ob_code ob_fault ob_place ob_text ob_size ob_begin ob_next ob_kind ob_value), (ce_b1400 y ob_text fob_text)] sz)) (va_A [(ce_X3 ob ob_town ob_code ob_fault ob_place ob_text ob_size ob_begin ob_next ob_kind ob_value), (ce_b1400 y ob_text fob_text)] sz)) 0 0 (va_A [(ce_X3 ob ob_town ob_code ob_fault ob_place ob_text ob_size ob_begin ob_next ob_kind ob_value), (ce_b1400 y ob_text fob_text)] sz) := by
  refine Met.ofW (cc := cX3_among) (maxL := 7) (ret := (some .int)) (by decide) rfl ?_
  intro p e s m args below meth c s₁ B hml hv
  obtain ⟨rfl, ⟨hsz, hP, hK, hD0⟩, hE⟩ := hv
  have hx := B.exec
  have hb := B.bytes
  have hr := B.returns
  have hw0 : ∀ w ∈ wAll, w.before _ s = true := fun w h => atoms_spec (ws := Cond.code yX3_among cX3_among 7 (some .int) :: wAll) B.pre w (List.mem_cons_of_mem _ h)
  have hown : s.vm.findClass RX3 = some m.cls := findClass_of_methodNamed B.named
  subst hsz
  have hD := hD0.self (sz := s.heap.size)
  generalize hAe : va_A [(ce_X3 ob ob_town ob_code ob_fault ob_place ob_text ob_size ob_begin ob_next ob_kind ob_value), (ce_b1400 y ob_text fob_text)] s.heap.size = A at hD hE ⊢
  have hA : ∀ q : Nat, s.heap.size ≤ q → A q := fun q h => by rw [← hAe]; exact Or.inr h
  have hS : va_S A s.heap s.heap [] := va_S.rf
  have hP : va_P G vwCl [(ce_X3 ob ob_town ob_code ob_fault ob_place ob_text ob_size ob_begin ob_next ob_kind ob_value), (ce_b1400 y ob_text fob_text)] s.heap := hP
  have hl := lv_entry ([.ref ob, .ref (aK i1)]) (n := 7) (Nat.le_of_ble_eq_true rfl)
  rw [lg_entry_eq]
  generalize (lg_sl ([.ref ob, .ref (aK i1)]) ++ List.replicate (7 - (lg_sl ([.ref ob, .ref (aK i1)])).length) Slot.unset).toArray = ls at hl ⊢
  have hl : lv_has ls 7 [(0, .ref ob), (1, .ref (aK i1))] := hl
  refine lv_aload_n hx hb dX3_among_0 rfl (lv_at hl 0 rfl) ?_
  refine va_get (D := G) (ci := 3) (v := .int ob_kind) (C := RX3) (T := TX3) (N := 10) hx hb hw0 inA_wsX30 hown hK.1 hP 0 rfl rfl 8 (by decide) (hw0 _ m_719) (fun _ h9 => h9) rfl dX3_among_1 ?_
  refine lv_iconst (v := 1) hx hb dX3_among_4 (by decide) ?_
  refine lv_icmp_eq (tgt := 10) hx hb dX3_among_5 (by decide) (fun c_1001 => ?_) (fun c_1001 => ?_)
  · skip
    have nc_1001 := nb_eq (1) (1) c_1001 p_ob_kind (bkc (x := 1) (c := 1) (by decide)) (by decide)
    have hTL := tok_le hq0
    refine lv_aload_n hx hb dX3_among_10 rfl (lv_at hl 1 rfl) ?_
    refine cQim (As := []) (rest := []) ⟨hx, hb, hml, hown, hw0⟩ hA hK hP hD hS hE [] (sJ0_length_8abf5 l G y aK aV _ i1 hi1) rfl ⟨(callB_of 0 hw0 (gA m_18) rfl rfl rfl (hw0 _ m_2) (hw0 _ m_728) cb_J0_length_8abf5 ⟨Nat.le_of_ble_eq_true rfl, Nat.le_of_ble_eq_true rfl⟩), (hw0 _ m_532), (hw0 _ m_533)⟩ (i9 := i1) hi1 rfl rfl hl.1 (Nat.le_of_ble_eq_true rfl) dX3_among_11 ⟨Nat.le_of_ble_eq_true rfl, Nat.le_of_ble_eq_true rfl⟩ (fun r_1002 w_1002 H locs hw_1002 hP hD hS => ?_)
    obtain ⟨v_1003, bv_1003, h_1004, er_1002, rfl⟩ := hw_1002
    subst r_1002
    obtain ⟨hP, hD⟩ : vPD G A H [(ce_X3 ob ob_town ob_code ob_fault ob_place ob_text ob_size ob_begin ob_next ob_kind ob_value), (ce_b1400 y ob_text fob_text)] := ⟨hP, hD⟩
    refine lv_istore_n (lv' := [(2, .int v_1003), (0, .ref ob), (1, .ref (aK i1))]) hx hb dX3_among_14 rfl hl (by decide) rfl (fun ls hl => ?_)
    refine lv_iconst (v := 0) hx hb dX3_among_15 (by decide) ?_
    refine lv_istore_n (lv' := [(3, .int 0), (2, .int v_1003), (0, .ref ob), (1, .ref (aK i1))]) hx hb dX3_among_16 rfl hl (by decide) rfl (fun ls hl => ?_)
    refine lv_iconst (v := 0) hx hb dX3_among_17 (by decide) ?_
    refine lv_istore (lv' := [(4, .int 0), (3, .int 0), (2, .int v_1003), (0, .ref ob), (1, .ref (aK i1))]) hx hb dX3_among_18 hl (by decide) rfl (fun ls hl => ?_)
    refine loopX (fun n H locs ls st => ∃ (v_2827 : Int32) (v_2828 : Int32), (61 - v_2827.toInt).toNat = n ∧ ((0 : Int) ≤ v_2827.toInt ∧ v_2827.toInt ≤ 61) ∧ ((0 : Int) ≤ v_2828.toInt ∧ v_2828.toInt ≤ 61) ∧ (qamI fob_text ob_begin.toInt ob_next.toInt i1 v_2827.toInt v_2828.toInt) ∧ (v_2828.toInt ≤ v_2827.toInt) ∧ st = [] ∧ vPD G A H [(ce_X3 ob ob_town ob_code ob_fault ob_place ob_text ob_size ob_begin ob_next ob_kind ob_value), (ce_b1400 y ob_text fob_text)] ∧ va_S A s.heap H locs ∧ lv_has ls 7 [(4, .int v_2827), (3, .int v_2828), (2, .int v_1003), (0, .ref ob), (1, .ref (aK i1))]) ?_ (n := (61 - (0 : Int32).toInt).toNat) ⟨0, 0, rfl, (bw (0) (61) (bkc (x := 0) (c := 0) (by decide)) (by decide)), (bw (0) (61) (bkc (x := 0) (c := 0) (by decide)) (by decide)), (by have lm1 : Int32.toInt (-1) = -1 := (by decide); have l91 : Int32.toInt 1 = 1 := (by decide); have l92 : Int32.toInt 2 = 2 := (by decide); have l93 : Int32.toInt 3 = 3 := (by decide); have h90 : Int32.toInt 0 = 0 := (by decide); first | exact amI_0 (by omega) (by omega) | exact amI_s rl2828_0 ⟨by omega, by omega⟩ (by omega) rl3399_0 rl3399_1 rl3420_0 (by omega) (by omega)), (by have h90 : Int32.toInt 0 = 0 := (by decide); omega), rfl, ⟨hP, hD⟩, hS, lv_sub hl [0, 1, 2, 3, 4] rfl⟩
    rintro n ih_3449 H locs ls st ⟨v_2827, v_2828, hn_3449, bv_2827, bv_2828, rl2828_0, rl2828_1, rfl, ⟨hP, hD⟩, hS, hl⟩
    refine lv_iload hx hb dX3_among_20 (lv_at hl 0 rfl) ?_
    refine lv_iload_n hx hb dX3_among_22 rfl (lv_at hl 2 rfl) ?_
    refine lv_icmp_ge (tgt := 157) hx hb dX3_among_23 (by decide) (fun c_3450 => ?_) (fun c_3450 => ?_)
    · skip
      have nc_3450 := nb_le (60) (2) c_3450 bv_1003 bv_2827 (by decide)
      refine lv_iconst (v := (-1)) hx hb dX3_among_157 (by decide) ?_
      exact W.iret (v := (-1)) hx hb hr (fun t ht hW => ⟨⟨(-1), _, rfl, ⟨(-1), (bw (-1) (61) (bkc (x := (-1)) (c := -1) (by decide)) (by decide)), (by have lm1 : Int32.toInt (-1) = -1 := (by decide); have l91 : Int32.toInt 1 = 1 := (by decide); have l92 : Int32.toInt 2 = 2 := (by decide); have l93 : Int32.toInt 3 = 3 := (by decide); have h90 : Int32.toInt (-1) = -1 := (by decide); first | exact am_no (by have h9 := hq0.1; omega) (by omega) | exact am_end (by have h9 := hq0.1; omega) hq0.2.1 rl2828_0 (by omega) (by omega) | exact am_hit (by have h9 := hq0.1; omega) hq0.2.1 rl2828_0 rl3960_0 (by omega) (by omega) (Or.inl (by omega)) (by omega) (by omega) (by omega) | exact am_hit (by have h9 := hq0.1; omega) hq0.2.1 rl2828_0 rl3960_0 (by omega) (by omega) (Or.inr (yb_x (sb_e trivial) (by omega) (by omega))) (by omega) (by omega) (by omega)), rfl, rfl⟩, by rw [ht]; exact hP, hD⟩, hS.F ht⟩) hS.2.2 dX3_among_158
    · skip
      have nc_3450 := nb_nle (59) (2) c_3450 bv_2827 bv_1003 (by decide)
      refine lv_iconst (v := 0) hx hb dX3_among_26 (by decide) ?_
      refine lv_istore (lv' := [(5, .int 0), (4, .int v_2827), (3, .int v_2828), (2, .int v_1003), (0, .ref ob), (1, .ref (aK i1))]) hx hb dX3_among_27 hl (by decide) rfl (fun ls hl => ?_)
      refine loopX (fun n H locs ls st => ∃ (v_3822 : Int32), (60 - v_3822.toInt).toNat = n ∧ ((0 : Int) ≤ v_3822.toInt ∧ v_3822.toInt ≤ 60) ∧ (qiq fob_text ob_begin.toInt (qsb i1) (lenS.getD i1 0 : Int) v_2827.toInt v_3822.toInt) ∧ (v_2827.toInt + v_3822.toInt ≤ v_1003.toInt) ∧ (ob_begin.toInt + v_3822.toInt ≤ ob_next.toInt) ∧ st = [] ∧ vPD G A H [(ce_X3 ob ob_town ob_code ob_fault ob_place ob_text ob_size ob_begin ob_next ob_kind ob_value), (ce_b1400 y ob_text fob_text)] ∧ va_S A s.heap H locs ∧ lv_has ls 7 [(5, .int v_3822), (4, .int v_2827), (3, .int v_2828), (2, .int v_1003), (0, .ref ob), (1, .ref (aK i1))]) ?_ (n := (60 - (0 : Int32).toInt).toNat) ⟨0, rfl, (bw (0) (60) (bkc (x := 0) (c := 0) (by decide)) (by decide)), (by have lm1 : Int32.toInt (-1) = -1 := (by decide); have l91 : Int32.toInt 1 = 1 := (by decide); have l92 : Int32.toInt 2 = 2 := (by decide); have l93 : Int32.toInt 3 = 3 := (by decide); have h90 : Int32.toInt 0 = 0 := (by decide); first | exact iq_0 (by omega) | exact iq_s rl3822_0 tbx (by omega) (sb_e trivial) (by omega) (by omega) (by have h9 := tok_l hq0 (by omega) (j := (0 : Int32).toInt) (by omega) (by omega); omega) (by omega) (by omega)), (by have h90 : Int32.toInt 0 = 0 := (by decide); omega), (by have h90 : Int32.toInt 0 = 0 := (by decide); omega), rfl, ⟨hP, hD⟩, hS, lv_sub hl [0, 1, 2, 3, 4, 5] rfl⟩
      rintro n ih_3946 H locs ls st ⟨v_3822, hn_3946, bv_3822, rl3822_0, rl3822_1, rl3822_2, rfl, ⟨hP, hD⟩, hS, hl⟩
      refine lv_iload hx hb dX3_among_29 (lv_at hl 1 rfl) ?_
      refine lv_iload hx hb dX3_among_31 (lv_at hl 0 rfl) ?_
      refine lv_iadd hx hb dX3_among_33 ?_
      refine lv_topi (fun v_3947 ev_3947 => ?_)
      have qv_3947 := ba_add ev_3947 nc_3450.1 bv_3822 (by decide)
      have bv_3947 : (0 : Int) ≤ v_3947.toInt ∧ v_3947.toInt ≤ 119 := bq_add qv_3947 nc_3450.1 bv_3822 _ _ (by decide)
      refine lv_iload_n hx hb dX3_among_34 rfl (lv_at hl 3 rfl) ?_
      refine cutW 82 (fun H locs ls st => (qiq fob_text ob_begin.toInt (qsb i1) (lenS.getD i1 0 : Int) v_2827.toInt v_3822.toInt) ∧ (v_2827.toInt + v_3822.toInt ≤ v_1003.toInt) ∧ (ob_begin.toInt + v_3822.toInt ≤ ob_next.toInt) ∧ ((lenS.getD i1 0 : Int) ≤ v_2827.toInt + v_3822.toInt ∨ ob_next.toInt ≤ ob_begin.toInt + v_3822.toInt ∨ ¬ qtb (qsb i1) (v_2827.toInt + v_3822.toInt) = qtb fob_text (ob_begin.toInt + v_3822.toInt)) ∧ st = [] ∧ vPD G A H [(ce_X3 ob ob_town ob_code ob_fault ob_place ob_text ob_size ob_begin ob_next ob_kind ob_value), (ce_b1400 y ob_text fob_text)] ∧ va_S A s.heap H locs ∧ lv_has ls 7 [(5, .int v_3822), (4, .int v_2827), (3, .int v_2828), (2, .int v_1003), (0, .ref ob), (1, .ref (aK i1))]) ?_ (fun J_82_3960 => ?_)
      · rintro H locs ls st ⟨rl3960_0, rl3960_1, rl3960_2, rl3960_3, rfl, ⟨hP, hD⟩, hS, hl⟩
        refine lv_iload hx hb dX3_among_82 (lv_at hl 1 rfl) ?_
        refine lv_iload hx hb dX3_among_84 (lv_at hl 0 rfl) ?_
        refine lv_iadd hx hb dX3_among_86 ?_
        refine lv_topi (fun v_3961 ev_3961 => ?_)
        obtain rfl : v_3947 = v_3961 := (ev_3961.trans (ev_3947.symm)).symm
        refine lv_istore (lv' := [(6, .int v_3947), (5, .int v_3822), (4, .int v_2827), (3, .int v_2828), (2, .int v_1003), (0, .ref ob), (1, .ref (aK i1))]) hx hb dX3_among_87 hl (by decide) rfl (fun ls hl => ?_)
        have h_3962 : (0 : Int) ≤ v_3947.toInt ∧ v_3947.toInt ≤ 60 := by omega
        refine lv_aload_n hx hb dX3_among_89 rfl (lv_at hl 5 rfl) ?_
        refine va_get (D := G) (ci := 3) (v := .int ob_begin) (C := RX3) (T := TX3) (N := 10) hx hb hw0 inA_wsX30 hown hK.1 hP 0 rfl rfl 6 (by decide) (hw0 _ m_718) (fun _ h9 => h9) rfl dX3_among_90 ?_
        refine lv_iload hx hb dX3_among_93 (lv_at hl 1 rfl) ?_
        refine lv_iadd hx hb dX3_among_95 ?_
        refine lv_topi (fun v_3963 ev_3963 => ?_)
        have qv_3963 := ba_add ev_3963 p_ob_begin bv_3822 (by decide)
        have bv_3963 : (0 : Int) ≤ v_3963.toInt ∧ v_3963.toInt ≤ 1460 := bq_add qv_3963 p_ob_begin bv_3822 _ _ (by decide)
        refine lv_aload_n hx hb dX3_among_96 rfl (lv_at hl 5 rfl) ?_
        refine va_get (D := G) (ci := 3) (v := .int ob_next) (C := RX3) (T := TX3) (N := 10) hx hb hw0 inA_wsX30 hown hK.1 hP 0 rfl rfl 7 (by decide) (hw0 _ m_715) (fun _ h9 => h9) rfl dX3_among_97 ?_
        refine cutW 122 (fun H locs ls st => (qtqB fob_text ob_begin.toInt ob_next.toInt (qsb i1) v_2827.toInt (qrun qcW (qsb i1) (lenS.getD i1 0 : Int) v_2827.toInt - v_2827.toInt) = false) ∧ (qrn qcW (qsb i1) (lenS.getD i1 0 : Int) v_2827.toInt v_3947.toInt) ∧ (v_2827.toInt ≤ v_3947.toInt) ∧ st = [] ∧ vPD G A H [(ce_X3 ob ob_town ob_code ob_fault ob_place ob_text ob_size ob_begin ob_next ob_kind ob_value), (ce_b1400 y ob_text fob_text)] ∧ va_S A s.heap H locs ∧ lv_has ls 7 [(6, .int v_3947), (4, .int v_2827), (3, .int v_2828), (2, .int v_1003), (0, .ref ob), (1, .ref (aK i1))]) ?_ (fun J_122_3970 => ?_)
        · rintro H locs ls st ⟨rl3970_0, rl3970_1, rl3970_2, rfl, ⟨hP, hD⟩, hS, hl⟩
          refine loopX (fun n H locs ls st => ∃ (v_4020 : Int32), (60 - v_4020.toInt).toNat = n ∧ ((0 : Int) ≤ v_4020.toInt ∧ v_4020.toInt ≤ 60) ∧ (qtqB fob_text ob_begin.toInt ob_next.toInt (qsb i1) v_2827.toInt (qrun qcW (qsb i1) (lenS.getD i1 0 : Int) v_2827.toInt - v_2827.toInt) = false) ∧ (qrn qcW (qsb i1) (lenS.getD i1 0 : Int) v_2827.toInt v_4020.toInt) ∧ (v_2827.toInt ≤ v_4020.toInt) ∧ st = [] ∧ vPD G A H [(ce_X3 ob ob_town ob_code ob_fault ob_place ob_text ob_size ob_begin ob_next ob_kind ob_value), (ce_b1400 y ob_text fob_text)] ∧ va_S A s.heap H locs ∧ lv_has ls 7 [(6, .int v_4020), (4, .int v_2827), (3, .int v_2828), (2, .int v_1003), (0, .ref ob), (1, .ref (aK i1))]) ?_ (n := (60 - v_3947.toInt).toNat) ⟨v_3947, rfl, h_3962, (by have lm1 : Int32.toInt (-1) = -1 := (by decide); have l91 : Int32.toInt 1 = 1 := (by decide); have l92 : Int32.toInt 2 = 2 := (by decide); have l93 : Int32.toInt 3 = 3 := (by decide); first | assumption | exact am_n rl3960_0 (by omega) (by omega) (by omega) (Or.inl (by omega)) rl3960_3 | exact am_n rl3960_0 (by omega) (by omega) (by omega) (Or.inr ⟨by omega, nb_x (sb_e trivial) (by omega) (by omega)⟩) rl3960_3), (by have lm1 : Int32.toInt (-1) = -1 := (by decide); have l91 : Int32.toInt 1 = 1 := (by decide); have l92 : Int32.toInt 2 = 2 := (by decide); have l93 : Int32.toInt 3 = 3 := (by decide); first | assumption | exact rn_q (rl3960_0).1 (by omega) | exact rn_s rl4020_1 (cW_t (by have h9 := sb_e trivial; omega)) (by omega) (by omega)), (by omega), rfl, ⟨hP, hD⟩, hS, lv_sub hl [0, 1, 2, 3, 4, 5] rfl⟩
          rintro n ih_4035 H locs ls st ⟨v_4020, hn_4035, bv_4020, rl4020_0, rl4020_1, rl4020_2, rfl, ⟨hP, hD⟩, hS, hl⟩
          refine lv_iload hx hb dX3_among_122 (lv_at hl 0 rfl) ?_
          refine lv_iload_n hx hb dX3_among_124 rfl (lv_at hl 3 rfl) ?_
          refine cutW 145 (fun H locs ls st => ((lenS.getD i1 0 : Int) ≤ v_4020.toInt ∨ qtb (qsb i1) v_4020.toInt = 32) ∧ (v_2827.toInt ≤ v_4020.toInt) ∧ st = [] ∧ vPD G A H [(ce_X3 ob ob_town ob_code ob_fault ob_place ob_text ob_size ob_begin ob_next ob_kind ob_value), (ce_b1400 y ob_text fob_text)] ∧ va_S A s.heap H locs ∧ lv_has ls 7 [(6, .int v_4020), (4, .int v_2827), (3, .int v_2828), (2, .int v_1003), (0, .ref ob), (1, .ref (aK i1))]) ?_ (fun J_145_4041 => ?_)
          · rintro H locs ls st ⟨rl4041_0, rl4041_1, rfl, ⟨hP, hD⟩, hS, hl⟩
            refine lv_iload hx hb dX3_among_145 (lv_at hl 0 rfl) ?_
            refine lv_iconst (v := 1) hx hb dX3_among_147 (by decide) ?_
            refine lv_iadd hx hb dX3_among_148 ?_
            refine lv_topi (fun v_4042 ev_4042 => ?_)
            have qv_4042 := ba_add ev_4042 bv_4020 (bkc (x := 1) (c := 1) (by decide)) (by decide)
            have bv_4042 : (1 : Int) ≤ v_4042.toInt ∧ v_4042.toInt ≤ 61 := bq_add qv_4042 bv_4020 (bkc (x := 1) (c := 1) (by decide)) _ _ (by decide)
            have qv_4042 : v_4042.toInt = v_4020.toInt + (1) := qv_4042
            refine lv_istore (lv' := [(4, .int v_4042), (6, .int v_4020), (3, .int v_2828), (2, .int v_1003), (0, .ref ob), (1, .ref (aK i1))]) hx hb dX3_among_149 hl (by decide) rfl (fun ls hl => ?_)
            have h_4043 : (0 : Int) ≤ v_2828.toInt ∧ v_2828.toInt ≤ 60 := by omega
            obtain ⟨v_4044, ev_4044⟩ : ∃ z : Int32, z = v_2828 + 1 := ⟨_, rfl⟩
            have qv_4044 := ba_add ev_4044 h_4043 (bkc (x := 1) (c := 1) (by decide)) (by decide)
            have bv_4044 : (1 : Int) ≤ v_4044.toInt ∧ v_4044.toInt ≤ 61 := bq_add qv_4044 h_4043 (bkc (x := 1) (c := 1) (by decide)) _ _ (by decide)
            have qv_4044 : v_4044.toInt = v_2828.toInt + (1) := qv_4044
            refine lv_iinc (v := v_4044) (lv' := [(3, .int v_4044), (4, .int v_4042), (6, .int v_4020), (2, .int v_1003), (0, .ref ob), (1, .ref (aK i1))]) hx hb dX3_among_151 hl (k := 2) rfl (ev_4044.symm) (by decide) rfl (fun ls hl => ?_)
            refine lv_goto (tgt := 20) hx hb dX3_among_154 (by decide) ?_
            exact ih_3449 _ (by omega) _ _ _ _ ⟨v_4042, v_4044, rfl, (bw (0) (61) bv_4042 (by decide)), (bw (0) (61) bv_4044 (by decide)), (by have lm1 : Int32.toInt (-1) = -1 := (by decide); have l91 : Int32.toInt 1 = 1 := (by decide); have l92 : Int32.toInt 2 = 2 := (by decide); have l93 : Int32.toInt 3 = 3 := (by decide); first | exact amI_0 (by omega) (by omega) | exact amI_s rl2828_0 ⟨by omega, by omega⟩ (by omega) rl4020_0 rl4020_1 rl4041_0 (by omega) (by omega)), (by omega), rfl, ⟨hP, hD⟩, hS, lv_sub hl [1, 0, 3, 4, 5] rfl⟩
          · skip
            refine lv_icmp_ge (tgt := 145) hx hb dX3_among_125 (by decide) (fun c_4045 => ?_) (fun c_4045 => ?_)
            · skip
              have nc_4045 := nb_le (60) (2) c_4045 nc_3450.2.1 bv_4020 (by decide)
              exact J_145_4041 _ _ _ _ ⟨(by have lm1 : Int32.toInt (-1) = -1 := (by decide); have l91 : Int32.toInt 1 = 1 := (by decide); have l92 : Int32.toInt 2 = 2 := (by decide); have l93 : Int32.toInt 3 = 3 := (by decide); first | exact Or.inl (by omega) | exact Or.inr (by have h9 := sb_e trivial; omega)), (by omega), rfl, ⟨hP, hD⟩, hS, lv_sub hl [0, 1, 2, 3, 4, 5] rfl⟩
            · skip
              have nc_4045 := nb_nle (59) (2) c_4045 bv_4020 nc_3450.2.1 (by decide)
              refine lv_aload_n hx hb dX3_among_128 rfl (lv_at hl 5 rfl) ?_
              refine lv_iload hx hb dX3_among_129 (lv_at hl 0 rfl) ?_
              refine cQim (As := [.int v_4020]) (rest := []) ⟨hx, hb, hml, hown, hw0⟩ hA hK hP hD hS hE [] (sJ0_charAt_5068e l G y aK aV _ i1 v_4020 nc_4045.1 hi1 (by omega)) rfl ⟨(callB_of 1 hw0 (gA m_0) rfl rfl rfl (hw0 _ m_2) (hw0 _ m_729) cb_J0_charAt_5068e ⟨Nat.le_of_ble_eq_true rfl, Nat.le_of_ble_eq_true rfl⟩), (hw0 _ m_535), (hw0 _ m_536)⟩ (i9 := i1) hi1 rfl rfl hl.1 (Nat.le_of_ble_eq_true rfl) dX3_among_131 ⟨Nat.le_of_ble_eq_true rfl, Nat.le_of_ble_eq_true rfl⟩ (fun r_4046 w_4046 H locs hw_4046 hP hD hS => ?_)
              obtain ⟨v_4047, bv_4047, h_4048, er_4046, rfl⟩ := hw_4046
              subst r_4046
              obtain ⟨hP, hD⟩ : vPD G A H [(ce_X3 ob ob_town ob_code ob_fault ob_place ob_text ob_size ob_begin ob_next ob_kind ob_value), (ce_b1400 y ob_text fob_text)] := ⟨hP, hD⟩
              refine lv_bipush (v := 32) hx hb dX3_among_134 (by decide) ?_
              refine lv_icmp_eq (tgt := 145) hx hb dX3_among_136 (by decide) (fun c_4049 => ?_) (fun c_4049 => ?_)
              · skip
                have nc_4049 := nb_eq (32) (32) c_4049 bv_4047 (bkc (x := 32) (c := 32) (by decide)) (by decide)
                exact J_145_4041 _ _ _ _ ⟨(by have lm1 : Int32.toInt (-1) = -1 := (by decide); have l91 : Int32.toInt 1 = 1 := (by decide); have l92 : Int32.toInt 2 = 2 := (by decide); have l93 : Int32.toInt 3 = 3 := (by decide); first | exact Or.inl (by omega) | exact Or.inr (by have h9 := sb_e h_4048; omega)), (by omega), rfl, ⟨hP, hD⟩, hS, lv_sub hl [0, 1, 2, 3, 4, 5] rfl⟩
              · skip
                have nc_4049 := nb_ne (0) (255) c_4049 bv_4047 (k := 32) (by decide) (by decide)
                obtain ⟨v_4050, ev_4050⟩ : ∃ z : Int32, z = v_4020 + 1 := ⟨_, rfl⟩
                have qv_4050 := ba_add ev_4050 nc_4045.1 (bkc (x := 1) (c := 1) (by decide)) (by decide)
                have bv_4050 : (1 : Int) ≤ v_4050.toInt ∧ v_4050.toInt ≤ 60 := bq_add qv_4050 nc_4045.1 (bkc (x := 1) (c := 1) (by decide)) _ _ (by decide)
                have qv_4050 : v_4050.toInt = v_4020.toInt + (1) := qv_4050
                refine lv_iinc (v := v_4050) (lv' := [(6, .int v_4050), (4, .int v_2827), (3, .int v_2828), (2, .int v_1003), (0, .ref ob), (1, .ref (aK i1))]) hx hb dX3_among_139 hl (k := 0) rfl (ev_4050.symm) (by decide) rfl (fun ls hl => ?_)
                refine lv_goto (tgt := 122) hx hb dX3_among_142 (by decide) ?_
                exact ih_4035 _ (ml_inc (hi := 60) hn_4035 qv_4050 (by decide) ((bw (0) (60) bv_4050 (by decide))).2) _ _ _ _ ⟨v_4050, rfl, (bw (0) (60) bv_4050 (by decide)), (by have lm1 : Int32.toInt (-1) = -1 := (by decide); have l91 : Int32.toInt 1 = 1 := (by decide); have l92 : Int32.toInt 2 = 2 := (by decide); have l93 : Int32.toInt 3 = 3 := (by decide); first | assumption | exact am_n rl3960_0 (by omega) (by omega) (by omega) (Or.inl (by omega)) rl3960_3 | exact am_n rl3960_0 (by omega) (by omega) (by omega) (Or.inr ⟨by omega, nb_x (sb_e h_4048) (by omega) (by omega)⟩) rl3960_3), (by have lm1 : Int32.toInt (-1) = -1 := (by decide); have l91 : Int32.toInt 1 = 1 := (by decide); have l92 : Int32.toInt 2 = 2 := (by decide); have l93 : Int32.toInt 3 = 3 := (by decide); first | assumption | exact rn_q (rl3960_0).1 (by omega) | exact rn_s rl4020_1 (cW_t (by have h9 := sb_e h_4048; omega)) (by omega) (by omega)), (by omega), rfl, ⟨hP, hD⟩, hS, lv_sub hl [0, 1, 2, 3, 4, 5] rfl⟩
        · skip
          refine lv_icmp_ne (tgt := 122) hx hb dX3_among_100 (by decide) (fun c_4051 => ?_) (fun c_4051 => ?_)
          · skip
            have nc_4051 : v_3963.toInt ≠ ob_next.toInt := fun h9 => c_4051 (Int32.toInt_inj.mp h9)
            exact J_122_3970 _ _ _ _ ⟨(by have lm1 : Int32.toInt (-1) = -1 := (by decide); have l91 : Int32.toInt 1 = 1 := (by decide); have l92 : Int32.toInt 2 = 2 := (by decide); have l93 : Int32.toInt 3 = 3 := (by decide); first | assumption | exact am_n rl3960_0 (by omega) (by omega) (by omega) (Or.inl (by omega)) rl3960_3 | exact am_n rl3960_0 (by omega) (by omega) (by omega) (Or.inr ⟨by omega, nb_x (sb_e trivial) (by omega) (by omega)⟩) rl3960_3), (by have lm1 : Int32.toInt (-1) = -1 := (by decide); have l91 : Int32.toInt 1 = 1 := (by decide); have l92 : Int32.toInt 2 = 2 := (by decide); have l93 : Int32.toInt 3 = 3 := (by decide); first | assumption | exact rn_q (rl3960_0).1 (by omega) | exact rn_s rl4020_1 (cW_t (by have h9 := sb_e trivial; omega)) (by omega) (by omega)), (by omega), rfl, ⟨hP, hD⟩, hS, lv_sub hl [0, 2, 3, 4, 5, 6] rfl⟩
          · skip
            have nc_4051 := nb_eq (0) (1400) c_4051 bv_3963 p_ob_next (by decide)
            refine lv_iload hx hb dX3_among_103 (lv_at hl 0 rfl) ?_
            refine lv_iload_n hx hb dX3_among_105 rfl (lv_at hl 4 rfl) ?_
            refine lv_icmp_ge (tgt := 120) hx hb dX3_among_106 (by decide) (fun c_4052 => ?_) (fun c_4052 => ?_)
            · skip
              have nc_4052 := nb_le (60) (2) c_4052 nc_3450.2.1 h_3962 (by decide)
              refine lv_iload_n hx hb dX3_among_120 rfl (lv_at hl 3 rfl) ?_
              exact W.iret (v := v_2828) hx hb hr (fun t ht hW => ⟨⟨v_2828, _, rfl, ⟨v_2828, (bw (-1) (61) bv_2828 (by decide)), (by have lm1 : Int32.toInt (-1) = -1 := (by decide); have l91 : Int32.toInt 1 = 1 := (by decide); have l92 : Int32.toInt 2 = 2 := (by decide); have l93 : Int32.toInt 3 = 3 := (by decide); first | exact am_no (by have h9 := hq0.1; omega) (by omega) | exact am_end (by have h9 := hq0.1; omega) hq0.2.1 rl2828_0 (by omega) (by omega) | exact am_hit (by have h9 := hq0.1; omega) hq0.2.1 rl2828_0 rl3960_0 (by omega) (by omega) (Or.inl (by omega)) (by omega) (by omega) (by omega) | exact am_hit (by have h9 := hq0.1; omega) hq0.2.1 rl2828_0 rl3960_0 (by omega) (by omega) (Or.inr (yb_x (sb_e trivial) (by omega) (by omega))) (by omega) (by omega) (by omega)), rfl, rfl⟩, by rw [ht]; exact hP, hD⟩, hS.F ht⟩) hS.2.2 dX3_among_121
            · skip
              have nc_4052 := nb_nle (59) (2) c_4052 h_3962 nc_3450.2.1 (by decide)
              have h_4053 : (0 : Int) ≤ v_3822.toInt ∧ v_3822.toInt ≤ 59 := bq_in2 qv_3947 nc_4052.1 bv_3822 nc_3450.1 (by decide)
              refine lv_aload_n hx hb dX3_among_109 rfl (lv_at hl 6 rfl) ?_
              refine lv_iload hx hb dX3_among_110 (lv_at hl 0 rfl) ?_
              refine cQim (As := [.int v_3947]) (rest := []) ⟨hx, hb, hml, hown, hw0⟩ hA hK hP hD hS hE [] (sJ0_charAt_5068e l G y aK aV _ i1 v_3947 nc_4052.1 hi1 (by omega)) rfl ⟨(callB_of 1 hw0 (gA m_0) rfl rfl rfl (hw0 _ m_2) (hw0 _ m_729) cb_J0_charAt_5068e ⟨Nat.le_of_ble_eq_true rfl, Nat.le_of_ble_eq_true rfl⟩), (hw0 _ m_535), (hw0 _ m_536)⟩ (i9 := i1) hi1 rfl rfl hl.1 (Nat.le_of_ble_eq_true rfl) dX3_among_112 ⟨Nat.le_of_ble_eq_true rfl, Nat.le_of_ble_eq_true rfl⟩ (fun r_4054 w_4054 H locs hw_4054 hP hD hS => ?_)
              obtain ⟨v_4055, bv_4055, h_4056, er_4054, rfl⟩ := hw_4054
              subst r_4054
              obtain ⟨hP, hD⟩ : vPD G A H [(ce_X3 ob ob_town ob_code ob_fault ob_place ob_text ob_size ob_begin ob_next ob_kind ob_value), (ce_b1400 y ob_text fob_text)] := ⟨hP, hD⟩
              refine lv_bipush (v := 32) hx hb dX3_among_115 (by decide) ?_
              refine lv_icmp_ne (tgt := 122) hx hb dX3_among_117 (by decide) (fun c_4057 => ?_) (fun c_4057 => ?_)
              · skip
                have nc_4057 := nb_ne (0) (255) c_4057 bv_4055 (k := 32) (by decide) (by decide)
                exact J_122_3970 _ _ _ _ ⟨(by have lm1 : Int32.toInt (-1) = -1 := (by decide); have l91 : Int32.toInt 1 = 1 := (by decide); have l92 : Int32.toInt 2 = 2 := (by decide); have l93 : Int32.toInt 3 = 3 := (by decide); first | assumption | exact am_n rl3960_0 (by omega) (by omega) (by omega) (Or.inl (by omega)) rl3960_3 | exact am_n rl3960_0 (by omega) (by omega) (by omega) (Or.inr ⟨by omega, nb_x (sb_e h_4056) (by omega) (by omega)⟩) rl3960_3), (by have lm1 : Int32.toInt (-1) = -1 := (by decide); have l91 : Int32.toInt 1 = 1 := (by decide); have l92 : Int32.toInt 2 = 2 := (by decide); have l93 : Int32.toInt 3 = 3 := (by decide); first | assumption | exact rn_q (rl3960_0).1 (by omega) | exact rn_s rl4020_1 (cW_t (by have h9 := sb_e h_4056; omega)) (by omega) (by omega)), (by omega), rfl, ⟨hP, hD⟩, hS, lv_sub hl [0, 2, 3, 4, 5, 6] rfl⟩
              · skip
                have nc_4057 := nb_eq (32) (32) c_4057 bv_4055 (bkc (x := 32) (c := 32) (by decide)) (by decide)
                refine lv_iload_n hx hb dX3_among_120 rfl (lv_at hl 3 rfl) ?_
                exact W.iret (v := v_2828) hx hb hr (fun t ht hW => ⟨⟨v_2828, _, rfl, ⟨v_2828, (bw (-1) (61) bv_2828 (by decide)), (by have lm1 : Int32.toInt (-1) = -1 := (by decide); have l91 : Int32.toInt 1 = 1 := (by decide); have l92 : Int32.toInt 2 = 2 := (by decide); have l93 : Int32.toInt 3 = 3 := (by decide); first | exact am_no (by have h9 := hq0.1; omega) (by omega) | exact am_end (by have h9 := hq0.1; omega) hq0.2.1 rl2828_0 (by omega) (by omega) | exact am_hit (by have h9 := hq0.1; omega) hq0.2.1 rl2828_0 rl3960_0 (by omega) (by omega) (Or.inl (by omega)) (by omega) (by omega) (by omega) | exact am_hit (by have h9 := hq0.1; omega) hq0.2.1 rl2828_0 rl3960_0 (by omega) (by omega) (Or.inr (yb_x (sb_e h_4056) (by omega) (by omega))) (by omega) (by omega) (by omega)), rfl, rfl⟩, by rw [ht]; exact hP, hD⟩, hS.F ht⟩) hS.2.2 dX3_among_121
      · skip
        refine lv_icmp_ge (tgt := 82) hx hb dX3_among_35 (by decide) (fun c_4058 => ?_) (fun c_4058 => ?_)
        · skip
          have nc_4058 := nb_le (60) (2) c_4058 nc_3450.2.1 bv_3947 (by decide)
          exact J_82_3960 _ _ _ _ ⟨rl3822_0, (by omega), (by omega), (by have lm1 : Int32.toInt (-1) = -1 := (by decide); have l91 : Int32.toInt 1 = 1 := (by decide); have l92 : Int32.toInt 2 = 2 := (by decide); have l93 : Int32.toInt 3 = 3 := (by decide); first | exact Or.inl (by omega) | exact Or.inr (Or.inl (by omega)) | exact Or.inr (Or.inr (ne_x tbx (by omega) (sb_e trivial) (by omega) (by omega)))), rfl, ⟨hP, hD⟩, hS, lv_sub hl [0, 1, 2, 3, 4, 5] rfl⟩
        · skip
          have nc_4058 := nb_nle (59) (2) c_4058 bv_3947 nc_3450.2.1 (by decide)
          have h_4059 : (0 : Int) ≤ v_3822.toInt ∧ v_3822.toInt ≤ 59 := bq_in2 qv_3947 nc_4058.1 bv_3822 nc_3450.1 (by decide)
          refine lv_aload_n hx hb dX3_among_38 rfl (lv_at hl 4 rfl) ?_
          refine va_get (D := G) (ci := 3) (v := .int ob_begin) (C := RX3) (T := TX3) (N := 10) hx hb hw0 inA_wsX30 hown hK.1 hP 0 rfl rfl 6 (by decide) (hw0 _ m_718) (fun _ h9 => h9) rfl dX3_among_39 ?_
          refine lv_iload hx hb dX3_among_42 (lv_at hl 0 rfl) ?_
          refine lv_iadd hx hb dX3_among_44 ?_
          refine lv_topi (fun v_4060 ev_4060 => ?_)
          have qv_4060 := ba_add ev_4060 p_ob_begin h_4059 (by decide)
          have bv_4060 : (0 : Int) ≤ v_4060.toInt ∧ v_4060.toInt ≤ 1459 := bq_add qv_4060 p_ob_begin h_4059 _ _ (by decide)
          refine lv_aload_n hx hb dX3_among_45 rfl (lv_at hl 4 rfl) ?_
          refine va_get (D := G) (ci := 3) (v := .int ob_next) (C := RX3) (T := TX3) (N := 10) hx hb hw0 inA_wsX30 hown hK.1 hP 0 rfl rfl 7 (by decide) (hw0 _ m_715) (fun _ h9 => h9) rfl dX3_among_46 ?_
          refine lv_icmp_ge (tgt := 82) hx hb dX3_among_49 (by decide) (fun c_4061 => ?_) (fun c_4061 => ?_)
          · skip
            have nc_4061 := nb_le (1400) (0) c_4061 p_ob_next bv_4060 (by decide)
            exact J_82_3960 _ _ _ _ ⟨rl3822_0, (by omega), (by omega), (by have lm1 : Int32.toInt (-1) = -1 := (by decide); have l91 : Int32.toInt 1 = 1 := (by decide); have l92 : Int32.toInt 2 = 2 := (by decide); have l93 : Int32.toInt 3 = 3 := (by decide); first | exact Or.inl (by omega) | exact Or.inr (Or.inl (by omega)) | exact Or.inr (Or.inr (ne_x tbx (by omega) (sb_e trivial) (by omega) (by omega)))), rfl, ⟨hP, hD⟩, hS, lv_sub hl [0, 1, 2, 3, 4, 5] rfl⟩
          · skip
            have nc_4061 := nb_nle (1399) (1) c_4061 bv_4060 p_ob_next (by decide)
            have h_4062 : (0 : Int) ≤ ob_begin.toInt ∧ ob_begin.toInt ≤ 1399 := bq_in1 qv_4060 nc_4061.1 p_ob_begin h_4059 (by decide)
            refine lv_aload_n hx hb dX3_among_52 rfl (lv_at hl 5 rfl) ?_
            refine lv_iload hx hb dX3_among_53 (lv_at hl 1 rfl) ?_
            refine lv_iload hx hb dX3_among_55 (lv_at hl 0 rfl) ?_
            refine lv_iadd hx hb dX3_among_57 ?_
            refine lv_topi (fun v_4063 ev_4063 => ?_)
            obtain rfl : v_3947 = v_4063 := (ev_4063.trans (ev_3947.symm)).symm
            refine cQim (As := [.int v_3947]) (rest := []) ⟨hx, hb, hml, hown, hw0⟩ hA hK hP hD hS hE [] (sJ0_charAt_5068e l G y aK aV _ i1 v_3947 nc_4058.1 hi1 (by omega)) rfl ⟨(callB_of 1 hw0 (gA m_0) rfl rfl rfl (hw0 _ m_2) (hw0 _ m_729) cb_J0_charAt_5068e ⟨Nat.le_of_ble_eq_true rfl, Nat.le_of_ble_eq_true rfl⟩), (hw0 _ m_535), (hw0 _ m_536)⟩ (i9 := i1) hi1 rfl rfl hl.1 (Nat.le_of_ble_eq_true rfl) dX3_among_58 ⟨Nat.le_of_ble_eq_true rfl, Nat.le_of_ble_eq_true rfl⟩ (fun r_4064 w_4064 H locs hw_4064 hP hD hS => ?_)
            obtain ⟨v_4065, bv_4065, h_4066, er_4064, rfl⟩ := hw_4064
            subst r_4064
            obtain ⟨hP, hD⟩ : vPD G A H [(ce_X3 ob ob_town ob_code ob_fault ob_place ob_text ob_size ob_begin ob_next ob_kind ob_value), (ce_b1400 y ob_text fob_text)] := ⟨hP, hD⟩
            refine lv_aload_n hx hb dX3_among_61 rfl (lv_at hl 4 rfl) ?_
            refine va_get (D := G) (ci := 3) (v := .ref ob_text) (C := RX3) (T := TX3) (N := 10) hx hb hw0 inA_wsX30 hown hK.1 hP 0 rfl rfl 4 (by decide) (hw0 _ m_717) (fun _ h9 => h9) rfl dX3_among_62 ?_
            refine lv_aload_n hx hb dX3_among_65 rfl (lv_at hl 4 rfl) ?_
            refine va_get (D := G) (ci := 3) (v := .int ob_begin) (C := RX3) (T := TX3) (N := 10) hx hb hw0 inA_wsX30 hown hK.1 hP 0 rfl rfl 6 (by decide) (hw0 _ m_718) (fun _ h9 => h9) rfl dX3_among_66 ?_
            refine lv_iload hx hb dX3_among_69 (lv_at hl 0 rfl) ?_
            refine lv_iadd hx hb dX3_among_71 ?_
            refine lv_topi (fun v_4067 ev_4067 => ?_)
            obtain rfl : v_4060 = v_4067 := (ev_4067.trans (ev_4060.symm)).symm
            refine va_bald hx hb hK.1 hP 1 0 rfl rfl (vi nc_4061.1 (by decide)) dX3_among_72 ?_
            refine lv_topi (fun v_4068 ev_4068 => ?_)
            have tbv_4068 : qtb fob_text (v_4060 : Int32).toInt = v_4068.toInt := tb_e ev_4068 (by omega)
            refine lv_icmp_ne (tgt := 82) hx hb dX3_among_73 (by decide) (fun c_4069 => ?_) (fun c_4069 => ?_)
            · skip
              have nc_4069 : v_4065.toInt ≠ v_4068.toInt := fun h9 => c_4069 (Int32.toInt_inj.mp h9)
              exact J_82_3960 _ _ _ _ ⟨rl3822_0, (by omega), (by omega), (by have lm1 : Int32.toInt (-1) = -1 := (by decide); have l91 : Int32.toInt 1 = 1 := (by decide); have l92 : Int32.toInt 2 = 2 := (by decide); have l93 : Int32.toInt 3 = 3 := (by decide); first | exact Or.inl (by omega) | exact Or.inr (Or.inl (by omega)) | exact Or.inr (Or.inr (ne_x tbv_4068 (by omega) (sb_e h_4066) (by omega) (by omega)))), rfl, ⟨hP, hD⟩, hS, lv_sub hl [0, 1, 2, 3, 4, 5] rfl⟩
            · skip
              have nc_4069 := nb_eq (0) (255) c_4069 bv_4065 (btop v_4068) (by decide)
              obtain ⟨v_4070, ev_4070⟩ : ∃ z : Int32, z = v_3822 + 1 := ⟨_, rfl⟩
              have qv_4070 := ba_add ev_4070 h_4059 (bkc (x := 1) (c := 1) (by decide)) (by decide)
              have bv_4070 : (1 : Int) ≤ v_4070.toInt ∧ v_4070.toInt ≤ 60 := bq_add qv_4070 h_4059 (bkc (x := 1) (c := 1) (by decide)) _ _ (by decide)
              have qv_4070 : v_4070.toInt = v_3822.toInt + (1) := qv_4070
              refine lv_iinc (v := v_4070) (lv' := [(5, .int v_4070), (4, .int v_2827), (3, .int v_2828), (2, .int v_1003), (0, .ref ob), (1, .ref (aK i1))]) hx hb dX3_among_76 hl (k := 0) rfl (ev_4070.symm) (by decide) rfl (fun ls hl => ?_)
              refine lv_goto (tgt := 29) hx hb dX3_among_79 (by decide) ?_
              exact ih_3946 _ (ml_inc (hi := 60) hn_3946 qv_4070 (by decide) ((bw (0) (60) bv_4070 (by decide))).2) _ _ _ _ ⟨v_4070, rfl, (bw (0) (60) bv_4070 (by decide)), (by have lm1 : Int32.toInt (-1) = -1 := (by decide); have l91 : Int32.toInt 1 = 1 := (by decide); have l92 : Int32.toInt 2 = 2 := (by decide); have l93 : Int32.toInt 3 = 3 := (by decide); first | exact iq_0 (by omega) | exact iq_s rl3822_0 tbv_4068 (by omega) (sb_e h_4066) (by omega) (by omega) (by have h9 := tok_l hq0 (by omega) (j := (v_4060 : Int32).toInt) (by omega) (by omega); omega) (by omega) (by omega)), (by omega), (by omega), rfl, ⟨hP, hD⟩, hS, lv_sub hl [0, 1, 2, 3, 4, 5] rfl⟩
  · skip
    have nc_1001 := nb_ne (0) (4) c_1001 p_ob_kind (k := 1) (by decide) (by decide)
    refine lv_iconst (v := (-1)) hx hb dX3_among_8 (by decide) ?_
    exact W.iret (v := (-1)) hx hb hr (fun t ht hW => ⟨⟨(-1), _, rfl, ⟨(-1), (bw (-1) (61) (bkc (x := (-1)) (c := -1) (by decide)) (by decide)), (by have lm1 : Int32.toInt (-1) = -1 := (by decide); have l91 : Int32.toInt 1 = 1 := (by decide); have l92 : Int32.toInt 2 = 2 := (by decide); have l93 : Int32.toInt 3 = 3 := (by decide); have h90 : Int32.toInt (-1) = -1 := (by decide); first | exact am_no (by have h9 := hq0.1; omega) (by omega) | exact am_end (by have h9 := hq0.1; omega) hq0.2.1 rl2828_0 (by omega) (by omega) | exact am_hit (by have h9 := hq0.1; omega) hq0.2.1 rl2828_0 rl3960_0 (by omega) (by omega) (Or.inl (by omega)) (by omega) (by omega) (by omega) | exact am_hit (by have h9 := hq0.1; omega) hq0.2.1 rl2828_0 rl3960_0 (by omega) (by omega) (Or.inr (yb_x (sb_e trivial) (by omega) (by omega))) (by omega) (by omega) (by omega)), rfl, rfl⟩, by rw [ht]; exact hP, hD⟩, hS.F ht⟩) hS.2.2 dX3_among_9

set_option maxHeartbeats 4000000 in
set_option maxRecDepth 100000 in
theorem fnr0_99 (l : Launch) (G : va_G) (y : Nat → ClassId) (sz : Nat) (ob : Nat) (ob_town : Nat) (ob_code : Nat) (ob_fault : Int32) (ob_place : Int32) (ob_text : Nat) (ob_size : Int32) (ob_begin : Int32) (ob_next : Int32) (ob_kind : Int32) (ob_value : Int32) (fob_text : Nat → Int32) (p_ob_fault : (0 : Int) ≤ ob_fault.toInt ∧ ob_fault.toInt ≤ 3) (p_ob_size : (0 : Int) ≤ ob_size.toInt ∧ ob_size.toInt ≤ 1400) (p_ob_begin : (0 : Int) ≤ ob_begin.toInt ∧ ob_begin.toInt ≤ 1400) (p_ob_next : (0 : Int) ≤ ob_next.toInt ∧ ob_next.toInt ≤ 1400) (p_ob_kind : (0 : Int) ≤ ob_kind.toInt ∧ ob_kind.toInt ≤ 4) (p_ob_value : (0 : Int) ≤ ob_value.toInt ∧ ob_value.toInt ≤ 1000000) (hq0 : qTok fob_text ob_size.toInt 1000000 ob_kind.toInt ob_begin.toInt ob_next.toInt ob_value.toInt) : Met l yX3_number (Cond.code yX3_number cX3_number 4 (some .int) :: wAll) ({ frames := 3, cells := 0, slots := 0, locals := 61 }) (va_Pc [.ref ob, .int 0, .int 99] (kp G y sz [(ce_X3 ob ob_town ob_code ob_fault ob_place ob_text ob_size ob_begin ob_next ob_kind ob_value), (ce_b1400 y ob_text fob_text)])) (va_Qi (fun (r : Int32) (w : va_W) => (∃ (v_41 : Int32) (v_42 : Int32) (v_43 : Int32) (v_44 : Int32) (v_45 : Int32) (v_46 : Int32) (v_47 : Int32), ((0 : Int) ≤ v_41.toInt ∧ v_41.toInt ≤ 99) ∧ ((0 : Int) ≤ v_42.toInt ∧ v_42.toInt ≤ 3) ∧ ((0 : Int) ≤ v_44.toInt ∧ v_44.toInt ≤ 1400) ∧ ((0 : Int) ≤ v_45.toInt ∧ v_45.toInt ≤ 1400) ∧ ((0 : Int) ≤ v_46.toInt ∧ v_46.toInt ≤ 4) ∧ ((0 : Int) ≤ v_47.toInt ∧ v_47.toInt ≤ 1000000) ∧ (((v_42.toInt, v_43.toInt, v_44.toInt) : Int × Int × Int) = r_nm fob_text ob_size.toInt 0 99 ((ob_fault.toInt, ob_place.toInt, ob_begin.toInt) : Int × Int × Int)) ∧ (v_41.toInt = r_nv fob_text ob_size.toInt 0 99 ((ob_fault.toInt, ob_place.toInt, ob_begin.toInt) : Int × Int × Int)) ∧ (qTok fob_text ob_size.toInt 1000000 v_46.toInt v_44.toInt v_45.toInt v_47.toInt) ∧ r = v_41 ∧ w = [(ce_X3 ob ob_town ob_code v_42 v_43 ob_text ob_size v_44 v_45 v_46 v_47), (ce_b1400 y ob_text fob_text)])) (kq G (va_A [(ce_X3 ob ob_town ob_code ob_fault ob_place ob_text ob_size ob_begin ob_next ob_kind ob_value), (ce_b1400 y ob_text fob_text)] sz)) (va_A [(ce_X3 ob ob_town ob_code ob_fault ob_place ob_text ob_size ob_begin ob_next ob_kind ob_value), (ce_b1400 y ob_text fob_text)] sz)) 0 0 (va_A [(ce_X3 ob ob_town ob_code ob_fault ob_place ob_text ob_size ob_begin ob_next ob_kind ob_value), (ce_b1400 y ob_text fob_text)] sz) := by
  refine Met.ofW (cc := cX3_number) (maxL := 4) (ret := (some .int)) (by decide) rfl ?_
  intro p e s m args below meth c s₁ B hml hv
  obtain ⟨rfl, hsz, hP, hK, hD0⟩ := hv
  have hx := B.exec
  have hb := B.bytes
  have hr := B.returns
  have hw0 : ∀ w ∈ wAll, w.before _ s = true := fun w h => atoms_spec (ws := Cond.code yX3_number cX3_number 4 (some .int) :: wAll) B.pre w (List.mem_cons_of_mem _ h)
  have hown : s.vm.findClass RX3 = some m.cls := findClass_of_methodNamed B.named
  subst hsz
  have hD := hD0.self (sz := s.heap.size)
  generalize hAe : va_A [(ce_X3 ob ob_town ob_code ob_fault ob_place ob_text ob_size ob_begin ob_next ob_kind ob_value), (ce_b1400 y ob_text fob_text)] s.heap.size = A at hD ⊢
  have hA : ∀ q : Nat, s.heap.size ≤ q → A q := fun q h => by rw [← hAe]; exact Or.inr h
  have hS : va_S A s.heap s.heap [] := va_S.rf
  have hP : va_P G vwCl [(ce_X3 ob ob_town ob_code ob_fault ob_place ob_text ob_size ob_begin ob_next ob_kind ob_value), (ce_b1400 y ob_text fob_text)] s.heap := hP
  have hl := lv_entry ([.ref ob, .int 0, .int 99]) (n := 4) (Nat.le_of_ble_eq_true rfl)
  rw [lg_entry_eq]
  generalize (lg_sl ([.ref ob, .int 0, .int 99]) ++ List.replicate (4 - (lg_sl ([.ref ob, .int 0, .int 99])).length) Slot.unset).toArray = ls at hl ⊢
  have hl : lv_has ls 4 [(0, .ref ob), (1, .int 0), (2, .int 99)] := hl
  refine lv_aload_n hx hb dX3_number_0 rfl (lv_at hl 0 rfl) ?_
  refine va_get (D := G) (ci := 3) (v := .int ob_kind) (C := RX3) (T := TX3) (N := 10) hx hb hw0 inA_wsX30 hown hK.1 hP 0 rfl rfl 8 (by decide) (hw0 _ m_719) (fun _ h9 => h9) rfl dX3_number_1 ?_
  refine lv_iconst (v := 2) hx hb dX3_number_4 (by decide) ?_
  refine lv_icmp_eq (tgt := 16) hx hb dX3_number_5 (by decide) (fun c_1001 => ?_) (fun c_1001 => ?_)
  · skip
    have nc_1001 := nb_eq (2) (2) c_1001 p_ob_kind (bkc (x := 2) (c := 2) (by decide)) (by decide)
    refine lv_aload_n hx hb dX3_number_16 rfl (lv_at hl 0 rfl) ?_
    refine va_get (D := G) (ci := 3) (v := .int ob_value) (C := RX3) (T := TX3) (N := 10) hx hb hw0 inA_wsX30 hown hK.1 hP 0 rfl rfl 9 (by decide) (hw0 _ m_753) (fun _ h9 => h9) rfl dX3_number_17 ?_
    refine lv_iload_n hx hb dX3_number_20 rfl (lv_at hl 1 rfl) ?_
    refine lv_icmp_lt (tgt := 32) hx hb dX3_number_21 (by decide) (fun c9 => absurd c9 (dc_nlt p_ob_value (bkc (x := 0) (c := 0) (by decide)) (by decide))) (fun _ => ?_)
    refine lv_aload_n hx hb dX3_number_24 rfl (lv_at hl 0 rfl) ?_
    refine va_get (D := G) (ci := 3) (v := .int ob_value) (C := RX3) (T := TX3) (N := 10) hx hb hw0 inA_wsX30 hown hK.1 hP 0 rfl rfl 9 (by decide) (hw0 _ m_753) (fun _ h9 => h9) rfl dX3_number_25 ?_
    refine lv_iload_n hx hb dX3_number_28 rfl (lv_at hl 2 rfl) ?_
    refine lv_icmp_le (tgt := 37) hx hb dX3_number_29 (by decide) (fun c_1002 => ?_) (fun c_1002 => ?_)
    · skip
      have nc_1002 := nb_le (99) (99) c_1002 p_ob_value (bkc (x := 99) (c := 99) (by decide)) (by decide)
      refine lv_aload_n hx hb dX3_number_37 rfl (lv_at hl 0 rfl) ?_
      refine va_get (D := G) (ci := 3) (v := .int ob_fault) (C := RX3) (T := TX3) (N := 10) hx hb hw0 inA_wsX30 hown hK.1 hP 0 rfl rfl 2 (by decide) (hw0 _ m_737) (fun _ h9 => h9) rfl dX3_number_38 ?_
      refine lv_if_eq (tgt := 46) hx hb dX3_number_41 (by decide) (fun c_1003 => ?_) (fun c_1003 => ?_)
      · skip
        have nc_1003 := nb_eq (0) (0) c_1003 p_ob_fault (bkc (x := 0) (c := 0) (by decide)) (by decide)
        refine lv_aload_n hx hb dX3_number_46 rfl (lv_at hl 0 rfl) ?_
        refine va_get (D := G) (ci := 3) (v := .int ob_value) (C := RX3) (T := TX3) (N := 10) hx hb hw0 inA_wsX30 hown hK.1 hP 0 rfl rfl 9 (by decide) (hw0 _ m_753) (fun _ h9 => h9) rfl dX3_number_47 ?_
        refine lv_istore_n (lv' := [(3, .int ob_value), (0, .ref ob), (1, .int 0), (2, .int 99)]) hx hb dX3_number_50 rfl hl (by decide) rfl (fun ls hl => ?_)
        refine lv_aload_n hx hb dX3_number_51 rfl (lv_at hl 1 rfl) ?_
        refine cVvm (As := []) (rest := []) ⟨hx, hb, hml, hown, hw0⟩ hA hK hP hD hS [true, true] (sX3_advance l G y _ ob ob_town ob_code ob_fault ob_place ob_text ob_size ob_begin ob_next ob_kind ob_value fob_text (bw (0) (3) nc_1003.1 (by decide)) p_ob_size p_ob_begin p_ob_next (bw (0) (4) nc_1001.1 (by decide)) (bw (0) (1000000) nc_1002.1 (by decide)) (by have h90 : Int32.toInt 0 = 0 := (by decide); have h91 : Int32.toInt 99 = 99 := (by decide); first | omega | exact (tok_le (by assumption)).2)) rfl ⟨(callB_of 0 hw0 (gA m_714) rfl rfl rfl (hw0 _ m_721) (hw0 _ m_738) cb_X3_advance ⟨Nat.le_of_ble_eq_true rfl, Nat.le_of_ble_eq_true rfl⟩), (hw0 _ m_739), (hw0 _ m_740)⟩ (ci := 3) (q := (RX3, TX3, 10)) rfl rfl rfl hl.1 (Nat.le_of_ble_eq_true rfl) dX3_number_52 ⟨Nat.le_of_ble_eq_true rfl, Nat.le_of_ble_eq_true rfl⟩ (fun w_1004 H locs hw_1004 hP hD hS => ?_)
        obtain ⟨v_1005, v_1006, v_1007, v_1008, bv_1005, bv_1006, bv_1007, bv_1008, h_1009, h_1010, rfl⟩ := hw_1004
        obtain ⟨hP, hD⟩ : vPD G A H [(ce_X3 ob ob_town ob_code ob_fault ob_place ob_text ob_size v_1005 v_1006 v_1007 v_1008), (ce_b1400 y ob_text fob_text)] := ⟨hP, hD⟩
        refine lv_iload_n hx hb dX3_number_55 rfl (lv_at hl 0 rfl) ?_
        exact W.iret (v := ob_value) hx hb hr (fun t ht hW => ⟨⟨ob_value, _, rfl, ⟨ob_value, ob_fault, ob_place, v_1005, v_1006, v_1007, v_1008, nc_1002.1, (bw (0) (3) nc_1003.1 (by decide)), bv_1005, bv_1006, bv_1007, bv_1008, (by have lm1 : Int32.toInt (-1) = -1 := (by decide); have l91 : Int32.toInt 1 = 1 := (by decide); have l92 : Int32.toInt 2 = 2 := (by decide); have l93 : Int32.toInt 3 = 3 := (by decide); have h90 : Int32.toInt 0 = 0 := (by decide); have h91 : Int32.toInt 99 = 99 := (by decide); by_cases hF0 : ob_fault.toInt = 0 <;> first | exact nm_ok hq0 (by omega) (by omega) ⟨by omega, by omega⟩ (by omega) (by assumption) (by omega) (by omega) | exact nm_2 hq0 (by omega) (by omega) (by omega) (by omega) (by omega) (by omega) (by omega) | exact nm_1 hq0 (by omega) (by omega) (by omega) (by omega) (by omega) | exact nm_f (by omega) (by omega) (by omega) (by omega)), (by have lm1 : Int32.toInt (-1) = -1 := (by decide); have l91 : Int32.toInt 1 = 1 := (by decide); have l92 : Int32.toInt 2 = 2 := (by decide); have l93 : Int32.toInt 3 = 3 := (by decide); have h90 : Int32.toInt 0 = 0 := (by decide); have h91 : Int32.toInt 99 = 99 := (by decide); first | exact nv_ok hq0 (by omega) (by omega) ⟨by omega, by omega⟩ (by omega) (by omega) | exact nv_no hq0 (by omega) (by omega) (by omega)), (by assumption), rfl, rfl⟩, by rw [ht]; exact hP, hD⟩, hS.F ht⟩) hS.2.2 dX3_number_56
      · skip
        have nc_1003 := nb_ne (1) (3) c_1003 p_ob_fault (k := 0) (by decide) (by decide)
        refine lv_iconst (v := 0) hx hb dX3_number_44 (by decide) ?_
        exact W.iret (v := 0) hx hb hr (fun t ht hW => ⟨⟨0, _, rfl, ⟨0, ob_fault, ob_place, ob_begin, ob_next, ob_kind, ob_value, (bw (0) (99) (bkc (x := 0) (c := 0) (by decide)) (by decide)), (bw (0) (3) nc_1003.1 (by decide)), p_ob_begin, p_ob_next, (bw (0) (4) nc_1001.1 (by decide)), (bw (0) (1000000) nc_1002.1 (by decide)), (by have lm1 : Int32.toInt (-1) = -1 := (by decide); have l91 : Int32.toInt 1 = 1 := (by decide); have l92 : Int32.toInt 2 = 2 := (by decide); have l93 : Int32.toInt 3 = 3 := (by decide); have h90 : Int32.toInt 0 = 0 := (by decide); have h91 : Int32.toInt 99 = 99 := (by decide); by_cases hF0 : ob_fault.toInt = 0 <;> first | exact nm_ok hq0 (by omega) (by omega) ⟨by omega, by omega⟩ (by omega) (by assumption) (by omega) (by omega) | exact nm_2 hq0 (by omega) (by omega) (by omega) (by omega) (by omega) (by omega) (by omega) | exact nm_1 hq0 (by omega) (by omega) (by omega) (by omega) (by omega) | exact nm_f (by omega) (by omega) (by omega) (by omega)), (by have lm1 : Int32.toInt (-1) = -1 := (by decide); have l91 : Int32.toInt 1 = 1 := (by decide); have l92 : Int32.toInt 2 = 2 := (by decide); have l93 : Int32.toInt 3 = 3 := (by decide); have h90 : Int32.toInt 0 = 0 := (by decide); have h91 : Int32.toInt 99 = 99 := (by decide); first | exact nv_ok hq0 (by omega) (by omega) ⟨by omega, by omega⟩ (by omega) (by omega) | exact nv_no hq0 (by omega) (by omega) (by omega)), (by assumption), rfl, rfl⟩, by rw [ht]; exact hP, hD⟩, hS.F ht⟩) hS.2.2 dX3_number_45
    · skip
      have nc_1002 := nb_nle (99) (100) c_1002 (bkc (x := 99) (c := 99) (by decide)) p_ob_value (by decide)
      refine lv_aload_n hx hb dX3_number_32 rfl (lv_at hl 0 rfl) ?_
      refine lv_iconst (v := 2) hx hb dX3_number_33 (by decide) ?_
      refine cVvm (As := [.int 2]) (rest := []) ⟨hx, hb, hml, hown, hw0⟩ hA hK hP hD hS [true] (sX3_refuse l G y _ ob 2 ob_town ob_code ob_fault ob_place ob_text ob_size ob_begin ob_next ob_kind ob_value p_ob_fault p_ob_size p_ob_begin p_ob_next (bw (0) (4) nc_1001.1 (by decide)) (bw (0) (1000000) nc_1002.2.1 (by decide)) (bw (1) (3) (bkc (x := 2) (c := 2) (by decide)) (by decide))) rfl ⟨(callB_of 1 hw0 (gA m_816) rfl rfl rfl (hw0 _ m_721) (hw0 _ m_734) cb_X3_refuse ⟨Nat.le_of_ble_eq_true rfl, Nat.le_of_ble_eq_true rfl⟩), (hw0 _ m_735), (hw0 _ m_736)⟩ (ci := 3) (q := (RX3, TX3, 10)) rfl rfl rfl hl.1 (Nat.le_of_ble_eq_true rfl) dX3_number_34 ⟨Nat.le_of_ble_eq_true rfl, Nat.le_of_ble_eq_true rfl⟩ (fun w_1011 H locs hw_1011 hP hD hS => ?_)
      obtain ⟨v_1012, v_1013, bv_1012, h_1014, h_1015, rfl⟩ := hw_1011
      obtain ⟨hP, hD⟩ : vPD G A H [(ce_X3 ob ob_town ob_code v_1012 v_1013 ob_text ob_size ob_begin ob_next ob_kind ob_value), (ce_b1400 y ob_text fob_text)] := ⟨hP, hD⟩
      refine lv_aload_n hx hb dX3_number_37 rfl (lv_at hl 0 rfl) ?_
      refine va_get (D := G) (ci := 3) (v := .int v_1012) (C := RX3) (T := TX3) (N := 10) hx hb hw0 inA_wsX30 hown hK.1 hP 0 rfl rfl 2 (by decide) (hw0 _ m_737) (fun _ h9 => h9) rfl dX3_number_38 ?_
      refine lv_if_eq (tgt := 46) hx hb dX3_number_41 (by decide) (fun c9 => absurd c9 (dc_neq bv_1012 (bkc (x := 0) (c := 0) (by decide)) (by decide))) (fun _ => ?_)
      refine lv_iconst (v := 0) hx hb dX3_number_44 (by decide) ?_
      exact W.iret (v := 0) hx hb hr (fun t ht hW => ⟨⟨0, _, rfl, ⟨0, v_1012, v_1013, ob_begin, ob_next, ob_kind, ob_value, (bw (0) (99) (bkc (x := 0) (c := 0) (by decide)) (by decide)), (bw (0) (3) bv_1012 (by decide)), p_ob_begin, p_ob_next, (bw (0) (4) nc_1001.1 (by decide)), (bw (0) (1000000) nc_1002.2.1 (by decide)), (by have lm1 : Int32.toInt (-1) = -1 := (by decide); have l91 : Int32.toInt 1 = 1 := (by decide); have l92 : Int32.toInt 2 = 2 := (by decide); have l93 : Int32.toInt 3 = 3 := (by decide); have h90 : Int32.toInt 0 = 0 := (by decide); have h91 : Int32.toInt 99 = 99 := (by decide); by_cases hF0 : ob_fault.toInt = 0 <;> first | exact nm_ok hq0 (by omega) (by omega) ⟨by omega, by omega⟩ (by omega) (by assumption) (by omega) (by omega) | exact nm_2 hq0 (by omega) (by omega) (by omega) (by omega) (by omega) (by omega) (by omega) | exact nm_1 hq0 (by omega) (by omega) (by omega) (by omega) (by omega) | exact nm_f (by omega) (by omega) (by omega) (by omega)), (by have lm1 : Int32.toInt (-1) = -1 := (by decide); have l91 : Int32.toInt 1 = 1 := (by decide); have l92 : Int32.toInt 2 = 2 := (by decide); have l93 : Int32.toInt 3 = 3 := (by decide); have h90 : Int32.toInt 0 = 0 := (by decide); have h91 : Int32.toInt 99 = 99 := (by decide); first | exact nv_ok hq0 (by omega) (by omega) ⟨by omega, by omega⟩ (by omega) (by omega) | exact nv_no hq0 (by omega) (by omega) (by omega)), (by assumption), rfl, rfl⟩, by rw [ht]; exact hP, hD⟩, hS.F ht⟩) hS.2.2 dX3_number_45
  · skip
    have nc_1001 := nb_ne (0) (4) c_1001 p_ob_kind (k := 2) (by decide) (by decide)
    refine lv_aload_n hx hb dX3_number_8 rfl (lv_at hl 0 rfl) ?_
    refine lv_iconst (v := 1) hx hb dX3_number_9 (by decide) ?_
    refine cVvm (As := [.int 1]) (rest := []) ⟨hx, hb, hml, hown, hw0⟩ hA hK hP hD hS [true] (sX3_refuse l G y _ ob 1 ob_town ob_code ob_fault ob_place ob_text ob_size ob_begin ob_next ob_kind ob_value p_ob_fault p_ob_size p_ob_begin p_ob_next nc_1001.1 p_ob_value (bw (1) (3) (bkc (x := 1) (c := 1) (by decide)) (by decide))) rfl ⟨(callB_of 1 hw0 (gA m_816) rfl rfl rfl (hw0 _ m_721) (hw0 _ m_734) cb_X3_refuse ⟨Nat.le_of_ble_eq_true rfl, Nat.le_of_ble_eq_true rfl⟩), (hw0 _ m_735), (hw0 _ m_736)⟩ (ci := 3) (q := (RX3, TX3, 10)) rfl rfl rfl hl.1 (Nat.le_of_ble_eq_true rfl) dX3_number_10 ⟨Nat.le_of_ble_eq_true rfl, Nat.le_of_ble_eq_true rfl⟩ (fun w_1016 H locs hw_1016 hP hD hS => ?_)
    obtain ⟨v_1017, v_1018, bv_1017, h_1019, h_1020, rfl⟩ := hw_1016
    obtain ⟨hP, hD⟩ : vPD G A H [(ce_X3 ob ob_town ob_code v_1017 v_1018 ob_text ob_size ob_begin ob_next ob_kind ob_value), (ce_b1400 y ob_text fob_text)] := ⟨hP, hD⟩
    refine lv_goto (tgt := 37) hx hb dX3_number_13 (by decide) ?_
    refine lv_aload_n hx hb dX3_number_37 rfl (lv_at hl 0 rfl) ?_
    refine va_get (D := G) (ci := 3) (v := .int v_1017) (C := RX3) (T := TX3) (N := 10) hx hb hw0 inA_wsX30 hown hK.1 hP 0 rfl rfl 2 (by decide) (hw0 _ m_737) (fun _ h9 => h9) rfl dX3_number_38 ?_
    refine lv_if_eq (tgt := 46) hx hb dX3_number_41 (by decide) (fun c9 => absurd c9 (dc_neq bv_1017 (bkc (x := 0) (c := 0) (by decide)) (by decide))) (fun _ => ?_)
    refine lv_iconst (v := 0) hx hb dX3_number_44 (by decide) ?_
    exact W.iret (v := 0) hx hb hr (fun t ht hW => ⟨⟨0, _, rfl, ⟨0, v_1017, v_1018, ob_begin, ob_next, ob_kind, ob_value, (bw (0) (99) (bkc (x := 0) (c := 0) (by decide)) (by decide)), (bw (0) (3) bv_1017 (by decide)), p_ob_begin, p_ob_next, nc_1001.1, p_ob_value, (by have lm1 : Int32.toInt (-1) = -1 := (by decide); have l91 : Int32.toInt 1 = 1 := (by decide); have l92 : Int32.toInt 2 = 2 := (by decide); have l93 : Int32.toInt 3 = 3 := (by decide); have h90 : Int32.toInt 0 = 0 := (by decide); have h91 : Int32.toInt 99 = 99 := (by decide); by_cases hF0 : ob_fault.toInt = 0 <;> first | exact nm_ok hq0 (by omega) (by omega) ⟨by omega, by omega⟩ (by omega) (by assumption) (by omega) (by omega) | exact nm_2 hq0 (by omega) (by omega) (by omega) (by omega) (by omega) (by omega) (by omega) | exact nm_1 hq0 (by omega) (by omega) (by omega) (by omega) (by omega) | exact nm_f (by omega) (by omega) (by omega) (by omega)), (by have lm1 : Int32.toInt (-1) = -1 := (by decide); have l91 : Int32.toInt 1 = 1 := (by decide); have l92 : Int32.toInt 2 = 2 := (by decide); have l93 : Int32.toInt 3 = 3 := (by decide); have h90 : Int32.toInt 0 = 0 := (by decide); have h91 : Int32.toInt 99 = 99 := (by decide); first | exact nv_ok hq0 (by omega) (by omega) ⟨by omega, by omega⟩ (by omega) (by omega) | exact nv_no hq0 (by omega) (by omega) (by omega)), (by assumption), rfl, rfl⟩, by rw [ht]; exact hP, hD⟩, hS.F ht⟩) hS.2.2 dX3_number_45

set_option maxHeartbeats 4000000 in
set_option maxRecDepth 100000 in
theorem fnr0_9 (l : Launch) (G : va_G) (y : Nat → ClassId) (sz : Nat) (ob : Nat) (ob_town : Nat) (ob_code : Nat) (ob_fault : Int32) (ob_place : Int32) (ob_text : Nat) (ob_size : Int32) (ob_begin : Int32) (ob_next : Int32) (ob_kind : Int32) (ob_value : Int32) (fob_text : Nat → Int32) (p_ob_fault : (0 : Int) ≤ ob_fault.toInt ∧ ob_fault.toInt ≤ 3) (p_ob_size : (0 : Int) ≤ ob_size.toInt ∧ ob_size.toInt ≤ 1400) (p_ob_begin : (0 : Int) ≤ ob_begin.toInt ∧ ob_begin.toInt ≤ 1400) (p_ob_next : (0 : Int) ≤ ob_next.toInt ∧ ob_next.toInt ≤ 1400) (p_ob_kind : (0 : Int) ≤ ob_kind.toInt ∧ ob_kind.toInt ≤ 4) (p_ob_value : (0 : Int) ≤ ob_value.toInt ∧ ob_value.toInt ≤ 1000000) (hq0 : qTok fob_text ob_size.toInt 1000000 ob_kind.toInt ob_begin.toInt ob_next.toInt ob_value.toInt) : Met l yX3_number (Cond.code yX3_number cX3_number 4 (some .int) :: wAll) ({ frames := 3, cells := 0, slots := 0, locals := 61 }) (va_Pc [.ref ob, .int 0, .int 9] (kp G y sz [(ce_X3 ob ob_town ob_code ob_fault ob_place ob_text ob_size ob_begin ob_next ob_kind ob_value), (ce_b1400 y ob_text fob_text)])) (va_Qi (fun (r : Int32) (w : va_W) => (∃ (v_41 : Int32) (v_42 : Int32) (v_43 : Int32) (v_44 : Int32) (v_45 : Int32) (v_46 : Int32) (v_47 : Int32), ((0 : Int) ≤ v_41.toInt ∧ v_41.toInt ≤ 9) ∧ ((0 : Int) ≤ v_42.toInt ∧ v_42.toInt ≤ 3) ∧ ((0 : Int) ≤ v_44.toInt ∧ v_44.toInt ≤ 1400) ∧ ((0 : Int) ≤ v_45.toInt ∧ v_45.toInt ≤ 1400) ∧ ((0 : Int) ≤ v_46.toInt ∧ v_46.toInt ≤ 4) ∧ ((0 : Int) ≤ v_47.toInt ∧ v_47.toInt ≤ 1000000) ∧ (((v_42.toInt, v_43.toInt, v_44.toInt) : Int × Int × Int) = r_nm fob_text ob_size.toInt 0 9 ((ob_fault.toInt, ob_place.toInt, ob_begin.toInt) : Int × Int × Int)) ∧ (v_41.toInt = r_nv fob_text ob_size.toInt 0 9 ((ob_fault.toInt, ob_place.toInt, ob_begin.toInt) : Int × Int × Int)) ∧ (qTok fob_text ob_size.toInt 1000000 v_46.toInt v_44.toInt v_45.toInt v_47.toInt) ∧ r = v_41 ∧ w = [(ce_X3 ob ob_town ob_code v_42 v_43 ob_text ob_size v_44 v_45 v_46 v_47), (ce_b1400 y ob_text fob_text)])) (kq G (va_A [(ce_X3 ob ob_town ob_code ob_fault ob_place ob_text ob_size ob_begin ob_next ob_kind ob_value), (ce_b1400 y ob_text fob_text)] sz)) (va_A [(ce_X3 ob ob_town ob_code ob_fault ob_place ob_text ob_size ob_begin ob_next ob_kind ob_value), (ce_b1400 y ob_text fob_text)] sz)) 0 0 (va_A [(ce_X3 ob ob_town ob_code ob_fault ob_place ob_text ob_size ob_begin ob_next ob_kind ob_value), (ce_b1400 y ob_text fob_text)] sz) := by
  refine Met.ofW (cc := cX3_number) (maxL := 4) (ret := (some .int)) (by decide) rfl ?_
  intro p e s m args below meth c s₁ B hml hv
  obtain ⟨rfl, hsz, hP, hK, hD0⟩ := hv
  have hx := B.exec
  have hb := B.bytes
  have hr := B.returns
  have hw0 : ∀ w ∈ wAll, w.before _ s = true := fun w h => atoms_spec (ws := Cond.code yX3_number cX3_number 4 (some .int) :: wAll) B.pre w (List.mem_cons_of_mem _ h)
  have hown : s.vm.findClass RX3 = some m.cls := findClass_of_methodNamed B.named
  subst hsz
  have hD := hD0.self (sz := s.heap.size)
  generalize hAe : va_A [(ce_X3 ob ob_town ob_code ob_fault ob_place ob_text ob_size ob_begin ob_next ob_kind ob_value), (ce_b1400 y ob_text fob_text)] s.heap.size = A at hD ⊢
  have hA : ∀ q : Nat, s.heap.size ≤ q → A q := fun q h => by rw [← hAe]; exact Or.inr h
  have hS : va_S A s.heap s.heap [] := va_S.rf
  have hP : va_P G vwCl [(ce_X3 ob ob_town ob_code ob_fault ob_place ob_text ob_size ob_begin ob_next ob_kind ob_value), (ce_b1400 y ob_text fob_text)] s.heap := hP
  have hl := lv_entry ([.ref ob, .int 0, .int 9]) (n := 4) (Nat.le_of_ble_eq_true rfl)
  rw [lg_entry_eq]
  generalize (lg_sl ([.ref ob, .int 0, .int 9]) ++ List.replicate (4 - (lg_sl ([.ref ob, .int 0, .int 9])).length) Slot.unset).toArray = ls at hl ⊢
  have hl : lv_has ls 4 [(0, .ref ob), (1, .int 0), (2, .int 9)] := hl
  refine lv_aload_n hx hb dX3_number_0 rfl (lv_at hl 0 rfl) ?_
  refine va_get (D := G) (ci := 3) (v := .int ob_kind) (C := RX3) (T := TX3) (N := 10) hx hb hw0 inA_wsX30 hown hK.1 hP 0 rfl rfl 8 (by decide) (hw0 _ m_719) (fun _ h9 => h9) rfl dX3_number_1 ?_
  refine lv_iconst (v := 2) hx hb dX3_number_4 (by decide) ?_
  refine lv_icmp_eq (tgt := 16) hx hb dX3_number_5 (by decide) (fun c_1001 => ?_) (fun c_1001 => ?_)
  · skip
    have nc_1001 := nb_eq (2) (2) c_1001 p_ob_kind (bkc (x := 2) (c := 2) (by decide)) (by decide)
    refine lv_aload_n hx hb dX3_number_16 rfl (lv_at hl 0 rfl) ?_
    refine va_get (D := G) (ci := 3) (v := .int ob_value) (C := RX3) (T := TX3) (N := 10) hx hb hw0 inA_wsX30 hown hK.1 hP 0 rfl rfl 9 (by decide) (hw0 _ m_753) (fun _ h9 => h9) rfl dX3_number_17 ?_
    refine lv_iload_n hx hb dX3_number_20 rfl (lv_at hl 1 rfl) ?_
    refine lv_icmp_lt (tgt := 32) hx hb dX3_number_21 (by decide) (fun c9 => absurd c9 (dc_nlt p_ob_value (bkc (x := 0) (c := 0) (by decide)) (by decide))) (fun _ => ?_)
    refine lv_aload_n hx hb dX3_number_24 rfl (lv_at hl 0 rfl) ?_
    refine va_get (D := G) (ci := 3) (v := .int ob_value) (C := RX3) (T := TX3) (N := 10) hx hb hw0 inA_wsX30 hown hK.1 hP 0 rfl rfl 9 (by decide) (hw0 _ m_753) (fun _ h9 => h9) rfl dX3_number_25 ?_
    refine lv_iload_n hx hb dX3_number_28 rfl (lv_at hl 2 rfl) ?_
    refine lv_icmp_le (tgt := 37) hx hb dX3_number_29 (by decide) (fun c_1002 => ?_) (fun c_1002 => ?_)
    · skip
      have nc_1002 := nb_le (9) (9) c_1002 p_ob_value (bkc (x := 9) (c := 9) (by decide)) (by decide)
      refine lv_aload_n hx hb dX3_number_37 rfl (lv_at hl 0 rfl) ?_
      refine va_get (D := G) (ci := 3) (v := .int ob_fault) (C := RX3) (T := TX3) (N := 10) hx hb hw0 inA_wsX30 hown hK.1 hP 0 rfl rfl 2 (by decide) (hw0 _ m_737) (fun _ h9 => h9) rfl dX3_number_38 ?_
      refine lv_if_eq (tgt := 46) hx hb dX3_number_41 (by decide) (fun c_1003 => ?_) (fun c_1003 => ?_)
      · skip
        have nc_1003 := nb_eq (0) (0) c_1003 p_ob_fault (bkc (x := 0) (c := 0) (by decide)) (by decide)
        refine lv_aload_n hx hb dX3_number_46 rfl (lv_at hl 0 rfl) ?_
        refine va_get (D := G) (ci := 3) (v := .int ob_value) (C := RX3) (T := TX3) (N := 10) hx hb hw0 inA_wsX30 hown hK.1 hP 0 rfl rfl 9 (by decide) (hw0 _ m_753) (fun _ h9 => h9) rfl dX3_number_47 ?_
        refine lv_istore_n (lv' := [(3, .int ob_value), (0, .ref ob), (1, .int 0), (2, .int 9)]) hx hb dX3_number_50 rfl hl (by decide) rfl (fun ls hl => ?_)
        refine lv_aload_n hx hb dX3_number_51 rfl (lv_at hl 1 rfl) ?_
        refine cVvm (As := []) (rest := []) ⟨hx, hb, hml, hown, hw0⟩ hA hK hP hD hS [true, true] (sX3_advance l G y _ ob ob_town ob_code ob_fault ob_place ob_text ob_size ob_begin ob_next ob_kind ob_value fob_text (bw (0) (3) nc_1003.1 (by decide)) p_ob_size p_ob_begin p_ob_next (bw (0) (4) nc_1001.1 (by decide)) (bw (0) (1000000) nc_1002.1 (by decide)) (by have h90 : Int32.toInt 0 = 0 := (by decide); have h91 : Int32.toInt 9 = 9 := (by decide); first | omega | exact (tok_le (by assumption)).2)) rfl ⟨(callB_of 0 hw0 (gA m_714) rfl rfl rfl (hw0 _ m_721) (hw0 _ m_738) cb_X3_advance ⟨Nat.le_of_ble_eq_true rfl, Nat.le_of_ble_eq_true rfl⟩), (hw0 _ m_739), (hw0 _ m_740)⟩ (ci := 3) (q := (RX3, TX3, 10)) rfl rfl rfl hl.1 (Nat.le_of_ble_eq_true rfl) dX3_number_52 ⟨Nat.le_of_ble_eq_true rfl, Nat.le_of_ble_eq_true rfl⟩ (fun w_1004 H locs hw_1004 hP hD hS => ?_)
        obtain ⟨v_1005, v_1006, v_1007, v_1008, bv_1005, bv_1006, bv_1007, bv_1008, h_1009, h_1010, rfl⟩ := hw_1004
        obtain ⟨hP, hD⟩ : vPD G A H [(ce_X3 ob ob_town ob_code ob_fault ob_place ob_text ob_size v_1005 v_1006 v_1007 v_1008), (ce_b1400 y ob_text fob_text)] := ⟨hP, hD⟩
        refine lv_iload_n hx hb dX3_number_55 rfl (lv_at hl 0 rfl) ?_
        exact W.iret (v := ob_value) hx hb hr (fun t ht hW => ⟨⟨ob_value, _, rfl, ⟨ob_value, ob_fault, ob_place, v_1005, v_1006, v_1007, v_1008, nc_1002.1, (bw (0) (3) nc_1003.1 (by decide)), bv_1005, bv_1006, bv_1007, bv_1008, (by have lm1 : Int32.toInt (-1) = -1 := (by decide); have l91 : Int32.toInt 1 = 1 := (by decide); have l92 : Int32.toInt 2 = 2 := (by decide); have l93 : Int32.toInt 3 = 3 := (by decide); have h90 : Int32.toInt 0 = 0 := (by decide); have h91 : Int32.toInt 9 = 9 := (by decide); by_cases hF0 : ob_fault.toInt = 0 <;> first | exact nm_ok hq0 (by omega) (by omega) ⟨by omega, by omega⟩ (by omega) (by assumption) (by omega) (by omega) | exact nm_2 hq0 (by omega) (by omega) (by omega) (by omega) (by omega) (by omega) (by omega) | exact nm_1 hq0 (by omega) (by omega) (by omega) (by omega) (by omega) | exact nm_f (by omega) (by omega) (by omega) (by omega)), (by have lm1 : Int32.toInt (-1) = -1 := (by decide); have l91 : Int32.toInt 1 = 1 := (by decide); have l92 : Int32.toInt 2 = 2 := (by decide); have l93 : Int32.toInt 3 = 3 := (by decide); have h90 : Int32.toInt 0 = 0 := (by decide); have h91 : Int32.toInt 9 = 9 := (by decide); first | exact nv_ok hq0 (by omega) (by omega) ⟨by omega, by omega⟩ (by omega) (by omega) | exact nv_no hq0 (by omega) (by omega) (by omega)), (by assumption), rfl, rfl⟩, by rw [ht]; exact hP, hD⟩, hS.F ht⟩) hS.2.2 dX3_number_56
      · skip
        have nc_1003 := nb_ne (1) (3) c_1003 p_ob_fault (k := 0) (by decide) (by decide)
        refine lv_iconst (v := 0) hx hb dX3_number_44 (by decide) ?_
        exact W.iret (v := 0) hx hb hr (fun t ht hW => ⟨⟨0, _, rfl, ⟨0, ob_fault, ob_place, ob_begin, ob_next, ob_kind, ob_value, (bw (0) (9) (bkc (x := 0) (c := 0) (by decide)) (by decide)), (bw (0) (3) nc_1003.1 (by decide)), p_ob_begin, p_ob_next, (bw (0) (4) nc_1001.1 (by decide)), (bw (0) (1000000) nc_1002.1 (by decide)), (by have lm1 : Int32.toInt (-1) = -1 := (by decide); have l91 : Int32.toInt 1 = 1 := (by decide); have l92 : Int32.toInt 2 = 2 := (by decide); have l93 : Int32.toInt 3 = 3 := (by decide); have h90 : Int32.toInt 0 = 0 := (by decide); have h91 : Int32.toInt 9 = 9 := (by decide); by_cases hF0 : ob_fault.toInt = 0 <;> first | exact nm_ok hq0 (by omega) (by omega) ⟨by omega, by omega⟩ (by omega) (by assumption) (by omega) (by omega) | exact nm_2 hq0 (by omega) (by omega) (by omega) (by omega) (by omega) (by omega) (by omega) | exact nm_1 hq0 (by omega) (by omega) (by omega) (by omega) (by omega) | exact nm_f (by omega) (by omega) (by omega) (by omega)), (by have lm1 : Int32.toInt (-1) = -1 := (by decide); have l91 : Int32.toInt 1 = 1 := (by decide); have l92 : Int32.toInt 2 = 2 := (by decide); have l93 : Int32.toInt 3 = 3 := (by decide); have h90 : Int32.toInt 0 = 0 := (by decide); have h91 : Int32.toInt 9 = 9 := (by decide); first | exact nv_ok hq0 (by omega) (by omega) ⟨by omega, by omega⟩ (by omega) (by omega) | exact nv_no hq0 (by omega) (by omega) (by omega)), (by assumption), rfl, rfl⟩, by rw [ht]; exact hP, hD⟩, hS.F ht⟩) hS.2.2 dX3_number_45
    · skip
      have nc_1002 := nb_nle (9) (10) c_1002 (bkc (x := 9) (c := 9) (by decide)) p_ob_value (by decide)
      refine lv_aload_n hx hb dX3_number_32 rfl (lv_at hl 0 rfl) ?_
      refine lv_iconst (v := 2) hx hb dX3_number_33 (by decide) ?_
      refine cVvm (As := [.int 2]) (rest := []) ⟨hx, hb, hml, hown, hw0⟩ hA hK hP hD hS [true] (sX3_refuse l G y _ ob 2 ob_town ob_code ob_fault ob_place ob_text ob_size ob_begin ob_next ob_kind ob_value p_ob_fault p_ob_size p_ob_begin p_ob_next (bw (0) (4) nc_1001.1 (by decide)) (bw (0) (1000000) nc_1002.2.1 (by decide)) (bw (1) (3) (bkc (x := 2) (c := 2) (by decide)) (by decide))) rfl ⟨(callB_of 1 hw0 (gA m_816) rfl rfl rfl (hw0 _ m_721) (hw0 _ m_734) cb_X3_refuse ⟨Nat.le_of_ble_eq_true rfl, Nat.le_of_ble_eq_true rfl⟩), (hw0 _ m_735), (hw0 _ m_736)⟩ (ci := 3) (q := (RX3, TX3, 10)) rfl rfl rfl hl.1 (Nat.le_of_ble_eq_true rfl) dX3_number_34 ⟨Nat.le_of_ble_eq_true rfl, Nat.le_of_ble_eq_true rfl⟩ (fun w_1011 H locs hw_1011 hP hD hS => ?_)
      obtain ⟨v_1012, v_1013, bv_1012, h_1014, h_1015, rfl⟩ := hw_1011
      obtain ⟨hP, hD⟩ : vPD G A H [(ce_X3 ob ob_town ob_code v_1012 v_1013 ob_text ob_size ob_begin ob_next ob_kind ob_value), (ce_b1400 y ob_text fob_text)] := ⟨hP, hD⟩
      refine lv_aload_n hx hb dX3_number_37 rfl (lv_at hl 0 rfl) ?_
      refine va_get (D := G) (ci := 3) (v := .int v_1012) (C := RX3) (T := TX3) (N := 10) hx hb hw0 inA_wsX30 hown hK.1 hP 0 rfl rfl 2 (by decide) (hw0 _ m_737) (fun _ h9 => h9) rfl dX3_number_38 ?_
      refine lv_if_eq (tgt := 46) hx hb dX3_number_41 (by decide) (fun c9 => absurd c9 (dc_neq bv_1012 (bkc (x := 0) (c := 0) (by decide)) (by decide))) (fun _ => ?_)
      refine lv_iconst (v := 0) hx hb dX3_number_44 (by decide) ?_
      exact W.iret (v := 0) hx hb hr (fun t ht hW => ⟨⟨0, _, rfl, ⟨0, v_1012, v_1013, ob_begin, ob_next, ob_kind, ob_value, (bw (0) (9) (bkc (x := 0) (c := 0) (by decide)) (by decide)), (bw (0) (3) bv_1012 (by decide)), p_ob_begin, p_ob_next, (bw (0) (4) nc_1001.1 (by decide)), (bw (0) (1000000) nc_1002.2.1 (by decide)), (by have lm1 : Int32.toInt (-1) = -1 := (by decide); have l91 : Int32.toInt 1 = 1 := (by decide); have l92 : Int32.toInt 2 = 2 := (by decide); have l93 : Int32.toInt 3 = 3 := (by decide); have h90 : Int32.toInt 0 = 0 := (by decide); have h91 : Int32.toInt 9 = 9 := (by decide); by_cases hF0 : ob_fault.toInt = 0 <;> first | exact nm_ok hq0 (by omega) (by omega) ⟨by omega, by omega⟩ (by omega) (by assumption) (by omega) (by omega) | exact nm_2 hq0 (by omega) (by omega) (by omega) (by omega) (by omega) (by omega) (by omega) | exact nm_1 hq0 (by omega) (by omega) (by omega) (by omega) (by omega) | exact nm_f (by omega) (by omega) (by omega) (by omega)), (by have lm1 : Int32.toInt (-1) = -1 := (by decide); have l91 : Int32.toInt 1 = 1 := (by decide); have l92 : Int32.toInt 2 = 2 := (by decide); have l93 : Int32.toInt 3 = 3 := (by decide); have h90 : Int32.toInt 0 = 0 := (by decide); have h91 : Int32.toInt 9 = 9 := (by decide); first | exact nv_ok hq0 (by omega) (by omega) ⟨by omega, by omega⟩ (by omega) (by omega) | exact nv_no hq0 (by omega) (by omega) (by omega)), (by assumption), rfl, rfl⟩, by rw [ht]; exact hP, hD⟩, hS.F ht⟩) hS.2.2 dX3_number_45
  · skip
    have nc_1001 := nb_ne (0) (4) c_1001 p_ob_kind (k := 2) (by decide) (by decide)
    refine lv_aload_n hx hb dX3_number_8 rfl (lv_at hl 0 rfl) ?_
    refine lv_iconst (v := 1) hx hb dX3_number_9 (by decide) ?_
    refine cVvm (As := [.int 1]) (rest := []) ⟨hx, hb, hml, hown, hw0⟩ hA hK hP hD hS [true] (sX3_refuse l G y _ ob 1 ob_town ob_code ob_fault ob_place ob_text ob_size ob_begin ob_next ob_kind ob_value p_ob_fault p_ob_size p_ob_begin p_ob_next nc_1001.1 p_ob_value (bw (1) (3) (bkc (x := 1) (c := 1) (by decide)) (by decide))) rfl ⟨(callB_of 1 hw0 (gA m_816) rfl rfl rfl (hw0 _ m_721) (hw0 _ m_734) cb_X3_refuse ⟨Nat.le_of_ble_eq_true rfl, Nat.le_of_ble_eq_true rfl⟩), (hw0 _ m_735), (hw0 _ m_736)⟩ (ci := 3) (q := (RX3, TX3, 10)) rfl rfl rfl hl.1 (Nat.le_of_ble_eq_true rfl) dX3_number_10 ⟨Nat.le_of_ble_eq_true rfl, Nat.le_of_ble_eq_true rfl⟩ (fun w_1016 H locs hw_1016 hP hD hS => ?_)
    obtain ⟨v_1017, v_1018, bv_1017, h_1019, h_1020, rfl⟩ := hw_1016
    obtain ⟨hP, hD⟩ : vPD G A H [(ce_X3 ob ob_town ob_code v_1017 v_1018 ob_text ob_size ob_begin ob_next ob_kind ob_value), (ce_b1400 y ob_text fob_text)] := ⟨hP, hD⟩
    refine lv_goto (tgt := 37) hx hb dX3_number_13 (by decide) ?_
    refine lv_aload_n hx hb dX3_number_37 rfl (lv_at hl 0 rfl) ?_
    refine va_get (D := G) (ci := 3) (v := .int v_1017) (C := RX3) (T := TX3) (N := 10) hx hb hw0 inA_wsX30 hown hK.1 hP 0 rfl rfl 2 (by decide) (hw0 _ m_737) (fun _ h9 => h9) rfl dX3_number_38 ?_
    refine lv_if_eq (tgt := 46) hx hb dX3_number_41 (by decide) (fun c9 => absurd c9 (dc_neq bv_1017 (bkc (x := 0) (c := 0) (by decide)) (by decide))) (fun _ => ?_)
    refine lv_iconst (v := 0) hx hb dX3_number_44 (by decide) ?_
    exact W.iret (v := 0) hx hb hr (fun t ht hW => ⟨⟨0, _, rfl, ⟨0, v_1017, v_1018, ob_begin, ob_next, ob_kind, ob_value, (bw (0) (9) (bkc (x := 0) (c := 0) (by decide)) (by decide)), (bw (0) (3) bv_1017 (by decide)), p_ob_begin, p_ob_next, nc_1001.1, p_ob_value, (by have lm1 : Int32.toInt (-1) = -1 := (by decide); have l91 : Int32.toInt 1 = 1 := (by decide); have l92 : Int32.toInt 2 = 2 := (by decide); have l93 : Int32.toInt 3 = 3 := (by decide); have h90 : Int32.toInt 0 = 0 := (by decide); have h91 : Int32.toInt 9 = 9 := (by decide); by_cases hF0 : ob_fault.toInt = 0 <;> first | exact nm_ok hq0 (by omega) (by omega) ⟨by omega, by omega⟩ (by omega) (by assumption) (by omega) (by omega) | exact nm_2 hq0 (by omega) (by omega) (by omega) (by omega) (by omega) (by omega) (by omega) | exact nm_1 hq0 (by omega) (by omega) (by omega) (by omega) (by omega) | exact nm_f (by omega) (by omega) (by omega) (by omega)), (by have lm1 : Int32.toInt (-1) = -1 := (by decide); have l91 : Int32.toInt 1 = 1 := (by decide); have l92 : Int32.toInt 2 = 2 := (by decide); have l93 : Int32.toInt 3 = 3 := (by decide); have h90 : Int32.toInt 0 = 0 := (by decide); have h91 : Int32.toInt 9 = 9 := (by decide); first | exact nv_ok hq0 (by omega) (by omega) ⟨by omega, by omega⟩ (by omega) (by omega) | exact nv_no hq0 (by omega) (by omega) (by omega)), (by assumption), rfl, rfl⟩, by rw [ht]; exact hP, hD⟩, hS.F ht⟩) hS.2.2 dX3_number_45

set_option maxHeartbeats 4000000 in
set_option maxRecDepth 100000 in
theorem fnr0_180 (l : Launch) (G : va_G) (y : Nat → ClassId) (sz : Nat) (ob : Nat) (ob_town : Nat) (ob_code : Nat) (ob_fault : Int32) (ob_place : Int32) (ob_text : Nat) (ob_size : Int32) (ob_begin : Int32) (ob_next : Int32) (ob_kind : Int32) (ob_value : Int32) (fob_text : Nat → Int32) (p_ob_fault : (0 : Int) ≤ ob_fault.toInt ∧ ob_fault.toInt ≤ 3) (p_ob_size : (0 : Int) ≤ ob_size.toInt ∧ ob_size.toInt ≤ 1400) (p_ob_begin : (0 : Int) ≤ ob_begin.toInt ∧ ob_begin.toInt ≤ 1400) (p_ob_next : (0 : Int) ≤ ob_next.toInt ∧ ob_next.toInt ≤ 1400) (p_ob_kind : (0 : Int) ≤ ob_kind.toInt ∧ ob_kind.toInt ≤ 4) (p_ob_value : (0 : Int) ≤ ob_value.toInt ∧ ob_value.toInt ≤ 1000000) (hq0 : qTok fob_text ob_size.toInt 1000000 ob_kind.toInt ob_begin.toInt ob_next.toInt ob_value.toInt) : Met l yX3_number (Cond.code yX3_number cX3_number 4 (some .int) :: wAll) ({ frames := 3, cells := 0, slots := 0, locals := 61 }) (va_Pc [.ref ob, .int 0, .int 180] (kp G y sz [(ce_X3 ob ob_town ob_code ob_fault ob_place ob_text ob_size ob_begin ob_next ob_kind ob_value), (ce_b1400 y ob_text fob_text)])) (va_Qi (fun (r : Int32) (w : va_W) => (∃ (v_41 : Int32) (v_42 : Int32) (v_43 : Int32) (v_44 : Int32) (v_45 : Int32) (v_46 : Int32) (v_47 : Int32), ((0 : Int) ≤ v_41.toInt ∧ v_41.toInt ≤ 180) ∧ ((0 : Int) ≤ v_42.toInt ∧ v_42.toInt ≤ 3) ∧ ((0 : Int) ≤ v_44.toInt ∧ v_44.toInt ≤ 1400) ∧ ((0 : Int) ≤ v_45.toInt ∧ v_45.toInt ≤ 1400) ∧ ((0 : Int) ≤ v_46.toInt ∧ v_46.toInt ≤ 4) ∧ ((0 : Int) ≤ v_47.toInt ∧ v_47.toInt ≤ 1000000) ∧ (((v_42.toInt, v_43.toInt, v_44.toInt) : Int × Int × Int) = r_nm fob_text ob_size.toInt 0 180 ((ob_fault.toInt, ob_place.toInt, ob_begin.toInt) : Int × Int × Int)) ∧ (v_41.toInt = r_nv fob_text ob_size.toInt 0 180 ((ob_fault.toInt, ob_place.toInt, ob_begin.toInt) : Int × Int × Int)) ∧ (qTok fob_text ob_size.toInt 1000000 v_46.toInt v_44.toInt v_45.toInt v_47.toInt) ∧ r = v_41 ∧ w = [(ce_X3 ob ob_town ob_code v_42 v_43 ob_text ob_size v_44 v_45 v_46 v_47), (ce_b1400 y ob_text fob_text)])) (kq G (va_A [(ce_X3 ob ob_town ob_code ob_fault ob_place ob_text ob_size ob_begin ob_next ob_kind ob_value), (ce_b1400 y ob_text fob_text)] sz)) (va_A [(ce_X3 ob ob_town ob_code ob_fault ob_place ob_text ob_size ob_begin ob_next ob_kind ob_value), (ce_b1400 y ob_text fob_text)] sz)) 0 0 (va_A [(ce_X3 ob ob_town ob_code ob_fault ob_place ob_text ob_size ob_begin ob_next ob_kind ob_value), (ce_b1400 y ob_text fob_text)] sz) := by
  refine Met.ofW (cc := cX3_number) (maxL := 4) (ret := (some .int)) (by decide) rfl ?_
  intro p e s m args below meth c s₁ B hml hv
  obtain ⟨rfl, hsz, hP, hK, hD0⟩ := hv
  have hx := B.exec
  have hb := B.bytes
  have hr := B.returns
  have hw0 : ∀ w ∈ wAll, w.before _ s = true := fun w h => atoms_spec (ws := Cond.code yX3_number cX3_number 4 (some .int) :: wAll) B.pre w (List.mem_cons_of_mem _ h)
  have hown : s.vm.findClass RX3 = some m.cls := findClass_of_methodNamed B.named
  subst hsz
  have hD := hD0.self (sz := s.heap.size)
  generalize hAe : va_A [(ce_X3 ob ob_town ob_code ob_fault ob_place ob_text ob_size ob_begin ob_next ob_kind ob_value), (ce_b1400 y ob_text fob_text)] s.heap.size = A at hD ⊢
  have hA : ∀ q : Nat, s.heap.size ≤ q → A q := fun q h => by rw [← hAe]; exact Or.inr h
  have hS : va_S A s.heap s.heap [] := va_S.rf
  have hP : va_P G vwCl [(ce_X3 ob ob_town ob_code ob_fault ob_place ob_text ob_size ob_begin ob_next ob_kind ob_value), (ce_b1400 y ob_text fob_text)] s.heap := hP
  have hl := lv_entry ([.ref ob, .int 0, .int 180]) (n := 4) (Nat.le_of_ble_eq_true rfl)
  rw [lg_entry_eq]
  generalize (lg_sl ([.ref ob, .int 0, .int 180]) ++ List.replicate (4 - (lg_sl ([.ref ob, .int 0, .int 180])).length) Slot.unset).toArray = ls at hl ⊢
  have hl : lv_has ls 4 [(0, .ref ob), (1, .int 0), (2, .int 180)] := hl
  refine lv_aload_n hx hb dX3_number_0 rfl (lv_at hl 0 rfl) ?_
  refine va_get (D := G) (ci := 3) (v := .int ob_kind) (C := RX3) (T := TX3) (N := 10) hx hb hw0 inA_wsX30 hown hK.1 hP 0 rfl rfl 8 (by decide) (hw0 _ m_719) (fun _ h9 => h9) rfl dX3_number_1 ?_
  refine lv_iconst (v := 2) hx hb dX3_number_4 (by decide) ?_
  refine lv_icmp_eq (tgt := 16) hx hb dX3_number_5 (by decide) (fun c_1001 => ?_) (fun c_1001 => ?_)
  · skip
    have nc_1001 := nb_eq (2) (2) c_1001 p_ob_kind (bkc (x := 2) (c := 2) (by decide)) (by decide)
    refine lv_aload_n hx hb dX3_number_16 rfl (lv_at hl 0 rfl) ?_
    refine va_get (D := G) (ci := 3) (v := .int ob_value) (C := RX3) (T := TX3) (N := 10) hx hb hw0 inA_wsX30 hown hK.1 hP 0 rfl rfl 9 (by decide) (hw0 _ m_753) (fun _ h9 => h9) rfl dX3_number_17 ?_
    refine lv_iload_n hx hb dX3_number_20 rfl (lv_at hl 1 rfl) ?_
    refine lv_icmp_lt (tgt := 32) hx hb dX3_number_21 (by decide) (fun c9 => absurd c9 (dc_nlt p_ob_value (bkc (x := 0) (c := 0) (by decide)) (by decide))) (fun _ => ?_)
    refine lv_aload_n hx hb dX3_number_24 rfl (lv_at hl 0 rfl) ?_
    refine va_get (D := G) (ci := 3) (v := .int ob_value) (C := RX3) (T := TX3) (N := 10) hx hb hw0 inA_wsX30 hown hK.1 hP 0 rfl rfl 9 (by decide) (hw0 _ m_753) (fun _ h9 => h9) rfl dX3_number_25 ?_
    refine lv_iload_n hx hb dX3_number_28 rfl (lv_at hl 2 rfl) ?_
    refine lv_icmp_le (tgt := 37) hx hb dX3_number_29 (by decide) (fun c_1002 => ?_) (fun c_1002 => ?_)
    · skip
      have nc_1002 := nb_le (180) (180) c_1002 p_ob_value (bkc (x := 180) (c := 180) (by decide)) (by decide)
      refine lv_aload_n hx hb dX3_number_37 rfl (lv_at hl 0 rfl) ?_
      refine va_get (D := G) (ci := 3) (v := .int ob_fault) (C := RX3) (T := TX3) (N := 10) hx hb hw0 inA_wsX30 hown hK.1 hP 0 rfl rfl 2 (by decide) (hw0 _ m_737) (fun _ h9 => h9) rfl dX3_number_38 ?_
      refine lv_if_eq (tgt := 46) hx hb dX3_number_41 (by decide) (fun c_1003 => ?_) (fun c_1003 => ?_)
      · skip
        have nc_1003 := nb_eq (0) (0) c_1003 p_ob_fault (bkc (x := 0) (c := 0) (by decide)) (by decide)
        refine lv_aload_n hx hb dX3_number_46 rfl (lv_at hl 0 rfl) ?_
        refine va_get (D := G) (ci := 3) (v := .int ob_value) (C := RX3) (T := TX3) (N := 10) hx hb hw0 inA_wsX30 hown hK.1 hP 0 rfl rfl 9 (by decide) (hw0 _ m_753) (fun _ h9 => h9) rfl dX3_number_47 ?_
        refine lv_istore_n (lv' := [(3, .int ob_value), (0, .ref ob), (1, .int 0), (2, .int 180)]) hx hb dX3_number_50 rfl hl (by decide) rfl (fun ls hl => ?_)
        refine lv_aload_n hx hb dX3_number_51 rfl (lv_at hl 1 rfl) ?_
        refine cVvm (As := []) (rest := []) ⟨hx, hb, hml, hown, hw0⟩ hA hK hP hD hS [true, true] (sX3_advance l G y _ ob ob_town ob_code ob_fault ob_place ob_text ob_size ob_begin ob_next ob_kind ob_value fob_text (bw (0) (3) nc_1003.1 (by decide)) p_ob_size p_ob_begin p_ob_next (bw (0) (4) nc_1001.1 (by decide)) (bw (0) (1000000) nc_1002.1 (by decide)) (by have h90 : Int32.toInt 0 = 0 := (by decide); have h91 : Int32.toInt 180 = 180 := (by decide); first | omega | exact (tok_le (by assumption)).2)) rfl ⟨(callB_of 0 hw0 (gA m_714) rfl rfl rfl (hw0 _ m_721) (hw0 _ m_738) cb_X3_advance ⟨Nat.le_of_ble_eq_true rfl, Nat.le_of_ble_eq_true rfl⟩), (hw0 _ m_739), (hw0 _ m_740)⟩ (ci := 3) (q := (RX3, TX3, 10)) rfl rfl rfl hl.1 (Nat.le_of_ble_eq_true rfl) dX3_number_52 ⟨Nat.le_of_ble_eq_true rfl, Nat.le_of_ble_eq_true rfl⟩ (fun w_1004 H locs hw_1004 hP hD hS => ?_)
        obtain ⟨v_1005, v_1006, v_1007, v_1008, bv_1005, bv_1006, bv_1007, bv_1008, h_1009, h_1010, rfl⟩ := hw_1004
        obtain ⟨hP, hD⟩ : vPD G A H [(ce_X3 ob ob_town ob_code ob_fault ob_place ob_text ob_size v_1005 v_1006 v_1007 v_1008), (ce_b1400 y ob_text fob_text)] := ⟨hP, hD⟩
        refine lv_iload_n hx hb dX3_number_55 rfl (lv_at hl 0 rfl) ?_
        exact W.iret (v := ob_value) hx hb hr (fun t ht hW => ⟨⟨ob_value, _, rfl, ⟨ob_value, ob_fault, ob_place, v_1005, v_1006, v_1007, v_1008, nc_1002.1, (bw (0) (3) nc_1003.1 (by decide)), bv_1005, bv_1006, bv_1007, bv_1008, (by have lm1 : Int32.toInt (-1) = -1 := (by decide); have l91 : Int32.toInt 1 = 1 := (by decide); have l92 : Int32.toInt 2 = 2 := (by decide); have l93 : Int32.toInt 3 = 3 := (by decide); have h90 : Int32.toInt 0 = 0 := (by decide); have h91 : Int32.toInt 180 = 180 := (by decide); by_cases hF0 : ob_fault.toInt = 0 <;> first | exact nm_ok hq0 (by omega) (by omega) ⟨by omega, by omega⟩ (by omega) (by assumption) (by omega) (by omega) | exact nm_2 hq0 (by omega) (by omega) (by omega) (by omega) (by omega) (by omega) (by omega) | exact nm_1 hq0 (by omega) (by omega) (by omega) (by omega) (by omega) | exact nm_f (by omega) (by omega) (by omega) (by omega)), (by have lm1 : Int32.toInt (-1) = -1 := (by decide); have l91 : Int32.toInt 1 = 1 := (by decide); have l92 : Int32.toInt 2 = 2 := (by decide); have l93 : Int32.toInt 3 = 3 := (by decide); have h90 : Int32.toInt 0 = 0 := (by decide); have h91 : Int32.toInt 180 = 180 := (by decide); first | exact nv_ok hq0 (by omega) (by omega) ⟨by omega, by omega⟩ (by omega) (by omega) | exact nv_no hq0 (by omega) (by omega) (by omega)), (by assumption), rfl, rfl⟩, by rw [ht]; exact hP, hD⟩, hS.F ht⟩) hS.2.2 dX3_number_56
      · skip
        have nc_1003 := nb_ne (1) (3) c_1003 p_ob_fault (k := 0) (by decide) (by decide)
        refine lv_iconst (v := 0) hx hb dX3_number_44 (by decide) ?_
        exact W.iret (v := 0) hx hb hr (fun t ht hW => ⟨⟨0, _, rfl, ⟨0, ob_fault, ob_place, ob_begin, ob_next, ob_kind, ob_value, (bw (0) (180) (bkc (x := 0) (c := 0) (by decide)) (by decide)), (bw (0) (3) nc_1003.1 (by decide)), p_ob_begin, p_ob_next, (bw (0) (4) nc_1001.1 (by decide)), (bw (0) (1000000) nc_1002.1 (by decide)), (by have lm1 : Int32.toInt (-1) = -1 := (by decide); have l91 : Int32.toInt 1 = 1 := (by decide); have l92 : Int32.toInt 2 = 2 := (by decide); have l93 : Int32.toInt 3 = 3 := (by decide); have h90 : Int32.toInt 0 = 0 := (by decide); have h91 : Int32.toInt 180 = 180 := (by decide); by_cases hF0 : ob_fault.toInt = 0 <;> first | exact nm_ok hq0 (by omega) (by omega) ⟨by omega, by omega⟩ (by omega) (by assumption) (by omega) (by omega) | exact nm_2 hq0 (by omega) (by omega) (by omega) (by omega) (by omega) (by omega) (by omega) | exact nm_1 hq0 (by omega) (by omega) (by omega) (by omega) (by omega) | exact nm_f (by omega) (by omega) (by omega) (by omega)), (by have lm1 : Int32.toInt (-1) = -1 := (by decide); have l91 : Int32.toInt 1 = 1 := (by decide); have l92 : Int32.toInt 2 = 2 := (by decide); have l93 : Int32.toInt 3 = 3 := (by decide); have h90 : Int32.toInt 0 = 0 := (by decide); have h91 : Int32.toInt 180 = 180 := (by decide); first | exact nv_ok hq0 (by omega) (by omega) ⟨by omega, by omega⟩ (by omega) (by omega) | exact nv_no hq0 (by omega) (by omega) (by omega)), (by assumption), rfl, rfl⟩, by rw [ht]; exact hP, hD⟩, hS.F ht⟩) hS.2.2 dX3_number_45
    · skip
      have nc_1002 := nb_nle (180) (181) c_1002 (bkc (x := 180) (c := 180) (by decide)) p_ob_value (by decide)
      refine lv_aload_n hx hb dX3_number_32 rfl (lv_at hl 0 rfl) ?_
      refine lv_iconst (v := 2) hx hb dX3_number_33 (by decide) ?_
      refine cVvm (As := [.int 2]) (rest := []) ⟨hx, hb, hml, hown, hw0⟩ hA hK hP hD hS [true] (sX3_refuse l G y _ ob 2 ob_town ob_code ob_fault ob_place ob_text ob_size ob_begin ob_next ob_kind ob_value p_ob_fault p_ob_size p_ob_begin p_ob_next (bw (0) (4) nc_1001.1 (by decide)) (bw (0) (1000000) nc_1002.2.1 (by decide)) (bw (1) (3) (bkc (x := 2) (c := 2) (by decide)) (by decide))) rfl ⟨(callB_of 1 hw0 (gA m_816) rfl rfl rfl (hw0 _ m_721) (hw0 _ m_734) cb_X3_refuse ⟨Nat.le_of_ble_eq_true rfl, Nat.le_of_ble_eq_true rfl⟩), (hw0 _ m_735), (hw0 _ m_736)⟩ (ci := 3) (q := (RX3, TX3, 10)) rfl rfl rfl hl.1 (Nat.le_of_ble_eq_true rfl) dX3_number_34 ⟨Nat.le_of_ble_eq_true rfl, Nat.le_of_ble_eq_true rfl⟩ (fun w_1011 H locs hw_1011 hP hD hS => ?_)
      obtain ⟨v_1012, v_1013, bv_1012, h_1014, h_1015, rfl⟩ := hw_1011
      obtain ⟨hP, hD⟩ : vPD G A H [(ce_X3 ob ob_town ob_code v_1012 v_1013 ob_text ob_size ob_begin ob_next ob_kind ob_value), (ce_b1400 y ob_text fob_text)] := ⟨hP, hD⟩
      refine lv_aload_n hx hb dX3_number_37 rfl (lv_at hl 0 rfl) ?_
      refine va_get (D := G) (ci := 3) (v := .int v_1012) (C := RX3) (T := TX3) (N := 10) hx hb hw0 inA_wsX30 hown hK.1 hP 0 rfl rfl 2 (by decide) (hw0 _ m_737) (fun _ h9 => h9) rfl dX3_number_38 ?_
      refine lv_if_eq (tgt := 46) hx hb dX3_number_41 (by decide) (fun c9 => absurd c9 (dc_neq bv_1012 (bkc (x := 0) (c := 0) (by decide)) (by decide))) (fun _ => ?_)
      refine lv_iconst (v := 0) hx hb dX3_number_44 (by decide) ?_
      exact W.iret (v := 0) hx hb hr (fun t ht hW => ⟨⟨0, _, rfl, ⟨0, v_1012, v_1013, ob_begin, ob_next, ob_kind, ob_value, (bw (0) (180) (bkc (x := 0) (c := 0) (by decide)) (by decide)), (bw (0) (3) bv_1012 (by decide)), p_ob_begin, p_ob_next, (bw (0) (4) nc_1001.1 (by decide)), (bw (0) (1000000) nc_1002.2.1 (by decide)), (by have lm1 : Int32.toInt (-1) = -1 := (by decide); have l91 : Int32.toInt 1 = 1 := (by decide); have l92 : Int32.toInt 2 = 2 := (by decide); have l93 : Int32.toInt 3 = 3 := (by decide); have h90 : Int32.toInt 0 = 0 := (by decide); have h91 : Int32.toInt 180 = 180 := (by decide); by_cases hF0 : ob_fault.toInt = 0 <;> first | exact nm_ok hq0 (by omega) (by omega) ⟨by omega, by omega⟩ (by omega) (by assumption) (by omega) (by omega) | exact nm_2 hq0 (by omega) (by omega) (by omega) (by omega) (by omega) (by omega) (by omega) | exact nm_1 hq0 (by omega) (by omega) (by omega) (by omega) (by omega) | exact nm_f (by omega) (by omega) (by omega) (by omega)), (by have lm1 : Int32.toInt (-1) = -1 := (by decide); have l91 : Int32.toInt 1 = 1 := (by decide); have l92 : Int32.toInt 2 = 2 := (by decide); have l93 : Int32.toInt 3 = 3 := (by decide); have h90 : Int32.toInt 0 = 0 := (by decide); have h91 : Int32.toInt 180 = 180 := (by decide); first | exact nv_ok hq0 (by omega) (by omega) ⟨by omega, by omega⟩ (by omega) (by omega) | exact nv_no hq0 (by omega) (by omega) (by omega)), (by assumption), rfl, rfl⟩, by rw [ht]; exact hP, hD⟩, hS.F ht⟩) hS.2.2 dX3_number_45
  · skip
    have nc_1001 := nb_ne (0) (4) c_1001 p_ob_kind (k := 2) (by decide) (by decide)
    refine lv_aload_n hx hb dX3_number_8 rfl (lv_at hl 0 rfl) ?_
    refine lv_iconst (v := 1) hx hb dX3_number_9 (by decide) ?_
    refine cVvm (As := [.int 1]) (rest := []) ⟨hx, hb, hml, hown, hw0⟩ hA hK hP hD hS [true] (sX3_refuse l G y _ ob 1 ob_town ob_code ob_fault ob_place ob_text ob_size ob_begin ob_next ob_kind ob_value p_ob_fault p_ob_size p_ob_begin p_ob_next nc_1001.1 p_ob_value (bw (1) (3) (bkc (x := 1) (c := 1) (by decide)) (by decide))) rfl ⟨(callB_of 1 hw0 (gA m_816) rfl rfl rfl (hw0 _ m_721) (hw0 _ m_734) cb_X3_refuse ⟨Nat.le_of_ble_eq_true rfl, Nat.le_of_ble_eq_true rfl⟩), (hw0 _ m_735), (hw0 _ m_736)⟩ (ci := 3) (q := (RX3, TX3, 10)) rfl rfl rfl hl.1 (Nat.le_of_ble_eq_true rfl) dX3_number_10 ⟨Nat.le_of_ble_eq_true rfl, Nat.le_of_ble_eq_true rfl⟩ (fun w_1016 H locs hw_1016 hP hD hS => ?_)
    obtain ⟨v_1017, v_1018, bv_1017, h_1019, h_1020, rfl⟩ := hw_1016
    obtain ⟨hP, hD⟩ : vPD G A H [(ce_X3 ob ob_town ob_code v_1017 v_1018 ob_text ob_size ob_begin ob_next ob_kind ob_value), (ce_b1400 y ob_text fob_text)] := ⟨hP, hD⟩
    refine lv_goto (tgt := 37) hx hb dX3_number_13 (by decide) ?_
    refine lv_aload_n hx hb dX3_number_37 rfl (lv_at hl 0 rfl) ?_
    refine va_get (D := G) (ci := 3) (v := .int v_1017) (C := RX3) (T := TX3) (N := 10) hx hb hw0 inA_wsX30 hown hK.1 hP 0 rfl rfl 2 (by decide) (hw0 _ m_737) (fun _ h9 => h9) rfl dX3_number_38 ?_
    refine lv_if_eq (tgt := 46) hx hb dX3_number_41 (by decide) (fun c9 => absurd c9 (dc_neq bv_1017 (bkc (x := 0) (c := 0) (by decide)) (by decide))) (fun _ => ?_)
    refine lv_iconst (v := 0) hx hb dX3_number_44 (by decide) ?_
    exact W.iret (v := 0) hx hb hr (fun t ht hW => ⟨⟨0, _, rfl, ⟨0, v_1017, v_1018, ob_begin, ob_next, ob_kind, ob_value, (bw (0) (180) (bkc (x := 0) (c := 0) (by decide)) (by decide)), (bw (0) (3) bv_1017 (by decide)), p_ob_begin, p_ob_next, nc_1001.1, p_ob_value, (by have lm1 : Int32.toInt (-1) = -1 := (by decide); have l91 : Int32.toInt 1 = 1 := (by decide); have l92 : Int32.toInt 2 = 2 := (by decide); have l93 : Int32.toInt 3 = 3 := (by decide); have h90 : Int32.toInt 0 = 0 := (by decide); have h91 : Int32.toInt 180 = 180 := (by decide); by_cases hF0 : ob_fault.toInt = 0 <;> first | exact nm_ok hq0 (by omega) (by omega) ⟨by omega, by omega⟩ (by omega) (by assumption) (by omega) (by omega) | exact nm_2 hq0 (by omega) (by omega) (by omega) (by omega) (by omega) (by omega) (by omega) | exact nm_1 hq0 (by omega) (by omega) (by omega) (by omega) (by omega) | exact nm_f (by omega) (by omega) (by omega) (by omega)), (by have lm1 : Int32.toInt (-1) = -1 := (by decide); have l91 : Int32.toInt 1 = 1 := (by decide); have l92 : Int32.toInt 2 = 2 := (by decide); have l93 : Int32.toInt 3 = 3 := (by decide); have h90 : Int32.toInt 0 = 0 := (by decide); have h91 : Int32.toInt 180 = 180 := (by decide); first | exact nv_ok hq0 (by omega) (by omega) ⟨by omega, by omega⟩ (by omega) (by omega) | exact nv_no hq0 (by omega) (by omega) (by omega)), (by assumption), rfl, rfl⟩, by rw [ht]; exact hP, hD⟩, hS.F ht⟩) hS.2.2 dX3_number_45

set_option maxHeartbeats 4000000 in
set_option maxRecDepth 100000 in
theorem fnr0_399 (l : Launch) (G : va_G) (y : Nat → ClassId) (sz : Nat) (ob : Nat) (ob_town : Nat) (ob_code : Nat) (ob_fault : Int32) (ob_place : Int32) (ob_text : Nat) (ob_size : Int32) (ob_begin : Int32) (ob_next : Int32) (ob_kind : Int32) (ob_value : Int32) (fob_text : Nat → Int32) (p_ob_fault : (0 : Int) ≤ ob_fault.toInt ∧ ob_fault.toInt ≤ 3) (p_ob_size : (0 : Int) ≤ ob_size.toInt ∧ ob_size.toInt ≤ 1400) (p_ob_begin : (0 : Int) ≤ ob_begin.toInt ∧ ob_begin.toInt ≤ 1400) (p_ob_next : (0 : Int) ≤ ob_next.toInt ∧ ob_next.toInt ≤ 1400) (p_ob_kind : (0 : Int) ≤ ob_kind.toInt ∧ ob_kind.toInt ≤ 4) (p_ob_value : (0 : Int) ≤ ob_value.toInt ∧ ob_value.toInt ≤ 1000000) (hq0 : qTok fob_text ob_size.toInt 1000000 ob_kind.toInt ob_begin.toInt ob_next.toInt ob_value.toInt) : Met l yX3_number (Cond.code yX3_number cX3_number 4 (some .int) :: wAll) ({ frames := 3, cells := 0, slots := 0, locals := 61 }) (va_Pc [.ref ob, .int 0, .int 399] (kp G y sz [(ce_X3 ob ob_town ob_code ob_fault ob_place ob_text ob_size ob_begin ob_next ob_kind ob_value), (ce_b1400 y ob_text fob_text)])) (va_Qi (fun (r : Int32) (w : va_W) => (∃ (v_41 : Int32) (v_42 : Int32) (v_43 : Int32) (v_44 : Int32) (v_45 : Int32) (v_46 : Int32) (v_47 : Int32), ((0 : Int) ≤ v_41.toInt ∧ v_41.toInt ≤ 399) ∧ ((0 : Int) ≤ v_42.toInt ∧ v_42.toInt ≤ 3) ∧ ((0 : Int) ≤ v_44.toInt ∧ v_44.toInt ≤ 1400) ∧ ((0 : Int) ≤ v_45.toInt ∧ v_45.toInt ≤ 1400) ∧ ((0 : Int) ≤ v_46.toInt ∧ v_46.toInt ≤ 4) ∧ ((0 : Int) ≤ v_47.toInt ∧ v_47.toInt ≤ 1000000) ∧ (((v_42.toInt, v_43.toInt, v_44.toInt) : Int × Int × Int) = r_nm fob_text ob_size.toInt 0 399 ((ob_fault.toInt, ob_place.toInt, ob_begin.toInt) : Int × Int × Int)) ∧ (v_41.toInt = r_nv fob_text ob_size.toInt 0 399 ((ob_fault.toInt, ob_place.toInt, ob_begin.toInt) : Int × Int × Int)) ∧ (qTok fob_text ob_size.toInt 1000000 v_46.toInt v_44.toInt v_45.toInt v_47.toInt) ∧ r = v_41 ∧ w = [(ce_X3 ob ob_town ob_code v_42 v_43 ob_text ob_size v_44 v_45 v_46 v_47), (ce_b1400 y ob_text fob_text)])) (kq G (va_A [(ce_X3 ob ob_town ob_code ob_fault ob_place ob_text ob_size ob_begin ob_next ob_kind ob_value), (ce_b1400 y ob_text fob_text)] sz)) (va_A [(ce_X3 ob ob_town ob_code ob_fault ob_place ob_text ob_size ob_begin ob_next ob_kind ob_value), (ce_b1400 y ob_text fob_text)] sz)) 0 0 (va_A [(ce_X3 ob ob_town ob_code ob_fault ob_place ob_text ob_size ob_begin ob_next ob_kind ob_value), (ce_b1400 y ob_text fob_text)] sz) := by
  refine Met.ofW (cc := cX3_number) (maxL := 4) (ret := (some .int)) (by decide) rfl ?_
  intro p e s m args below meth c s₁ B hml hv
  obtain ⟨rfl, hsz, hP, hK, hD0⟩ := hv
  have hx := B.exec
  have hb := B.bytes
  have hr := B.returns
  have hw0 : ∀ w ∈ wAll, w.before _ s = true := fun w h => atoms_spec (ws := Cond.code yX3_number cX3_number 4 (some .int) :: wAll) B.pre w (List.mem_cons_of_mem _ h)
  have hown : s.vm.findClass RX3 = some m.cls := findClass_of_methodNamed B.named
  subst hsz
  have hD := hD0.self (sz := s.heap.size)
  generalize hAe : va_A [(ce_X3 ob ob_town ob_code ob_fault ob_place ob_text ob_size ob_begin ob_next ob_kind ob_value), (ce_b1400 y ob_text fob_text)] s.heap.size = A at hD ⊢
  have hA : ∀ q : Nat, s.heap.size ≤ q → A q := fun q h => by rw [← hAe]; exact Or.inr h
  have hS : va_S A s.heap s.heap [] := va_S.rf
  have hP : va_P G vwCl [(ce_X3 ob ob_town ob_code ob_fault ob_place ob_text ob_size ob_begin ob_next ob_kind ob_value), (ce_b1400 y ob_text fob_text)] s.heap := hP
  have hl := lv_entry ([.ref ob, .int 0, .int 399]) (n := 4) (Nat.le_of_ble_eq_true rfl)
  rw [lg_entry_eq]
  generalize (lg_sl ([.ref ob, .int 0, .int 399]) ++ List.replicate (4 - (lg_sl ([.ref ob, .int 0, .int 399])).length) Slot.unset).toArray = ls at hl ⊢
  have hl : lv_has ls 4 [(0, .ref ob), (1, .int 0), (2, .int 399)] := hl
  refine lv_aload_n hx hb dX3_number_0 rfl (lv_at hl 0 rfl) ?_
  refine va_get (D := G) (ci := 3) (v := .int ob_kind) (C := RX3) (T := TX3) (N := 10) hx hb hw0 inA_wsX30 hown hK.1 hP 0 rfl rfl 8 (by decide) (hw0 _ m_719) (fun _ h9 => h9) rfl dX3_number_1 ?_
  refine lv_iconst (v := 2) hx hb dX3_number_4 (by decide) ?_
  refine lv_icmp_eq (tgt := 16) hx hb dX3_number_5 (by decide) (fun c_1001 => ?_) (fun c_1001 => ?_)
  · skip
    have nc_1001 := nb_eq (2) (2) c_1001 p_ob_kind (bkc (x := 2) (c := 2) (by decide)) (by decide)
    refine lv_aload_n hx hb dX3_number_16 rfl (lv_at hl 0 rfl) ?_
    refine va_get (D := G) (ci := 3) (v := .int ob_value) (C := RX3) (T := TX3) (N := 10) hx hb hw0 inA_wsX30 hown hK.1 hP 0 rfl rfl 9 (by decide) (hw0 _ m_753) (fun _ h9 => h9) rfl dX3_number_17 ?_
    refine lv_iload_n hx hb dX3_number_20 rfl (lv_at hl 1 rfl) ?_
    refine lv_icmp_lt (tgt := 32) hx hb dX3_number_21 (by decide) (fun c9 => absurd c9 (dc_nlt p_ob_value (bkc (x := 0) (c := 0) (by decide)) (by decide))) (fun _ => ?_)
    refine lv_aload_n hx hb dX3_number_24 rfl (lv_at hl 0 rfl) ?_
    refine va_get (D := G) (ci := 3) (v := .int ob_value) (C := RX3) (T := TX3) (N := 10) hx hb hw0 inA_wsX30 hown hK.1 hP 0 rfl rfl 9 (by decide) (hw0 _ m_753) (fun _ h9 => h9) rfl dX3_number_25 ?_
    refine lv_iload_n hx hb dX3_number_28 rfl (lv_at hl 2 rfl) ?_
    refine lv_icmp_le (tgt := 37) hx hb dX3_number_29 (by decide) (fun c_1002 => ?_) (fun c_1002 => ?_)
    · skip
      have nc_1002 := nb_le (399) (399) c_1002 p_ob_value (bkc (x := 399) (c := 399) (by decide)) (by decide)
      refine lv_aload_n hx hb dX3_number_37 rfl (lv_at hl 0 rfl) ?_
      refine va_get (D := G) (ci := 3) (v := .int ob_fault) (C := RX3) (T := TX3) (N := 10) hx hb hw0 inA_wsX30 hown hK.1 hP 0 rfl rfl 2 (by decide) (hw0 _ m_737) (fun _ h9 => h9) rfl dX3_number_38 ?_
      refine lv_if_eq (tgt := 46) hx hb dX3_number_41 (by decide) (fun c_1003 => ?_) (fun c_1003 => ?_)
      · skip
        have nc_1003 := nb_eq (0) (0) c_1003 p_ob_fault (bkc (x := 0) (c := 0) (by decide)) (by decide)
        refine lv_aload_n hx hb dX3_number_46 rfl (lv_at hl 0 rfl) ?_
        refine va_get (D := G) (ci := 3) (v := .int ob_value) (C := RX3) (T := TX3) (N := 10) hx hb hw0 inA_wsX30 hown hK.1 hP 0 rfl rfl 9 (by decide) (hw0 _ m_753) (fun _ h9 => h9) rfl dX3_number_47 ?_
        refine lv_istore_n (lv' := [(3, .int ob_value), (0, .ref ob), (1, .int 0), (2, .int 399)]) hx hb dX3_number_50 rfl hl (by decide) rfl (fun ls hl => ?_)
        refine lv_aload_n hx hb dX3_number_51 rfl (lv_at hl 1 rfl) ?_
        refine cVvm (As := []) (rest := []) ⟨hx, hb, hml, hown, hw0⟩ hA hK hP hD hS [true, true] (sX3_advance l G y _ ob ob_town ob_code ob_fault ob_place ob_text ob_size ob_begin ob_next ob_kind ob_value fob_text (bw (0) (3) nc_1003.1 (by decide)) p_ob_size p_ob_begin p_ob_next (bw (0) (4) nc_1001.1 (by decide)) (bw (0) (1000000) nc_1002.1 (by decide)) (by have h90 : Int32.toInt 0 = 0 := (by decide); have h91 : Int32.toInt 399 = 399 := (by decide); first | omega | exact (tok_le (by assumption)).2)) rfl ⟨(callB_of 0 hw0 (gA m_714) rfl rfl rfl (hw0 _ m_721) (hw0 _ m_738) cb_X3_advance ⟨Nat.le_of_ble_eq_true rfl, Nat.le_of_ble_eq_true rfl⟩), (hw0 _ m_739), (hw0 _ m_740)⟩ (ci := 3) (q := (RX3, TX3, 10)) rfl rfl rfl hl.1 (Nat.le_of_ble_eq_true rfl) dX3_number_52 ⟨Nat.le_of_ble_eq_true rfl, Nat.le_of_ble_eq_true rfl⟩ (fun w_1004 H locs hw_1004 hP hD hS => ?_)
        obtain ⟨v_1005, v_1006, v_1007, v_1008, bv_1005, bv_1006, bv_1007, bv_1008, h_1009, h_1010, rfl⟩ := hw_1004
        obtain ⟨hP, hD⟩ : vPD G A H [(ce_X3 ob ob_town ob_code ob_fault ob_place ob_text ob_size v_1005 v_1006 v_1007 v_1008), (ce_b1400 y ob_text fob_text)] := ⟨hP, hD⟩
        refine lv_iload_n hx hb dX3_number_55 rfl (lv_at hl 0 rfl) ?_
        exact W.iret (v := ob_value) hx hb hr (fun t ht hW => ⟨⟨ob_value, _, rfl, ⟨ob_value, ob_fault, ob_place, v_1005, v_1006, v_1007, v_1008, nc_1002.1, (bw (0) (3) nc_1003.1 (by decide)), bv_1005, bv_1006, bv_1007, bv_1008, (by have lm1 : Int32.toInt (-1) = -1 := (by decide); have l91 : Int32.toInt 1 = 1 := (by decide); have l92 : Int32.toInt 2 = 2 := (by decide); have l93 : Int32.toInt 3 = 3 := (by decide); have h90 : Int32.toInt 0 = 0 := (by decide); have h91 : Int32.toInt 399 = 399 := (by decide); by_cases hF0 : ob_fault.toInt = 0 <;> first | exact nm_ok hq0 (by omega) (by omega) ⟨by omega, by omega⟩ (by omega) (by assumption) (by omega) (by omega) | exact nm_2 hq0 (by omega) (by omega) (by omega) (by omega) (by omega) (by omega) (by omega) | exact nm_1 hq0 (by omega) (by omega) (by omega) (by omega) (by omega) | exact nm_f (by omega) (by omega) (by omega) (by omega)), (by have lm1 : Int32.toInt (-1) = -1 := (by decide); have l91 : Int32.toInt 1 = 1 := (by decide); have l92 : Int32.toInt 2 = 2 := (by decide); have l93 : Int32.toInt 3 = 3 := (by decide); have h90 : Int32.toInt 0 = 0 := (by decide); have h91 : Int32.toInt 399 = 399 := (by decide); first | exact nv_ok hq0 (by omega) (by omega) ⟨by omega, by omega⟩ (by omega) (by omega) | exact nv_no hq0 (by omega) (by omega) (by omega)), (by assumption), rfl, rfl⟩, by rw [ht]; exact hP, hD⟩, hS.F ht⟩) hS.2.2 dX3_number_56
      · skip
        have nc_1003 := nb_ne (1) (3) c_1003 p_ob_fault (k := 0) (by decide) (by decide)
        refine lv_iconst (v := 0) hx hb dX3_number_44 (by decide) ?_
        exact W.iret (v := 0) hx hb hr (fun t ht hW => ⟨⟨0, _, rfl, ⟨0, ob_fault, ob_place, ob_begin, ob_next, ob_kind, ob_value, (bw (0) (399) (bkc (x := 0) (c := 0) (by decide)) (by decide)), (bw (0) (3) nc_1003.1 (by decide)), p_ob_begin, p_ob_next, (bw (0) (4) nc_1001.1 (by decide)), (bw (0) (1000000) nc_1002.1 (by decide)), (by have lm1 : Int32.toInt (-1) = -1 := (by decide); have l91 : Int32.toInt 1 = 1 := (by decide); have l92 : Int32.toInt 2 = 2 := (by decide); have l93 : Int32.toInt 3 = 3 := (by decide); have h90 : Int32.toInt 0 = 0 := (by decide); have h91 : Int32.toInt 399 = 399 := (by decide); by_cases hF0 : ob_fault.toInt = 0 <;> first | exact nm_ok hq0 (by omega) (by omega) ⟨by omega, by omega⟩ (by omega) (by assumption) (by omega) (by omega) | exact nm_2 hq0 (by omega) (by omega) (by omega) (by omega) (by omega) (by omega) (by omega) | exact nm_1 hq0 (by omega) (by omega) (by omega) (by omega) (by omega) | exact nm_f (by omega) (by omega) (by omega) (by omega)), (by have lm1 : Int32.toInt (-1) = -1 := (by decide); have l91 : Int32.toInt 1 = 1 := (by decide); have l92 : Int32.toInt 2 = 2 := (by decide); have l93 : Int32.toInt 3 = 3 := (by decide); have h90 : Int32.toInt 0 = 0 := (by decide); have h91 : Int32.toInt 399 = 399 := (by decide); first | exact nv_ok hq0 (by omega) (by omega) ⟨by omega, by omega⟩ (by omega) (by omega) | exact nv_no hq0 (by omega) (by omega) (by omega)), (by assumption), rfl, rfl⟩, by rw [ht]; exact hP, hD⟩, hS.F ht⟩) hS.2.2 dX3_number_45
    · skip
      have nc_1002 := nb_nle (399) (400) c_1002 (bkc (x := 399) (c := 399) (by decide)) p_ob_value (by decide)
      refine lv_aload_n hx hb dX3_number_32 rfl (lv_at hl 0 rfl) ?_
      refine lv_iconst (v := 2) hx hb dX3_number_33 (by decide) ?_
      refine cVvm (As := [.int 2]) (rest := []) ⟨hx, hb, hml, hown, hw0⟩ hA hK hP hD hS [true] (sX3_refuse l G y _ ob 2 ob_town ob_code ob_fault ob_place ob_text ob_size ob_begin ob_next ob_kind ob_value p_ob_fault p_ob_size p_ob_begin p_ob_next (bw (0) (4) nc_1001.1 (by decide)) (bw (0) (1000000) nc_1002.2.1 (by decide)) (bw (1) (3) (bkc (x := 2) (c := 2) (by decide)) (by decide))) rfl ⟨(callB_of 1 hw0 (gA m_816) rfl rfl rfl (hw0 _ m_721) (hw0 _ m_734) cb_X3_refuse ⟨Nat.le_of_ble_eq_true rfl, Nat.le_of_ble_eq_true rfl⟩), (hw0 _ m_735), (hw0 _ m_736)⟩ (ci := 3) (q := (RX3, TX3, 10)) rfl rfl rfl hl.1 (Nat.le_of_ble_eq_true rfl) dX3_number_34 ⟨Nat.le_of_ble_eq_true rfl, Nat.le_of_ble_eq_true rfl⟩ (fun w_1011 H locs hw_1011 hP hD hS => ?_)
      obtain ⟨v_1012, v_1013, bv_1012, h_1014, h_1015, rfl⟩ := hw_1011
      obtain ⟨hP, hD⟩ : vPD G A H [(ce_X3 ob ob_town ob_code v_1012 v_1013 ob_text ob_size ob_begin ob_next ob_kind ob_value), (ce_b1400 y ob_text fob_text)] := ⟨hP, hD⟩
      refine lv_aload_n hx hb dX3_number_37 rfl (lv_at hl 0 rfl) ?_
      refine va_get (D := G) (ci := 3) (v := .int v_1012) (C := RX3) (T := TX3) (N := 10) hx hb hw0 inA_wsX30 hown hK.1 hP 0 rfl rfl 2 (by decide) (hw0 _ m_737) (fun _ h9 => h9) rfl dX3_number_38 ?_
      refine lv_if_eq (tgt := 46) hx hb dX3_number_41 (by decide) (fun c9 => absurd c9 (dc_neq bv_1012 (bkc (x := 0) (c := 0) (by decide)) (by decide))) (fun _ => ?_)
      refine lv_iconst (v := 0) hx hb dX3_number_44 (by decide) ?_
      exact W.iret (v := 0) hx hb hr (fun t ht hW => ⟨⟨0, _, rfl, ⟨0, v_1012, v_1013, ob_begin, ob_next, ob_kind, ob_value, (bw (0) (399) (bkc (x := 0) (c := 0) (by decide)) (by decide)), (bw (0) (3) bv_1012 (by decide)), p_ob_begin, p_ob_next, (bw (0) (4) nc_1001.1 (by decide)), (bw (0) (1000000) nc_1002.2.1 (by decide)), (by have lm1 : Int32.toInt (-1) = -1 := (by decide); have l91 : Int32.toInt 1 = 1 := (by decide); have l92 : Int32.toInt 2 = 2 := (by decide); have l93 : Int32.toInt 3 = 3 := (by decide); have h90 : Int32.toInt 0 = 0 := (by decide); have h91 : Int32.toInt 399 = 399 := (by decide); by_cases hF0 : ob_fault.toInt = 0 <;> first | exact nm_ok hq0 (by omega) (by omega) ⟨by omega, by omega⟩ (by omega) (by assumption) (by omega) (by omega) | exact nm_2 hq0 (by omega) (by omega) (by omega) (by omega) (by omega) (by omega) (by omega) | exact nm_1 hq0 (by omega) (by omega) (by omega) (by omega) (by omega) | exact nm_f (by omega) (by omega) (by omega) (by omega)), (by have lm1 : Int32.toInt (-1) = -1 := (by decide); have l91 : Int32.toInt 1 = 1 := (by decide); have l92 : Int32.toInt 2 = 2 := (by decide); have l93 : Int32.toInt 3 = 3 := (by decide); have h90 : Int32.toInt 0 = 0 := (by decide); have h91 : Int32.toInt 399 = 399 := (by decide); first | exact nv_ok hq0 (by omega) (by omega) ⟨by omega, by omega⟩ (by omega) (by omega) | exact nv_no hq0 (by omega) (by omega) (by omega)), (by assumption), rfl, rfl⟩, by rw [ht]; exact hP, hD⟩, hS.F ht⟩) hS.2.2 dX3_number_45
  · skip
    have nc_1001 := nb_ne (0) (4) c_1001 p_ob_kind (k := 2) (by decide) (by decide)
    refine lv_aload_n hx hb dX3_number_8 rfl (lv_at hl 0 rfl) ?_
    refine lv_iconst (v := 1) hx hb dX3_number_9 (by decide) ?_
    refine cVvm (As := [.int 1]) (rest := []) ⟨hx, hb, hml, hown, hw0⟩ hA hK hP hD hS [true] (sX3_refuse l G y _ ob 1 ob_town ob_code ob_fault ob_place ob_text ob_size ob_begin ob_next ob_kind ob_value p_ob_fault p_ob_size p_ob_begin p_ob_next nc_1001.1 p_ob_value (bw (1) (3) (bkc (x := 1) (c := 1) (by decide)) (by decide))) rfl ⟨(callB_of 1 hw0 (gA m_816) rfl rfl rfl (hw0 _ m_721) (hw0 _ m_734) cb_X3_refuse ⟨Nat.le_of_ble_eq_true rfl, Nat.le_of_ble_eq_true rfl⟩), (hw0 _ m_735), (hw0 _ m_736)⟩ (ci := 3) (q := (RX3, TX3, 10)) rfl rfl rfl hl.1 (Nat.le_of_ble_eq_true rfl) dX3_number_10 ⟨Nat.le_of_ble_eq_true rfl, Nat.le_of_ble_eq_true rfl⟩ (fun w_1016 H locs hw_1016 hP hD hS => ?_)
    obtain ⟨v_1017, v_1018, bv_1017, h_1019, h_1020, rfl⟩ := hw_1016
    obtain ⟨hP, hD⟩ : vPD G A H [(ce_X3 ob ob_town ob_code v_1017 v_1018 ob_text ob_size ob_begin ob_next ob_kind ob_value), (ce_b1400 y ob_text fob_text)] := ⟨hP, hD⟩
    refine lv_goto (tgt := 37) hx hb dX3_number_13 (by decide) ?_
    refine lv_aload_n hx hb dX3_number_37 rfl (lv_at hl 0 rfl) ?_
    refine va_get (D := G) (ci := 3) (v := .int v_1017) (C := RX3) (T := TX3) (N := 10) hx hb hw0 inA_wsX30 hown hK.1 hP 0 rfl rfl 2 (by decide) (hw0 _ m_737) (fun _ h9 => h9) rfl dX3_number_38 ?_
    refine lv_if_eq (tgt := 46) hx hb dX3_number_41 (by decide) (fun c9 => absurd c9 (dc_neq bv_1017 (bkc (x := 0) (c := 0) (by decide)) (by decide))) (fun _ => ?_)
    refine lv_iconst (v := 0) hx hb dX3_number_44 (by decide) ?_
    exact W.iret (v := 0) hx hb hr (fun t ht hW => ⟨⟨0, _, rfl, ⟨0, v_1017, v_1018, ob_begin, ob_next, ob_kind, ob_value, (bw (0) (399) (bkc (x := 0) (c := 0) (by decide)) (by decide)), (bw (0) (3) bv_1017 (by decide)), p_ob_begin, p_ob_next, nc_1001.1, p_ob_value, (by have lm1 : Int32.toInt (-1) = -1 := (by decide); have l91 : Int32.toInt 1 = 1 := (by decide); have l92 : Int32.toInt 2 = 2 := (by decide); have l93 : Int32.toInt 3 = 3 := (by decide); have h90 : Int32.toInt 0 = 0 := (by decide); have h91 : Int32.toInt 399 = 399 := (by decide); by_cases hF0 : ob_fault.toInt = 0 <;> first | exact nm_ok hq0 (by omega) (by omega) ⟨by omega, by omega⟩ (by omega) (by assumption) (by omega) (by omega) | exact nm_2 hq0 (by omega) (by omega) (by omega) (by omega) (by omega) (by omega) (by omega) | exact nm_1 hq0 (by omega) (by omega) (by omega) (by omega) (by omega) | exact nm_f (by omega) (by omega) (by omega) (by omega)), (by have lm1 : Int32.toInt (-1) = -1 := (by decide); have l91 : Int32.toInt 1 = 1 := (by decide); have l92 : Int32.toInt 2 = 2 := (by decide); have l93 : Int32.toInt 3 = 3 := (by decide); have h90 : Int32.toInt 0 = 0 := (by decide); have h91 : Int32.toInt 399 = 399 := (by decide); first | exact nv_ok hq0 (by omega) (by omega) ⟨by omega, by omega⟩ (by omega) (by omega) | exact nv_no hq0 (by omega) (by omega) (by omega)), (by assumption), rfl, rfl⟩, by rw [ht]; exact hP, hD⟩, hS.F ht⟩) hS.2.2 dX3_number_45

set_option maxHeartbeats 4000000 in
set_option maxRecDepth 100000 in
theorem fnr0_999 (l : Launch) (G : va_G) (y : Nat → ClassId) (sz : Nat) (ob : Nat) (ob_town : Nat) (ob_code : Nat) (ob_fault : Int32) (ob_place : Int32) (ob_text : Nat) (ob_size : Int32) (ob_begin : Int32) (ob_next : Int32) (ob_kind : Int32) (ob_value : Int32) (fob_text : Nat → Int32) (p_ob_fault : (0 : Int) ≤ ob_fault.toInt ∧ ob_fault.toInt ≤ 3) (p_ob_size : (0 : Int) ≤ ob_size.toInt ∧ ob_size.toInt ≤ 1400) (p_ob_begin : (0 : Int) ≤ ob_begin.toInt ∧ ob_begin.toInt ≤ 1400) (p_ob_next : (0 : Int) ≤ ob_next.toInt ∧ ob_next.toInt ≤ 1400) (p_ob_kind : (0 : Int) ≤ ob_kind.toInt ∧ ob_kind.toInt ≤ 4) (p_ob_value : (0 : Int) ≤ ob_value.toInt ∧ ob_value.toInt ≤ 1000000) (hq0 : qTok fob_text ob_size.toInt 1000000 ob_kind.toInt ob_begin.toInt ob_next.toInt ob_value.toInt) : Met l yX3_number (Cond.code yX3_number cX3_number 4 (some .int) :: wAll) ({ frames := 3, cells := 0, slots := 0, locals := 61 }) (va_Pc [.ref ob, .int 0, .int 999] (kp G y sz [(ce_X3 ob ob_town ob_code ob_fault ob_place ob_text ob_size ob_begin ob_next ob_kind ob_value), (ce_b1400 y ob_text fob_text)])) (va_Qi (fun (r : Int32) (w : va_W) => (∃ (v_41 : Int32) (v_42 : Int32) (v_43 : Int32) (v_44 : Int32) (v_45 : Int32) (v_46 : Int32) (v_47 : Int32), ((0 : Int) ≤ v_41.toInt ∧ v_41.toInt ≤ 999) ∧ ((0 : Int) ≤ v_42.toInt ∧ v_42.toInt ≤ 3) ∧ ((0 : Int) ≤ v_44.toInt ∧ v_44.toInt ≤ 1400) ∧ ((0 : Int) ≤ v_45.toInt ∧ v_45.toInt ≤ 1400) ∧ ((0 : Int) ≤ v_46.toInt ∧ v_46.toInt ≤ 4) ∧ ((0 : Int) ≤ v_47.toInt ∧ v_47.toInt ≤ 1000000) ∧ (((v_42.toInt, v_43.toInt, v_44.toInt) : Int × Int × Int) = r_nm fob_text ob_size.toInt 0 999 ((ob_fault.toInt, ob_place.toInt, ob_begin.toInt) : Int × Int × Int)) ∧ (v_41.toInt = r_nv fob_text ob_size.toInt 0 999 ((ob_fault.toInt, ob_place.toInt, ob_begin.toInt) : Int × Int × Int)) ∧ (qTok fob_text ob_size.toInt 1000000 v_46.toInt v_44.toInt v_45.toInt v_47.toInt) ∧ r = v_41 ∧ w = [(ce_X3 ob ob_town ob_code v_42 v_43 ob_text ob_size v_44 v_45 v_46 v_47), (ce_b1400 y ob_text fob_text)])) (kq G (va_A [(ce_X3 ob ob_town ob_code ob_fault ob_place ob_text ob_size ob_begin ob_next ob_kind ob_value), (ce_b1400 y ob_text fob_text)] sz)) (va_A [(ce_X3 ob ob_town ob_code ob_fault ob_place ob_text ob_size ob_begin ob_next ob_kind ob_value), (ce_b1400 y ob_text fob_text)] sz)) 0 0 (va_A [(ce_X3 ob ob_town ob_code ob_fault ob_place ob_text ob_size ob_begin ob_next ob_kind ob_value), (ce_b1400 y ob_text fob_text)] sz) := by
  refine Met.ofW (cc := cX3_number) (maxL := 4) (ret := (some .int)) (by decide) rfl ?_
  intro p e s m args below meth c s₁ B hml hv
  obtain ⟨rfl, hsz, hP, hK, hD0⟩ := hv
  have hx := B.exec
  have hb := B.bytes
  have hr := B.returns
  have hw0 : ∀ w ∈ wAll, w.before _ s = true := fun w h => atoms_spec (ws := Cond.code yX3_number cX3_number 4 (some .int) :: wAll) B.pre w (List.mem_cons_of_mem _ h)
  have hown : s.vm.findClass RX3 = some m.cls := findClass_of_methodNamed B.named
  subst hsz
  have hD := hD0.self (sz := s.heap.size)
  generalize hAe : va_A [(ce_X3 ob ob_town ob_code ob_fault ob_place ob_text ob_size ob_begin ob_next ob_kind ob_value), (ce_b1400 y ob_text fob_text)] s.heap.size = A at hD ⊢
  have hA : ∀ q : Nat, s.heap.size ≤ q → A q := fun q h => by rw [← hAe]; exact Or.inr h
  have hS : va_S A s.heap s.heap [] := va_S.rf
  have hP : va_P G vwCl [(ce_X3 ob ob_town ob_code ob_fault ob_place ob_text ob_size ob_begin ob_next ob_kind ob_value), (ce_b1400 y ob_text fob_text)] s.heap := hP
  have hl := lv_entry ([.ref ob, .int 0, .int 999]) (n := 4) (Nat.le_of_ble_eq_true rfl)
  rw [lg_entry_eq]
  generalize (lg_sl ([.ref ob, .int 0, .int 999]) ++ List.replicate (4 - (lg_sl ([.ref ob, .int 0, .int 999])).length) Slot.unset).toArray = ls at hl ⊢
  have hl : lv_has ls 4 [(0, .ref ob), (1, .int 0), (2, .int 999)] := hl
  refine lv_aload_n hx hb dX3_number_0 rfl (lv_at hl 0 rfl) ?_
  refine va_get (D := G) (ci := 3) (v := .int ob_kind) (C := RX3) (T := TX3) (N := 10) hx hb hw0 inA_wsX30 hown hK.1 hP 0 rfl rfl 8 (by decide) (hw0 _ m_719) (fun _ h9 => h9) rfl dX3_number_1 ?_
  refine lv_iconst (v := 2) hx hb dX3_number_4 (by decide) ?_
  refine lv_icmp_eq (tgt := 16) hx hb dX3_number_5 (by decide) (fun c_1001 => ?_) (fun c_1001 => ?_)
  · skip
    have nc_1001 := nb_eq (2) (2) c_1001 p_ob_kind (bkc (x := 2) (c := 2) (by decide)) (by decide)
    refine lv_aload_n hx hb dX3_number_16 rfl (lv_at hl 0 rfl) ?_
    refine va_get (D := G) (ci := 3) (v := .int ob_value) (C := RX3) (T := TX3) (N := 10) hx hb hw0 inA_wsX30 hown hK.1 hP 0 rfl rfl 9 (by decide) (hw0 _ m_753) (fun _ h9 => h9) rfl dX3_number_17 ?_
    refine lv_iload_n hx hb dX3_number_20 rfl (lv_at hl 1 rfl) ?_
    refine lv_icmp_lt (tgt := 32) hx hb dX3_number_21 (by decide) (fun c9 => absurd c9 (dc_nlt p_ob_value (bkc (x := 0) (c := 0) (by decide)) (by decide))) (fun _ => ?_)
    refine lv_aload_n hx hb dX3_number_24 rfl (lv_at hl 0 rfl) ?_
    refine va_get (D := G) (ci := 3) (v := .int ob_value) (C := RX3) (T := TX3) (N := 10) hx hb hw0 inA_wsX30 hown hK.1 hP 0 rfl rfl 9 (by decide) (hw0 _ m_753) (fun _ h9 => h9) rfl dX3_number_25 ?_
    refine lv_iload_n hx hb dX3_number_28 rfl (lv_at hl 2 rfl) ?_
    refine lv_icmp_le (tgt := 37) hx hb dX3_number_29 (by decide) (fun c_1002 => ?_) (fun c_1002 => ?_)
    · skip
      have nc_1002 := nb_le (999) (999) c_1002 p_ob_value (bkc (x := 999) (c := 999) (by decide)) (by decide)
      refine lv_aload_n hx hb dX3_number_37 rfl (lv_at hl 0 rfl) ?_
      refine va_get (D := G) (ci := 3) (v := .int ob_fault) (C := RX3) (T := TX3) (N := 10) hx hb hw0 inA_wsX30 hown hK.1 hP 0 rfl rfl 2 (by decide) (hw0 _ m_737) (fun _ h9 => h9) rfl dX3_number_38 ?_
      refine lv_if_eq (tgt := 46) hx hb dX3_number_41 (by decide) (fun c_1003 => ?_) (fun c_1003 => ?_)
      · skip
        have nc_1003 := nb_eq (0) (0) c_1003 p_ob_fault (bkc (x := 0) (c := 0) (by decide)) (by decide)
        refine lv_aload_n hx hb dX3_number_46 rfl (lv_at hl 0 rfl) ?_
        refine va_get (D := G) (ci := 3) (v := .int ob_value) (C := RX3) (T := TX3) (N := 10) hx hb hw0 inA_wsX30 hown hK.1 hP 0 rfl rfl 9 (by decide) (hw0 _ m_753) (fun _ h9 => h9) rfl dX3_number_47 ?_
        refine lv_istore_n (lv' := [(3, .int ob_value), (0, .ref ob), (1, .int 0), (2, .int 999)]) hx hb dX3_number_50 rfl hl (by decide) rfl (fun ls hl => ?_)
        refine lv_aload_n hx hb dX3_number_51 rfl (lv_at hl 1 rfl) ?_
        refine cVvm (As := []) (rest := []) ⟨hx, hb, hml, hown, hw0⟩ hA hK hP hD hS [true, true] (sX3_advance l G y _ ob ob_town ob_code ob_fault ob_place ob_text ob_size ob_begin ob_next ob_kind ob_value fob_text (bw (0) (3) nc_1003.1 (by decide)) p_ob_size p_ob_begin p_ob_next (bw (0) (4) nc_1001.1 (by decide)) (bw (0) (1000000) nc_1002.1 (by decide)) (by have h90 : Int32.toInt 0 = 0 := (by decide); have h91 : Int32.toInt 999 = 999 := (by decide); first | omega | exact (tok_le (by assumption)).2)) rfl ⟨(callB_of 0 hw0 (gA m_714) rfl rfl rfl (hw0 _ m_721) (hw0 _ m_738) cb_X3_advance ⟨Nat.le_of_ble_eq_true rfl, Nat.le_of_ble_eq_true rfl⟩), (hw0 _ m_739), (hw0 _ m_740)⟩ (ci := 3) (q := (RX3, TX3, 10)) rfl rfl rfl hl.1 (Nat.le_of_ble_eq_true rfl) dX3_number_52 ⟨Nat.le_of_ble_eq_true rfl, Nat.le_of_ble_eq_true rfl⟩ (fun w_1004 H locs hw_1004 hP hD hS => ?_)
        obtain ⟨v_1005, v_1006, v_1007, v_1008, bv_1005, bv_1006, bv_1007, bv_1008, h_1009, h_1010, rfl⟩ := hw_1004
        obtain ⟨hP, hD⟩ : vPD G A H [(ce_X3 ob ob_town ob_code ob_fault ob_place ob_text ob_size v_1005 v_1006 v_1007 v_1008), (ce_b1400 y ob_text fob_text)] := ⟨hP, hD⟩
        refine lv_iload_n hx hb dX3_number_55 rfl (lv_at hl 0 rfl) ?_
        exact W.iret (v := ob_value) hx hb hr (fun t ht hW => ⟨⟨ob_value, _, rfl, ⟨ob_value, ob_fault, ob_place, v_1005, v_1006, v_1007, v_1008, nc_1002.1, (bw (0) (3) nc_1003.1 (by decide)), bv_1005, bv_1006, bv_1007, bv_1008, (by have lm1 : Int32.toInt (-1) = -1 := (by decide); have l91 : Int32.toInt 1 = 1 := (by decide); have l92 : Int32.toInt 2 = 2 := (by decide); have l93 : Int32.toInt 3 = 3 := (by decide); have h90 : Int32.toInt 0 = 0 := (by decide); have h91 : Int32.toInt 999 = 999 := (by decide); by_cases hF0 : ob_fault.toInt = 0 <;> first | exact nm_ok hq0 (by omega) (by omega) ⟨by omega, by omega⟩ (by omega) (by assumption) (by omega) (by omega) | exact nm_2 hq0 (by omega) (by omega) (by omega) (by omega) (by omega) (by omega) (by omega) | exact nm_1 hq0 (by omega) (by omega) (by omega) (by omega) (by omega) | exact nm_f (by omega) (by omega) (by omega) (by omega)), (by have lm1 : Int32.toInt (-1) = -1 := (by decide); have l91 : Int32.toInt 1 = 1 := (by decide); have l92 : Int32.toInt 2 = 2 := (by decide); have l93 : Int32.toInt 3 = 3 := (by decide); have h90 : Int32.toInt 0 = 0 := (by decide); have h91 : Int32.toInt 999 = 999 := (by decide); first | exact nv_ok hq0 (by omega) (by omega) ⟨by omega, by omega⟩ (by omega) (by omega) | exact nv_no hq0 (by omega) (by omega) (by omega)), (by assumption), rfl, rfl⟩, by rw [ht]; exact hP, hD⟩, hS.F ht⟩) hS.2.2 dX3_number_56
      · skip
        have nc_1003 := nb_ne (1) (3) c_1003 p_ob_fault (k := 0) (by decide) (by decide)
        refine lv_iconst (v := 0) hx hb dX3_number_44 (by decide) ?_
        exact W.iret (v := 0) hx hb hr (fun t ht hW => ⟨⟨0, _, rfl, ⟨0, ob_fault, ob_place, ob_begin, ob_next, ob_kind, ob_value, (bw (0) (999) (bkc (x := 0) (c := 0) (by decide)) (by decide)), (bw (0) (3) nc_1003.1 (by decide)), p_ob_begin, p_ob_next, (bw (0) (4) nc_1001.1 (by decide)), (bw (0) (1000000) nc_1002.1 (by decide)), (by have lm1 : Int32.toInt (-1) = -1 := (by decide); have l91 : Int32.toInt 1 = 1 := (by decide); have l92 : Int32.toInt 2 = 2 := (by decide); have l93 : Int32.toInt 3 = 3 := (by decide); have h90 : Int32.toInt 0 = 0 := (by decide); have h91 : Int32.toInt 999 = 999 := (by decide); by_cases hF0 : ob_fault.toInt = 0 <;> first | exact nm_ok hq0 (by omega) (by omega) ⟨by omega, by omega⟩ (by omega) (by assumption) (by omega) (by omega) | exact nm_2 hq0 (by omega) (by omega) (by omega) (by omega) (by omega) (by omega) (by omega) | exact nm_1 hq0 (by omega) (by omega) (by omega) (by omega) (by omega) | exact nm_f (by omega) (by omega) (by omega) (by omega)), (by have lm1 : Int32.toInt (-1) = -1 := (by decide); have l91 : Int32.toInt 1 = 1 := (by decide); have l92 : Int32.toInt 2 = 2 := (by decide); have l93 : Int32.toInt 3 = 3 := (by decide); have h90 : Int32.toInt 0 = 0 := (by decide); have h91 : Int32.toInt 999 = 999 := (by decide); first | exact nv_ok hq0 (by omega) (by omega) ⟨by omega, by omega⟩ (by omega) (by omega) | exact nv_no hq0 (by omega) (by omega) (by omega)), (by assumption), rfl, rfl⟩, by rw [ht]; exact hP, hD⟩, hS.F ht⟩) hS.2.2 dX3_number_45
    · skip
      have nc_1002 := nb_nle (999) (1000) c_1002 (bkc (x := 999) (c := 999) (by decide)) p_ob_value (by decide)
      refine lv_aload_n hx hb dX3_number_32 rfl (lv_at hl 0 rfl) ?_
      refine lv_iconst (v := 2) hx hb dX3_number_33 (by decide) ?_
      refine cVvm (As := [.int 2]) (rest := []) ⟨hx, hb, hml, hown, hw0⟩ hA hK hP hD hS [true] (sX3_refuse l G y _ ob 2 ob_town ob_code ob_fault ob_place ob_text ob_size ob_begin ob_next ob_kind ob_value p_ob_fault p_ob_size p_ob_begin p_ob_next (bw (0) (4) nc_1001.1 (by decide)) (bw (0) (1000000) nc_1002.2.1 (by decide)) (bw (1) (3) (bkc (x := 2) (c := 2) (by decide)) (by decide))) rfl ⟨(callB_of 1 hw0 (gA m_816) rfl rfl rfl (hw0 _ m_721) (hw0 _ m_734) cb_X3_refuse ⟨Nat.le_of_ble_eq_true rfl, Nat.le_of_ble_eq_true rfl⟩), (hw0 _ m_735), (hw0 _ m_736)⟩ (ci := 3) (q := (RX3, TX3, 10)) rfl rfl rfl hl.1 (Nat.le_of_ble_eq_true rfl) dX3_number_34 ⟨Nat.le_of_ble_eq_true rfl, Nat.le_of_ble_eq_true rfl⟩ (fun w_1011 H locs hw_1011 hP hD hS => ?_)
      obtain ⟨v_1012, v_1013, bv_1012, h_1014, h_1015, rfl⟩ := hw_1011
      obtain ⟨hP, hD⟩ : vPD G A H [(ce_X3 ob ob_town ob_code v_1012 v_1013 ob_text ob_size ob_begin ob_next ob_kind ob_value), (ce_b1400 y ob_text fob_text)] := ⟨hP, hD⟩
      refine lv_aload_n hx hb dX3_number_37 rfl (lv_at hl 0 rfl) ?_
      refine va_get (D := G) (ci := 3) (v := .int v_1012) (C := RX3) (T := TX3) (N := 10) hx hb hw0 inA_wsX30 hown hK.1 hP 0 rfl rfl 2 (by decide) (hw0 _ m_737) (fun _ h9 => h9) rfl dX3_number_38 ?_
      refine lv_if_eq (tgt := 46) hx hb dX3_number_41 (by decide) (fun c9 => absurd c9 (dc_neq bv_1012 (bkc (x := 0) (c := 0) (by decide)) (by decide))) (fun _ => ?_)
      refine lv_iconst (v := 0) hx hb dX3_number_44 (by decide) ?_
      exact W.iret (v := 0) hx hb hr (fun t ht hW => ⟨⟨0, _, rfl, ⟨0, v_1012, v_1013, ob_begin, ob_next, ob_kind, ob_value, (bw (0) (999) (bkc (x := 0) (c := 0) (by decide)) (by decide)), (bw (0) (3) bv_1012 (by decide)), p_ob_begin, p_ob_next, (bw (0) (4) nc_1001.1 (by decide)), (bw (0) (1000000) nc_1002.2.1 (by decide)), (by have lm1 : Int32.toInt (-1) = -1 := (by decide); have l91 : Int32.toInt 1 = 1 := (by decide); have l92 : Int32.toInt 2 = 2 := (by decide); have l93 : Int32.toInt 3 = 3 := (by decide); have h90 : Int32.toInt 0 = 0 := (by decide); have h91 : Int32.toInt 999 = 999 := (by decide); by_cases hF0 : ob_fault.toInt = 0 <;> first | exact nm_ok hq0 (by omega) (by omega) ⟨by omega, by omega⟩ (by omega) (by assumption) (by omega) (by omega) | exact nm_2 hq0 (by omega) (by omega) (by omega) (by omega) (by omega) (by omega) (by omega) | exact nm_1 hq0 (by omega) (by omega) (by omega) (by omega) (by omega) | exact nm_f (by omega) (by omega) (by omega) (by omega)), (by have lm1 : Int32.toInt (-1) = -1 := (by decide); have l91 : Int32.toInt 1 = 1 := (by decide); have l92 : Int32.toInt 2 = 2 := (by decide); have l93 : Int32.toInt 3 = 3 := (by decide); have h90 : Int32.toInt 0 = 0 := (by decide); have h91 : Int32.toInt 999 = 999 := (by decide); first | exact nv_ok hq0 (by omega) (by omega) ⟨by omega, by omega⟩ (by omega) (by omega) | exact nv_no hq0 (by omega) (by omega) (by omega)), (by assumption), rfl, rfl⟩, by rw [ht]; exact hP, hD⟩, hS.F ht⟩) hS.2.2 dX3_number_45
  · skip
    have nc_1001 := nb_ne (0) (4) c_1001 p_ob_kind (k := 2) (by decide) (by decide)
    refine lv_aload_n hx hb dX3_number_8 rfl (lv_at hl 0 rfl) ?_
    refine lv_iconst (v := 1) hx hb dX3_number_9 (by decide) ?_
    refine cVvm (As := [.int 1]) (rest := []) ⟨hx, hb, hml, hown, hw0⟩ hA hK hP hD hS [true] (sX3_refuse l G y _ ob 1 ob_town ob_code ob_fault ob_place ob_text ob_size ob_begin ob_next ob_kind ob_value p_ob_fault p_ob_size p_ob_begin p_ob_next nc_1001.1 p_ob_value (bw (1) (3) (bkc (x := 1) (c := 1) (by decide)) (by decide))) rfl ⟨(callB_of 1 hw0 (gA m_816) rfl rfl rfl (hw0 _ m_721) (hw0 _ m_734) cb_X3_refuse ⟨Nat.le_of_ble_eq_true rfl, Nat.le_of_ble_eq_true rfl⟩), (hw0 _ m_735), (hw0 _ m_736)⟩ (ci := 3) (q := (RX3, TX3, 10)) rfl rfl rfl hl.1 (Nat.le_of_ble_eq_true rfl) dX3_number_10 ⟨Nat.le_of_ble_eq_true rfl, Nat.le_of_ble_eq_true rfl⟩ (fun w_1016 H locs hw_1016 hP hD hS => ?_)
    obtain ⟨v_1017, v_1018, bv_1017, h_1019, h_1020, rfl⟩ := hw_1016
    obtain ⟨hP, hD⟩ : vPD G A H [(ce_X3 ob ob_town ob_code v_1017 v_1018 ob_text ob_size ob_begin ob_next ob_kind ob_value), (ce_b1400 y ob_text fob_text)] := ⟨hP, hD⟩
    refine lv_goto (tgt := 37) hx hb dX3_number_13 (by decide) ?_
    refine lv_aload_n hx hb dX3_number_37 rfl (lv_at hl 0 rfl) ?_
    refine va_get (D := G) (ci := 3) (v := .int v_1017) (C := RX3) (T := TX3) (N := 10) hx hb hw0 inA_wsX30 hown hK.1 hP 0 rfl rfl 2 (by decide) (hw0 _ m_737) (fun _ h9 => h9) rfl dX3_number_38 ?_
    refine lv_if_eq (tgt := 46) hx hb dX3_number_41 (by decide) (fun c9 => absurd c9 (dc_neq bv_1017 (bkc (x := 0) (c := 0) (by decide)) (by decide))) (fun _ => ?_)
    refine lv_iconst (v := 0) hx hb dX3_number_44 (by decide) ?_
    exact W.iret (v := 0) hx hb hr (fun t ht hW => ⟨⟨0, _, rfl, ⟨0, v_1017, v_1018, ob_begin, ob_next, ob_kind, ob_value, (bw (0) (999) (bkc (x := 0) (c := 0) (by decide)) (by decide)), (bw (0) (3) bv_1017 (by decide)), p_ob_begin, p_ob_next, nc_1001.1, p_ob_value, (by have lm1 : Int32.toInt (-1) = -1 := (by decide); have l91 : Int32.toInt 1 = 1 := (by decide); have l92 : Int32.toInt 2 = 2 := (by decide); have l93 : Int32.toInt 3 = 3 := (by decide); have h90 : Int32.toInt 0 = 0 := (by decide); have h91 : Int32.toInt 999 = 999 := (by decide); by_cases hF0 : ob_fault.toInt = 0 <;> first | exact nm_ok hq0 (by omega) (by omega) ⟨by omega, by omega⟩ (by omega) (by assumption) (by omega) (by omega) | exact nm_2 hq0 (by omega) (by omega) (by omega) (by omega) (by omega) (by omega) (by omega) | exact nm_1 hq0 (by omega) (by omega) (by omega) (by omega) (by omega) | exact nm_f (by omega) (by omega) (by omega) (by omega)), (by have lm1 : Int32.toInt (-1) = -1 := (by decide); have l91 : Int32.toInt 1 = 1 := (by decide); have l92 : Int32.toInt 2 = 2 := (by decide); have l93 : Int32.toInt 3 = 3 := (by decide); have h90 : Int32.toInt 0 = 0 := (by decide); have h91 : Int32.toInt 999 = 999 := (by decide); first | exact nv_ok hq0 (by omega) (by omega) ⟨by omega, by omega⟩ (by omega) (by omega) | exact nv_no hq0 (by omega) (by omega) (by omega)), (by assumption), rfl, rfl⟩, by rw [ht]; exact hP, hD⟩, hS.F ht⟩) hS.2.2 dX3_number_45

set_option maxHeartbeats 4000000 in
set_option maxRecDepth 100000 in
theorem fnr1_9 (l : Launch) (G : va_G) (y : Nat → ClassId) (sz : Nat) (ob : Nat) (ob_town : Nat) (ob_code : Nat) (ob_fault : Int32) (ob_place : Int32) (ob_text : Nat) (ob_size : Int32) (ob_begin : Int32) (ob_next : Int32) (ob_kind : Int32) (ob_value : Int32) (fob_text : Nat → Int32) (p_ob_fault : (0 : Int) ≤ ob_fault.toInt ∧ ob_fault.toInt ≤ 3) (p_ob_size : (0 : Int) ≤ ob_size.toInt ∧ ob_size.toInt ≤ 1400) (p_ob_begin : (0 : Int) ≤ ob_begin.toInt ∧ ob_begin.toInt ≤ 1400) (p_ob_next : (0 : Int) ≤ ob_next.toInt ∧ ob_next.toInt ≤ 1400) (p_ob_kind : (0 : Int) ≤ ob_kind.toInt ∧ ob_kind.toInt ≤ 4) (p_ob_value : (0 : Int) ≤ ob_value.toInt ∧ ob_value.toInt ≤ 1000000) (hq0 : qTok fob_text ob_size.toInt 1000000 ob_kind.toInt ob_begin.toInt ob_next.toInt ob_value.toInt) : Met l yX3_number (Cond.code yX3_number cX3_number 4 (some .int) :: wAll) ({ frames := 3, cells := 0, slots := 0, locals := 61 }) (va_Pc [.ref ob, .int 1, .int 9] (kp G y sz [(ce_X3 ob ob_town ob_code ob_fault ob_place ob_text ob_size ob_begin ob_next ob_kind ob_value), (ce_b1400 y ob_text fob_text)])) (va_Qi (fun (r : Int32) (w : va_W) => (∃ (v_53 : Int32) (v_54 : Int32) (v_55 : Int32) (v_56 : Int32) (v_57 : Int32) (v_58 : Int32) (v_59 : Int32), ((0 : Int) ≤ v_53.toInt ∧ v_53.toInt ≤ 9) ∧ ((0 : Int) ≤ v_54.toInt ∧ v_54.toInt ≤ 3) ∧ ((0 : Int) ≤ v_56.toInt ∧ v_56.toInt ≤ 1400) ∧ ((0 : Int) ≤ v_57.toInt ∧ v_57.toInt ≤ 1400) ∧ ((0 : Int) ≤ v_58.toInt ∧ v_58.toInt ≤ 4) ∧ ((0 : Int) ≤ v_59.toInt ∧ v_59.toInt ≤ 1000000) ∧ (((v_54.toInt, v_55.toInt, v_56.toInt) : Int × Int × Int) = r_nm fob_text ob_size.toInt 1 9 ((ob_fault.toInt, ob_place.toInt, ob_begin.toInt) : Int × Int × Int)) ∧ (v_53.toInt = r_nv fob_text ob_size.toInt 1 9 ((ob_fault.toInt, ob_place.toInt, ob_begin.toInt) : Int × Int × Int)) ∧ (qTok fob_text ob_size.toInt 1000000 v_58.toInt v_56.toInt v_57.toInt v_59.toInt) ∧ r = v_53 ∧ w = [(ce_X3 ob ob_town ob_code v_54 v_55 ob_text ob_size v_56 v_57 v_58 v_59), (ce_b1400 y ob_text fob_text)])) (kq G (va_A [(ce_X3 ob ob_town ob_code ob_fault ob_place ob_text ob_size ob_begin ob_next ob_kind ob_value), (ce_b1400 y ob_text fob_text)] sz)) (va_A [(ce_X3 ob ob_town ob_code ob_fault ob_place ob_text ob_size ob_begin ob_next ob_kind ob_value), (ce_b1400 y ob_text fob_text)] sz)) 0 0 (va_A [(ce_X3 ob ob_town ob_code ob_fault ob_place ob_text ob_size ob_begin ob_next ob_kind ob_value), (ce_b1400 y ob_text fob_text)] sz) := by
  refine Met.ofW (cc := cX3_number) (maxL := 4) (ret := (some .int)) (by decide) rfl ?_
  intro p e s m args below meth c s₁ B hml hv
  obtain ⟨rfl, hsz, hP, hK, hD0⟩ := hv
  have hx := B.exec
  have hb := B.bytes
  have hr := B.returns
  have hw0 : ∀ w ∈ wAll, w.before _ s = true := fun w h => atoms_spec (ws := Cond.code yX3_number cX3_number 4 (some .int) :: wAll) B.pre w (List.mem_cons_of_mem _ h)
  have hown : s.vm.findClass RX3 = some m.cls := findClass_of_methodNamed B.named
  subst hsz
  have hD := hD0.self (sz := s.heap.size)
  generalize hAe : va_A [(ce_X3 ob ob_town ob_code ob_fault ob_place ob_text ob_size ob_begin ob_next ob_kind ob_value), (ce_b1400 y ob_text fob_text)] s.heap.size = A at hD ⊢
  have hA : ∀ q : Nat, s.heap.size ≤ q → A q := fun q h => by rw [← hAe]; exact Or.inr h
  have hS : va_S A s.heap s.heap [] := va_S.rf
  have hP : va_P G vwCl [(ce_X3 ob ob_town ob_code ob_fault ob_place ob_text ob_size ob_begin ob_next ob_kind ob_value), (ce_b1400 y ob_text fob_text)] s.heap := hP
  have hl := lv_entry ([.ref ob, .int 1, .int 9]) (n := 4) (Nat.le_of_ble_eq_true rfl)
  rw [lg_entry_eq]
  generalize (lg_sl ([.ref ob, .int 1, .int 9]) ++ List.replicate (4 - (lg_sl ([.ref ob, .int 1, .int 9])).length) Slot.unset).toArray = ls at hl ⊢
  have hl : lv_has ls 4 [(0, .ref ob), (1, .int 1), (2, .int 9)] := hl
  refine lv_aload_n hx hb dX3_number_0 rfl (lv_at hl 0 rfl) ?_
  refine va_get (D := G) (ci := 3) (v := .int ob_kind) (C := RX3) (T := TX3) (N := 10) hx hb hw0 inA_wsX30 hown hK.1 hP 0 rfl rfl 8 (by decide) (hw0 _ m_719) (fun _ h9 => h9) rfl dX3_number_1 ?_
  refine lv_iconst (v := 2) hx hb dX3_number_4 (by decide) ?_
  refine lv_icmp_eq (tgt := 16) hx hb dX3_number_5 (by decide) (fun c_1001 => ?_) (fun c_1001 => ?_)
  · skip
    have nc_1001 := nb_eq (2) (2) c_1001 p_ob_kind (bkc (x := 2) (c := 2) (by decide)) (by decide)
    refine lv_aload_n hx hb dX3_number_16 rfl (lv_at hl 0 rfl) ?_
    refine va_get (D := G) (ci := 3) (v := .int ob_value) (C := RX3) (T := TX3) (N := 10) hx hb hw0 inA_wsX30 hown hK.1 hP 0 rfl rfl 9 (by decide) (hw0 _ m_753) (fun _ h9 => h9) rfl dX3_number_17 ?_
    refine lv_iload_n hx hb dX3_number_20 rfl (lv_at hl 1 rfl) ?_
    refine lv_icmp_lt (tgt := 32) hx hb dX3_number_21 (by decide) (fun c_1002 => ?_) (fun c_1002 => ?_)
    · skip
      have nc_1002 := nb_lt (0) (1) c_1002 p_ob_value (bkc (x := 1) (c := 1) (by decide)) (by decide)
      refine lv_aload_n hx hb dX3_number_32 rfl (lv_at hl 0 rfl) ?_
      refine lv_iconst (v := 2) hx hb dX3_number_33 (by decide) ?_
      refine cVvm (As := [.int 2]) (rest := []) ⟨hx, hb, hml, hown, hw0⟩ hA hK hP hD hS [true] (sX3_refuse l G y _ ob 2 ob_town ob_code ob_fault ob_place ob_text ob_size ob_begin ob_next ob_kind ob_value p_ob_fault p_ob_size p_ob_begin p_ob_next (bw (0) (4) nc_1001.1 (by decide)) (bw (0) (1000000) nc_1002.1 (by decide)) (bw (1) (3) (bkc (x := 2) (c := 2) (by decide)) (by decide))) rfl ⟨(callB_of 1 hw0 (gA m_816) rfl rfl rfl (hw0 _ m_721) (hw0 _ m_734) cb_X3_refuse ⟨Nat.le_of_ble_eq_true rfl, Nat.le_of_ble_eq_true rfl⟩), (hw0 _ m_735), (hw0 _ m_736)⟩ (ci := 3) (q := (RX3, TX3, 10)) rfl rfl rfl hl.1 (Nat.le_of_ble_eq_true rfl) dX3_number_34 ⟨Nat.le_of_ble_eq_true rfl, Nat.le_of_ble_eq_true rfl⟩ (fun w_1003 H locs hw_1003 hP hD hS => ?_)
      obtain ⟨v_1004, v_1005, bv_1004, h_1006, h_1007, rfl⟩ := hw_1003
      obtain ⟨hP, hD⟩ : vPD G A H [(ce_X3 ob ob_town ob_code v_1004 v_1005 ob_text ob_size ob_begin ob_next ob_kind ob_value), (ce_b1400 y ob_text fob_text)] := ⟨hP, hD⟩
      refine lv_aload_n hx hb dX3_number_37 rfl (lv_at hl 0 rfl) ?_
      refine va_get (D := G) (ci := 3) (v := .int v_1004) (C := RX3) (T := TX3) (N := 10) hx hb hw0 inA_wsX30 hown hK.1 hP 0 rfl rfl 2 (by decide) (hw0 _ m_737) (fun _ h9 => h9) rfl dX3_number_38 ?_
      refine lv_if_eq (tgt := 46) hx hb dX3_number_41 (by decide) (fun c9 => absurd c9 (dc_neq bv_1004 (bkc (x := 0) (c := 0) (by decide)) (by decide))) (fun _ => ?_)
      refine lv_iconst (v := 0) hx hb dX3_number_44 (by decide) ?_
      exact W.iret (v := 0) hx hb hr (fun t ht hW => ⟨⟨0, _, rfl, ⟨0, v_1004, v_1005, ob_begin, ob_next, ob_kind, ob_value, (bw (0) (9) (bkc (x := 0) (c := 0) (by decide)) (by decide)), (bw (0) (3) bv_1004 (by decide)), p_ob_begin, p_ob_next, (bw (0) (4) nc_1001.1 (by decide)), (bw (0) (1000000) nc_1002.1 (by decide)), (by have lm1 : Int32.toInt (-1) = -1 := (by decide); have l91 : Int32.toInt 1 = 1 := (by decide); have l92 : Int32.toInt 2 = 2 := (by decide); have l93 : Int32.toInt 3 = 3 := (by decide); have h90 : Int32.toInt 0 = 0 := (by decide); have h91 : Int32.toInt 1 = 1 := (by decide); have h92 : Int32.toInt 9 = 9 := (by decide); by_cases hF0 : ob_fault.toInt = 0 <;> first | exact nm_ok hq0 (by omega) (by omega) ⟨by omega, by omega⟩ (by omega) (by assumption) (by omega) (by omega) | exact nm_2 hq0 (by omega) (by omega) (by omega) (by omega) (by omega) (by omega) (by omega) | exact nm_1 hq0 (by omega) (by omega) (by omega) (by omega) (by omega) | exact nm_f (by omega) (by omega) (by omega) (by omega)), (by have lm1 : Int32.toInt (-1) = -1 := (by decide); have l91 : Int32.toInt 1 = 1 := (by decide); have l92 : Int32.toInt 2 = 2 := (by decide); have l93 : Int32.toInt 3 = 3 := (by decide); have h90 : Int32.toInt 0 = 0 := (by decide); have h91 : Int32.toInt 1 = 1 := (by decide); have h92 : Int32.toInt 9 = 9 := (by decide); first | exact nv_ok hq0 (by omega) (by omega) ⟨by omega, by omega⟩ (by omega) (by omega) | exact nv_no hq0 (by omega) (by omega) (by omega)), (by assumption), rfl, rfl⟩, by rw [ht]; exact hP, hD⟩, hS.F ht⟩) hS.2.2 dX3_number_45
    · skip
      have nc_1002 := nb_nlt (1) (1) c_1002 (bkc (x := 1) (c := 1) (by decide)) p_ob_value (by decide)
      refine lv_aload_n hx hb dX3_number_24 rfl (lv_at hl 0 rfl) ?_
      refine va_get (D := G) (ci := 3) (v := .int ob_value) (C := RX3) (T := TX3) (N := 10) hx hb hw0 inA_wsX30 hown hK.1 hP 0 rfl rfl 9 (by decide) (hw0 _ m_753) (fun _ h9 => h9) rfl dX3_number_25 ?_
      refine lv_iload_n hx hb dX3_number_28 rfl (lv_at hl 2 rfl) ?_
      refine lv_icmp_le (tgt := 37) hx hb dX3_number_29 (by decide) (fun c_1008 => ?_) (fun c_1008 => ?_)
      · skip
        have nc_1008 := nb_le (9) (9) c_1008 nc_1002.2.1 (bkc (x := 9) (c := 9) (by decide)) (by decide)
        refine lv_aload_n hx hb dX3_number_37 rfl (lv_at hl 0 rfl) ?_
        refine va_get (D := G) (ci := 3) (v := .int ob_fault) (C := RX3) (T := TX3) (N := 10) hx hb hw0 inA_wsX30 hown hK.1 hP 0 rfl rfl 2 (by decide) (hw0 _ m_737) (fun _ h9 => h9) rfl dX3_number_38 ?_
        refine lv_if_eq (tgt := 46) hx hb dX3_number_41 (by decide) (fun c_1009 => ?_) (fun c_1009 => ?_)
        · skip
          have nc_1009 := nb_eq (0) (0) c_1009 p_ob_fault (bkc (x := 0) (c := 0) (by decide)) (by decide)
          refine lv_aload_n hx hb dX3_number_46 rfl (lv_at hl 0 rfl) ?_
          refine va_get (D := G) (ci := 3) (v := .int ob_value) (C := RX3) (T := TX3) (N := 10) hx hb hw0 inA_wsX30 hown hK.1 hP 0 rfl rfl 9 (by decide) (hw0 _ m_753) (fun _ h9 => h9) rfl dX3_number_47 ?_
          refine lv_istore_n (lv' := [(3, .int ob_value), (0, .ref ob), (1, .int 1), (2, .int 9)]) hx hb dX3_number_50 rfl hl (by decide) rfl (fun ls hl => ?_)
          refine lv_aload_n hx hb dX3_number_51 rfl (lv_at hl 1 rfl) ?_
          refine cVvm (As := []) (rest := []) ⟨hx, hb, hml, hown, hw0⟩ hA hK hP hD hS [true, true] (sX3_advance l G y _ ob ob_town ob_code ob_fault ob_place ob_text ob_size ob_begin ob_next ob_kind ob_value fob_text (bw (0) (3) nc_1009.1 (by decide)) p_ob_size p_ob_begin p_ob_next (bw (0) (4) nc_1001.1 (by decide)) (bw (0) (1000000) nc_1008.1 (by decide)) (by have h90 : Int32.toInt 1 = 1 := (by decide); have h91 : Int32.toInt 9 = 9 := (by decide); first | omega | exact (tok_le (by assumption)).2)) rfl ⟨(callB_of 0 hw0 (gA m_714) rfl rfl rfl (hw0 _ m_721) (hw0 _ m_738) cb_X3_advance ⟨Nat.le_of_ble_eq_true rfl, Nat.le_of_ble_eq_true rfl⟩), (hw0 _ m_739), (hw0 _ m_740)⟩ (ci := 3) (q := (RX3, TX3, 10)) rfl rfl rfl hl.1 (Nat.le_of_ble_eq_true rfl) dX3_number_52 ⟨Nat.le_of_ble_eq_true rfl, Nat.le_of_ble_eq_true rfl⟩ (fun w_1010 H locs hw_1010 hP hD hS => ?_)
          obtain ⟨v_1011, v_1012, v_1013, v_1014, bv_1011, bv_1012, bv_1013, bv_1014, h_1015, h_1016, rfl⟩ := hw_1010
          obtain ⟨hP, hD⟩ : vPD G A H [(ce_X3 ob ob_town ob_code ob_fault ob_place ob_text ob_size v_1011 v_1012 v_1013 v_1014), (ce_b1400 y ob_text fob_text)] := ⟨hP, hD⟩
          refine lv_iload_n hx hb dX3_number_55 rfl (lv_at hl 0 rfl) ?_
          exact W.iret (v := ob_value) hx hb hr (fun t ht hW => ⟨⟨ob_value, _, rfl, ⟨ob_value, ob_fault, ob_place, v_1011, v_1012, v_1013, v_1014, (bw (0) (9) nc_1008.1 (by decide)), (bw (0) (3) nc_1009.1 (by decide)), bv_1011, bv_1012, bv_1013, bv_1014, (by have lm1 : Int32.toInt (-1) = -1 := (by decide); have l91 : Int32.toInt 1 = 1 := (by decide); have l92 : Int32.toInt 2 = 2 := (by decide); have l93 : Int32.toInt 3 = 3 := (by decide); have h90 : Int32.toInt 1 = 1 := (by decide); have h91 : Int32.toInt 9 = 9 := (by decide); by_cases hF0 : ob_fault.toInt = 0 <;> first | exact nm_ok hq0 (by omega) (by omega) ⟨by omega, by omega⟩ (by omega) (by assumption) (by omega) (by omega) | exact nm_2 hq0 (by omega) (by omega) (by omega) (by omega) (by omega) (by omega) (by omega) | exact nm_1 hq0 (by omega) (by omega) (by omega) (by omega) (by omega) | exact nm_f (by omega) (by omega) (by omega) (by omega)), (by have lm1 : Int32.toInt (-1) = -1 := (by decide); have l91 : Int32.toInt 1 = 1 := (by decide); have l92 : Int32.toInt 2 = 2 := (by decide); have l93 : Int32.toInt 3 = 3 := (by decide); have h90 : Int32.toInt 1 = 1 := (by decide); have h91 : Int32.toInt 9 = 9 := (by decide); first | exact nv_ok hq0 (by omega) (by omega) ⟨by omega, by omega⟩ (by omega) (by omega) | exact nv_no hq0 (by omega) (by omega) (by omega)), (by assumption), rfl, rfl⟩, by rw [ht]; exact hP, hD⟩, hS.F ht⟩) hS.2.2 dX3_number_56
        · skip
          have nc_1009 := nb_ne (1) (3) c_1009 p_ob_fault (k := 0) (by decide) (by decide)
          refine lv_iconst (v := 0) hx hb dX3_number_44 (by decide) ?_
          exact W.iret (v := 0) hx hb hr (fun t ht hW => ⟨⟨0, _, rfl, ⟨0, ob_fault, ob_place, ob_begin, ob_next, ob_kind, ob_value, (bw (0) (9) (bkc (x := 0) (c := 0) (by decide)) (by decide)), (bw (0) (3) nc_1009.1 (by decide)), p_ob_begin, p_ob_next, (bw (0) (4) nc_1001.1 (by decide)), (bw (0) (1000000) nc_1008.1 (by decide)), (by have lm1 : Int32.toInt (-1) = -1 := (by decide); have l91 : Int32.toInt 1 = 1 := (by decide); have l92 : Int32.toInt 2 = 2 := (by decide); have l93 : Int32.toInt 3 = 3 := (by decide); have h90 : Int32.toInt 0 = 0 := (by decide); have h91 : Int32.toInt 1 = 1 := (by decide); have h92 : Int32.toInt 9 = 9 := (by decide); by_cases hF0 : ob_fault.toInt = 0 <;> first | exact nm_ok hq0 (by omega) (by omega) ⟨by omega, by omega⟩ (by omega) (by assumption) (by omega) (by omega) | exact nm_2 hq0 (by omega) (by omega) (by omega) (by omega) (by omega) (by omega) (by omega) | exact nm_1 hq0 (by omega) (by omega) (by omega) (by omega) (by omega) | exact nm_f (by omega) (by omega) (by omega) (by omega)), (by have lm1 : Int32.toInt (-1) = -1 := (by decide); have l91 : Int32.toInt 1 = 1 := (by decide); have l92 : Int32.toInt 2 = 2 := (by decide); have l93 : Int32.toInt 3 = 3 := (by decide); have h90 : Int32.toInt 0 = 0 := (by decide); have h91 : Int32.toInt 1 = 1 := (by decide); have h92 : Int32.toInt 9 = 9 := (by decide); first | exact nv_ok hq0 (by omega) (by omega) ⟨by omega, by omega⟩ (by omega) (by omega) | exact nv_no hq0 (by omega) (by omega) (by omega)), (by assumption), rfl, rfl⟩, by rw [ht]; exact hP, hD⟩, hS.F ht⟩) hS.2.2 dX3_number_45
      · skip
        have nc_1008 := nb_nle (9) (10) c_1008 (bkc (x := 9) (c := 9) (by decide)) nc_1002.2.1 (by decide)
        refine lv_aload_n hx hb dX3_number_32 rfl (lv_at hl 0 rfl) ?_
        refine lv_iconst (v := 2) hx hb dX3_number_33 (by decide) ?_
        refine cVvm (As := [.int 2]) (rest := []) ⟨hx, hb, hml, hown, hw0⟩ hA hK hP hD hS [true] (sX3_refuse l G y _ ob 2 ob_town ob_code ob_fault ob_place ob_text ob_size ob_begin ob_next ob_kind ob_value p_ob_fault p_ob_size p_ob_begin p_ob_next (bw (0) (4) nc_1001.1 (by decide)) (bw (0) (1000000) nc_1008.2.1 (by decide)) (bw (1) (3) (bkc (x := 2) (c := 2) (by decide)) (by decide))) rfl ⟨(callB_of 1 hw0 (gA m_816) rfl rfl rfl (hw0 _ m_721) (hw0 _ m_734) cb_X3_refuse ⟨Nat.le_of_ble_eq_true rfl, Nat.le_of_ble_eq_true rfl⟩), (hw0 _ m_735), (hw0 _ m_736)⟩ (ci := 3) (q := (RX3, TX3, 10)) rfl rfl rfl hl.1 (Nat.le_of_ble_eq_true rfl) dX3_number_34 ⟨Nat.le_of_ble_eq_true rfl, Nat.le_of_ble_eq_true rfl⟩ (fun w_1017 H locs hw_1017 hP hD hS => ?_)
        obtain ⟨v_1018, v_1019, bv_1018, h_1020, h_1021, rfl⟩ := hw_1017
        obtain ⟨hP, hD⟩ : vPD G A H [(ce_X3 ob ob_town ob_code v_1018 v_1019 ob_text ob_size ob_begin ob_next ob_kind ob_value), (ce_b1400 y ob_text fob_text)] := ⟨hP, hD⟩
        refine lv_aload_n hx hb dX3_number_37 rfl (lv_at hl 0 rfl) ?_
        refine va_get (D := G) (ci := 3) (v := .int v_1018) (C := RX3) (T := TX3) (N := 10) hx hb hw0 inA_wsX30 hown hK.1 hP 0 rfl rfl 2 (by decide) (hw0 _ m_737) (fun _ h9 => h9) rfl dX3_number_38 ?_
        refine lv_if_eq (tgt := 46) hx hb dX3_number_41 (by decide) (fun c9 => absurd c9 (dc_neq bv_1018 (bkc (x := 0) (c := 0) (by decide)) (by decide))) (fun _ => ?_)
        refine lv_iconst (v := 0) hx hb dX3_number_44 (by decide) ?_
        exact W.iret (v := 0) hx hb hr (fun t ht hW => ⟨⟨0, _, rfl, ⟨0, v_1018, v_1019, ob_begin, ob_next, ob_kind, ob_value, (bw (0) (9) (bkc (x := 0) (c := 0) (by decide)) (by decide)), (bw (0) (3) bv_1018 (by decide)), p_ob_begin, p_ob_next, (bw (0) (4) nc_1001.1 (by decide)), (bw (0) (1000000) nc_1008.2.1 (by decide)), (by have lm1 : Int32.toInt (-1) = -1 := (by decide); have l91 : Int32.toInt 1 = 1 := (by decide); have l92 : Int32.toInt 2 = 2 := (by decide); have l93 : Int32.toInt 3 = 3 := (by decide); have h90 : Int32.toInt 0 = 0 := (by decide); have h91 : Int32.toInt 1 = 1 := (by decide); have h92 : Int32.toInt 9 = 9 := (by decide); by_cases hF0 : ob_fault.toInt = 0 <;> first | exact nm_ok hq0 (by omega) (by omega) ⟨by omega, by omega⟩ (by omega) (by assumption) (by omega) (by omega) | exact nm_2 hq0 (by omega) (by omega) (by omega) (by omega) (by omega) (by omega) (by omega) | exact nm_1 hq0 (by omega) (by omega) (by omega) (by omega) (by omega) | exact nm_f (by omega) (by omega) (by omega) (by omega)), (by have lm1 : Int32.toInt (-1) = -1 := (by decide); have l91 : Int32.toInt 1 = 1 := (by decide); have l92 : Int32.toInt 2 = 2 := (by decide); have l93 : Int32.toInt 3 = 3 := (by decide); have h90 : Int32.toInt 0 = 0 := (by decide); have h91 : Int32.toInt 1 = 1 := (by decide); have h92 : Int32.toInt 9 = 9 := (by decide); first | exact nv_ok hq0 (by omega) (by omega) ⟨by omega, by omega⟩ (by omega) (by omega) | exact nv_no hq0 (by omega) (by omega) (by omega)), (by assumption), rfl, rfl⟩, by rw [ht]; exact hP, hD⟩, hS.F ht⟩) hS.2.2 dX3_number_45
  · skip
    have nc_1001 := nb_ne (0) (4) c_1001 p_ob_kind (k := 2) (by decide) (by decide)
    refine lv_aload_n hx hb dX3_number_8 rfl (lv_at hl 0 rfl) ?_
    refine lv_iconst (v := 1) hx hb dX3_number_9 (by decide) ?_
    refine cVvm (As := [.int 1]) (rest := []) ⟨hx, hb, hml, hown, hw0⟩ hA hK hP hD hS [true] (sX3_refuse l G y _ ob 1 ob_town ob_code ob_fault ob_place ob_text ob_size ob_begin ob_next ob_kind ob_value p_ob_fault p_ob_size p_ob_begin p_ob_next nc_1001.1 p_ob_value (bw (1) (3) (bkc (x := 1) (c := 1) (by decide)) (by decide))) rfl ⟨(callB_of 1 hw0 (gA m_816) rfl rfl rfl (hw0 _ m_721) (hw0 _ m_734) cb_X3_refuse ⟨Nat.le_of_ble_eq_true rfl, Nat.le_of_ble_eq_true rfl⟩), (hw0 _ m_735), (hw0 _ m_736)⟩ (ci := 3) (q := (RX3, TX3, 10)) rfl rfl rfl hl.1 (Nat.le_of_ble_eq_true rfl) dX3_number_10 ⟨Nat.le_of_ble_eq_true rfl, Nat.le_of_ble_eq_true rfl⟩ (fun w_1022 H locs hw_1022 hP hD hS => ?_)
    obtain ⟨v_1023, v_1024, bv_1023, h_1025, h_1026, rfl⟩ := hw_1022
    obtain ⟨hP, hD⟩ : vPD G A H [(ce_X3 ob ob_town ob_code v_1023 v_1024 ob_text ob_size ob_begin ob_next ob_kind ob_value), (ce_b1400 y ob_text fob_text)] := ⟨hP, hD⟩
    refine lv_goto (tgt := 37) hx hb dX3_number_13 (by decide) ?_
    refine lv_aload_n hx hb dX3_number_37 rfl (lv_at hl 0 rfl) ?_
    refine va_get (D := G) (ci := 3) (v := .int v_1023) (C := RX3) (T := TX3) (N := 10) hx hb hw0 inA_wsX30 hown hK.1 hP 0 rfl rfl 2 (by decide) (hw0 _ m_737) (fun _ h9 => h9) rfl dX3_number_38 ?_
    refine lv_if_eq (tgt := 46) hx hb dX3_number_41 (by decide) (fun c9 => absurd c9 (dc_neq bv_1023 (bkc (x := 0) (c := 0) (by decide)) (by decide))) (fun _ => ?_)
    refine lv_iconst (v := 0) hx hb dX3_number_44 (by decide) ?_
    exact W.iret (v := 0) hx hb hr (fun t ht hW => ⟨⟨0, _, rfl, ⟨0, v_1023, v_1024, ob_begin, ob_next, ob_kind, ob_value, (bw (0) (9) (bkc (x := 0) (c := 0) (by decide)) (by decide)), (bw (0) (3) bv_1023 (by decide)), p_ob_begin, p_ob_next, nc_1001.1, p_ob_value, (by have lm1 : Int32.toInt (-1) = -1 := (by decide); have l91 : Int32.toInt 1 = 1 := (by decide); have l92 : Int32.toInt 2 = 2 := (by decide); have l93 : Int32.toInt 3 = 3 := (by decide); have h90 : Int32.toInt 0 = 0 := (by decide); have h91 : Int32.toInt 1 = 1 := (by decide); have h92 : Int32.toInt 9 = 9 := (by decide); by_cases hF0 : ob_fault.toInt = 0 <;> first | exact nm_ok hq0 (by omega) (by omega) ⟨by omega, by omega⟩ (by omega) (by assumption) (by omega) (by omega) | exact nm_2 hq0 (by omega) (by omega) (by omega) (by omega) (by omega) (by omega) (by omega) | exact nm_1 hq0 (by omega) (by omega) (by omega) (by omega) (by omega) | exact nm_f (by omega) (by omega) (by omega) (by omega)), (by have lm1 : Int32.toInt (-1) = -1 := (by decide); have l91 : Int32.toInt 1 = 1 := (by decide); have l92 : Int32.toInt 2 = 2 := (by decide); have l93 : Int32.toInt 3 = 3 := (by decide); have h90 : Int32.toInt 0 = 0 := (by decide); have h91 : Int32.toInt 1 = 1 := (by decide); have h92 : Int32.toInt 9 = 9 := (by decide); first | exact nv_ok hq0 (by omega) (by omega) ⟨by omega, by omega⟩ (by omega) (by omega) | exact nv_no hq0 (by omega) (by omega) (by omega)), (by assumption), rfl, rfl⟩, by rw [ht]; exact hP, hD⟩, hS.F ht⟩) hS.2.2 dX3_number_45

set_option maxHeartbeats 4000000 in
set_option maxRecDepth 100000 in
theorem fnrF (l : Launch) (G : va_G) (y : Nat → ClassId) (sz : Nat) (ob : Nat) (a1 : Int32) (ob_town : Nat) (ob_code : Nat) (ob_fault : Int32) (ob_place : Int32) (ob_text : Nat) (ob_size : Int32) (ob_begin : Int32) (ob_next : Int32) (ob_kind : Int32) (ob_value : Int32) (fob_text : Nat → Int32) (p_ob_fault : (0 : Int) ≤ ob_fault.toInt ∧ ob_fault.toInt ≤ 3) (p_ob_size : (0 : Int) ≤ ob_size.toInt ∧ ob_size.toInt ≤ 1400) (p_ob_begin : (0 : Int) ≤ ob_begin.toInt ∧ ob_begin.toInt ≤ 1400) (p_ob_next : (0 : Int) ≤ ob_next.toInt ∧ ob_next.toInt ≤ 1400) (p_ob_kind : (0 : Int) ≤ ob_kind.toInt ∧ ob_kind.toInt ≤ 4) (p_ob_value : (0 : Int) ≤ ob_value.toInt ∧ ob_value.toInt ≤ 1000000) (p_a1 : (0 : Int) ≤ a1.toInt ∧ a1.toInt ≤ 180) (hq0 : qTok fob_text ob_size.toInt 1000000 ob_kind.toInt ob_begin.toInt ob_next.toInt ob_value.toInt) : Met l yX3_number (Cond.code yX3_number cX3_number 4 (some .int) :: wAll) ({ frames := 3, cells := 0, slots := 0, locals := 61 }) (va_Pc [.ref ob, .int a1, .int 180] (kp G y sz [(ce_X3 ob ob_town ob_code ob_fault ob_place ob_text ob_size ob_begin ob_next ob_kind ob_value), (ce_b1400 y ob_text fob_text)])) (va_Qi (fun (r : Int32) (w : va_W) => (∃ (v_53 : Int32) (v_54 : Int32) (v_55 : Int32) (v_56 : Int32) (v_57 : Int32) (v_58 : Int32) (v_59 : Int32), ((0 : Int) ≤ v_53.toInt ∧ v_53.toInt ≤ 180) ∧ ((0 : Int) ≤ v_54.toInt ∧ v_54.toInt ≤ 3) ∧ ((0 : Int) ≤ v_56.toInt ∧ v_56.toInt ≤ 1400) ∧ ((0 : Int) ≤ v_57.toInt ∧ v_57.toInt ≤ 1400) ∧ ((0 : Int) ≤ v_58.toInt ∧ v_58.toInt ≤ 4) ∧ ((0 : Int) ≤ v_59.toInt ∧ v_59.toInt ≤ 1000000) ∧ (((v_54.toInt, v_55.toInt, v_56.toInt) : Int × Int × Int) = r_nm fob_text ob_size.toInt a1.toInt 180 ((ob_fault.toInt, ob_place.toInt, ob_begin.toInt) : Int × Int × Int)) ∧ (v_53.toInt = r_nv fob_text ob_size.toInt a1.toInt 180 ((ob_fault.toInt, ob_place.toInt, ob_begin.toInt) : Int × Int × Int)) ∧ (qTok fob_text ob_size.toInt 1000000 v_58.toInt v_56.toInt v_57.toInt v_59.toInt) ∧ r = v_53 ∧ w = [(ce_X3 ob ob_town ob_code v_54 v_55 ob_text ob_size v_56 v_57 v_58 v_59), (ce_b1400 y ob_text fob_text)])) (kq G (va_A [(ce_X3 ob ob_town ob_code ob_fault ob_place ob_text ob_size ob_begin ob_next ob_kind ob_value), (ce_b1400 y ob_text fob_text)] sz)) (va_A [(ce_X3 ob ob_town ob_code ob_fault ob_place ob_text ob_size ob_begin ob_next ob_kind ob_value), (ce_b1400 y ob_text fob_text)] sz)) 0 0 (va_A [(ce_X3 ob ob_town ob_code ob_fault ob_place ob_text ob_size ob_begin ob_next ob_kind ob_value), (ce_b1400 y ob_text fob_text)] sz) := by
  refine Met.ofW (cc := cX3_number) (maxL := 4) (ret := (some .int)) (by decide) rfl ?_
  intro p e s m args below meth c s₁ B hml hv
  obtain ⟨rfl, hsz, hP, hK, hD0⟩ := hv
  have hx := B.exec
  have hb := B.bytes
  have hr := B.returns
  have hw0 : ∀ w ∈ wAll, w.before _ s = true := fun w h => atoms_spec (ws := Cond.code yX3_number cX3_number 4 (some .int) :: wAll) B.pre w (List.mem_cons_of_mem _ h)
  have hown : s.vm.findClass RX3 = some m.cls := findClass_of_methodNamed B.named
  subst hsz
  have hD := hD0.self (sz := s.heap.size)
  generalize hAe : va_A [(ce_X3 ob ob_town ob_code ob_fault ob_place ob_text ob_size ob_begin ob_next ob_kind ob_value), (ce_b1400 y ob_text fob_text)] s.heap.size = A at hD ⊢
  have hA : ∀ q : Nat, s.heap.size ≤ q → A q := fun q h => by rw [← hAe]; exact Or.inr h
  have hS : va_S A s.heap s.heap [] := va_S.rf
  have hP : va_P G vwCl [(ce_X3 ob ob_town ob_code ob_fault ob_place ob_text ob_size ob_begin ob_next ob_kind ob_value), (ce_b1400 y ob_text fob_text)] s.heap := hP
  have hl := lv_entry ([.ref ob, .int a1, .int 180]) (n := 4) (Nat.le_of_ble_eq_true rfl)
  rw [lg_entry_eq]
  generalize (lg_sl ([.ref ob, .int a1, .int 180]) ++ List.replicate (4 - (lg_sl ([.ref ob, .int a1, .int 180])).length) Slot.unset).toArray = ls at hl ⊢
  have hl : lv_has ls 4 [(0, .ref ob), (1, .int a1), (2, .int 180)] := hl
  refine lv_aload_n hx hb dX3_number_0 rfl (lv_at hl 0 rfl) ?_
  refine va_get (D := G) (ci := 3) (v := .int ob_kind) (C := RX3) (T := TX3) (N := 10) hx hb hw0 inA_wsX30 hown hK.1 hP 0 rfl rfl 8 (by decide) (hw0 _ m_719) (fun _ h9 => h9) rfl dX3_number_1 ?_
  refine lv_iconst (v := 2) hx hb dX3_number_4 (by decide) ?_
  refine lv_icmp_eq (tgt := 16) hx hb dX3_number_5 (by decide) (fun c_1001 => ?_) (fun c_1001 => ?_)
  · skip
    have nc_1001 := nb_eq (2) (2) c_1001 p_ob_kind (bkc (x := 2) (c := 2) (by decide)) (by decide)
    refine lv_aload_n hx hb dX3_number_16 rfl (lv_at hl 0 rfl) ?_
    refine va_get (D := G) (ci := 3) (v := .int ob_value) (C := RX3) (T := TX3) (N := 10) hx hb hw0 inA_wsX30 hown hK.1 hP 0 rfl rfl 9 (by decide) (hw0 _ m_753) (fun _ h9 => h9) rfl dX3_number_17 ?_
    refine lv_iload_n hx hb dX3_number_20 rfl (lv_at hl 1 rfl) ?_
    refine lv_icmp_lt (tgt := 32) hx hb dX3_number_21 (by decide) (fun c_1002 => ?_) (fun c_1002 => ?_)
    · skip
      have nc_1002 := nb_lt (179) (1) c_1002 p_ob_value p_a1 (by decide)
      refine lv_aload_n hx hb dX3_number_32 rfl (lv_at hl 0 rfl) ?_
      refine lv_iconst (v := 2) hx hb dX3_number_33 (by decide) ?_
      refine cVvm (As := [.int 2]) (rest := []) ⟨hx, hb, hml, hown, hw0⟩ hA hK hP hD hS [true] (sX3_refuse l G y _ ob 2 ob_town ob_code ob_fault ob_place ob_text ob_size ob_begin ob_next ob_kind ob_value p_ob_fault p_ob_size p_ob_begin p_ob_next (bw (0) (4) nc_1001.1 (by decide)) (bw (0) (1000000) nc_1002.1 (by decide)) (bw (1) (3) (bkc (x := 2) (c := 2) (by decide)) (by decide))) rfl ⟨(callB_of 1 hw0 (gA m_816) rfl rfl rfl (hw0 _ m_721) (hw0 _ m_734) cb_X3_refuse ⟨Nat.le_of_ble_eq_true rfl, Nat.le_of_ble_eq_true rfl⟩), (hw0 _ m_735), (hw0 _ m_736)⟩ (ci := 3) (q := (RX3, TX3, 10)) rfl rfl rfl hl.1 (Nat.le_of_ble_eq_true rfl) dX3_number_34 ⟨Nat.le_of_ble_eq_true rfl, Nat.le_of_ble_eq_true rfl⟩ (fun w_1003 H locs hw_1003 hP hD hS => ?_)
      obtain ⟨v_1004, v_1005, bv_1004, h_1006, h_1007, rfl⟩ := hw_1003
      obtain ⟨hP, hD⟩ : vPD G A H [(ce_X3 ob ob_town ob_code v_1004 v_1005 ob_text ob_size ob_begin ob_next ob_kind ob_value), (ce_b1400 y ob_text fob_text)] := ⟨hP, hD⟩
      refine lv_aload_n hx hb dX3_number_37 rfl (lv_at hl 0 rfl) ?_
      refine va_get (D := G) (ci := 3) (v := .int v_1004) (C := RX3) (T := TX3) (N := 10) hx hb hw0 inA_wsX30 hown hK.1 hP 0 rfl rfl 2 (by decide) (hw0 _ m_737) (fun _ h9 => h9) rfl dX3_number_38 ?_
      refine lv_if_eq (tgt := 46) hx hb dX3_number_41 (by decide) (fun c9 => absurd c9 (dc_neq bv_1004 (bkc (x := 0) (c := 0) (by decide)) (by decide))) (fun _ => ?_)
      refine lv_iconst (v := 0) hx hb dX3_number_44 (by decide) ?_
      exact W.iret (v := 0) hx hb hr (fun t ht hW => ⟨⟨0, _, rfl, ⟨0, v_1004, v_1005, ob_begin, ob_next, ob_kind, ob_value, (bw (0) (180) (bkc (x := 0) (c := 0) (by decide)) (by decide)), (bw (0) (3) bv_1004 (by decide)), p_ob_begin, p_ob_next, (bw (0) (4) nc_1001.1 (by decide)), (bw (0) (1000000) nc_1002.1 (by decide)), (by have lm1 : Int32.toInt (-1) = -1 := (by decide); have l91 : Int32.toInt 1 = 1 := (by decide); have l92 : Int32.toInt 2 = 2 := (by decide); have l93 : Int32.toInt 3 = 3 := (by decide); have h90 : Int32.toInt 0 = 0 := (by decide); have h91 : Int32.toInt 180 = 180 := (by decide); by_cases hF0 : ob_fault.toInt = 0 <;> first | exact nm_ok hq0 (by omega) (by omega) ⟨by omega, by omega⟩ (by omega) (by assumption) (by omega) (by omega) | exact nm_2 hq0 (by omega) (by omega) (by omega) (by omega) (by omega) (by omega) (by omega) | exact nm_1 hq0 (by omega) (by omega) (by omega) (by omega) (by omega) | exact nm_f (by omega) (by omega) (by omega) (by omega)), (by have lm1 : Int32.toInt (-1) = -1 := (by decide); have l91 : Int32.toInt 1 = 1 := (by decide); have l92 : Int32.toInt 2 = 2 := (by decide); have l93 : Int32.toInt 3 = 3 := (by decide); have h90 : Int32.toInt 0 = 0 := (by decide); have h91 : Int32.toInt 180 = 180 := (by decide); first | exact nv_ok hq0 (by omega) (by omega) ⟨by omega, by omega⟩ (by omega) (by omega) | exact nv_no hq0 (by omega) (by omega) (by omega)), (by assumption), rfl, rfl⟩, by rw [ht]; exact hP, hD⟩, hS.F ht⟩) hS.2.2 dX3_number_45
    · skip
      have nc_1002 := nb_nlt (180) (0) c_1002 p_a1 p_ob_value (by decide)
      refine lv_aload_n hx hb dX3_number_24 rfl (lv_at hl 0 rfl) ?_
      refine va_get (D := G) (ci := 3) (v := .int ob_value) (C := RX3) (T := TX3) (N := 10) hx hb hw0 inA_wsX30 hown hK.1 hP 0 rfl rfl 9 (by decide) (hw0 _ m_753) (fun _ h9 => h9) rfl dX3_number_25 ?_
      refine lv_iload_n hx hb dX3_number_28 rfl (lv_at hl 2 rfl) ?_
      refine lv_icmp_le (tgt := 37) hx hb dX3_number_29 (by decide) (fun c_1008 => ?_) (fun c_1008 => ?_)
      · skip
        have nc_1008 := nb_le (180) (180) c_1008 nc_1002.2.1 (bkc (x := 180) (c := 180) (by decide)) (by decide)
        refine lv_aload_n hx hb dX3_number_37 rfl (lv_at hl 0 rfl) ?_
        refine va_get (D := G) (ci := 3) (v := .int ob_fault) (C := RX3) (T := TX3) (N := 10) hx hb hw0 inA_wsX30 hown hK.1 hP 0 rfl rfl 2 (by decide) (hw0 _ m_737) (fun _ h9 => h9) rfl dX3_number_38 ?_
        refine lv_if_eq (tgt := 46) hx hb dX3_number_41 (by decide) (fun c_1009 => ?_) (fun c_1009 => ?_)
        · skip
          have nc_1009 := nb_eq (0) (0) c_1009 p_ob_fault (bkc (x := 0) (c := 0) (by decide)) (by decide)
          refine lv_aload_n hx hb dX3_number_46 rfl (lv_at hl 0 rfl) ?_
          refine va_get (D := G) (ci := 3) (v := .int ob_value) (C := RX3) (T := TX3) (N := 10) hx hb hw0 inA_wsX30 hown hK.1 hP 0 rfl rfl 9 (by decide) (hw0 _ m_753) (fun _ h9 => h9) rfl dX3_number_47 ?_
          refine lv_istore_n (lv' := [(3, .int ob_value), (0, .ref ob), (1, .int a1), (2, .int 180)]) hx hb dX3_number_50 rfl hl (by decide) rfl (fun ls hl => ?_)
          refine lv_aload_n hx hb dX3_number_51 rfl (lv_at hl 1 rfl) ?_
          refine cVvm (As := []) (rest := []) ⟨hx, hb, hml, hown, hw0⟩ hA hK hP hD hS [true, true] (sX3_advance l G y _ ob ob_town ob_code ob_fault ob_place ob_text ob_size ob_begin ob_next ob_kind ob_value fob_text (bw (0) (3) nc_1009.1 (by decide)) p_ob_size p_ob_begin p_ob_next (bw (0) (4) nc_1001.1 (by decide)) (bw (0) (1000000) nc_1008.1 (by decide)) (by have h90 : Int32.toInt 180 = 180 := (by decide); first | omega | exact (tok_le (by assumption)).2)) rfl ⟨(callB_of 0 hw0 (gA m_714) rfl rfl rfl (hw0 _ m_721) (hw0 _ m_738) cb_X3_advance ⟨Nat.le_of_ble_eq_true rfl, Nat.le_of_ble_eq_true rfl⟩), (hw0 _ m_739), (hw0 _ m_740)⟩ (ci := 3) (q := (RX3, TX3, 10)) rfl rfl rfl hl.1 (Nat.le_of_ble_eq_true rfl) dX3_number_52 ⟨Nat.le_of_ble_eq_true rfl, Nat.le_of_ble_eq_true rfl⟩ (fun w_1010 H locs hw_1010 hP hD hS => ?_)
          obtain ⟨v_1011, v_1012, v_1013, v_1014, bv_1011, bv_1012, bv_1013, bv_1014, h_1015, h_1016, rfl⟩ := hw_1010
          obtain ⟨hP, hD⟩ : vPD G A H [(ce_X3 ob ob_town ob_code ob_fault ob_place ob_text ob_size v_1011 v_1012 v_1013 v_1014), (ce_b1400 y ob_text fob_text)] := ⟨hP, hD⟩
          refine lv_iload_n hx hb dX3_number_55 rfl (lv_at hl 0 rfl) ?_
          exact W.iret (v := ob_value) hx hb hr (fun t ht hW => ⟨⟨ob_value, _, rfl, ⟨ob_value, ob_fault, ob_place, v_1011, v_1012, v_1013, v_1014, nc_1008.1, (bw (0) (3) nc_1009.1 (by decide)), bv_1011, bv_1012, bv_1013, bv_1014, (by have lm1 : Int32.toInt (-1) = -1 := (by decide); have l91 : Int32.toInt 1 = 1 := (by decide); have l92 : Int32.toInt 2 = 2 := (by decide); have l93 : Int32.toInt 3 = 3 := (by decide); have h90 : Int32.toInt 180 = 180 := (by decide); by_cases hF0 : ob_fault.toInt = 0 <;> first | exact nm_ok hq0 (by omega) (by omega) ⟨by omega, by omega⟩ (by omega) (by assumption) (by omega) (by omega) | exact nm_2 hq0 (by omega) (by omega) (by omega) (by omega) (by omega) (by omega) (by omega) | exact nm_1 hq0 (by omega) (by omega) (by omega) (by omega) (by omega) | exact nm_f (by omega) (by omega) (by omega) (by omega)), (by have lm1 : Int32.toInt (-1) = -1 := (by decide); have l91 : Int32.toInt 1 = 1 := (by decide); have l92 : Int32.toInt 2 = 2 := (by decide); have l93 : Int32.toInt 3 = 3 := (by decide); have h90 : Int32.toInt 180 = 180 := (by decide); first | exact nv_ok hq0 (by omega) (by omega) ⟨by omega, by omega⟩ (by omega) (by omega) | exact nv_no hq0 (by omega) (by omega) (by omega)), (by assumption), rfl, rfl⟩, by rw [ht]; exact hP, hD⟩, hS.F ht⟩) hS.2.2 dX3_number_56
        · skip
          have nc_1009 := nb_ne (1) (3) c_1009 p_ob_fault (k := 0) (by decide) (by decide)
          refine lv_iconst (v := 0) hx hb dX3_number_44 (by decide) ?_
          exact W.iret (v := 0) hx hb hr (fun t ht hW => ⟨⟨0, _, rfl, ⟨0, ob_fault, ob_place, ob_begin, ob_next, ob_kind, ob_value, (bw (0) (180) (bkc (x := 0) (c := 0) (by decide)) (by decide)), (bw (0) (3) nc_1009.1 (by decide)), p_ob_begin, p_ob_next, (bw (0) (4) nc_1001.1 (by decide)), (bw (0) (1000000) nc_1008.1 (by decide)), (by have lm1 : Int32.toInt (-1) = -1 := (by decide); have l91 : Int32.toInt 1 = 1 := (by decide); have l92 : Int32.toInt 2 = 2 := (by decide); have l93 : Int32.toInt 3 = 3 := (by decide); have h90 : Int32.toInt 0 = 0 := (by decide); have h91 : Int32.toInt 180 = 180 := (by decide); by_cases hF0 : ob_fault.toInt = 0 <;> first | exact nm_ok hq0 (by omega) (by omega) ⟨by omega, by omega⟩ (by omega) (by assumption) (by omega) (by omega) | exact nm_2 hq0 (by omega) (by omega) (by omega) (by omega) (by omega) (by omega) (by omega) | exact nm_1 hq0 (by omega) (by omega) (by omega) (by omega) (by omega) | exact nm_f (by omega) (by omega) (by omega) (by omega)), (by have lm1 : Int32.toInt (-1) = -1 := (by decide); have l91 : Int32.toInt 1 = 1 := (by decide); have l92 : Int32.toInt 2 = 2 := (by decide); have l93 : Int32.toInt 3 = 3 := (by decide); have h90 : Int32.toInt 0 = 0 := (by decide); have h91 : Int32.toInt 180 = 180 := (by decide); first | exact nv_ok hq0 (by omega) (by omega) ⟨by omega, by omega⟩ (by omega) (by omega) | exact nv_no hq0 (by omega) (by omega) (by omega)), (by assumption), rfl, rfl⟩, by rw [ht]; exact hP, hD⟩, hS.F ht⟩) hS.2.2 dX3_number_45
      · skip
        have nc_1008 := nb_nle (180) (181) c_1008 (bkc (x := 180) (c := 180) (by decide)) nc_1002.2.1 (by decide)
        refine lv_aload_n hx hb dX3_number_32 rfl (lv_at hl 0 rfl) ?_
        refine lv_iconst (v := 2) hx hb dX3_number_33 (by decide) ?_
        refine cVvm (As := [.int 2]) (rest := []) ⟨hx, hb, hml, hown, hw0⟩ hA hK hP hD hS [true] (sX3_refuse l G y _ ob 2 ob_town ob_code ob_fault ob_place ob_text ob_size ob_begin ob_next ob_kind ob_value p_ob_fault p_ob_size p_ob_begin p_ob_next (bw (0) (4) nc_1001.1 (by decide)) (bw (0) (1000000) nc_1008.2.1 (by decide)) (bw (1) (3) (bkc (x := 2) (c := 2) (by decide)) (by decide))) rfl ⟨(callB_of 1 hw0 (gA m_816) rfl rfl rfl (hw0 _ m_721) (hw0 _ m_734) cb_X3_refuse ⟨Nat.le_of_ble_eq_true rfl, Nat.le_of_ble_eq_true rfl⟩), (hw0 _ m_735), (hw0 _ m_736)⟩ (ci := 3) (q := (RX3, TX3, 10)) rfl rfl rfl hl.1 (Nat.le_of_ble_eq_true rfl) dX3_number_34 ⟨Nat.le_of_ble_eq_true rfl, Nat.le_of_ble_eq_true rfl⟩ (fun w_1017 H locs hw_1017 hP hD hS => ?_)
        obtain ⟨v_1018, v_1019, bv_1018, h_1020, h_1021, rfl⟩ := hw_1017
        obtain ⟨hP, hD⟩ : vPD G A H [(ce_X3 ob ob_town ob_code v_1018 v_1019 ob_text ob_size ob_begin ob_next ob_kind ob_value), (ce_b1400 y ob_text fob_text)] := ⟨hP, hD⟩
        refine lv_aload_n hx hb dX3_number_37 rfl (lv_at hl 0 rfl) ?_
        refine va_get (D := G) (ci := 3) (v := .int v_1018) (C := RX3) (T := TX3) (N := 10) hx hb hw0 inA_wsX30 hown hK.1 hP 0 rfl rfl 2 (by decide) (hw0 _ m_737) (fun _ h9 => h9) rfl dX3_number_38 ?_
        refine lv_if_eq (tgt := 46) hx hb dX3_number_41 (by decide) (fun c9 => absurd c9 (dc_neq bv_1018 (bkc (x := 0) (c := 0) (by decide)) (by decide))) (fun _ => ?_)
        refine lv_iconst (v := 0) hx hb dX3_number_44 (by decide) ?_
        exact W.iret (v := 0) hx hb hr (fun t ht hW => ⟨⟨0, _, rfl, ⟨0, v_1018, v_1019, ob_begin, ob_next, ob_kind, ob_value, (bw (0) (180) (bkc (x := 0) (c := 0) (by decide)) (by decide)), (bw (0) (3) bv_1018 (by decide)), p_ob_begin, p_ob_next, (bw (0) (4) nc_1001.1 (by decide)), (bw (0) (1000000) nc_1008.2.1 (by decide)), (by have lm1 : Int32.toInt (-1) = -1 := (by decide); have l91 : Int32.toInt 1 = 1 := (by decide); have l92 : Int32.toInt 2 = 2 := (by decide); have l93 : Int32.toInt 3 = 3 := (by decide); have h90 : Int32.toInt 0 = 0 := (by decide); have h91 : Int32.toInt 180 = 180 := (by decide); by_cases hF0 : ob_fault.toInt = 0 <;> first | exact nm_ok hq0 (by omega) (by omega) ⟨by omega, by omega⟩ (by omega) (by assumption) (by omega) (by omega) | exact nm_2 hq0 (by omega) (by omega) (by omega) (by omega) (by omega) (by omega) (by omega) | exact nm_1 hq0 (by omega) (by omega) (by omega) (by omega) (by omega) | exact nm_f (by omega) (by omega) (by omega) (by omega)), (by have lm1 : Int32.toInt (-1) = -1 := (by decide); have l91 : Int32.toInt 1 = 1 := (by decide); have l92 : Int32.toInt 2 = 2 := (by decide); have l93 : Int32.toInt 3 = 3 := (by decide); have h90 : Int32.toInt 0 = 0 := (by decide); have h91 : Int32.toInt 180 = 180 := (by decide); first | exact nv_ok hq0 (by omega) (by omega) ⟨by omega, by omega⟩ (by omega) (by omega) | exact nv_no hq0 (by omega) (by omega) (by omega)), (by assumption), rfl, rfl⟩, by rw [ht]; exact hP, hD⟩, hS.F ht⟩) hS.2.2 dX3_number_45
  · skip
    have nc_1001 := nb_ne (0) (4) c_1001 p_ob_kind (k := 2) (by decide) (by decide)
    refine lv_aload_n hx hb dX3_number_8 rfl (lv_at hl 0 rfl) ?_
    refine lv_iconst (v := 1) hx hb dX3_number_9 (by decide) ?_
    refine cVvm (As := [.int 1]) (rest := []) ⟨hx, hb, hml, hown, hw0⟩ hA hK hP hD hS [true] (sX3_refuse l G y _ ob 1 ob_town ob_code ob_fault ob_place ob_text ob_size ob_begin ob_next ob_kind ob_value p_ob_fault p_ob_size p_ob_begin p_ob_next nc_1001.1 p_ob_value (bw (1) (3) (bkc (x := 1) (c := 1) (by decide)) (by decide))) rfl ⟨(callB_of 1 hw0 (gA m_816) rfl rfl rfl (hw0 _ m_721) (hw0 _ m_734) cb_X3_refuse ⟨Nat.le_of_ble_eq_true rfl, Nat.le_of_ble_eq_true rfl⟩), (hw0 _ m_735), (hw0 _ m_736)⟩ (ci := 3) (q := (RX3, TX3, 10)) rfl rfl rfl hl.1 (Nat.le_of_ble_eq_true rfl) dX3_number_10 ⟨Nat.le_of_ble_eq_true rfl, Nat.le_of_ble_eq_true rfl⟩ (fun w_1022 H locs hw_1022 hP hD hS => ?_)
    obtain ⟨v_1023, v_1024, bv_1023, h_1025, h_1026, rfl⟩ := hw_1022
    obtain ⟨hP, hD⟩ : vPD G A H [(ce_X3 ob ob_town ob_code v_1023 v_1024 ob_text ob_size ob_begin ob_next ob_kind ob_value), (ce_b1400 y ob_text fob_text)] := ⟨hP, hD⟩
    refine lv_goto (tgt := 37) hx hb dX3_number_13 (by decide) ?_
    refine lv_aload_n hx hb dX3_number_37 rfl (lv_at hl 0 rfl) ?_
    refine va_get (D := G) (ci := 3) (v := .int v_1023) (C := RX3) (T := TX3) (N := 10) hx hb hw0 inA_wsX30 hown hK.1 hP 0 rfl rfl 2 (by decide) (hw0 _ m_737) (fun _ h9 => h9) rfl dX3_number_38 ?_
    refine lv_if_eq (tgt := 46) hx hb dX3_number_41 (by decide) (fun c9 => absurd c9 (dc_neq bv_1023 (bkc (x := 0) (c := 0) (by decide)) (by decide))) (fun _ => ?_)
    refine lv_iconst (v := 0) hx hb dX3_number_44 (by decide) ?_
    exact W.iret (v := 0) hx hb hr (fun t ht hW => ⟨⟨0, _, rfl, ⟨0, v_1023, v_1024, ob_begin, ob_next, ob_kind, ob_value, (bw (0) (180) (bkc (x := 0) (c := 0) (by decide)) (by decide)), (bw (0) (3) bv_1023 (by decide)), p_ob_begin, p_ob_next, nc_1001.1, p_ob_value, (by have lm1 : Int32.toInt (-1) = -1 := (by decide); have l91 : Int32.toInt 1 = 1 := (by decide); have l92 : Int32.toInt 2 = 2 := (by decide); have l93 : Int32.toInt 3 = 3 := (by decide); have h90 : Int32.toInt 0 = 0 := (by decide); have h91 : Int32.toInt 180 = 180 := (by decide); by_cases hF0 : ob_fault.toInt = 0 <;> first | exact nm_ok hq0 (by omega) (by omega) ⟨by omega, by omega⟩ (by omega) (by assumption) (by omega) (by omega) | exact nm_2 hq0 (by omega) (by omega) (by omega) (by omega) (by omega) (by omega) (by omega) | exact nm_1 hq0 (by omega) (by omega) (by omega) (by omega) (by omega) | exact nm_f (by omega) (by omega) (by omega) (by omega)), (by have lm1 : Int32.toInt (-1) = -1 := (by decide); have l91 : Int32.toInt 1 = 1 := (by decide); have l92 : Int32.toInt 2 = 2 := (by decide); have l93 : Int32.toInt 3 = 3 := (by decide); have h90 : Int32.toInt 0 = 0 := (by decide); have h91 : Int32.toInt 180 = 180 := (by decide); first | exact nv_ok hq0 (by omega) (by omega) ⟨by omega, by omega⟩ (by omega) (by omega) | exact nv_no hq0 (by omega) (by omega) (by omega)), (by assumption), rfl, rfl⟩, by rw [ht]; exact hP, hD⟩, hS.F ht⟩) hS.2.2 dX3_number_45

set_option maxHeartbeats 4000000 in
set_option maxRecDepth 100000 in
theorem fnrH (l : Launch) (G : va_G) (y : Nat → ClassId) (sz : Nat) (ob : Nat) (a2 : Int32) (ob_town : Nat) (ob_code : Nat) (ob_fault : Int32) (ob_place : Int32) (ob_text : Nat) (ob_size : Int32) (ob_begin : Int32) (ob_next : Int32) (ob_kind : Int32) (ob_value : Int32) (fob_text : Nat → Int32) (p_ob_fault : (0 : Int) ≤ ob_fault.toInt ∧ ob_fault.toInt ≤ 3) (p_ob_size : (0 : Int) ≤ ob_size.toInt ∧ ob_size.toInt ≤ 1400) (p_ob_begin : (0 : Int) ≤ ob_begin.toInt ∧ ob_begin.toInt ≤ 1400) (p_ob_next : (0 : Int) ≤ ob_next.toInt ∧ ob_next.toInt ≤ 1400) (p_ob_kind : (0 : Int) ≤ ob_kind.toInt ∧ ob_kind.toInt ≤ 4) (p_ob_value : (0 : Int) ≤ ob_value.toInt ∧ ob_value.toInt ≤ 1000000) (p_a2 : (-1 : Int) ≤ a2.toInt ∧ a2.toInt ≤ 15) (hq0 : qTok fob_text ob_size.toInt 1000000 ob_kind.toInt ob_begin.toInt ob_next.toInt ob_value.toInt) : Met l yX3_number (Cond.code yX3_number cX3_number 4 (some .int) :: wAll) ({ frames := 3, cells := 0, slots := 0, locals := 61 }) (va_Pc [.ref ob, .int 0, .int a2] (kp G y sz [(ce_X3 ob ob_town ob_code ob_fault ob_place ob_text ob_size ob_begin ob_next ob_kind ob_value), (ce_b1400 y ob_text fob_text)])) (va_Qi (fun (r : Int32) (w : va_W) => (∃ (v_41 : Int32) (v_42 : Int32) (v_43 : Int32) (v_44 : Int32) (v_45 : Int32) (v_46 : Int32) (v_47 : Int32), ((0 : Int) ≤ v_41.toInt ∧ v_41.toInt ≤ 15) ∧ ((0 : Int) ≤ v_42.toInt ∧ v_42.toInt ≤ 3) ∧ ((0 : Int) ≤ v_44.toInt ∧ v_44.toInt ≤ 1400) ∧ ((0 : Int) ≤ v_45.toInt ∧ v_45.toInt ≤ 1400) ∧ ((0 : Int) ≤ v_46.toInt ∧ v_46.toInt ≤ 4) ∧ ((0 : Int) ≤ v_47.toInt ∧ v_47.toInt ≤ 1000000) ∧ (((v_42.toInt, v_43.toInt, v_44.toInt) : Int × Int × Int) = r_nm fob_text ob_size.toInt 0 a2.toInt ((ob_fault.toInt, ob_place.toInt, ob_begin.toInt) : Int × Int × Int)) ∧ (v_41.toInt = r_nv fob_text ob_size.toInt 0 a2.toInt ((ob_fault.toInt, ob_place.toInt, ob_begin.toInt) : Int × Int × Int)) ∧ (qTok fob_text ob_size.toInt 1000000 v_46.toInt v_44.toInt v_45.toInt v_47.toInt) ∧ r = v_41 ∧ w = [(ce_X3 ob ob_town ob_code v_42 v_43 ob_text ob_size v_44 v_45 v_46 v_47), (ce_b1400 y ob_text fob_text)])) (kq G (va_A [(ce_X3 ob ob_town ob_code ob_fault ob_place ob_text ob_size ob_begin ob_next ob_kind ob_value), (ce_b1400 y ob_text fob_text)] sz)) (va_A [(ce_X3 ob ob_town ob_code ob_fault ob_place ob_text ob_size ob_begin ob_next ob_kind ob_value), (ce_b1400 y ob_text fob_text)] sz)) 0 0 (va_A [(ce_X3 ob ob_town ob_code ob_fault ob_place ob_text ob_size ob_begin ob_next ob_kind ob_value), (ce_b1400 y ob_text fob_text)] sz) := by
  refine Met.ofW (cc := cX3_number) (maxL := 4) (ret := (some .int)) (by decide) rfl ?_
  intro p e s m args below meth c s₁ B hml hv
  obtain ⟨rfl, hsz, hP, hK, hD0⟩ := hv
  have hx := B.exec
  have hb := B.bytes
  have hr := B.returns
  have hw0 : ∀ w ∈ wAll, w.before _ s = true := fun w h => atoms_spec (ws := Cond.code yX3_number cX3_number 4 (some .int) :: wAll) B.pre w (List.mem_cons_of_mem _ h)
  have hown : s.vm.findClass RX3 = some m.cls := findClass_of_methodNamed B.named
  subst hsz
  have hD := hD0.self (sz := s.heap.size)
  generalize hAe : va_A [(ce_X3 ob ob_town ob_code ob_fault ob_place ob_text ob_size ob_begin ob_next ob_kind ob_value), (ce_b1400 y ob_text fob_text)] s.heap.size = A at hD ⊢
  have hA : ∀ q : Nat, s.heap.size ≤ q → A q := fun q h => by rw [← hAe]; exact Or.inr h
  have hS : va_S A s.heap s.heap [] := va_S.rf
  have hP : va_P G vwCl [(ce_X3 ob ob_town ob_code ob_fault ob_place ob_text ob_size ob_begin ob_next ob_kind ob_value), (ce_b1400 y ob_text fob_text)] s.heap := hP
  have hl := lv_entry ([.ref ob, .int 0, .int a2]) (n := 4) (Nat.le_of_ble_eq_true rfl)
  rw [lg_entry_eq]
  generalize (lg_sl ([.ref ob, .int 0, .int a2]) ++ List.replicate (4 - (lg_sl ([.ref ob, .int 0, .int a2])).length) Slot.unset).toArray = ls at hl ⊢
  have hl : lv_has ls 4 [(0, .ref ob), (1, .int 0), (2, .int a2)] := hl
  refine lv_aload_n hx hb dX3_number_0 rfl (lv_at hl 0 rfl) ?_
  refine va_get (D := G) (ci := 3) (v := .int ob_kind) (C := RX3) (T := TX3) (N := 10) hx hb hw0 inA_wsX30 hown hK.1 hP 0 rfl rfl 8 (by decide) (hw0 _ m_719) (fun _ h9 => h9) rfl dX3_number_1 ?_
  refine lv_iconst (v := 2) hx hb dX3_number_4 (by decide) ?_
  refine lv_icmp_eq (tgt := 16) hx hb dX3_number_5 (by decide) (fun c_1001 => ?_) (fun c_1001 => ?_)
  · skip
    have nc_1001 := nb_eq (2) (2) c_1001 p_ob_kind (bkc (x := 2) (c := 2) (by decide)) (by decide)
    refine lv_aload_n hx hb dX3_number_16 rfl (lv_at hl 0 rfl) ?_
    refine va_get (D := G) (ci := 3) (v := .int ob_value) (C := RX3) (T := TX3) (N := 10) hx hb hw0 inA_wsX30 hown hK.1 hP 0 rfl rfl 9 (by decide) (hw0 _ m_753) (fun _ h9 => h9) rfl dX3_number_17 ?_
    refine lv_iload_n hx hb dX3_number_20 rfl (lv_at hl 1 rfl) ?_
    refine lv_icmp_lt (tgt := 32) hx hb dX3_number_21 (by decide) (fun c9 => absurd c9 (dc_nlt p_ob_value (bkc (x := 0) (c := 0) (by decide)) (by decide))) (fun _ => ?_)
    refine lv_aload_n hx hb dX3_number_24 rfl (lv_at hl 0 rfl) ?_
    refine va_get (D := G) (ci := 3) (v := .int ob_value) (C := RX3) (T := TX3) (N := 10) hx hb hw0 inA_wsX30 hown hK.1 hP 0 rfl rfl 9 (by decide) (hw0 _ m_753) (fun _ h9 => h9) rfl dX3_number_25 ?_
    refine lv_iload_n hx hb dX3_number_28 rfl (lv_at hl 2 rfl) ?_
    refine lv_icmp_le (tgt := 37) hx hb dX3_number_29 (by decide) (fun c_1002 => ?_) (fun c_1002 => ?_)
    · skip
      have nc_1002 := nb_le (15) (0) c_1002 p_ob_value p_a2 (by decide)
      refine lv_aload_n hx hb dX3_number_37 rfl (lv_at hl 0 rfl) ?_
      refine va_get (D := G) (ci := 3) (v := .int ob_fault) (C := RX3) (T := TX3) (N := 10) hx hb hw0 inA_wsX30 hown hK.1 hP 0 rfl rfl 2 (by decide) (hw0 _ m_737) (fun _ h9 => h9) rfl dX3_number_38 ?_
      refine lv_if_eq (tgt := 46) hx hb dX3_number_41 (by decide) (fun c_1003 => ?_) (fun c_1003 => ?_)
      · skip
        have nc_1003 := nb_eq (0) (0) c_1003 p_ob_fault (bkc (x := 0) (c := 0) (by decide)) (by decide)
        refine lv_aload_n hx hb dX3_number_46 rfl (lv_at hl 0 rfl) ?_
        refine va_get (D := G) (ci := 3) (v := .int ob_value) (C := RX3) (T := TX3) (N := 10) hx hb hw0 inA_wsX30 hown hK.1 hP 0 rfl rfl 9 (by decide) (hw0 _ m_753) (fun _ h9 => h9) rfl dX3_number_47 ?_
        refine lv_istore_n (lv' := [(3, .int ob_value), (0, .ref ob), (1, .int 0), (2, .int a2)]) hx hb dX3_number_50 rfl hl (by decide) rfl (fun ls hl => ?_)
        refine lv_aload_n hx hb dX3_number_51 rfl (lv_at hl 1 rfl) ?_
        refine cVvm (As := []) (rest := []) ⟨hx, hb, hml, hown, hw0⟩ hA hK hP hD hS [true, true] (sX3_advance l G y _ ob ob_town ob_code ob_fault ob_place ob_text ob_size ob_begin ob_next ob_kind ob_value fob_text (bw (0) (3) nc_1003.1 (by decide)) p_ob_size p_ob_begin p_ob_next (bw (0) (4) nc_1001.1 (by decide)) (bw (0) (1000000) nc_1002.1 (by decide)) (by have h90 : Int32.toInt 0 = 0 := (by decide); first | omega | exact (tok_le (by assumption)).2)) rfl ⟨(callB_of 0 hw0 (gA m_714) rfl rfl rfl (hw0 _ m_721) (hw0 _ m_738) cb_X3_advance ⟨Nat.le_of_ble_eq_true rfl, Nat.le_of_ble_eq_true rfl⟩), (hw0 _ m_739), (hw0 _ m_740)⟩ (ci := 3) (q := (RX3, TX3, 10)) rfl rfl rfl hl.1 (Nat.le_of_ble_eq_true rfl) dX3_number_52 ⟨Nat.le_of_ble_eq_true rfl, Nat.le_of_ble_eq_true rfl⟩ (fun w_1004 H locs hw_1004 hP hD hS => ?_)
        obtain ⟨v_1005, v_1006, v_1007, v_1008, bv_1005, bv_1006, bv_1007, bv_1008, h_1009, h_1010, rfl⟩ := hw_1004
        obtain ⟨hP, hD⟩ : vPD G A H [(ce_X3 ob ob_town ob_code ob_fault ob_place ob_text ob_size v_1005 v_1006 v_1007 v_1008), (ce_b1400 y ob_text fob_text)] := ⟨hP, hD⟩
        refine lv_iload_n hx hb dX3_number_55 rfl (lv_at hl 0 rfl) ?_
        exact W.iret (v := ob_value) hx hb hr (fun t ht hW => ⟨⟨ob_value, _, rfl, ⟨ob_value, ob_fault, ob_place, v_1005, v_1006, v_1007, v_1008, nc_1002.1, (bw (0) (3) nc_1003.1 (by decide)), bv_1005, bv_1006, bv_1007, bv_1008, (by have lm1 : Int32.toInt (-1) = -1 := (by decide); have l91 : Int32.toInt 1 = 1 := (by decide); have l92 : Int32.toInt 2 = 2 := (by decide); have l93 : Int32.toInt 3 = 3 := (by decide); have h90 : Int32.toInt 0 = 0 := (by decide); by_cases hF0 : ob_fault.toInt = 0 <;> first | exact nm_ok hq0 (by omega) (by omega) ⟨by omega, by omega⟩ (by omega) (by assumption) (by omega) (by omega) | exact nm_2 hq0 (by omega) (by omega) (by omega) (by omega) (by omega) (by omega) (by omega) | exact nm_1 hq0 (by omega) (by omega) (by omega) (by omega) (by omega) | exact nm_f (by omega) (by omega) (by omega) (by omega)), (by have lm1 : Int32.toInt (-1) = -1 := (by decide); have l91 : Int32.toInt 1 = 1 := (by decide); have l92 : Int32.toInt 2 = 2 := (by decide); have l93 : Int32.toInt 3 = 3 := (by decide); have h90 : Int32.toInt 0 = 0 := (by decide); first | exact nv_ok hq0 (by omega) (by omega) ⟨by omega, by omega⟩ (by omega) (by omega) | exact nv_no hq0 (by omega) (by omega) (by omega)), (by assumption), rfl, rfl⟩, by rw [ht]; exact hP, hD⟩, hS.F ht⟩) hS.2.2 dX3_number_56
      · skip
        have nc_1003 := nb_ne (1) (3) c_1003 p_ob_fault (k := 0) (by decide) (by decide)
        refine lv_iconst (v := 0) hx hb dX3_number_44 (by decide) ?_
        exact W.iret (v := 0) hx hb hr (fun t ht hW => ⟨⟨0, _, rfl, ⟨0, ob_fault, ob_place, ob_begin, ob_next, ob_kind, ob_value, (bw (0) (15) (bkc (x := 0) (c := 0) (by decide)) (by decide)), (bw (0) (3) nc_1003.1 (by decide)), p_ob_begin, p_ob_next, (bw (0) (4) nc_1001.1 (by decide)), (bw (0) (1000000) nc_1002.1 (by decide)), (by have lm1 : Int32.toInt (-1) = -1 := (by decide); have l91 : Int32.toInt 1 = 1 := (by decide); have l92 : Int32.toInt 2 = 2 := (by decide); have l93 : Int32.toInt 3 = 3 := (by decide); have h90 : Int32.toInt 0 = 0 := (by decide); by_cases hF0 : ob_fault.toInt = 0 <;> first | exact nm_ok hq0 (by omega) (by omega) ⟨by omega, by omega⟩ (by omega) (by assumption) (by omega) (by omega) | exact nm_2 hq0 (by omega) (by omega) (by omega) (by omega) (by omega) (by omega) (by omega) | exact nm_1 hq0 (by omega) (by omega) (by omega) (by omega) (by omega) | exact nm_f (by omega) (by omega) (by omega) (by omega)), (by have lm1 : Int32.toInt (-1) = -1 := (by decide); have l91 : Int32.toInt 1 = 1 := (by decide); have l92 : Int32.toInt 2 = 2 := (by decide); have l93 : Int32.toInt 3 = 3 := (by decide); have h90 : Int32.toInt 0 = 0 := (by decide); first | exact nv_ok hq0 (by omega) (by omega) ⟨by omega, by omega⟩ (by omega) (by omega) | exact nv_no hq0 (by omega) (by omega) (by omega)), (by assumption), rfl, rfl⟩, by rw [ht]; exact hP, hD⟩, hS.F ht⟩) hS.2.2 dX3_number_45
    · skip
      have nc_1002 := nb_nle (15) (0) c_1002 p_a2 p_ob_value (by decide)
      refine lv_aload_n hx hb dX3_number_32 rfl (lv_at hl 0 rfl) ?_
      refine lv_iconst (v := 2) hx hb dX3_number_33 (by decide) ?_
      refine cVvm (As := [.int 2]) (rest := []) ⟨hx, hb, hml, hown, hw0⟩ hA hK hP hD hS [true] (sX3_refuse l G y _ ob 2 ob_town ob_code ob_fault ob_place ob_text ob_size ob_begin ob_next ob_kind ob_value p_ob_fault p_ob_size p_ob_begin p_ob_next (bw (0) (4) nc_1001.1 (by decide)) nc_1002.2.1 (bw (1) (3) (bkc (x := 2) (c := 2) (by decide)) (by decide))) rfl ⟨(callB_of 1 hw0 (gA m_816) rfl rfl rfl (hw0 _ m_721) (hw0 _ m_734) cb_X3_refuse ⟨Nat.le_of_ble_eq_true rfl, Nat.le_of_ble_eq_true rfl⟩), (hw0 _ m_735), (hw0 _ m_736)⟩ (ci := 3) (q := (RX3, TX3, 10)) rfl rfl rfl hl.1 (Nat.le_of_ble_eq_true rfl) dX3_number_34 ⟨Nat.le_of_ble_eq_true rfl, Nat.le_of_ble_eq_true rfl⟩ (fun w_1011 H locs hw_1011 hP hD hS => ?_)
      obtain ⟨v_1012, v_1013, bv_1012, h_1014, h_1015, rfl⟩ := hw_1011
      obtain ⟨hP, hD⟩ : vPD G A H [(ce_X3 ob ob_town ob_code v_1012 v_1013 ob_text ob_size ob_begin ob_next ob_kind ob_value), (ce_b1400 y ob_text fob_text)] := ⟨hP, hD⟩
      refine lv_aload_n hx hb dX3_number_37 rfl (lv_at hl 0 rfl) ?_
      refine va_get (D := G) (ci := 3) (v := .int v_1012) (C := RX3) (T := TX3) (N := 10) hx hb hw0 inA_wsX30 hown hK.1 hP 0 rfl rfl 2 (by decide) (hw0 _ m_737) (fun _ h9 => h9) rfl dX3_number_38 ?_
      refine lv_if_eq (tgt := 46) hx hb dX3_number_41 (by decide) (fun c9 => absurd c9 (dc_neq bv_1012 (bkc (x := 0) (c := 0) (by decide)) (by decide))) (fun _ => ?_)
      refine lv_iconst (v := 0) hx hb dX3_number_44 (by decide) ?_
      exact W.iret (v := 0) hx hb hr (fun t ht hW => ⟨⟨0, _, rfl, ⟨0, v_1012, v_1013, ob_begin, ob_next, ob_kind, ob_value, (bw (0) (15) (bkc (x := 0) (c := 0) (by decide)) (by decide)), (bw (0) (3) bv_1012 (by decide)), p_ob_begin, p_ob_next, (bw (0) (4) nc_1001.1 (by decide)), nc_1002.2.1, (by have lm1 : Int32.toInt (-1) = -1 := (by decide); have l91 : Int32.toInt 1 = 1 := (by decide); have l92 : Int32.toInt 2 = 2 := (by decide); have l93 : Int32.toInt 3 = 3 := (by decide); have h90 : Int32.toInt 0 = 0 := (by decide); by_cases hF0 : ob_fault.toInt = 0 <;> first | exact nm_ok hq0 (by omega) (by omega) ⟨by omega, by omega⟩ (by omega) (by assumption) (by omega) (by omega) | exact nm_2 hq0 (by omega) (by omega) (by omega) (by omega) (by omega) (by omega) (by omega) | exact nm_1 hq0 (by omega) (by omega) (by omega) (by omega) (by omega) | exact nm_f (by omega) (by omega) (by omega) (by omega)), (by have lm1 : Int32.toInt (-1) = -1 := (by decide); have l91 : Int32.toInt 1 = 1 := (by decide); have l92 : Int32.toInt 2 = 2 := (by decide); have l93 : Int32.toInt 3 = 3 := (by decide); have h90 : Int32.toInt 0 = 0 := (by decide); first | exact nv_ok hq0 (by omega) (by omega) ⟨by omega, by omega⟩ (by omega) (by omega) | exact nv_no hq0 (by omega) (by omega) (by omega)), (by assumption), rfl, rfl⟩, by rw [ht]; exact hP, hD⟩, hS.F ht⟩) hS.2.2 dX3_number_45
  · skip
    have nc_1001 := nb_ne (0) (4) c_1001 p_ob_kind (k := 2) (by decide) (by decide)
    refine lv_aload_n hx hb dX3_number_8 rfl (lv_at hl 0 rfl) ?_
    refine lv_iconst (v := 1) hx hb dX3_number_9 (by decide) ?_
    refine cVvm (As := [.int 1]) (rest := []) ⟨hx, hb, hml, hown, hw0⟩ hA hK hP hD hS [true] (sX3_refuse l G y _ ob 1 ob_town ob_code ob_fault ob_place ob_text ob_size ob_begin ob_next ob_kind ob_value p_ob_fault p_ob_size p_ob_begin p_ob_next nc_1001.1 p_ob_value (bw (1) (3) (bkc (x := 1) (c := 1) (by decide)) (by decide))) rfl ⟨(callB_of 1 hw0 (gA m_816) rfl rfl rfl (hw0 _ m_721) (hw0 _ m_734) cb_X3_refuse ⟨Nat.le_of_ble_eq_true rfl, Nat.le_of_ble_eq_true rfl⟩), (hw0 _ m_735), (hw0 _ m_736)⟩ (ci := 3) (q := (RX3, TX3, 10)) rfl rfl rfl hl.1 (Nat.le_of_ble_eq_true rfl) dX3_number_10 ⟨Nat.le_of_ble_eq_true rfl, Nat.le_of_ble_eq_true rfl⟩ (fun w_1016 H locs hw_1016 hP hD hS => ?_)
    obtain ⟨v_1017, v_1018, bv_1017, h_1019, h_1020, rfl⟩ := hw_1016
    obtain ⟨hP, hD⟩ : vPD G A H [(ce_X3 ob ob_town ob_code v_1017 v_1018 ob_text ob_size ob_begin ob_next ob_kind ob_value), (ce_b1400 y ob_text fob_text)] := ⟨hP, hD⟩
    refine lv_goto (tgt := 37) hx hb dX3_number_13 (by decide) ?_
    refine lv_aload_n hx hb dX3_number_37 rfl (lv_at hl 0 rfl) ?_
    refine va_get (D := G) (ci := 3) (v := .int v_1017) (C := RX3) (T := TX3) (N := 10) hx hb hw0 inA_wsX30 hown hK.1 hP 0 rfl rfl 2 (by decide) (hw0 _ m_737) (fun _ h9 => h9) rfl dX3_number_38 ?_
    refine lv_if_eq (tgt := 46) hx hb dX3_number_41 (by decide) (fun c9 => absurd c9 (dc_neq bv_1017 (bkc (x := 0) (c := 0) (by decide)) (by decide))) (fun _ => ?_)
    refine lv_iconst (v := 0) hx hb dX3_number_44 (by decide) ?_
    exact W.iret (v := 0) hx hb hr (fun t ht hW => ⟨⟨0, _, rfl, ⟨0, v_1017, v_1018, ob_begin, ob_next, ob_kind, ob_value, (bw (0) (15) (bkc (x := 0) (c := 0) (by decide)) (by decide)), (bw (0) (3) bv_1017 (by decide)), p_ob_begin, p_ob_next, nc_1001.1, p_ob_value, (by have lm1 : Int32.toInt (-1) = -1 := (by decide); have l91 : Int32.toInt 1 = 1 := (by decide); have l92 : Int32.toInt 2 = 2 := (by decide); have l93 : Int32.toInt 3 = 3 := (by decide); have h90 : Int32.toInt 0 = 0 := (by decide); by_cases hF0 : ob_fault.toInt = 0 <;> first | exact nm_ok hq0 (by omega) (by omega) ⟨by omega, by omega⟩ (by omega) (by assumption) (by omega) (by omega) | exact nm_2 hq0 (by omega) (by omega) (by omega) (by omega) (by omega) (by omega) (by omega) | exact nm_1 hq0 (by omega) (by omega) (by omega) (by omega) (by omega) | exact nm_f (by omega) (by omega) (by omega) (by omega)), (by have lm1 : Int32.toInt (-1) = -1 := (by decide); have l91 : Int32.toInt 1 = 1 := (by decide); have l92 : Int32.toInt 2 = 2 := (by decide); have l93 : Int32.toInt 3 = 3 := (by decide); have h90 : Int32.toInt 0 = 0 := (by decide); first | exact nv_ok hq0 (by omega) (by omega) ⟨by omega, by omega⟩ (by omega) (by omega) | exact nv_no hq0 (by omega) (by omega) (by omega)), (by assumption), rfl, rfl⟩, by rw [ht]; exact hP, hD⟩, hS.F ht⟩) hS.2.2 dX3_number_45

set_option maxHeartbeats 4000000 in
set_option maxRecDepth 100000 in
theorem sX3_choice (l : Launch) (G : va_G) (y : Nat → ClassId) (aK aV : Nat → Nat) (sz : Nat) (ob : Nat) (i1 : Nat) (ob_town : Nat) (ob_code : Nat) (ob_fault : Int32) (ob_place : Int32) (ob_text : Nat) (ob_size : Int32) (ob_begin : Int32) (ob_next : Int32) (ob_kind : Int32) (ob_value : Int32) (fob_text : Nat → Int32) (p_ob_fault : (0 : Int) ≤ ob_fault.toInt ∧ ob_fault.toInt ≤ 3) (p_ob_size : (0 : Int) ≤ ob_size.toInt ∧ ob_size.toInt ≤ 1400) (p_ob_begin : (0 : Int) ≤ ob_begin.toInt ∧ ob_begin.toInt ≤ 1400) (p_ob_next : (0 : Int) ≤ ob_next.toInt ∧ ob_next.toInt ≤ 1400) (p_ob_kind : (0 : Int) ≤ ob_kind.toInt ∧ ob_kind.toInt ≤ 4) (p_ob_value : (0 : Int) ≤ ob_value.toInt ∧ ob_value.toInt ≤ 1000000) (hi1 : i1 < nS) (hq0 : qTok fob_text ob_size.toInt 1000000 ob_kind.toInt ob_begin.toInt ob_next.toInt ob_value.toInt) : Met l yX3_choice (Cond.code yX3_choice cX3_choice 3 (some .int) :: wAll) ({ frames := 5, cells := 0, slots := 0, locals := 111 }) (va_Pc [.ref ob, .ref (aK i1)] (kps G y aK aV sz [(ce_X3 ob ob_town ob_code ob_fault ob_place ob_text ob_size ob_begin ob_next ob_kind ob_value), (ce_b1400 y ob_text fob_text)])) (va_Qi (fun (r : Int32) (w : va_W) => (∃ (v_35 : Int32) (v_36 : Int32) (v_37 : Int32) (v_38 : Int32) (v_39 : Int32) (v_40 : Int32) (v_41 : Int32), ((0 : Int) ≤ v_35.toInt ∧ v_35.toInt ≤ 61) ∧ ((0 : Int) ≤ v_36.toInt ∧ v_36.toInt ≤ 3) ∧ ((0 : Int) ≤ v_38.toInt ∧ v_38.toInt ≤ 1400) ∧ ((0 : Int) ≤ v_39.toInt ∧ v_39.toInt ≤ 1400) ∧ ((0 : Int) ≤ v_40.toInt ∧ v_40.toInt ≤ 4) ∧ ((0 : Int) ≤ v_41.toInt ∧ v_41.toInt ≤ 1000000) ∧ (((v_36.toInt, v_37.toInt, v_38.toInt) : Int × Int × Int) = r_chi fob_text ob_size.toInt i1 ((ob_fault.toInt, ob_place.toInt, ob_begin.toInt) : Int × Int × Int)) ∧ (v_36.toInt ≠ 0 ∨ (v_35.toInt = qam fob_text ob_size.toInt ob_begin.toInt i1 ∧ 0 ≤ qam fob_text ob_size.toInt ob_begin.toInt i1)) ∧ (qTok fob_text ob_size.toInt 1000000 v_40.toInt v_38.toInt v_39.toInt v_41.toInt) ∧ r = v_35 ∧ w = [(ce_X3 ob ob_town ob_code v_36 v_37 ob_text ob_size v_38 v_39 v_40 v_41), (ce_b1400 y ob_text fob_text)])) (kq G (va_A [(ce_X3 ob ob_town ob_code ob_fault ob_place ob_text ob_size ob_begin ob_next ob_kind ob_value), (ce_b1400 y ob_text fob_text)] sz)) (va_A [(ce_X3 ob ob_town ob_code ob_fault ob_place ob_text ob_size ob_begin ob_next ob_kind ob_value), (ce_b1400 y ob_text fob_text)] sz)) 0 0 (va_A [(ce_X3 ob ob_town ob_code ob_fault ob_place ob_text ob_size ob_begin ob_next ob_kind ob_value), (ce_b1400 y ob_text fob_text)] sz) := by
  refine Met.ofW (cc := cX3_choice) (maxL := 3) (ret := (some .int)) (by decide) rfl ?_
  intro p e s m args below meth c s₁ B hml hv
  obtain ⟨rfl, ⟨hsz, hP, hK, hD0⟩, hE⟩ := hv
  have hx := B.exec
  have hb := B.bytes
  have hr := B.returns
  have hw0 : ∀ w ∈ wAll, w.before _ s = true := fun w h => atoms_spec (ws := Cond.code yX3_choice cX3_choice 3 (some .int) :: wAll) B.pre w (List.mem_cons_of_mem _ h)
  have hown : s.vm.findClass RX3 = some m.cls := findClass_of_methodNamed B.named
  subst hsz
  have hD := hD0.self (sz := s.heap.size)
  generalize hAe : va_A [(ce_X3 ob ob_town ob_code ob_fault ob_place ob_text ob_size ob_begin ob_next ob_kind ob_value), (ce_b1400 y ob_text fob_text)] s.heap.size = A at hD hE ⊢
  have hA : ∀ q : Nat, s.heap.size ≤ q → A q := fun q h => by rw [← hAe]; exact Or.inr h
  have hS : va_S A s.heap s.heap [] := va_S.rf
  have hP : va_P G vwCl [(ce_X3 ob ob_town ob_code ob_fault ob_place ob_text ob_size ob_begin ob_next ob_kind ob_value), (ce_b1400 y ob_text fob_text)] s.heap := hP
  have hl := lv_entry ([.ref ob, .ref (aK i1)]) (n := 3) (Nat.le_of_ble_eq_true rfl)
  rw [lg_entry_eq]
  generalize (lg_sl ([.ref ob, .ref (aK i1)]) ++ List.replicate (3 - (lg_sl ([.ref ob, .ref (aK i1)])).length) Slot.unset).toArray = ls at hl ⊢
  have hl : lv_has ls 3 [(0, .ref ob), (1, .ref (aK i1))] := hl
  refine lv_aload_n hx hb dX3_choice_0 rfl (lv_at hl 0 rfl) ?_
  refine lv_aload_n hx hb dX3_choice_1 rfl (lv_at hl 1 rfl) ?_
  refine cViSm (As := [.ref (aK i1)]) (rest := []) ⟨hx, hb, hml, hown, hw0⟩ hA hK hP hD hS hE [true, true] (sX3_among l G y aK aV _ ob i1 ob_town ob_code ob_fault ob_place ob_text ob_size ob_begin ob_next ob_kind ob_value fob_text p_ob_fault p_ob_size p_ob_begin p_ob_next p_ob_kind p_ob_value hi1 (by assumption)) rfl ⟨(callB_of 1 hw0 (gA m_727) rfl rfl rfl (hw0 _ m_721) (hw0 _ m_731) cb_X3_among ⟨Nat.le_of_ble_eq_true rfl, Nat.le_of_ble_eq_true rfl⟩), (hw0 _ m_732), (hw0 _ m_733)⟩ (ci := 3) (q := (RX3, TX3, 10)) rfl rfl rfl hl.1 (Nat.le_of_ble_eq_true rfl) dX3_choice_2 ⟨Nat.le_of_ble_eq_true rfl, Nat.le_of_ble_eq_true rfl⟩ (fun r_1001 w_1001 H locs hw_1001 hP hD hS => ?_)
  obtain ⟨v_1002, bv_1002, h_1003, er_1001, rfl⟩ := hw_1001
  subst r_1001
  obtain ⟨hP, hD⟩ : vPD G A H [(ce_X3 ob ob_town ob_code ob_fault ob_place ob_text ob_size ob_begin ob_next ob_kind ob_value), (ce_b1400 y ob_text fob_text)] := ⟨hP, hD⟩
  refine lv_istore_n (lv' := [(2, .int v_1002), (0, .ref ob), (1, .ref (aK i1))]) hx hb dX3_choice_5 rfl hl (by decide) rfl (fun ls hl => ?_)
  refine lv_iload_n hx hb dX3_choice_6 rfl (lv_at hl 0 rfl) ?_
  refine lv_if_ge (tgt := 15) hx hb dX3_choice_7 (by decide) (fun c_1004 => ?_) (fun c_1004 => ?_)
  · skip
    have nc_1004 := nb_le (0) (0) c_1004 (bkc (x := 0) (c := 0) (by decide)) bv_1002 (by decide)
    refine lv_aload_n hx hb dX3_choice_15 rfl (lv_at hl 1 rfl) ?_
    refine va_get (D := G) (ci := 3) (v := .int ob_fault) (C := RX3) (T := TX3) (N := 10) hx hb hw0 inA_wsX30 hown hK.1 hP 0 rfl rfl 2 (by decide) (hw0 _ m_737) (fun _ h9 => h9) rfl dX3_choice_16 ?_
    refine lv_if_eq (tgt := 24) hx hb dX3_choice_19 (by decide) (fun c_1005 => ?_) (fun c_1005 => ?_)
    · skip
      have nc_1005 := nb_eq (0) (0) c_1005 p_ob_fault (bkc (x := 0) (c := 0) (by decide)) (by decide)
      refine lv_aload_n hx hb dX3_choice_24 rfl (lv_at hl 1 rfl) ?_
      refine cVvm (As := []) (rest := []) ⟨hx, hb, hml, hown, hw0⟩ hA hK hP hD hS [true, true] (sX3_advance l G y _ ob ob_town ob_code ob_fault ob_place ob_text ob_size ob_begin ob_next ob_kind ob_value fob_text (bw (0) (3) nc_1005.1 (by decide)) p_ob_size p_ob_begin p_ob_next p_ob_kind p_ob_value (by first | omega | exact (tok_le (by assumption)).2)) rfl ⟨(callB_of 0 hw0 (gA m_714) rfl rfl rfl (hw0 _ m_721) (hw0 _ m_738) cb_X3_advance ⟨Nat.le_of_ble_eq_true rfl, Nat.le_of_ble_eq_true rfl⟩), (hw0 _ m_739), (hw0 _ m_740)⟩ (ci := 3) (q := (RX3, TX3, 10)) rfl rfl rfl hl.1 (Nat.le_of_ble_eq_true rfl) dX3_choice_25 ⟨Nat.le_of_ble_eq_true rfl, Nat.le_of_ble_eq_true rfl⟩ (fun w_1006 H locs hw_1006 hP hD hS => ?_)
      obtain ⟨v_1007, v_1008, v_1009, v_1010, bv_1007, bv_1008, bv_1009, bv_1010, h_1011, h_1012, rfl⟩ := hw_1006
      obtain ⟨hP, hD⟩ : vPD G A H [(ce_X3 ob ob_town ob_code ob_fault ob_place ob_text ob_size v_1007 v_1008 v_1009 v_1010), (ce_b1400 y ob_text fob_text)] := ⟨hP, hD⟩
      refine lv_iload_n hx hb dX3_choice_28 rfl (lv_at hl 0 rfl) ?_
      exact W.iret (v := v_1002) hx hb hr (fun t ht hW => ⟨⟨v_1002, _, rfl, ⟨v_1002, ob_fault, ob_place, v_1007, v_1008, v_1009, v_1010, nc_1004.2.1, (bw (0) (3) nc_1005.1 (by decide)), bv_1007, bv_1008, bv_1009, bv_1010, (by have lm1 : Int32.toInt (-1) = -1 := (by decide); have l91 : Int32.toInt 1 = 1 := (by decide); have l92 : Int32.toInt 2 = 2 := (by decide); have l93 : Int32.toInt 3 = 3 := (by decide); refine Eq.trans ?_ (show r_ch fob_text ob_size.toInt (qam fob_text ob_size.toInt ob_begin.toInt i1) ((ob_fault.toInt, ob_place.toInt, ob_begin.toInt) : Int × Int × Int) = r_chi fob_text ob_size.toInt i1 ((ob_fault.toInt, ob_place.toInt, ob_begin.toInt) : Int × Int × Int) from rfl); by_cases hF0 : ob_fault.toInt = 0 <;> first | exact ch_ok hq0 (by omega) (by omega) (by assumption) (by omega) (by omega) | exact ch_1 (by omega) (by omega) (by omega) (by omega) (by omega) | exact ch_f (by omega) (by omega) (by omega) (by omega)), by omega, (by assumption), rfl, rfl⟩, by rw [ht]; exact hP, hD⟩, hS.F ht⟩) hS.2.2 dX3_choice_29
    · skip
      have nc_1005 := nb_ne (1) (3) c_1005 p_ob_fault (k := 0) (by decide) (by decide)
      refine lv_iconst (v := 0) hx hb dX3_choice_22 (by decide) ?_
      exact W.iret (v := 0) hx hb hr (fun t ht hW => ⟨⟨0, _, rfl, ⟨0, ob_fault, ob_place, ob_begin, ob_next, ob_kind, ob_value, (bw (0) (61) (bkc (x := 0) (c := 0) (by decide)) (by decide)), (bw (0) (3) nc_1005.1 (by decide)), p_ob_begin, p_ob_next, p_ob_kind, p_ob_value, (by have lm1 : Int32.toInt (-1) = -1 := (by decide); have l91 : Int32.toInt 1 = 1 := (by decide); have l92 : Int32.toInt 2 = 2 := (by decide); have l93 : Int32.toInt 3 = 3 := (by decide); have h90 : Int32.toInt 0 = 0 := (by decide); refine Eq.trans ?_ (show r_ch fob_text ob_size.toInt (qam fob_text ob_size.toInt ob_begin.toInt i1) ((ob_fault.toInt, ob_place.toInt, ob_begin.toInt) : Int × Int × Int) = r_chi fob_text ob_size.toInt i1 ((ob_fault.toInt, ob_place.toInt, ob_begin.toInt) : Int × Int × Int) from rfl); by_cases hF0 : ob_fault.toInt = 0 <;> first | exact ch_ok hq0 (by omega) (by omega) (by assumption) (by omega) (by omega) | exact ch_1 (by omega) (by omega) (by omega) (by omega) (by omega) | exact ch_f (by omega) (by omega) (by omega) (by omega)), by have h90 : Int32.toInt 0 = 0 := (by decide); omega, (by assumption), rfl, rfl⟩, by rw [ht]; exact hP, hD⟩, hS.F ht⟩) hS.2.2 dX3_choice_23
  · skip
    have nc_1004 := nb_nle (-1) (0) c_1004 bv_1002 (bkc (x := 0) (c := 0) (by decide)) (by decide)
    refine lv_aload_n hx hb dX3_choice_10 rfl (lv_at hl 1 rfl) ?_
    refine lv_iconst (v := 1) hx hb dX3_choice_11 (by decide) ?_
    refine cVvm (As := [.int 1]) (rest := []) ⟨hx, hb, hml, hown, hw0⟩ hA hK hP hD hS [true] (sX3_refuse l G y _ ob 1 ob_town ob_code ob_fault ob_place ob_text ob_size ob_begin ob_next ob_kind ob_value p_ob_fault p_ob_size p_ob_begin p_ob_next p_ob_kind p_ob_value (bw (1) (3) (bkc (x := 1) (c := 1) (by decide)) (by decide))) rfl ⟨(callB_of 1 hw0 (gA m_816) rfl rfl rfl (hw0 _ m_721) (hw0 _ m_734) cb_X3_refuse ⟨Nat.le_of_ble_eq_true rfl, Nat.le_of_ble_eq_true rfl⟩), (hw0 _ m_735), (hw0 _ m_736)⟩ (ci := 3) (q := (RX3, TX3, 10)) rfl rfl rfl hl.1 (Nat.le_of_ble_eq_true rfl) dX3_choice_12 ⟨Nat.le_of_ble_eq_true rfl, Nat.le_of_ble_eq_true rfl⟩ (fun w_1013 H locs hw_1013 hP hD hS => ?_)
    obtain ⟨v_1014, v_1015, bv_1014, h_1016, h_1017, rfl⟩ := hw_1013
    obtain ⟨hP, hD⟩ : vPD G A H [(ce_X3 ob ob_town ob_code v_1014 v_1015 ob_text ob_size ob_begin ob_next ob_kind ob_value), (ce_b1400 y ob_text fob_text)] := ⟨hP, hD⟩
    refine lv_aload_n hx hb dX3_choice_15 rfl (lv_at hl 1 rfl) ?_
    refine va_get (D := G) (ci := 3) (v := .int v_1014) (C := RX3) (T := TX3) (N := 10) hx hb hw0 inA_wsX30 hown hK.1 hP 0 rfl rfl 2 (by decide) (hw0 _ m_737) (fun _ h9 => h9) rfl dX3_choice_16 ?_
    refine lv_if_eq (tgt := 24) hx hb dX3_choice_19 (by decide) (fun c9 => absurd c9 (dc_neq bv_1014 (bkc (x := 0) (c := 0) (by decide)) (by decide))) (fun _ => ?_)
    refine lv_iconst (v := 0) hx hb dX3_choice_22 (by decide) ?_
    exact W.iret (v := 0) hx hb hr (fun t ht hW => ⟨⟨0, _, rfl, ⟨0, v_1014, v_1015, ob_begin, ob_next, ob_kind, ob_value, (bw (0) (61) (bkc (x := 0) (c := 0) (by decide)) (by decide)), (bw (0) (3) bv_1014 (by decide)), p_ob_begin, p_ob_next, p_ob_kind, p_ob_value, (by have lm1 : Int32.toInt (-1) = -1 := (by decide); have l91 : Int32.toInt 1 = 1 := (by decide); have l92 : Int32.toInt 2 = 2 := (by decide); have l93 : Int32.toInt 3 = 3 := (by decide); have h90 : Int32.toInt 0 = 0 := (by decide); refine Eq.trans ?_ (show r_ch fob_text ob_size.toInt (qam fob_text ob_size.toInt ob_begin.toInt i1) ((ob_fault.toInt, ob_place.toInt, ob_begin.toInt) : Int × Int × Int) = r_chi fob_text ob_size.toInt i1 ((ob_fault.toInt, ob_place.toInt, ob_begin.toInt) : Int × Int × Int) from rfl); by_cases hF0 : ob_fault.toInt = 0 <;> first | exact ch_ok hq0 (by omega) (by omega) (by assumption) (by omega) (by omega) | exact ch_1 (by omega) (by omega) (by omega) (by omega) (by omega) | exact ch_f (by omega) (by omega) (by omega) (by omega)), by have h90 : Int32.toInt 0 = 0 := (by decide); omega, (by assumption), rfl, rfl⟩, by rw [ht]; exact hP, hD⟩, hS.F ht⟩) hS.2.2 dX3_choice_23

set_option maxHeartbeats 4000000 in
set_option maxRecDepth 100000 in
theorem sX3_takes (l : Launch) (G : va_G) (y : Nat → ClassId) (aK aV : Nat → Nat) (sz : Nat) (ob : Nat) (i1 : Nat) (ob_town : Nat) (ob_code : Nat) (ob_fault : Int32) (ob_place : Int32) (ob_text : Nat) (ob_size : Int32) (ob_begin : Int32) (ob_next : Int32) (ob_kind : Int32) (ob_value : Int32) (fob_text : Nat → Int32) (p_ob_fault : (0 : Int) ≤ ob_fault.toInt ∧ ob_fault.toInt ≤ 3) (p_ob_size : (0 : Int) ≤ ob_size.toInt ∧ ob_size.toInt ≤ 1400) (p_ob_begin : (0 : Int) ≤ ob_begin.toInt ∧ ob_begin.toInt ≤ 1400) (p_ob_next : (0 : Int) ≤ ob_next.toInt ∧ ob_next.toInt ≤ 1400) (p_ob_kind : (0 : Int) ≤ ob_kind.toInt ∧ ob_kind.toInt ≤ 4) (p_ob_value : (0 : Int) ≤ ob_value.toInt ∧ ob_value.toInt ≤ 1000000) (hi1 : i1 < nS) (hq0 : qTok fob_text ob_size.toInt 1000000 ob_kind.toInt ob_begin.toInt ob_next.toInt ob_value.toInt) : Met l yX3_takes (Cond.code yX3_takes cX3_takes 2 (some .boolean) :: wAll) ({ frames := 5, cells := 0, slots := 0, locals := 111 }) (va_Pc [.ref ob, .ref (aK i1)] (kps G y aK aV sz [(ce_X3 ob ob_town ob_code ob_fault ob_place ob_text ob_size ob_begin ob_next ob_kind ob_value), (ce_b1400 y ob_text fob_text)])) (va_Qi (fun (r : Int32) (w : va_W) => ((¬ (ob_fault.toInt = 0 ∧ 0 ≤ qam fob_text ob_size.toInt ob_begin.toInt i1)) ∧ r = 0 ∧ w = [(ce_X3 ob ob_town ob_code ob_fault ob_place ob_text ob_size ob_begin ob_next ob_kind ob_value), (ce_b1400 y ob_text fob_text)]) ∨ (∃ (v_25 : Int32) (v_26 : Int32) (v_27 : Int32) (v_28 : Int32), ((0 : Int) ≤ v_25.toInt ∧ v_25.toInt ≤ 1400) ∧ ((0 : Int) ≤ v_26.toInt ∧ v_26.toInt ≤ 1400) ∧ ((0 : Int) ≤ v_27.toInt ∧ v_27.toInt ≤ 4) ∧ ((0 : Int) ≤ v_28.toInt ∧ v_28.toInt ≤ 1000000) ∧ ((0 : Int) ≤ ob_fault.toInt ∧ ob_fault.toInt ≤ 0) ∧ (((ob_fault.toInt, ob_place.toInt, v_25.toInt) : Int × Int × Int) = r_ad fob_text ob_size.toInt ((ob_fault.toInt, ob_place.toInt, ob_begin.toInt) : Int × Int × Int)) ∧ (ob_fault.toInt = 0 ∧ 0 ≤ qam fob_text ob_size.toInt ob_begin.toInt i1) ∧ (qTok fob_text ob_size.toInt 1000000 v_27.toInt v_25.toInt v_26.toInt v_28.toInt) ∧ r = 1 ∧ w = [(ce_X3 ob ob_town ob_code ob_fault ob_place ob_text ob_size v_25 v_26 v_27 v_28), (ce_b1400 y ob_text fob_text)])) (kq G (va_A [(ce_X3 ob ob_town ob_code ob_fault ob_place ob_text ob_size ob_begin ob_next ob_kind ob_value), (ce_b1400 y ob_text fob_text)] sz)) (va_A [(ce_X3 ob ob_town ob_code ob_fault ob_place ob_text ob_size ob_begin ob_next ob_kind ob_value), (ce_b1400 y ob_text fob_text)] sz)) 0 0 (va_A [(ce_X3 ob ob_town ob_code ob_fault ob_place ob_text ob_size ob_begin ob_next ob_kind ob_value), (ce_b1400 y ob_text fob_text)] sz) := by
  refine Met.ofW (cc := cX3_takes) (maxL := 2) (ret := (some .boolean)) (by decide) rfl ?_
  intro p e s m args below meth c s₁ B hml hv
  obtain ⟨rfl, ⟨hsz, hP, hK, hD0⟩, hE⟩ := hv
  have hx := B.exec
  have hb := B.bytes
  have hr := B.returns
  have hw0 : ∀ w ∈ wAll, w.before _ s = true := fun w h => atoms_spec (ws := Cond.code yX3_takes cX3_takes 2 (some .boolean) :: wAll) B.pre w (List.mem_cons_of_mem _ h)
  have hown : s.vm.findClass RX3 = some m.cls := findClass_of_methodNamed B.named
  subst hsz
  have hD := hD0.self (sz := s.heap.size)
  generalize hAe : va_A [(ce_X3 ob ob_town ob_code ob_fault ob_place ob_text ob_size ob_begin ob_next ob_kind ob_value), (ce_b1400 y ob_text fob_text)] s.heap.size = A at hD hE ⊢
  have hA : ∀ q : Nat, s.heap.size ≤ q → A q := fun q h => by rw [← hAe]; exact Or.inr h
  have hS : va_S A s.heap s.heap [] := va_S.rf
  have hP : va_P G vwCl [(ce_X3 ob ob_town ob_code ob_fault ob_place ob_text ob_size ob_begin ob_next ob_kind ob_value), (ce_b1400 y ob_text fob_text)] s.heap := hP
  have hl := lv_entry ([.ref ob, .ref (aK i1)]) (n := 2) (Nat.le_of_ble_eq_true rfl)
  rw [lg_entry_eq]
  generalize (lg_sl ([.ref ob, .ref (aK i1)]) ++ List.replicate (2 - (lg_sl ([.ref ob, .ref (aK i1)])).length) Slot.unset).toArray = ls at hl ⊢
  have hl : lv_has ls 2 [(0, .ref ob), (1, .ref (aK i1))] := hl
  refine lv_aload_n hx hb dX3_takes_0 rfl (lv_at hl 0 rfl) ?_
  refine va_get (D := G) (ci := 3) (v := .int ob_fault) (C := RX3) (T := TX3) (N := 10) hx hb hw0 inA_wsX30 hown hK.1 hP 0 rfl rfl 2 (by decide) (hw0 _ m_737) (fun _ h9 => h9) rfl dX3_takes_1 ?_
  refine lv_if_ne (tgt := 15) hx hb dX3_takes_4 (by decide) (fun c_1001 => ?_) (fun c_1001 => ?_)
  · skip
    have nc_1001 := nb_ne (1) (3) c_1001 p_ob_fault (k := 0) (by decide) (by decide)
    refine lv_iconst (v := 0) hx hb dX3_takes_15 (by decide) ?_
    exact W.zret (v := 0) hx hb hr rfl (fun t ht hW => ⟨⟨0, _, rfl, Or.inl (⟨by have h90 : Int32.toInt 0 = 0 := (by decide); omega, rfl, rfl⟩), by rw [ht]; exact hP, hD⟩, hS.F ht⟩) hS.2.2 dX3_takes_16
  · skip
    have nc_1001 := nb_eq (0) (0) c_1001 p_ob_fault (bkc (x := 0) (c := 0) (by decide)) (by decide)
    refine lv_aload_n hx hb dX3_takes_7 rfl (lv_at hl 0 rfl) ?_
    refine lv_aload_n hx hb dX3_takes_8 rfl (lv_at hl 1 rfl) ?_
    refine cViSm (As := [.ref (aK i1)]) (rest := []) ⟨hx, hb, hml, hown, hw0⟩ hA hK hP hD hS hE [true, true] (sX3_among l G y aK aV _ ob i1 ob_town ob_code ob_fault ob_place ob_text ob_size ob_begin ob_next ob_kind ob_value fob_text (bw (0) (3) nc_1001.1 (by decide)) p_ob_size p_ob_begin p_ob_next p_ob_kind p_ob_value hi1 (by assumption)) rfl ⟨(callB_of 1 hw0 (gA m_727) rfl rfl rfl (hw0 _ m_721) (hw0 _ m_731) cb_X3_among ⟨Nat.le_of_ble_eq_true rfl, Nat.le_of_ble_eq_true rfl⟩), (hw0 _ m_732), (hw0 _ m_733)⟩ (ci := 3) (q := (RX3, TX3, 10)) rfl rfl rfl hl.1 (Nat.le_of_ble_eq_true rfl) dX3_takes_9 ⟨Nat.le_of_ble_eq_true rfl, Nat.le_of_ble_eq_true rfl⟩ (fun r_1002 w_1002 H locs hw_1002 hP hD hS => ?_)
    obtain ⟨v_1003, bv_1003, h_1004, er_1002, rfl⟩ := hw_1002
    subst r_1002
    obtain ⟨hP, hD⟩ : vPD G A H [(ce_X3 ob ob_town ob_code ob_fault ob_place ob_text ob_size ob_begin ob_next ob_kind ob_value), (ce_b1400 y ob_text fob_text)] := ⟨hP, hD⟩
    refine lv_if_ge (tgt := 17) hx hb dX3_takes_12 (by decide) (fun c_1005 => ?_) (fun c_1005 => ?_)
    · skip
      have nc_1005 := nb_le (0) (0) c_1005 (bkc (x := 0) (c := 0) (by decide)) bv_1003 (by decide)
      refine lv_aload_n hx hb dX3_takes_17 rfl (lv_at hl 0 rfl) ?_
      refine cVvm (As := []) (rest := []) ⟨hx, hb, hml, hown, hw0⟩ hA hK hP hD hS [true, true] (sX3_advance l G y _ ob ob_town ob_code ob_fault ob_place ob_text ob_size ob_begin ob_next ob_kind ob_value fob_text (bw (0) (3) nc_1001.1 (by decide)) p_ob_size p_ob_begin p_ob_next p_ob_kind p_ob_value (by first | omega | exact (tok_le (by assumption)).2)) rfl ⟨(callB_of 0 hw0 (gA m_714) rfl rfl rfl (hw0 _ m_721) (hw0 _ m_738) cb_X3_advance ⟨Nat.le_of_ble_eq_true rfl, Nat.le_of_ble_eq_true rfl⟩), (hw0 _ m_739), (hw0 _ m_740)⟩ (ci := 3) (q := (RX3, TX3, 10)) rfl rfl rfl hl.1 (Nat.le_of_ble_eq_true rfl) dX3_takes_18 ⟨Nat.le_of_ble_eq_true rfl, Nat.le_of_ble_eq_true rfl⟩ (fun w_1006 H locs hw_1006 hP hD hS => ?_)
      obtain ⟨v_1007, v_1008, v_1009, v_1010, bv_1007, bv_1008, bv_1009, bv_1010, h_1011, h_1012, rfl⟩ := hw_1006
      obtain ⟨hP, hD⟩ : vPD G A H [(ce_X3 ob ob_town ob_code ob_fault ob_place ob_text ob_size v_1007 v_1008 v_1009 v_1010), (ce_b1400 y ob_text fob_text)] := ⟨hP, hD⟩
      refine lv_iconst (v := 1) hx hb dX3_takes_21 (by decide) ?_
      exact W.zret (v := 1) hx hb hr rfl (fun t ht hW => ⟨⟨1, _, rfl, Or.inr (⟨v_1007, v_1008, v_1009, v_1010, bv_1007, bv_1008, bv_1009, bv_1010, nc_1001.1, (by have lm1 : Int32.toInt (-1) = -1 := (by decide); have l91 : Int32.toInt 1 = 1 := (by decide); have l92 : Int32.toInt 2 = 2 := (by decide); have l93 : Int32.toInt 3 = 3 := (by decide); have h90 : Int32.toInt 1 = 1 := (by decide); exact ad_i hq0 (by assumption) (by omega) (by omega)), by have h90 : Int32.toInt 1 = 1 := (by decide); omega, (by assumption), rfl, rfl⟩), by rw [ht]; exact hP, hD⟩, hS.F ht⟩) hS.2.2 dX3_takes_22
    · skip
      have nc_1005 := nb_nle (-1) (0) c_1005 bv_1003 (bkc (x := 0) (c := 0) (by decide)) (by decide)
      refine lv_iconst (v := 0) hx hb dX3_takes_15 (by decide) ?_
      exact W.zret (v := 0) hx hb hr rfl (fun t ht hW => ⟨⟨0, _, rfl, Or.inl (⟨by have h90 : Int32.toInt 0 = 0 := (by decide); omega, rfl, rfl⟩), by rw [ht]; exact hP, hD⟩, hS.F ht⟩) hS.2.2 dX3_takes_16

set_option maxHeartbeats 4000000 in
set_option maxRecDepth 100000 in
theorem sX3_closeLine (l : Launch) (G : va_G) (y : Nat → ClassId) (sz : Nat) (ob : Nat) (ob_town : Nat) (ob_code : Nat) (ob_fault : Int32) (ob_place : Int32) (ob_text : Nat) (ob_size : Int32) (ob_begin : Int32) (ob_next : Int32) (ob_kind : Int32) (ob_value : Int32) (fob_text : Nat → Int32) (p_ob_fault : (0 : Int) ≤ ob_fault.toInt ∧ ob_fault.toInt ≤ 3) (p_ob_size : (0 : Int) ≤ ob_size.toInt ∧ ob_size.toInt ≤ 1400) (p_ob_begin : (0 : Int) ≤ ob_begin.toInt ∧ ob_begin.toInt ≤ 1400) (p_ob_next : (0 : Int) ≤ ob_next.toInt ∧ ob_next.toInt ≤ 1400) (p_ob_kind : (0 : Int) ≤ ob_kind.toInt ∧ ob_kind.toInt ≤ 4) (p_ob_value : (0 : Int) ≤ ob_value.toInt ∧ ob_value.toInt ≤ 1000000) (hq0 : qTok fob_text ob_size.toInt 1000000 ob_kind.toInt ob_begin.toInt ob_next.toInt ob_value.toInt) : Met l yX3_closeLine (Cond.code yX3_closeLine cX3_closeLine 1 none :: wAll) ({ frames := 3, cells := 0, slots := 0, locals := 61 }) (va_Pc [.ref ob] (kp G y sz [(ce_X3 ob ob_town ob_code ob_fault ob_place ob_text ob_size ob_begin ob_next ob_kind ob_value), (ce_b1400 y ob_text fob_text)])) (va_Qv (fun (w : va_W) => (∃ (v_29 : Int32) (v_30 : Int32) (v_31 : Int32) (v_32 : Int32) (v_33 : Int32) (v_34 : Int32), ((0 : Int) ≤ v_29.toInt ∧ v_29.toInt ≤ 3) ∧ ((0 : Int) ≤ v_31.toInt ∧ v_31.toInt ≤ 1400) ∧ ((0 : Int) ≤ v_32.toInt ∧ v_32.toInt ≤ 1400) ∧ ((0 : Int) ≤ v_33.toInt ∧ v_33.toInt ≤ 4) ∧ ((0 : Int) ≤ v_34.toInt ∧ v_34.toInt ≤ 1000000) ∧ (ob_fault.toInt = 0 ∨ v_29.toInt = ob_fault.toInt) ∧ (qTok fob_text ob_size.toInt 1000000 v_33.toInt v_31.toInt v_32.toInt v_34.toInt) ∧ (((v_29.toInt, v_30.toInt, v_31.toInt) : Int × Int × Int) = r_cl fob_text ob_size.toInt ((ob_fault.toInt, ob_place.toInt, ob_begin.toInt) : Int × Int × Int)) ∧ w = [(ce_X3 ob ob_town ob_code v_29 v_30 ob_text ob_size v_31 v_32 v_33 v_34), (ce_b1400 y ob_text fob_text)])) (kq G (va_A [(ce_X3 ob ob_town ob_code ob_fault ob_place ob_text ob_size ob_begin ob_next ob_kind ob_value), (ce_b1400 y ob_text fob_text)] sz)) (va_A [(ce_X3 ob ob_town ob_code ob_fault ob_place ob_text ob_size ob_begin ob_next ob_kind ob_value), (ce_b1400 y ob_text fob_text)] sz)) 0 0 (va_A [(ce_X3 ob ob_town ob_code ob_fault ob_place ob_text ob_size ob_begin ob_next ob_kind ob_value), (ce_b1400 y ob_text fob_text)] sz) := by
  refine Met.ofW (cc := cX3_closeLine) (maxL := 1) (ret := none) (by decide) rfl ?_
  intro p e s m args below meth c s₁ B hml hv
  obtain ⟨rfl, hsz, hP, hK, hD0⟩ := hv
  have hx := B.exec
  have hb := B.bytes
  have hr := B.returns
  have hw0 : ∀ w ∈ wAll, w.before _ s = true := fun w h => atoms_spec (ws := Cond.code yX3_closeLine cX3_closeLine 1 none :: wAll) B.pre w (List.mem_cons_of_mem _ h)
  have hown : s.vm.findClass RX3 = some m.cls := findClass_of_methodNamed B.named
  subst hsz
  have hD := hD0.self (sz := s.heap.size)
  generalize hAe : va_A [(ce_X3 ob ob_town ob_code ob_fault ob_place ob_text ob_size ob_begin ob_next ob_kind ob_value), (ce_b1400 y ob_text fob_text)] s.heap.size = A at hD ⊢
  have hA : ∀ q : Nat, s.heap.size ≤ q → A q := fun q h => by rw [← hAe]; exact Or.inr h
  have hS : va_S A s.heap s.heap [] := va_S.rf
  have hP : va_P G vwCl [(ce_X3 ob ob_town ob_code ob_fault ob_place ob_text ob_size ob_begin ob_next ob_kind ob_value), (ce_b1400 y ob_text fob_text)] s.heap := hP
  have hl := lv_entry ([.ref ob]) (n := 1) (Nat.le_of_ble_eq_true rfl)
  rw [lg_entry_eq]
  generalize (lg_sl ([.ref ob]) ++ List.replicate (1 - (lg_sl ([.ref ob])).length) Slot.unset).toArray = ls at hl ⊢
  have hl : lv_has ls 1 [(0, .ref ob)] := hl
  refine lv_aload_n hx hb dX3_closeLine_0 rfl (lv_at hl 0 rfl) ?_
  refine va_get (D := G) (ci := 3) (v := .int ob_kind) (C := RX3) (T := TX3) (N := 10) hx hb hw0 inA_wsX30 hown hK.1 hP 0 rfl rfl 8 (by decide) (hw0 _ m_719) (fun _ h9 => h9) rfl dX3_closeLine_1 ?_
  refine lv_iconst (v := 3) hx hb dX3_closeLine_4 (by decide) ?_
  refine lv_icmp_eq (tgt := 13) hx hb dX3_closeLine_5 (by decide) (fun c_1001 => ?_) (fun c_1001 => ?_)
  · skip
    have nc_1001 := nb_eq (3) (3) c_1001 p_ob_kind (bkc (x := 3) (c := 3) (by decide)) (by decide)
    refine lv_aload_n hx hb dX3_closeLine_13 rfl (lv_at hl 0 rfl) ?_
    refine va_get (D := G) (ci := 3) (v := .int ob_fault) (C := RX3) (T := TX3) (N := 10) hx hb hw0 inA_wsX30 hown hK.1 hP 0 rfl rfl 2 (by decide) (hw0 _ m_737) (fun _ h9 => h9) rfl dX3_closeLine_14 ?_
    refine lv_if_ne (tgt := 24) hx hb dX3_closeLine_17 (by decide) (fun c_1002 => ?_) (fun c_1002 => ?_)
    · skip
      have nc_1002 := nb_ne (1) (3) c_1002 p_ob_fault (k := 0) (by decide) (by decide)
      exact W.vret hx hb hr (fun t ht hW => ⟨⟨_, rfl, ⟨ob_fault, ob_place, ob_begin, ob_next, ob_kind, ob_value, (bw (0) (3) nc_1002.1 (by decide)), p_ob_begin, p_ob_next, (bw (0) (4) nc_1001.1 (by decide)), p_ob_value, by omega, (by assumption), (by have lm1 : Int32.toInt (-1) = -1 := (by decide); have l91 : Int32.toInt 1 = 1 := (by decide); have l92 : Int32.toInt 2 = 2 := (by decide); have l93 : Int32.toInt 3 = 3 := (by decide); by_cases hF0 : ob_fault.toInt = 0 <;> first | exact cl_ok hq0 (by omega) (by omega) (by assumption) (by omega) (by omega) | exact cl_1 hq0 (by omega) (by omega) (by omega) (by omega) (by omega) | exact cl_f (by omega) (by omega) (by omega) (by omega)), rfl⟩, by rw [ht]; exact hP, hD⟩, hS.F ht⟩) hS.2.2 dX3_closeLine_24
    · skip
      have nc_1002 := nb_eq (0) (0) c_1002 p_ob_fault (bkc (x := 0) (c := 0) (by decide)) (by decide)
      refine lv_aload_n hx hb dX3_closeLine_20 rfl (lv_at hl 0 rfl) ?_
      refine cVvm (As := []) (rest := []) ⟨hx, hb, hml, hown, hw0⟩ hA hK hP hD hS [true, true] (sX3_advance l G y _ ob ob_town ob_code ob_fault ob_place ob_text ob_size ob_begin ob_next ob_kind ob_value fob_text (bw (0) (3) nc_1002.1 (by decide)) p_ob_size p_ob_begin p_ob_next (bw (0) (4) nc_1001.1 (by decide)) p_ob_value (by first | omega | exact (tok_le (by assumption)).2)) rfl ⟨(callB_of 0 hw0 (gA m_714) rfl rfl rfl (hw0 _ m_721) (hw0 _ m_738) cb_X3_advance ⟨Nat.le_of_ble_eq_true rfl, Nat.le_of_ble_eq_true rfl⟩), (hw0 _ m_739), (hw0 _ m_740)⟩ (ci := 3) (q := (RX3, TX3, 10)) rfl rfl rfl hl.1 (Nat.le_of_ble_eq_true rfl) dX3_closeLine_21 ⟨Nat.le_of_ble_eq_true rfl, Nat.le_of_ble_eq_true rfl⟩ (fun w_1003 H locs hw_1003 hP hD hS => ?_)
      obtain ⟨v_1004, v_1005, v_1006, v_1007, bv_1004, bv_1005, bv_1006, bv_1007, h_1008, h_1009, rfl⟩ := hw_1003
      obtain ⟨hP, hD⟩ : vPD G A H [(ce_X3 ob ob_town ob_code ob_fault ob_place ob_text ob_size v_1004 v_1005 v_1006 v_1007), (ce_b1400 y ob_text fob_text)] := ⟨hP, hD⟩
      exact W.vret hx hb hr (fun t ht hW => ⟨⟨_, rfl, ⟨ob_fault, ob_place, v_1004, v_1005, v_1006, v_1007, (bw (0) (3) nc_1002.1 (by decide)), bv_1004, bv_1005, bv_1006, bv_1007, by omega, (by assumption), (by have lm1 : Int32.toInt (-1) = -1 := (by decide); have l91 : Int32.toInt 1 = 1 := (by decide); have l92 : Int32.toInt 2 = 2 := (by decide); have l93 : Int32.toInt 3 = 3 := (by decide); by_cases hF0 : ob_fault.toInt = 0 <;> first | exact cl_ok hq0 (by omega) (by omega) (by assumption) (by omega) (by omega) | exact cl_1 hq0 (by omega) (by omega) (by omega) (by omega) (by omega) | exact cl_f (by omega) (by omega) (by omega) (by omega)), rfl⟩, by rw [ht]; exact hP, hD⟩, hS.F ht⟩) hS.2.2 dX3_closeLine_24
  · skip
    have nc_1001 := nb_ne (0) (4) c_1001 p_ob_kind (k := 3) (by decide) (by decide)
    refine lv_aload_n hx hb dX3_closeLine_8 rfl (lv_at hl 0 rfl) ?_
    refine lv_iconst (v := 1) hx hb dX3_closeLine_9 (by decide) ?_
    refine cVvm (As := [.int 1]) (rest := []) ⟨hx, hb, hml, hown, hw0⟩ hA hK hP hD hS [true] (sX3_refuse l G y _ ob 1 ob_town ob_code ob_fault ob_place ob_text ob_size ob_begin ob_next ob_kind ob_value p_ob_fault p_ob_size p_ob_begin p_ob_next nc_1001.1 p_ob_value (bw (1) (3) (bkc (x := 1) (c := 1) (by decide)) (by decide))) rfl ⟨(callB_of 1 hw0 (gA m_816) rfl rfl rfl (hw0 _ m_721) (hw0 _ m_734) cb_X3_refuse ⟨Nat.le_of_ble_eq_true rfl, Nat.le_of_ble_eq_true rfl⟩), (hw0 _ m_735), (hw0 _ m_736)⟩ (ci := 3) (q := (RX3, TX3, 10)) rfl rfl rfl hl.1 (Nat.le_of_ble_eq_true rfl) dX3_closeLine_10 ⟨Nat.le_of_ble_eq_true rfl, Nat.le_of_ble_eq_true rfl⟩ (fun w_1010 H locs hw_1010 hP hD hS => ?_)
    obtain ⟨v_1011, v_1012, bv_1011, h_1013, h_1014, rfl⟩ := hw_1010
    obtain ⟨hP, hD⟩ : vPD G A H [(ce_X3 ob ob_town ob_code v_1011 v_1012 ob_text ob_size ob_begin ob_next ob_kind ob_value), (ce_b1400 y ob_text fob_text)] := ⟨hP, hD⟩
    refine lv_aload_n hx hb dX3_closeLine_13 rfl (lv_at hl 0 rfl) ?_
    refine va_get (D := G) (ci := 3) (v := .int v_1011) (C := RX3) (T := TX3) (N := 10) hx hb hw0 inA_wsX30 hown hK.1 hP 0 rfl rfl 2 (by decide) (hw0 _ m_737) (fun _ h9 => h9) rfl dX3_closeLine_14 ?_
    refine lv_if_ne (tgt := 24) hx hb dX3_closeLine_17 (by decide) (fun _ => ?_) (fun c9 => absurd c9 (dc_neq bv_1011 (bkc (x := 0) (c := 0) (by decide)) (by decide)))
    exact W.vret hx hb hr (fun t ht hW => ⟨⟨_, rfl, ⟨v_1011, v_1012, ob_begin, ob_next, ob_kind, ob_value, (bw (0) (3) bv_1011 (by decide)), p_ob_begin, p_ob_next, nc_1001.1, p_ob_value, by omega, (by assumption), (by have lm1 : Int32.toInt (-1) = -1 := (by decide); have l91 : Int32.toInt 1 = 1 := (by decide); have l92 : Int32.toInt 2 = 2 := (by decide); have l93 : Int32.toInt 3 = 3 := (by decide); by_cases hF0 : ob_fault.toInt = 0 <;> first | exact cl_ok hq0 (by omega) (by omega) (by assumption) (by omega) (by omega) | exact cl_1 hq0 (by omega) (by omega) (by omega) (by omega) (by omega) | exact cl_f (by omega) (by omega) (by omega) (by omega)), rfl⟩, by rw [ht]; exact hP, hD⟩, hS.F ht⟩) hS.2.2 dX3_closeLine_24
