set_option maxHeartbeats 4000000 in
set_option maxRecDepth 100000 in
theorem law_12 {p : Program} {e : Env} {s : State} {m : MethodId} {below : List Frame} {meth : Method} {c : Code} {l : Launch} {b L : Nat} {xs : Nat → Int32} {A : Nat → Prop} {G : va_G} {y : Nat → ClassId} {aK aV : Nat → Nat} {H : Heap} {locs : List Loc} {cells slots : Nat} {ls : Array Slot} {Q : State → Prop} (C0 : lawC p s m meth c b L xs A G y aK aV) {x q : Nat} {i : Int32} (hi : 0 ≤ i.toInt ∧ i.toInt + 6 ≤ (L : Int)) (I : LI s b A G y x q i H locs ls cells slots) (K : ∀ H1 locs1 cells1 slots1, LI s b A G y x q i H1 locs1 ls cells1 slots1 → W p l e room_1 s m #[Value.ref b] below meth c H1 locs1 cells1 slots1 Q (F0 m 1350 ls [])) : W p l e room_1 s m #[Value.ref b] below meth c H locs cells slots Q (F0 m 578 ls []) := by
  have C1 := C0
  obtain ⟨hx, hb, hr, hml, hown, hw0, hX, hbl, hbA, hA, hAf, hlocks, hK, hE, hL⟩ := C0
  obtain ⟨w, wm, tl, ts, fl0, wi0, sz0, fl1, wi1, sz1, fl2, wi2, sz2, fl3, wi3, sz3, f, ta, fm, fw, fh, hB, hM, hI, hR, hP, hD, hS, hl, hc1, hc2⟩ := I
  obtain ⟨r0, r1, r2, r3, r4, i0, i1, i2⟩ := hR
  refine lv_aload_n hx hb dL_law_578 rfl (lv_at hl 2 rfl) ?_
  refine lv_aload_n hx hb dL_law_579 rfl (lv_at hl 3 rfl) ?_
  refine lv_iload_n hx hb dL_law_580 rfl (lv_at hl 0 rfl) ?_
  refine lv_iconst (v := 1) hx hb dL_law_581 (by decide) ?_
  refine lv_iadd hx hb dL_law_582 ?_
  refine lv_topi (fun jv1 ejv1 => ?_)
  refine va_sld hx hb hX hbl hbA hS (sl_in (c := 1) ejv1 (by decide) (by decide) hi hL) dL_law_583 ?_
  refine lv_topi (fun av2 eav2 => ?_)
  refine cx_sX9_slights (ob := x) (a1 := av2) (rest := []) C1  hB hP hD hS hl.1 (Nat.le_of_ble_eq_true rfl) ⟨by omega, by omega⟩ dL_law_584 (fun an3 w4  H locs hq hB hP hD hS => ?_)
  have hP := P_perm (List.perm_append_comm_assoc w4 wm tl) hP
  have hD := D_perm (List.perm_append_comm_assoc w4 wm tl) hD
  refine lv_pop hx hb dL_law_587 rfl ?_
  refine lv_aload_n hx hb dL_law_588 rfl (lv_at hl 1 rfl) ?_
  refine lv_aload_n hx hb dL_law_589 rfl (lv_at hl 3 rfl) ?_
  refine lv_iload_n hx hb dL_law_590 rfl (lv_at hl 0 rfl) ?_
  refine lv_iconst (v := 1) hx hb dL_law_591 (by decide) ?_
  refine lv_iadd hx hb dL_law_592 ?_
  refine lv_topi (fun jv5 ejv5 => ?_)
  obtain rfl : jv1 = jv5 := ejv1.trans ejv5.symm
  refine va_sld hx hb hX hbl hbA hS (sl_in (c := 1) ejv1 (by decide) (by decide) hi hL) dL_law_593 ?_
  refine lv_topi (fun av6 eav6 => ?_)
  obtain rfl : av2 = av6 := eav2.trans eav6.symm
  refine cx_sX10_slights (ob := q) (a1 := av2) (rest := []) C1  hM hP hD hS hl.1 (Nat.le_of_ble_eq_true rfl) ⟨by omega, by omega⟩ dL_law_594 (fun an7 w8  H locs hq2 hM hP hD hS => ?_)
  have hP := P_perm (List.perm_append_comm_assoc w8 w4 tl) hP
  have hD := D_perm (List.perm_append_comm_assoc w8 w4 tl) hD
  refine lv_pop hx hb dL_law_597 rfl ?_
  refine lv_goto (tgt := 1350) hx hb dL_law_598 (by decide) ?_
  exact K _ _ _ _ ⟨w4, w8, tl, ts, fl0, wi0, sz0, fl1, wi1, sz1, fl2, wi2, sz2, fl3, wi3, sz3, f, ta, fm, fw, fh, hB, hM, hI, ⟨r0, r1, r2, r3, r4, i0, i1, i2⟩, hP, hD, hS, hl, by omega, by omega⟩

set_option maxHeartbeats 4000000 in
set_option maxRecDepth 100000 in
theorem law_13 {p : Program} {e : Env} {s : State} {m : MethodId} {below : List Frame} {meth : Method} {c : Code} {l : Launch} {b L : Nat} {xs : Nat → Int32} {A : Nat → Prop} {G : va_G} {y : Nat → ClassId} {aK aV : Nat → Nat} {H : Heap} {locs : List Loc} {cells slots : Nat} {ls : Array Slot} {Q : State → Prop} (C0 : lawC p s m meth c b L xs A G y aK aV) {x q : Nat} {i : Int32} (hi : 0 ≤ i.toInt ∧ i.toInt + 6 ≤ (L : Int)) (I : LI s b A G y x q i H locs ls cells slots) (K : ∀ H1 locs1 cells1 slots1, LI s b A G y x q i H1 locs1 ls cells1 slots1 → W p l e room_1 s m #[Value.ref b] below meth c H1 locs1 cells1 slots1 Q (F0 m 1350 ls [])) : W p l e room_1 s m #[Value.ref b] below meth c H locs cells slots Q (F0 m 601 ls []) := by
  have C1 := C0
  obtain ⟨hx, hb, hr, hml, hown, hw0, hX, hbl, hbA, hA, hAf, hlocks, hK, hE, hL⟩ := C0
  obtain ⟨w, wm, tl, ts, fl0, wi0, sz0, fl1, wi1, sz1, fl2, wi2, sz2, fl3, wi3, sz3, f, ta, fm, fw, fh, hB, hM, hI, hR, hP, hD, hS, hl, hc1, hc2⟩ := I
  obtain ⟨r0, r1, r2, r3, r4, i0, i1, i2⟩ := hR
  refine lv_aload_n hx hb dL_law_601 rfl (lv_at hl 2 rfl) ?_
  refine cx_sX9_first (ob := x)  (rest := []) C1  hB hP hD hS hl.1 (Nat.le_of_ble_eq_true rfl) ⟨by omega, by omega⟩ dL_law_602 (fun an1 w2  H locs hq hB hP hD hS => ?_)
  have hP := P_perm (List.perm_append_comm_assoc w2 wm tl) hP
  have hD := D_perm (List.perm_append_comm_assoc w2 wm tl) hD
  refine lv_pop hx hb dL_law_605 rfl ?_
  refine lv_aload_n hx hb dL_law_606 rfl (lv_at hl 1 rfl) ?_
  refine cx_sX10_first (ob := q)  (rest := []) C1  hM hP hD hS hl.1 (Nat.le_of_ble_eq_true rfl) ⟨by omega, by omega⟩ dL_law_607 (fun an3 w4  H locs hq2 hM hP hD hS => ?_)
  have hP := P_perm (List.perm_append_comm_assoc w4 w2 tl) hP
  have hD := D_perm (List.perm_append_comm_assoc w4 w2 tl) hD
  refine lv_pop hx hb dL_law_610 rfl ?_
  refine lv_goto (tgt := 1350) hx hb dL_law_611 (by decide) ?_
  exact K _ _ _ _ ⟨w2, w4, tl, ts, fl0, wi0, sz0, fl1, wi1, sz1, fl2, wi2, sz2, fl3, wi3, sz3, f, ta, fm, fw, fh, hB, hM, hI, ⟨r0, r1, r2, r3, r4, i0, i1, i2⟩, hP, hD, hS, hl, by omega, by omega⟩

set_option maxHeartbeats 4000000 in
set_option maxRecDepth 100000 in
theorem law_14 {p : Program} {e : Env} {s : State} {m : MethodId} {below : List Frame} {meth : Method} {c : Code} {l : Launch} {b L : Nat} {xs : Nat → Int32} {A : Nat → Prop} {G : va_G} {y : Nat → ClassId} {aK aV : Nat → Nat} {H : Heap} {locs : List Loc} {cells slots : Nat} {ls : Array Slot} {Q : State → Prop} (C0 : lawC p s m meth c b L xs A G y aK aV) {x q : Nat} {i : Int32} (hi : 0 ≤ i.toInt ∧ i.toInt + 6 ≤ (L : Int)) (I : LI s b A G y x q i H locs ls cells slots) (K : ∀ H1 locs1 cells1 slots1, LI s b A G y x q i H1 locs1 ls cells1 slots1 → W p l e room_1 s m #[Value.ref b] below meth c H1 locs1 cells1 slots1 Q (F0 m 1350 ls [])) : W p l e room_1 s m #[Value.ref b] below meth c H locs cells slots Q (F0 m 614 ls []) := by
  have C1 := C0
  obtain ⟨hx, hb, hr, hml, hown, hw0, hX, hbl, hbA, hA, hAf, hlocks, hK, hE, hL⟩ := C0
  obtain ⟨w, wm, tl, ts, fl0, wi0, sz0, fl1, wi1, sz1, fl2, wi2, sz2, fl3, wi3, sz3, f, ta, fm, fw, fh, hB, hM, hI, hR, hP, hD, hS, hl, hc1, hc2⟩ := I
  obtain ⟨r0, r1, r2, r3, r4, i0, i1, i2⟩ := hR
  refine lv_aload_n hx hb dL_law_614 rfl (lv_at hl 2 rfl) ?_
  refine lv_aload_n hx hb dL_law_615 rfl (lv_at hl 3 rfl) ?_
  refine lv_iload_n hx hb dL_law_616 rfl (lv_at hl 0 rfl) ?_
  refine lv_iconst (v := 1) hx hb dL_law_617 (by decide) ?_
  refine lv_iadd hx hb dL_law_618 ?_
  refine lv_topi (fun jv1 ejv1 => ?_)
  refine va_sld hx hb hX hbl hbA hS (sl_in (c := 1) ejv1 (by decide) (by decide) hi hL) dL_law_619 ?_
  refine lv_topi (fun av2 eav2 => ?_)
  refine lv_aload_n hx hb dL_law_620 rfl (lv_at hl 3 rfl) ?_
  refine lv_iload_n hx hb dL_law_621 rfl (lv_at hl 0 rfl) ?_
  refine lv_iconst (v := 2) hx hb dL_law_622 (by decide) ?_
  refine lv_iadd hx hb dL_law_623 ?_
  refine lv_topi (fun jv3 ejv3 => ?_)
  refine va_sld hx hb hX hbl hbA hS (sl_in (c := 2) ejv3 (by decide) (by decide) hi hL) dL_law_624 ?_
  refine lv_topi (fun av4 eav4 => ?_)
  refine lv_aload_n hx hb dL_law_625 rfl (lv_at hl 3 rfl) ?_
  refine lv_iload_n hx hb dL_law_626 rfl (lv_at hl 0 rfl) ?_
  refine lv_iconst (v := 3) hx hb dL_law_627 (by decide) ?_
  refine lv_iadd hx hb dL_law_628 ?_
  refine lv_topi (fun jv5 ejv5 => ?_)
  refine va_sld hx hb hX hbl hbA hS (sl_in (c := 3) ejv5 (by decide) (by decide) hi hL) dL_law_629 ?_
  refine lv_topi (fun av6 eav6 => ?_)
  refine cx_sX9_owes (ob := x) (a1 := av2) (a2 := av4) (a3 := av6) (rest := []) C1  hB hP hD hS hl.1 (Nat.le_of_ble_eq_true rfl) ⟨by omega, by omega⟩ dL_law_630 (fun an7 w8  H locs hq hB hP hD hS => ?_)
  have hP := P_perm (List.perm_append_comm_assoc w8 wm tl) hP
  have hD := D_perm (List.perm_append_comm_assoc w8 wm tl) hD
  refine lv_pop hx hb dL_law_633 rfl ?_
  refine lv_aload_n hx hb dL_law_634 rfl (lv_at hl 1 rfl) ?_
  refine lv_aload_n hx hb dL_law_635 rfl (lv_at hl 3 rfl) ?_
  refine lv_iload_n hx hb dL_law_636 rfl (lv_at hl 0 rfl) ?_
  refine lv_iconst (v := 1) hx hb dL_law_637 (by decide) ?_
  refine lv_iadd hx hb dL_law_638 ?_
  refine lv_topi (fun jv9 ejv9 => ?_)
  obtain rfl : jv1 = jv9 := ejv1.trans ejv9.symm
  refine va_sld hx hb hX hbl hbA hS (sl_in (c := 1) ejv1 (by decide) (by decide) hi hL) dL_law_639 ?_
  refine lv_topi (fun av10 eav10 => ?_)
  obtain rfl : av2 = av10 := eav2.trans eav10.symm
  refine lv_aload_n hx hb dL_law_640 rfl (lv_at hl 3 rfl) ?_
  refine lv_iload_n hx hb dL_law_641 rfl (lv_at hl 0 rfl) ?_
  refine lv_iconst (v := 2) hx hb dL_law_642 (by decide) ?_
  refine lv_iadd hx hb dL_law_643 ?_
  refine lv_topi (fun jv11 ejv11 => ?_)
  obtain rfl : jv3 = jv11 := ejv3.trans ejv11.symm
  refine va_sld hx hb hX hbl hbA hS (sl_in (c := 2) ejv3 (by decide) (by decide) hi hL) dL_law_644 ?_
  refine lv_topi (fun av12 eav12 => ?_)
  obtain rfl : av4 = av12 := eav4.trans eav12.symm
  refine lv_aload_n hx hb dL_law_645 rfl (lv_at hl 3 rfl) ?_
  refine lv_iload_n hx hb dL_law_646 rfl (lv_at hl 0 rfl) ?_
  refine lv_iconst (v := 3) hx hb dL_law_647 (by decide) ?_
  refine lv_iadd hx hb dL_law_648 ?_
  refine lv_topi (fun jv13 ejv13 => ?_)
  obtain rfl : jv5 = jv13 := ejv5.trans ejv13.symm
  refine va_sld hx hb hX hbl hbA hS (sl_in (c := 3) ejv5 (by decide) (by decide) hi hL) dL_law_649 ?_
  refine lv_topi (fun av14 eav14 => ?_)
  obtain rfl : av6 = av14 := eav6.trans eav14.symm
  refine cx_sX10_owes (ob := q) (a1 := av2) (a2 := av4) (a3 := av6) (rest := []) C1  hM hP hD hS hl.1 (Nat.le_of_ble_eq_true rfl) ⟨by omega, by omega⟩ dL_law_650 (fun an15 w16  H locs hq2 hM hP hD hS => ?_)
  have hP := P_perm (List.perm_append_comm_assoc w16 w8 tl) hP
  have hD := D_perm (List.perm_append_comm_assoc w16 w8 tl) hD
  refine lv_pop hx hb dL_law_653 rfl ?_
  refine lv_goto (tgt := 1350) hx hb dL_law_654 (by decide) ?_
  exact K _ _ _ _ ⟨w8, w16, tl, ts, fl0, wi0, sz0, fl1, wi1, sz1, fl2, wi2, sz2, fl3, wi3, sz3, f, ta, fm, fw, fh, hB, hM, hI, ⟨r0, r1, r2, r3, r4, i0, i1, i2⟩, hP, hD, hS, hl, by omega, by omega⟩

set_option maxHeartbeats 4000000 in
set_option maxRecDepth 100000 in
theorem law_15 {p : Program} {e : Env} {s : State} {m : MethodId} {below : List Frame} {meth : Method} {c : Code} {l : Launch} {b L : Nat} {xs : Nat → Int32} {A : Nat → Prop} {G : va_G} {y : Nat → ClassId} {aK aV : Nat → Nat} {H : Heap} {locs : List Loc} {cells slots : Nat} {ls : Array Slot} {Q : State → Prop} (C0 : lawC p s m meth c b L xs A G y aK aV) {x q : Nat} {i : Int32} (hi : 0 ≤ i.toInt ∧ i.toInt + 6 ≤ (L : Int)) (I : LI s b A G y x q i H locs ls cells slots) (K : ∀ H1 locs1 cells1 slots1, LI s b A G y x q i H1 locs1 ls cells1 slots1 → W p l e room_1 s m #[Value.ref b] below meth c H1 locs1 cells1 slots1 Q (F0 m 1350 ls [])) : W p l e room_1 s m #[Value.ref b] below meth c H locs cells slots Q (F0 m 657 ls []) := by
  have C1 := C0
  obtain ⟨hx, hb, hr, hml, hown, hw0, hX, hbl, hbA, hA, hAf, hlocks, hK, hE, hL⟩ := C0
  obtain ⟨w, wm, tl, ts, fl0, wi0, sz0, fl1, wi1, sz1, fl2, wi2, sz2, fl3, wi3, sz3, f, ta, fm, fw, fh, hB, hM, hI, hR, hP, hD, hS, hl, hc1, hc2⟩ := I
  obtain ⟨r0, r1, r2, r3, r4, i0, i1, i2⟩ := hR
  refine lv_aload_n hx hb dL_law_657 rfl (lv_at hl 2 rfl) ?_
  refine lv_aload_n hx hb dL_law_658 rfl (lv_at hl 3 rfl) ?_
  refine lv_iload_n hx hb dL_law_659 rfl (lv_at hl 0 rfl) ?_
  refine lv_iconst (v := 1) hx hb dL_law_660 (by decide) ?_
  refine lv_iadd hx hb dL_law_661 ?_
  refine lv_topi (fun jv1 ejv1 => ?_)
  refine va_sld hx hb hX hbl hbA hS (sl_in (c := 1) ejv1 (by decide) (by decide) hi hL) dL_law_662 ?_
  refine lv_topi (fun av2 eav2 => ?_)
  refine lv_aload_n hx hb dL_law_663 rfl (lv_at hl 3 rfl) ?_
  refine lv_iload_n hx hb dL_law_664 rfl (lv_at hl 0 rfl) ?_
  refine lv_iconst (v := 2) hx hb dL_law_665 (by decide) ?_
  refine lv_iadd hx hb dL_law_666 ?_
  refine lv_topi (fun jv3 ejv3 => ?_)
  refine va_sld hx hb hX hbl hbA hS (sl_in (c := 2) ejv3 (by decide) (by decide) hi hL) dL_law_667 ?_
  refine lv_topi (fun av4 eav4 => ?_)
  refine cx_sX9_worth (ob := x) (a1 := av2) (a2 := av4) (rest := []) C1  hB hP hD hS hl.1 (Nat.le_of_ble_eq_true rfl) ⟨by omega, by omega⟩ dL_law_668 (fun an5 w6  H locs hq hB hP hD hS => ?_)
  have hP := P_perm (List.perm_append_comm_assoc w6 wm tl) hP
  have hD := D_perm (List.perm_append_comm_assoc w6 wm tl) hD
  refine lv_pop hx hb dL_law_671 rfl ?_
  refine lv_aload_n hx hb dL_law_672 rfl (lv_at hl 1 rfl) ?_
  refine lv_aload_n hx hb dL_law_673 rfl (lv_at hl 3 rfl) ?_
  refine lv_iload_n hx hb dL_law_674 rfl (lv_at hl 0 rfl) ?_
  refine lv_iconst (v := 1) hx hb dL_law_675 (by decide) ?_
  refine lv_iadd hx hb dL_law_676 ?_
  refine lv_topi (fun jv7 ejv7 => ?_)
  obtain rfl : jv1 = jv7 := ejv1.trans ejv7.symm
  refine va_sld hx hb hX hbl hbA hS (sl_in (c := 1) ejv1 (by decide) (by decide) hi hL) dL_law_677 ?_
  refine lv_topi (fun av8 eav8 => ?_)
  obtain rfl : av2 = av8 := eav2.trans eav8.symm
  refine lv_aload_n hx hb dL_law_678 rfl (lv_at hl 3 rfl) ?_
  refine lv_iload_n hx hb dL_law_679 rfl (lv_at hl 0 rfl) ?_
  refine lv_iconst (v := 2) hx hb dL_law_680 (by decide) ?_
  refine lv_iadd hx hb dL_law_681 ?_
  refine lv_topi (fun jv9 ejv9 => ?_)
  obtain rfl : jv3 = jv9 := ejv3.trans ejv9.symm
  refine va_sld hx hb hX hbl hbA hS (sl_in (c := 2) ejv3 (by decide) (by decide) hi hL) dL_law_682 ?_
  refine lv_topi (fun av10 eav10 => ?_)
  obtain rfl : av4 = av10 := eav4.trans eav10.symm
  refine cx_sX10_worth (ob := q) (a1 := av2) (a2 := av4) (rest := []) C1  hM hP hD hS hl.1 (Nat.le_of_ble_eq_true rfl) ⟨by omega, by omega⟩ dL_law_683 (fun an11 w12  H locs hq2 hM hP hD hS => ?_)
  have hP := P_perm (List.perm_append_comm_assoc w12 w6 tl) hP
  have hD := D_perm (List.perm_append_comm_assoc w12 w6 tl) hD
  refine lv_pop hx hb dL_law_686 rfl ?_
  refine lv_goto (tgt := 1350) hx hb dL_law_687 (by decide) ?_
  exact K _ _ _ _ ⟨w6, w12, tl, ts, fl0, wi0, sz0, fl1, wi1, sz1, fl2, wi2, sz2, fl3, wi3, sz3, f, ta, fm, fw, fh, hB, hM, hI, ⟨r0, r1, r2, r3, r4, i0, i1, i2⟩, hP, hD, hS, hl, by omega, by omega⟩

set_option maxHeartbeats 4000000 in
set_option maxRecDepth 100000 in
theorem law_16 {p : Program} {e : Env} {s : State} {m : MethodId} {below : List Frame} {meth : Method} {c : Code} {l : Launch} {b L : Nat} {xs : Nat → Int32} {A : Nat → Prop} {G : va_G} {y : Nat → ClassId} {aK aV : Nat → Nat} {H : Heap} {locs : List Loc} {cells slots : Nat} {ls : Array Slot} {Q : State → Prop} (C0 : lawC p s m meth c b L xs A G y aK aV) {x q : Nat} {i : Int32} (hi : 0 ≤ i.toInt ∧ i.toInt + 6 ≤ (L : Int)) (I : LI s b A G y x q i H locs ls cells slots) (K : ∀ H1 locs1 cells1 slots1, LI s b A G y x q i H1 locs1 ls cells1 slots1 → W p l e room_1 s m #[Value.ref b] below meth c H1 locs1 cells1 slots1 Q (F0 m 1350 ls [])) : W p l e room_1 s m #[Value.ref b] below meth c H locs cells slots Q (F0 m 690 ls []) := by
  have C1 := C0
  obtain ⟨hx, hb, hr, hml, hown, hw0, hX, hbl, hbA, hA, hAf, hlocks, hK, hE, hL⟩ := C0
  obtain ⟨w, wm, tl, ts, fl0, wi0, sz0, fl1, wi1, sz1, fl2, wi2, sz2, fl3, wi3, sz3, f, ta, fm, fw, fh, hB, hM, hI, hR, hP, hD, hS, hl, hc1, hc2⟩ := I
  obtain ⟨r0, r1, r2, r3, r4, i0, i1, i2⟩ := hR
  refine lv_aload_n hx hb dL_law_690 rfl (lv_at hl 2 rfl) ?_
  refine lv_aload_n hx hb dL_law_691 rfl (lv_at hl 3 rfl) ?_
  refine lv_iload_n hx hb dL_law_692 rfl (lv_at hl 0 rfl) ?_
  refine lv_iconst (v := 1) hx hb dL_law_693 (by decide) ?_
  refine lv_iadd hx hb dL_law_694 ?_
  refine lv_topi (fun jv1 ejv1 => ?_)
  refine va_sld hx hb hX hbl hbA hS (sl_in (c := 1) ejv1 (by decide) (by decide) hi hL) dL_law_695 ?_
  refine lv_topi (fun av2 eav2 => ?_)
  refine lv_aload_n hx hb dL_law_696 rfl (lv_at hl 3 rfl) ?_
  refine lv_iload_n hx hb dL_law_697 rfl (lv_at hl 0 rfl) ?_
  refine lv_iconst (v := 2) hx hb dL_law_698 (by decide) ?_
  refine lv_iadd hx hb dL_law_699 ?_
  refine lv_topi (fun jv3 ejv3 => ?_)
  refine va_sld hx hb hX hbl hbA hS (sl_in (c := 2) ejv3 (by decide) (by decide) hi hL) dL_law_700 ?_
  refine lv_topi (fun av4 eav4 => ?_)
  refine lv_aload_n hx hb dL_law_701 rfl (lv_at hl 3 rfl) ?_
  refine lv_iload_n hx hb dL_law_702 rfl (lv_at hl 0 rfl) ?_
  refine lv_iconst (v := 3) hx hb dL_law_703 (by decide) ?_
  refine lv_iadd hx hb dL_law_704 ?_
  refine lv_topi (fun jv5 ejv5 => ?_)
  refine va_sld hx hb hX hbl hbA hS (sl_in (c := 3) ejv5 (by decide) (by decide) hi hL) dL_law_705 ?_
  refine lv_topi (fun av6 eav6 => ?_)
  refine cx_sX9_round (ob := x) (a1 := av2) (a2 := av4) (a3 := av6) (rest := []) C1  hB hP hD hS hl.1 (Nat.le_of_ble_eq_true rfl) ⟨by omega, by omega⟩ dL_law_706 (fun an7 w8  H locs hq hB hP hD hS => ?_)
  have hP := P_perm (List.perm_append_comm_assoc w8 wm tl) hP
  have hD := D_perm (List.perm_append_comm_assoc w8 wm tl) hD
  refine lv_pop hx hb dL_law_709 rfl ?_
  refine lv_aload_n hx hb dL_law_710 rfl (lv_at hl 1 rfl) ?_
  refine lv_aload_n hx hb dL_law_711 rfl (lv_at hl 3 rfl) ?_
  refine lv_iload_n hx hb dL_law_712 rfl (lv_at hl 0 rfl) ?_
  refine lv_iconst (v := 1) hx hb dL_law_713 (by decide) ?_
  refine lv_iadd hx hb dL_law_714 ?_
  refine lv_topi (fun jv9 ejv9 => ?_)
  obtain rfl : jv1 = jv9 := ejv1.trans ejv9.symm
  refine va_sld hx hb hX hbl hbA hS (sl_in (c := 1) ejv1 (by decide) (by decide) hi hL) dL_law_715 ?_
  refine lv_topi (fun av10 eav10 => ?_)
  obtain rfl : av2 = av10 := eav2.trans eav10.symm
  refine lv_aload_n hx hb dL_law_716 rfl (lv_at hl 3 rfl) ?_
  refine lv_iload_n hx hb dL_law_717 rfl (lv_at hl 0 rfl) ?_
  refine lv_iconst (v := 2) hx hb dL_law_718 (by decide) ?_
  refine lv_iadd hx hb dL_law_719 ?_
  refine lv_topi (fun jv11 ejv11 => ?_)
  obtain rfl : jv3 = jv11 := ejv3.trans ejv11.symm
  refine va_sld hx hb hX hbl hbA hS (sl_in (c := 2) ejv3 (by decide) (by decide) hi hL) dL_law_720 ?_
  refine lv_topi (fun av12 eav12 => ?_)
  obtain rfl : av4 = av12 := eav4.trans eav12.symm
  refine lv_aload_n hx hb dL_law_721 rfl (lv_at hl 3 rfl) ?_
  refine lv_iload_n hx hb dL_law_722 rfl (lv_at hl 0 rfl) ?_
  refine lv_iconst (v := 3) hx hb dL_law_723 (by decide) ?_
  refine lv_iadd hx hb dL_law_724 ?_
  refine lv_topi (fun jv13 ejv13 => ?_)
  obtain rfl : jv5 = jv13 := ejv5.trans ejv13.symm
  refine va_sld hx hb hX hbl hbA hS (sl_in (c := 3) ejv5 (by decide) (by decide) hi hL) dL_law_725 ?_
  refine lv_topi (fun av14 eav14 => ?_)
  obtain rfl : av6 = av14 := eav6.trans eav14.symm
  refine cx_sX10_round (ob := q) (a1 := av2) (a2 := av4) (a3 := av6) (rest := []) C1  hM hP hD hS hl.1 (Nat.le_of_ble_eq_true rfl) ⟨by omega, by omega⟩ dL_law_726 (fun an15 w16  H locs hq2 hM hP hD hS => ?_)
  have hP := P_perm (List.perm_append_comm_assoc w16 w8 tl) hP
  have hD := D_perm (List.perm_append_comm_assoc w16 w8 tl) hD
  refine lv_pop hx hb dL_law_729 rfl ?_
  refine lv_goto (tgt := 1350) hx hb dL_law_730 (by decide) ?_
  exact K _ _ _ _ ⟨w8, w16, tl, ts, fl0, wi0, sz0, fl1, wi1, sz1, fl2, wi2, sz2, fl3, wi3, sz3, f, ta, fm, fw, fh, hB, hM, hI, ⟨r0, r1, r2, r3, r4, i0, i1, i2⟩, hP, hD, hS, hl, by omega, by omega⟩

set_option maxHeartbeats 4000000 in
set_option maxRecDepth 100000 in
theorem law_17 {p : Program} {e : Env} {s : State} {m : MethodId} {below : List Frame} {meth : Method} {c : Code} {l : Launch} {b L : Nat} {xs : Nat → Int32} {A : Nat → Prop} {G : va_G} {y : Nat → ClassId} {aK aV : Nat → Nat} {H : Heap} {locs : List Loc} {cells slots : Nat} {ls : Array Slot} {Q : State → Prop} (C0 : lawC p s m meth c b L xs A G y aK aV) {x q : Nat} {i : Int32} (hi : 0 ≤ i.toInt ∧ i.toInt + 6 ≤ (L : Int)) (I : LI s b A G y x q i H locs ls cells slots) (K : ∀ H1 locs1 cells1 slots1, LI s b A G y x q i H1 locs1 ls cells1 slots1 → W p l e room_1 s m #[Value.ref b] below meth c H1 locs1 cells1 slots1 Q (F0 m 1350 ls [])) : W p l e room_1 s m #[Value.ref b] below meth c H locs cells slots Q (F0 m 733 ls []) := by
  have C1 := C0
  obtain ⟨hx, hb, hr, hml, hown, hw0, hX, hbl, hbA, hA, hAf, hlocks, hK, hE, hL⟩ := C0
  obtain ⟨w, wm, tl, ts, fl0, wi0, sz0, fl1, wi1, sz1, fl2, wi2, sz2, fl3, wi3, sz3, f, ta, fm, fw, fh, hB, hM, hI, hR, hP, hD, hS, hl, hc1, hc2⟩ := I
  obtain ⟨r0, r1, r2, r3, r4, i0, i1, i2⟩ := hR
  refine lv_aload_n hx hb dL_law_733 rfl (lv_at hl 2 rfl) ?_
  refine lv_aload_n hx hb dL_law_734 rfl (lv_at hl 3 rfl) ?_
  refine lv_iload_n hx hb dL_law_735 rfl (lv_at hl 0 rfl) ?_
  refine lv_iconst (v := 1) hx hb dL_law_736 (by decide) ?_
  refine lv_iadd hx hb dL_law_737 ?_
  refine lv_topi (fun jv1 ejv1 => ?_)
  refine va_sld hx hb hX hbl hbA hS (sl_in (c := 1) ejv1 (by decide) (by decide) hi hL) dL_law_738 ?_
  refine lv_topi (fun av2 eav2 => ?_)
  refine lv_aload_n hx hb dL_law_739 rfl (lv_at hl 3 rfl) ?_
  refine lv_iload_n hx hb dL_law_740 rfl (lv_at hl 0 rfl) ?_
  refine lv_iconst (v := 2) hx hb dL_law_741 (by decide) ?_
  refine lv_iadd hx hb dL_law_742 ?_
  refine lv_topi (fun jv3 ejv3 => ?_)
  refine va_sld hx hb hX hbl hbA hS (sl_in (c := 2) ejv3 (by decide) (by decide) hi hL) dL_law_743 ?_
  refine lv_topi (fun av4 eav4 => ?_)
  refine cx_sX9_over (ob := x) (a1 := av2) (a2 := av4) (rest := []) C1  hB hP hD hS hl.1 (Nat.le_of_ble_eq_true rfl) ⟨by omega, by omega⟩ dL_law_744 (fun an5 w6  H locs hq hB hP hD hS => ?_)
  have hP := P_perm (List.perm_append_comm_assoc w6 wm tl) hP
  have hD := D_perm (List.perm_append_comm_assoc w6 wm tl) hD
  refine lv_pop hx hb dL_law_747 rfl ?_
  refine lv_aload_n hx hb dL_law_748 rfl (lv_at hl 1 rfl) ?_
  refine lv_aload_n hx hb dL_law_749 rfl (lv_at hl 3 rfl) ?_
  refine lv_iload_n hx hb dL_law_750 rfl (lv_at hl 0 rfl) ?_
  refine lv_iconst (v := 1) hx hb dL_law_751 (by decide) ?_
  refine lv_iadd hx hb dL_law_752 ?_
  refine lv_topi (fun jv7 ejv7 => ?_)
  obtain rfl : jv1 = jv7 := ejv1.trans ejv7.symm
  refine va_sld hx hb hX hbl hbA hS (sl_in (c := 1) ejv1 (by decide) (by decide) hi hL) dL_law_753 ?_
  refine lv_topi (fun av8 eav8 => ?_)
  obtain rfl : av2 = av8 := eav2.trans eav8.symm
  refine lv_aload_n hx hb dL_law_754 rfl (lv_at hl 3 rfl) ?_
  refine lv_iload_n hx hb dL_law_755 rfl (lv_at hl 0 rfl) ?_
  refine lv_iconst (v := 2) hx hb dL_law_756 (by decide) ?_
  refine lv_iadd hx hb dL_law_757 ?_
  refine lv_topi (fun jv9 ejv9 => ?_)
  obtain rfl : jv3 = jv9 := ejv3.trans ejv9.symm
  refine va_sld hx hb hX hbl hbA hS (sl_in (c := 2) ejv3 (by decide) (by decide) hi hL) dL_law_758 ?_
  refine lv_topi (fun av10 eav10 => ?_)
  obtain rfl : av4 = av10 := eav4.trans eav10.symm
  refine cx_sX10_over (ob := q) (a1 := av2) (a2 := av4) (rest := []) C1  hM hP hD hS hl.1 (Nat.le_of_ble_eq_true rfl) ⟨by omega, by omega⟩ dL_law_759 (fun an11 w12  H locs hq2 hM hP hD hS => ?_)
  have hP := P_perm (List.perm_append_comm_assoc w12 w6 tl) hP
  have hD := D_perm (List.perm_append_comm_assoc w12 w6 tl) hD
  refine lv_pop hx hb dL_law_762 rfl ?_
  refine lv_goto (tgt := 1350) hx hb dL_law_763 (by decide) ?_
  exact K _ _ _ _ ⟨w6, w12, tl, ts, fl0, wi0, sz0, fl1, wi1, sz1, fl2, wi2, sz2, fl3, wi3, sz3, f, ta, fm, fw, fh, hB, hM, hI, ⟨r0, r1, r2, r3, r4, i0, i1, i2⟩, hP, hD, hS, hl, by omega, by omega⟩
