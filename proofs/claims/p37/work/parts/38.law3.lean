set_option maxHeartbeats 4000000 in
set_option maxRecDepth 100000 in
theorem law_18 {p : Program} {e : Env} {s : State} {m : MethodId} {below : List Frame} {meth : Method} {c : Code} {l : Launch} {b L : Nat} {xs : Nat → Int32} {A : Nat → Prop} {G : va_G} {y : Nat → ClassId} {aK aV : Nat → Nat} {H : Heap} {locs : List Loc} {cells slots : Nat} {ls : Array Slot} {Q : State → Prop} (C0 : lawC p s m meth c b L xs A G y aK aV) {x q : Nat} {i : Int32} (hi : 0 ≤ i.toInt ∧ i.toInt + 6 ≤ (L : Int)) (I : LI s b A G y x q i H locs ls cells slots) (K : ∀ H1 locs1 cells1 slots1, LI s b A G y x q i H1 locs1 ls cells1 slots1 → W p l e room_1 s m #[Value.ref b] below meth c H1 locs1 cells1 slots1 Q (F0 m 1350 ls [])) : W p l e room_1 s m #[Value.ref b] below meth c H locs cells slots Q (F0 m 766 ls []) := by
  have C1 := C0
  obtain ⟨hx, hb, hr, hml, hown, hw0, hX, hbl, hbA, hA, hAf, hlocks, hK, hE, hL⟩ := C0
  obtain ⟨w, wm, tl, ts, fl0, wi0, sz0, fl1, wi1, sz1, fl2, wi2, sz2, fl3, wi3, sz3, f, ta, fm, fw, fh, hB, hM, hI, hR, hP, hD, hS, hl, hc1, hc2⟩ := I
  obtain ⟨r0, r1, r2, r3, r4, i0, i1, i2⟩ := hR
  refine lv_aload_n hx hb dL_law_766 rfl (lv_at hl 2 rfl) ?_
  refine lv_aload_n hx hb dL_law_767 rfl (lv_at hl 3 rfl) ?_
  refine lv_iload_n hx hb dL_law_768 rfl (lv_at hl 0 rfl) ?_
  refine lv_iconst (v := 1) hx hb dL_law_769 (by decide) ?_
  refine lv_iadd hx hb dL_law_770 ?_
  refine lv_topi (fun jv1 ejv1 => ?_)
  refine va_sld hx hb hX hbl hbA hS (sl_in (c := 1) ejv1 (by decide) (by decide) hi hL) dL_law_771 ?_
  refine lv_topi (fun av2 eav2 => ?_)
  refine lv_aload_n hx hb dL_law_772 rfl (lv_at hl 3 rfl) ?_
  refine lv_iload_n hx hb dL_law_773 rfl (lv_at hl 0 rfl) ?_
  refine lv_iconst (v := 2) hx hb dL_law_774 (by decide) ?_
  refine lv_iadd hx hb dL_law_775 ?_
  refine lv_topi (fun jv3 ejv3 => ?_)
  refine va_sld hx hb hX hbl hbA hS (sl_in (c := 2) ejv3 (by decide) (by decide) hi hL) dL_law_776 ?_
  refine lv_topi (fun av4 eav4 => ?_)
  refine lv_aload_n hx hb dL_law_777 rfl (lv_at hl 3 rfl) ?_
  refine lv_iload_n hx hb dL_law_778 rfl (lv_at hl 0 rfl) ?_
  refine lv_iconst (v := 3) hx hb dL_law_779 (by decide) ?_
  refine lv_iadd hx hb dL_law_780 ?_
  refine lv_topi (fun jv5 ejv5 => ?_)
  refine va_sld hx hb hX hbl hbA hS (sl_in (c := 3) ejv5 (by decide) (by decide) hi hL) dL_law_781 ?_
  refine lv_topi (fun av6 eav6 => ?_)
  refine cx_sX9_may (ob := x) (a1 := av2) (a2 := av4) (a3 := av6) (rest := []) C1  hB hP hD hS hl.1 (Nat.le_of_ble_eq_true rfl) ⟨by omega, by omega⟩ dL_law_782 (fun an7 w8  H locs hq hB hP hD hS => ?_)
  have hP := P_perm (List.perm_append_comm_assoc w8 wm tl) hP
  have hD := D_perm (List.perm_append_comm_assoc w8 wm tl) hD
  refine lv_pop hx hb dL_law_785 rfl ?_
  refine lv_aload_n hx hb dL_law_786 rfl (lv_at hl 1 rfl) ?_
  refine lv_aload_n hx hb dL_law_787 rfl (lv_at hl 3 rfl) ?_
  refine lv_iload_n hx hb dL_law_788 rfl (lv_at hl 0 rfl) ?_
  refine lv_iconst (v := 1) hx hb dL_law_789 (by decide) ?_
  refine lv_iadd hx hb dL_law_790 ?_
  refine lv_topi (fun jv9 ejv9 => ?_)
  obtain rfl : jv1 = jv9 := ejv1.trans ejv9.symm
  refine va_sld hx hb hX hbl hbA hS (sl_in (c := 1) ejv1 (by decide) (by decide) hi hL) dL_law_791 ?_
  refine lv_topi (fun av10 eav10 => ?_)
  obtain rfl : av2 = av10 := eav2.trans eav10.symm
  refine lv_aload_n hx hb dL_law_792 rfl (lv_at hl 3 rfl) ?_
  refine lv_iload_n hx hb dL_law_793 rfl (lv_at hl 0 rfl) ?_
  refine lv_iconst (v := 2) hx hb dL_law_794 (by decide) ?_
  refine lv_iadd hx hb dL_law_795 ?_
  refine lv_topi (fun jv11 ejv11 => ?_)
  obtain rfl : jv3 = jv11 := ejv3.trans ejv11.symm
  refine va_sld hx hb hX hbl hbA hS (sl_in (c := 2) ejv3 (by decide) (by decide) hi hL) dL_law_796 ?_
  refine lv_topi (fun av12 eav12 => ?_)
  obtain rfl : av4 = av12 := eav4.trans eav12.symm
  refine lv_aload_n hx hb dL_law_797 rfl (lv_at hl 3 rfl) ?_
  refine lv_iload_n hx hb dL_law_798 rfl (lv_at hl 0 rfl) ?_
  refine lv_iconst (v := 3) hx hb dL_law_799 (by decide) ?_
  refine lv_iadd hx hb dL_law_800 ?_
  refine lv_topi (fun jv13 ejv13 => ?_)
  obtain rfl : jv5 = jv13 := ejv5.trans ejv13.symm
  refine va_sld hx hb hX hbl hbA hS (sl_in (c := 3) ejv5 (by decide) (by decide) hi hL) dL_law_801 ?_
  refine lv_topi (fun av14 eav14 => ?_)
  obtain rfl : av6 = av14 := eav6.trans eav14.symm
  refine cx_sX10_may (ob := q) (a1 := av2) (a2 := av4) (a3 := av6) (rest := []) C1  hM hP hD hS hl.1 (Nat.le_of_ble_eq_true rfl) ⟨by omega, by omega⟩ dL_law_802 (fun an15 w16  H locs hq2 hM hP hD hS => ?_)
  have hP := P_perm (List.perm_append_comm_assoc w16 w8 tl) hP
  have hD := D_perm (List.perm_append_comm_assoc w16 w8 tl) hD
  refine lv_pop hx hb dL_law_805 rfl ?_
  refine lv_goto (tgt := 1350) hx hb dL_law_806 (by decide) ?_
  exact K _ _ _ _ ⟨w8, w16, tl, ts, fl0, wi0, sz0, fl1, wi1, sz1, fl2, wi2, sz2, fl3, wi3, sz3, f, ta, fm, fw, fh, hB, hM, hI, ⟨r0, r1, r2, r3, r4, i0, i1, i2⟩, hP, hD, hS, hl, by omega, by omega⟩

set_option maxHeartbeats 4000000 in
set_option maxRecDepth 100000 in
theorem law_19 {p : Program} {e : Env} {s : State} {m : MethodId} {below : List Frame} {meth : Method} {c : Code} {l : Launch} {b L : Nat} {xs : Nat → Int32} {A : Nat → Prop} {G : va_G} {y : Nat → ClassId} {aK aV : Nat → Nat} {H : Heap} {locs : List Loc} {cells slots : Nat} {ls : Array Slot} {Q : State → Prop} (C0 : lawC p s m meth c b L xs A G y aK aV) {x q : Nat} {i : Int32} (hi : 0 ≤ i.toInt ∧ i.toInt + 6 ≤ (L : Int)) (I : LI s b A G y x q i H locs ls cells slots) (K : ∀ H1 locs1 cells1 slots1, LI s b A G y x q i H1 locs1 ls cells1 slots1 → W p l e room_1 s m #[Value.ref b] below meth c H1 locs1 cells1 slots1 Q (F0 m 1350 ls [])) : W p l e room_1 s m #[Value.ref b] below meth c H locs cells slots Q (F0 m 809 ls []) := by
  have C1 := C0
  obtain ⟨hx, hb, hr, hml, hown, hw0, hX, hbl, hbA, hA, hAf, hlocks, hK, hE, hL⟩ := C0
  obtain ⟨w, wm, tl, ts, fl0, wi0, sz0, fl1, wi1, sz1, fl2, wi2, sz2, fl3, wi3, sz3, f, ta, fm, fw, fh, hB, hM, hI, hR, hP, hD, hS, hl, hc1, hc2⟩ := I
  obtain ⟨r0, r1, r2, r3, r4, i0, i1, i2⟩ := hR
  refine lv_aload_n hx hb dL_law_809 rfl (lv_at hl 2 rfl) ?_
  refine lv_aload_n hx hb dL_law_810 rfl (lv_at hl 3 rfl) ?_
  refine lv_iload_n hx hb dL_law_811 rfl (lv_at hl 0 rfl) ?_
  refine lv_iconst (v := 1) hx hb dL_law_812 (by decide) ?_
  refine lv_iadd hx hb dL_law_813 ?_
  refine lv_topi (fun jv1 ejv1 => ?_)
  refine va_sld hx hb hX hbl hbA hS (sl_in (c := 1) ejv1 (by decide) (by decide) hi hL) dL_law_814 ?_
  refine lv_topi (fun av2 eav2 => ?_)
  refine cx_sX9_fewest (ob := x) (a1 := av2) (rest := []) C1  hB hP hD hS hl.1 (Nat.le_of_ble_eq_true rfl) ⟨by omega, by omega⟩ dL_law_815 (fun an3 w4  H locs hq hB hP hD hS => ?_)
  have hP := P_perm (List.perm_append_comm_assoc w4 wm tl) hP
  have hD := D_perm (List.perm_append_comm_assoc w4 wm tl) hD
  refine lv_pop hx hb dL_law_818 rfl ?_
  refine lv_aload_n hx hb dL_law_819 rfl (lv_at hl 1 rfl) ?_
  refine lv_aload_n hx hb dL_law_820 rfl (lv_at hl 3 rfl) ?_
  refine lv_iload_n hx hb dL_law_821 rfl (lv_at hl 0 rfl) ?_
  refine lv_iconst (v := 1) hx hb dL_law_822 (by decide) ?_
  refine lv_iadd hx hb dL_law_823 ?_
  refine lv_topi (fun jv5 ejv5 => ?_)
  obtain rfl : jv1 = jv5 := ejv1.trans ejv5.symm
  refine va_sld hx hb hX hbl hbA hS (sl_in (c := 1) ejv1 (by decide) (by decide) hi hL) dL_law_824 ?_
  refine lv_topi (fun av6 eav6 => ?_)
  obtain rfl : av2 = av6 := eav2.trans eav6.symm
  refine cx_sX10_fewest (ob := q) (a1 := av2) (rest := []) C1  hM hP hD hS hl.1 (Nat.le_of_ble_eq_true rfl) ⟨by omega, by omega⟩ dL_law_825 (fun an7 w8  H locs hq2 hM hP hD hS => ?_)
  have hP := P_perm (List.perm_append_comm_assoc w8 w4 tl) hP
  have hD := D_perm (List.perm_append_comm_assoc w8 w4 tl) hD
  refine lv_pop hx hb dL_law_828 rfl ?_
  refine lv_goto (tgt := 1350) hx hb dL_law_829 (by decide) ?_
  exact K _ _ _ _ ⟨w4, w8, tl, ts, fl0, wi0, sz0, fl1, wi1, sz1, fl2, wi2, sz2, fl3, wi3, sz3, f, ta, fm, fw, fh, hB, hM, hI, ⟨r0, r1, r2, r3, r4, i0, i1, i2⟩, hP, hD, hS, hl, by omega, by omega⟩

set_option maxHeartbeats 4000000 in
set_option maxRecDepth 100000 in
theorem law_20 {p : Program} {e : Env} {s : State} {m : MethodId} {below : List Frame} {meth : Method} {c : Code} {l : Launch} {b L : Nat} {xs : Nat → Int32} {A : Nat → Prop} {G : va_G} {y : Nat → ClassId} {aK aV : Nat → Nat} {H : Heap} {locs : List Loc} {cells slots : Nat} {ls : Array Slot} {Q : State → Prop} (C0 : lawC p s m meth c b L xs A G y aK aV) {x q : Nat} {i : Int32} (hi : 0 ≤ i.toInt ∧ i.toInt + 6 ≤ (L : Int)) (I : LI s b A G y x q i H locs ls cells slots) (K : ∀ H1 locs1 cells1 slots1, LI s b A G y x q i H1 locs1 ls cells1 slots1 → W p l e room_1 s m #[Value.ref b] below meth c H1 locs1 cells1 slots1 Q (F0 m 1350 ls [])) : W p l e room_1 s m #[Value.ref b] below meth c H locs cells slots Q (F0 m 832 ls []) := by
  have C1 := C0
  obtain ⟨hx, hb, hr, hml, hown, hw0, hX, hbl, hbA, hA, hAf, hlocks, hK, hE, hL⟩ := C0
  obtain ⟨w, wm, tl, ts, fl0, wi0, sz0, fl1, wi1, sz1, fl2, wi2, sz2, fl3, wi3, sz3, f, ta, fm, fw, fh, hB, hM, hI, hR, hP, hD, hS, hl, hc1, hc2⟩ := I
  obtain ⟨r0, r1, r2, r3, r4, i0, i1, i2⟩ := hR
  refine lv_aload_n hx hb dL_law_832 rfl (lv_at hl 2 rfl) ?_
  refine lv_aload_n hx hb dL_law_833 rfl (lv_at hl 3 rfl) ?_
  refine lv_iload_n hx hb dL_law_834 rfl (lv_at hl 0 rfl) ?_
  refine lv_iconst (v := 1) hx hb dL_law_835 (by decide) ?_
  refine lv_iadd hx hb dL_law_836 ?_
  refine lv_topi (fun jv1 ejv1 => ?_)
  refine va_sld hx hb hX hbl hbA hS (sl_in (c := 1) ejv1 (by decide) (by decide) hi hL) dL_law_837 ?_
  refine lv_topi (fun av2 eav2 => ?_)
  refine cx_sX9_lost (ob := x) (a1 := av2) (rest := []) C1  hB hP hD hS hl.1 (Nat.le_of_ble_eq_true rfl) ⟨by omega, by omega⟩ dL_law_838 (fun an3 w4  H locs hq hB hP hD hS => ?_)
  have hP := P_perm (List.perm_append_comm_assoc w4 wm tl) hP
  have hD := D_perm (List.perm_append_comm_assoc w4 wm tl) hD
  refine lv_pop hx hb dL_law_841 rfl ?_
  refine lv_aload_n hx hb dL_law_842 rfl (lv_at hl 1 rfl) ?_
  refine lv_aload_n hx hb dL_law_843 rfl (lv_at hl 3 rfl) ?_
  refine lv_iload_n hx hb dL_law_844 rfl (lv_at hl 0 rfl) ?_
  refine lv_iconst (v := 1) hx hb dL_law_845 (by decide) ?_
  refine lv_iadd hx hb dL_law_846 ?_
  refine lv_topi (fun jv5 ejv5 => ?_)
  obtain rfl : jv1 = jv5 := ejv1.trans ejv5.symm
  refine va_sld hx hb hX hbl hbA hS (sl_in (c := 1) ejv1 (by decide) (by decide) hi hL) dL_law_847 ?_
  refine lv_topi (fun av6 eav6 => ?_)
  obtain rfl : av2 = av6 := eav2.trans eav6.symm
  refine cx_sX10_lost (ob := q) (a1 := av2) (rest := []) C1  hM hP hD hS hl.1 (Nat.le_of_ble_eq_true rfl) ⟨by omega, by omega⟩ dL_law_848 (fun an7 w8  H locs hq2 hM hP hD hS => ?_)
  have hP := P_perm (List.perm_append_comm_assoc w8 w4 tl) hP
  have hD := D_perm (List.perm_append_comm_assoc w8 w4 tl) hD
  refine lv_pop hx hb dL_law_851 rfl ?_
  refine lv_goto (tgt := 1350) hx hb dL_law_852 (by decide) ?_
  exact K _ _ _ _ ⟨w4, w8, tl, ts, fl0, wi0, sz0, fl1, wi1, sz1, fl2, wi2, sz2, fl3, wi3, sz3, f, ta, fm, fw, fh, hB, hM, hI, ⟨r0, r1, r2, r3, r4, i0, i1, i2⟩, hP, hD, hS, hl, by omega, by omega⟩

set_option maxHeartbeats 4000000 in
set_option maxRecDepth 100000 in
theorem law_21 {p : Program} {e : Env} {s : State} {m : MethodId} {below : List Frame} {meth : Method} {c : Code} {l : Launch} {b L : Nat} {xs : Nat → Int32} {A : Nat → Prop} {G : va_G} {y : Nat → ClassId} {aK aV : Nat → Nat} {H : Heap} {locs : List Loc} {cells slots : Nat} {ls : Array Slot} {Q : State → Prop} (C0 : lawC p s m meth c b L xs A G y aK aV) {x q : Nat} {i : Int32} (hi : 0 ≤ i.toInt ∧ i.toInt + 6 ≤ (L : Int)) (I : LI s b A G y x q i H locs ls cells slots) (K : ∀ H1 locs1 cells1 slots1, LI s b A G y x q i H1 locs1 ls cells1 slots1 → W p l e room_1 s m #[Value.ref b] below meth c H1 locs1 cells1 slots1 Q (F0 m 1350 ls [])) : W p l e room_1 s m #[Value.ref b] below meth c H locs cells slots Q (F0 m 855 ls []) := by
  have C1 := C0
  obtain ⟨hx, hb, hr, hml, hown, hw0, hX, hbl, hbA, hA, hAf, hlocks, hK, hE, hL⟩ := C0
  obtain ⟨w, wm, tl, ts, fl0, wi0, sz0, fl1, wi1, sz1, fl2, wi2, sz2, fl3, wi3, sz3, f, ta, fm, fw, fh, hB, hM, hI, hR, hP, hD, hS, hl, hc1, hc2⟩ := I
  obtain ⟨r0, r1, r2, r3, r4, i0, i1, i2⟩ := hR
  refine lv_aload_n hx hb dL_law_855 rfl (lv_at hl 2 rfl) ?_
  refine lv_aload_n hx hb dL_law_856 rfl (lv_at hl 3 rfl) ?_
  refine lv_iload_n hx hb dL_law_857 rfl (lv_at hl 0 rfl) ?_
  refine lv_iconst (v := 1) hx hb dL_law_858 (by decide) ?_
  refine lv_iadd hx hb dL_law_859 ?_
  refine lv_topi (fun jv1 ejv1 => ?_)
  refine va_sld hx hb hX hbl hbA hS (sl_in (c := 1) ejv1 (by decide) (by decide) hi hL) dL_law_860 ?_
  refine lv_topi (fun av2 eav2 => ?_)
  refine lv_aload_n hx hb dL_law_861 rfl (lv_at hl 3 rfl) ?_
  refine lv_iload_n hx hb dL_law_862 rfl (lv_at hl 0 rfl) ?_
  refine lv_iconst (v := 2) hx hb dL_law_863 (by decide) ?_
  refine lv_iadd hx hb dL_law_864 ?_
  refine lv_topi (fun jv3 ejv3 => ?_)
  refine va_sld hx hb hX hbl hbA hS (sl_in (c := 2) ejv3 (by decide) (by decide) hi hL) dL_law_865 ?_
  refine lv_topi (fun av4 eav4 => ?_)
  refine cx_sX9_soon (ob := x) (a1 := av2) (a2 := av4) (rest := []) C1  hB hP hD hS hl.1 (Nat.le_of_ble_eq_true rfl) ⟨by omega, by omega⟩ dL_law_866 (fun an5 w6  H locs hq hB hP hD hS => ?_)
  have hP := P_perm (List.perm_append_comm_assoc w6 wm tl) hP
  have hD := D_perm (List.perm_append_comm_assoc w6 wm tl) hD
  refine lv_pop hx hb dL_law_869 rfl ?_
  refine lv_aload_n hx hb dL_law_870 rfl (lv_at hl 1 rfl) ?_
  refine lv_aload_n hx hb dL_law_871 rfl (lv_at hl 3 rfl) ?_
  refine lv_iload_n hx hb dL_law_872 rfl (lv_at hl 0 rfl) ?_
  refine lv_iconst (v := 1) hx hb dL_law_873 (by decide) ?_
  refine lv_iadd hx hb dL_law_874 ?_
  refine lv_topi (fun jv7 ejv7 => ?_)
  obtain rfl : jv1 = jv7 := ejv1.trans ejv7.symm
  refine va_sld hx hb hX hbl hbA hS (sl_in (c := 1) ejv1 (by decide) (by decide) hi hL) dL_law_875 ?_
  refine lv_topi (fun av8 eav8 => ?_)
  obtain rfl : av2 = av8 := eav2.trans eav8.symm
  refine lv_aload_n hx hb dL_law_876 rfl (lv_at hl 3 rfl) ?_
  refine lv_iload_n hx hb dL_law_877 rfl (lv_at hl 0 rfl) ?_
  refine lv_iconst (v := 2) hx hb dL_law_878 (by decide) ?_
  refine lv_iadd hx hb dL_law_879 ?_
  refine lv_topi (fun jv9 ejv9 => ?_)
  obtain rfl : jv3 = jv9 := ejv3.trans ejv9.symm
  refine va_sld hx hb hX hbl hbA hS (sl_in (c := 2) ejv3 (by decide) (by decide) hi hL) dL_law_880 ?_
  refine lv_topi (fun av10 eav10 => ?_)
  obtain rfl : av4 = av10 := eav4.trans eav10.symm
  refine cx_sX10_soon (ob := q) (a1 := av2) (a2 := av4) (rest := []) C1  hM hP hD hS hl.1 (Nat.le_of_ble_eq_true rfl) ⟨by omega, by omega⟩ dL_law_881 (fun an11 w12  H locs hq2 hM hP hD hS => ?_)
  have hP := P_perm (List.perm_append_comm_assoc w12 w6 tl) hP
  have hD := D_perm (List.perm_append_comm_assoc w12 w6 tl) hD
  refine lv_pop hx hb dL_law_884 rfl ?_
  refine lv_goto (tgt := 1350) hx hb dL_law_885 (by decide) ?_
  exact K _ _ _ _ ⟨w6, w12, tl, ts, fl0, wi0, sz0, fl1, wi1, sz1, fl2, wi2, sz2, fl3, wi3, sz3, f, ta, fm, fw, fh, hB, hM, hI, ⟨r0, r1, r2, r3, r4, i0, i1, i2⟩, hP, hD, hS, hl, by omega, by omega⟩

set_option maxHeartbeats 4000000 in
set_option maxRecDepth 100000 in
theorem law_22 {p : Program} {e : Env} {s : State} {m : MethodId} {below : List Frame} {meth : Method} {c : Code} {l : Launch} {b L : Nat} {xs : Nat → Int32} {A : Nat → Prop} {G : va_G} {y : Nat → ClassId} {aK aV : Nat → Nat} {H : Heap} {locs : List Loc} {cells slots : Nat} {ls : Array Slot} {Q : State → Prop} (C0 : lawC p s m meth c b L xs A G y aK aV) {x q : Nat} {i : Int32} (hi : 0 ≤ i.toInt ∧ i.toInt + 6 ≤ (L : Int)) (I : LI s b A G y x q i H locs ls cells slots) (K : ∀ H1 locs1 cells1 slots1, LI s b A G y x q i H1 locs1 ls cells1 slots1 → W p l e room_1 s m #[Value.ref b] below meth c H1 locs1 cells1 slots1 Q (F0 m 1350 ls [])) : W p l e room_1 s m #[Value.ref b] below meth c H locs cells slots Q (F0 m 888 ls []) := by
  have C1 := C0
  obtain ⟨hx, hb, hr, hml, hown, hw0, hX, hbl, hbA, hA, hAf, hlocks, hK, hE, hL⟩ := C0
  obtain ⟨w, wm, tl, ts, fl0, wi0, sz0, fl1, wi1, sz1, fl2, wi2, sz2, fl3, wi3, sz3, f, ta, fm, fw, fh, hB, hM, hI, hR, hP, hD, hS, hl, hc1, hc2⟩ := I
  obtain ⟨r0, r1, r2, r3, r4, i0, i1, i2⟩ := hR
  refine lv_aload_n hx hb dL_law_888 rfl (lv_at hl 2 rfl) ?_
  refine lv_aload_n hx hb dL_law_889 rfl (lv_at hl 3 rfl) ?_
  refine lv_iload_n hx hb dL_law_890 rfl (lv_at hl 0 rfl) ?_
  refine lv_iconst (v := 1) hx hb dL_law_891 (by decide) ?_
  refine lv_iadd hx hb dL_law_892 ?_
  refine lv_topi (fun jv1 ejv1 => ?_)
  refine va_sld hx hb hX hbl hbA hS (sl_in (c := 1) ejv1 (by decide) (by decide) hi hL) dL_law_893 ?_
  refine lv_topi (fun av2 eav2 => ?_)
  refine lv_aload_n hx hb dL_law_894 rfl (lv_at hl 3 rfl) ?_
  refine lv_iload_n hx hb dL_law_895 rfl (lv_at hl 0 rfl) ?_
  refine lv_iconst (v := 2) hx hb dL_law_896 (by decide) ?_
  refine lv_iadd hx hb dL_law_897 ?_
  refine lv_topi (fun jv3 ejv3 => ?_)
  refine va_sld hx hb hX hbl hbA hS (sl_in (c := 2) ejv3 (by decide) (by decide) hi hL) dL_law_898 ?_
  refine lv_topi (fun av4 eav4 => ?_)
  refine lv_aload_n hx hb dL_law_899 rfl (lv_at hl 3 rfl) ?_
  refine lv_iload_n hx hb dL_law_900 rfl (lv_at hl 0 rfl) ?_
  refine lv_iconst (v := 3) hx hb dL_law_901 (by decide) ?_
  refine lv_iadd hx hb dL_law_902 ?_
  refine lv_topi (fun jv5 ejv5 => ?_)
  refine va_sld hx hb hX hbl hbA hS (sl_in (c := 3) ejv5 (by decide) (by decide) hi hL) dL_law_903 ?_
  refine lv_topi (fun av6 eav6 => ?_)
  refine cx_sX9_path (ob := x) (a1 := av2) (a2 := av4) (a3 := av6) (rest := []) C1  hB hP hD hS hl.1 (Nat.le_of_ble_eq_true rfl) ⟨by omega, by omega⟩ dL_law_904 (fun an7 w8  H locs hq hB hP hD hS => ?_)
  have hP := P_perm (List.perm_append_comm_assoc w8 wm tl) hP
  have hD := D_perm (List.perm_append_comm_assoc w8 wm tl) hD
  refine lv_pop hx hb dL_law_907 rfl ?_
  refine lv_aload_n hx hb dL_law_908 rfl (lv_at hl 1 rfl) ?_
  refine lv_aload_n hx hb dL_law_909 rfl (lv_at hl 3 rfl) ?_
  refine lv_iload_n hx hb dL_law_910 rfl (lv_at hl 0 rfl) ?_
  refine lv_iconst (v := 1) hx hb dL_law_911 (by decide) ?_
  refine lv_iadd hx hb dL_law_912 ?_
  refine lv_topi (fun jv9 ejv9 => ?_)
  obtain rfl : jv1 = jv9 := ejv1.trans ejv9.symm
  refine va_sld hx hb hX hbl hbA hS (sl_in (c := 1) ejv1 (by decide) (by decide) hi hL) dL_law_913 ?_
  refine lv_topi (fun av10 eav10 => ?_)
  obtain rfl : av2 = av10 := eav2.trans eav10.symm
  refine lv_aload_n hx hb dL_law_914 rfl (lv_at hl 3 rfl) ?_
  refine lv_iload_n hx hb dL_law_915 rfl (lv_at hl 0 rfl) ?_
  refine lv_iconst (v := 2) hx hb dL_law_916 (by decide) ?_
  refine lv_iadd hx hb dL_law_917 ?_
  refine lv_topi (fun jv11 ejv11 => ?_)
  obtain rfl : jv3 = jv11 := ejv3.trans ejv11.symm
  refine va_sld hx hb hX hbl hbA hS (sl_in (c := 2) ejv3 (by decide) (by decide) hi hL) dL_law_918 ?_
  refine lv_topi (fun av12 eav12 => ?_)
  obtain rfl : av4 = av12 := eav4.trans eav12.symm
  refine lv_aload_n hx hb dL_law_919 rfl (lv_at hl 3 rfl) ?_
  refine lv_iload_n hx hb dL_law_920 rfl (lv_at hl 0 rfl) ?_
  refine lv_iconst (v := 3) hx hb dL_law_921 (by decide) ?_
  refine lv_iadd hx hb dL_law_922 ?_
  refine lv_topi (fun jv13 ejv13 => ?_)
  obtain rfl : jv5 = jv13 := ejv5.trans ejv13.symm
  refine va_sld hx hb hX hbl hbA hS (sl_in (c := 3) ejv5 (by decide) (by decide) hi hL) dL_law_923 ?_
  refine lv_topi (fun av14 eav14 => ?_)
  obtain rfl : av6 = av14 := eav6.trans eav14.symm
  refine cx_sX10_path (ob := q) (a1 := av2) (a2 := av4) (a3 := av6) (rest := []) C1  hM hP hD hS hl.1 (Nat.le_of_ble_eq_true rfl) ⟨by omega, by omega⟩ dL_law_924 (fun an15 w16  H locs hq2 hM hP hD hS => ?_)
  have hP := P_perm (List.perm_append_comm_assoc w16 w8 tl) hP
  have hD := D_perm (List.perm_append_comm_assoc w16 w8 tl) hD
  refine lv_pop hx hb dL_law_927 rfl ?_
  refine lv_goto (tgt := 1350) hx hb dL_law_928 (by decide) ?_
  exact K _ _ _ _ ⟨w8, w16, tl, ts, fl0, wi0, sz0, fl1, wi1, sz1, fl2, wi2, sz2, fl3, wi3, sz3, f, ta, fm, fw, fh, hB, hM, hI, ⟨r0, r1, r2, r3, r4, i0, i1, i2⟩, hP, hD, hS, hl, by omega, by omega⟩

set_option maxHeartbeats 4000000 in
set_option maxRecDepth 100000 in
theorem law_23 {p : Program} {e : Env} {s : State} {m : MethodId} {below : List Frame} {meth : Method} {c : Code} {l : Launch} {b L : Nat} {xs : Nat → Int32} {A : Nat → Prop} {G : va_G} {y : Nat → ClassId} {aK aV : Nat → Nat} {H : Heap} {locs : List Loc} {cells slots : Nat} {ls : Array Slot} {Q : State → Prop} (C0 : lawC p s m meth c b L xs A G y aK aV) {x q : Nat} {i : Int32} (hi : 0 ≤ i.toInt ∧ i.toInt + 6 ≤ (L : Int)) (I : LI s b A G y x q i H locs ls cells slots) (K : ∀ H1 locs1 cells1 slots1, LI s b A G y x q i H1 locs1 ls cells1 slots1 → W p l e room_1 s m #[Value.ref b] below meth c H1 locs1 cells1 slots1 Q (F0 m 1350 ls [])) : W p l e room_1 s m #[Value.ref b] below meth c H locs cells slots Q (F0 m 931 ls []) := by
  have C1 := C0
  obtain ⟨hx, hb, hr, hml, hown, hw0, hX, hbl, hbA, hA, hAf, hlocks, hK, hE, hL⟩ := C0
  obtain ⟨w, wm, tl, ts, fl0, wi0, sz0, fl1, wi1, sz1, fl2, wi2, sz2, fl3, wi3, sz3, f, ta, fm, fw, fh, hB, hM, hI, hR, hP, hD, hS, hl, hc1, hc2⟩ := I
  obtain ⟨r0, r1, r2, r3, r4, i0, i1, i2⟩ := hR
  refine lv_aload_n hx hb dL_law_931 rfl (lv_at hl 2 rfl) ?_
  refine lv_aload_n hx hb dL_law_932 rfl (lv_at hl 3 rfl) ?_
  refine lv_iload_n hx hb dL_law_933 rfl (lv_at hl 0 rfl) ?_
  refine lv_iconst (v := 1) hx hb dL_law_934 (by decide) ?_
  refine lv_iadd hx hb dL_law_935 ?_
  refine lv_topi (fun jv1 ejv1 => ?_)
  refine va_sld hx hb hX hbl hbA hS (sl_in (c := 1) ejv1 (by decide) (by decide) hi hL) dL_law_936 ?_
  refine lv_topi (fun av2 eav2 => ?_)
  refine cx_sX9_reach (ob := x) (a1 := av2) (rest := []) C1  hB hP hD hS hl.1 (Nat.le_of_ble_eq_true rfl) ⟨by omega, by omega⟩ dL_law_937 (fun an3 w4  H locs hq hB hP hD hS => ?_)
  have hP := P_perm (List.perm_append_comm_assoc w4 wm tl) hP
  have hD := D_perm (List.perm_append_comm_assoc w4 wm tl) hD
  refine lv_pop hx hb dL_law_940 rfl ?_
  refine lv_aload_n hx hb dL_law_941 rfl (lv_at hl 1 rfl) ?_
  refine lv_aload_n hx hb dL_law_942 rfl (lv_at hl 3 rfl) ?_
  refine lv_iload_n hx hb dL_law_943 rfl (lv_at hl 0 rfl) ?_
  refine lv_iconst (v := 1) hx hb dL_law_944 (by decide) ?_
  refine lv_iadd hx hb dL_law_945 ?_
  refine lv_topi (fun jv5 ejv5 => ?_)
  obtain rfl : jv1 = jv5 := ejv1.trans ejv5.symm
  refine va_sld hx hb hX hbl hbA hS (sl_in (c := 1) ejv1 (by decide) (by decide) hi hL) dL_law_946 ?_
  refine lv_topi (fun av6 eav6 => ?_)
  obtain rfl : av2 = av6 := eav2.trans eav6.symm
  refine cx_sX10_reach (ob := q) (a1 := av2) (rest := []) C1  hM hP hD hS hl.1 (Nat.le_of_ble_eq_true rfl) ⟨by omega, by omega⟩ dL_law_947 (fun an7 w8  H locs hq2 hM hP hD hS => ?_)
  have hP := P_perm (List.perm_append_comm_assoc w8 w4 tl) hP
  have hD := D_perm (List.perm_append_comm_assoc w8 w4 tl) hD
  refine lv_pop hx hb dL_law_950 rfl ?_
  refine lv_goto (tgt := 1350) hx hb dL_law_951 (by decide) ?_
  exact K _ _ _ _ ⟨w4, w8, tl, ts, fl0, wi0, sz0, fl1, wi1, sz1, fl2, wi2, sz2, fl3, wi3, sz3, f, ta, fm, fw, fh, hB, hM, hI, ⟨r0, r1, r2, r3, r4, i0, i1, i2⟩, hP, hD, hS, hl, by omega, by omega⟩
