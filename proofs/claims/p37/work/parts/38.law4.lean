set_option maxHeartbeats 4000000 in
set_option maxRecDepth 100000 in
theorem law_24 {p : Program} {e : Env} {s : State} {m : MethodId} {below : List Frame} {meth : Method} {c : Code} {l : Launch} {b L : Nat} {xs : Nat → Int32} {A : Nat → Prop} {G : va_G} {y : Nat → ClassId} {aK aV : Nat → Nat} {H : Heap} {locs : List Loc} {cells slots : Nat} {ls : Array Slot} {Q : State → Prop} (C0 : lawC p s m meth c b L xs A G y aK aV) {x q : Nat} {i : Int32} (hi : 0 ≤ i.toInt ∧ i.toInt + 6 ≤ (L : Int)) (I : LI s b A G y x q i H locs ls cells slots) (K : ∀ H1 locs1 cells1 slots1, LI s b A G y x q i H1 locs1 ls cells1 slots1 → W p l e room_1 s m #[Value.ref b] below meth c H1 locs1 cells1 slots1 Q (F0 m 1350 ls [])) : W p l e room_1 s m #[Value.ref b] below meth c H locs cells slots Q (F0 m 954 ls []) := by
  have C1 := C0
  obtain ⟨hx, hb, hr, hml, hown, hw0, hX, hbl, hbA, hA, hAf, hlocks, hK, hE, hL⟩ := C0
  obtain ⟨w, wm, tl, ts, fl0, wi0, sz0, fl1, wi1, sz1, fl2, wi2, sz2, fl3, wi3, sz3, f, ta, fm, fw, fh, hB, hM, hI, hR, hP, hD, hS, hl, hc1, hc2⟩ := I
  obtain ⟨r0, r1, r2, r3, r4, i0, i1, i2⟩ := hR
  refine lv_aload_n hx hb dL_law_954 rfl (lv_at hl 2 rfl) ?_
  refine lv_aload_n hx hb dL_law_955 rfl (lv_at hl 3 rfl) ?_
  refine lv_iload_n hx hb dL_law_956 rfl (lv_at hl 0 rfl) ?_
  refine lv_iconst (v := 1) hx hb dL_law_957 (by decide) ?_
  refine lv_iadd hx hb dL_law_958 ?_
  refine lv_topi (fun jv1 ejv1 => ?_)
  refine va_sld hx hb hX hbl hbA hS (sl_in (c := 1) ejv1 (by decide) (by decide) hi hL) dL_law_959 ?_
  refine lv_topi (fun av2 eav2 => ?_)
  refine cx_sX9_drop (ob := x) (a1 := av2) (rest := []) C1  hB hP hD hS hl.1 (Nat.le_of_ble_eq_true rfl) ⟨by omega, by omega⟩ dL_law_960 (fun an3 w4  H locs hq hB hP hD hS => ?_)
  have hP := P_perm (List.perm_append_comm_assoc w4 wm tl) hP
  have hD := D_perm (List.perm_append_comm_assoc w4 wm tl) hD
  refine lv_pop hx hb dL_law_963 rfl ?_
  refine lv_aload_n hx hb dL_law_964 rfl (lv_at hl 1 rfl) ?_
  refine lv_aload_n hx hb dL_law_965 rfl (lv_at hl 3 rfl) ?_
  refine lv_iload_n hx hb dL_law_966 rfl (lv_at hl 0 rfl) ?_
  refine lv_iconst (v := 1) hx hb dL_law_967 (by decide) ?_
  refine lv_iadd hx hb dL_law_968 ?_
  refine lv_topi (fun jv5 ejv5 => ?_)
  obtain rfl : jv1 = jv5 := ejv1.trans ejv5.symm
  refine va_sld hx hb hX hbl hbA hS (sl_in (c := 1) ejv1 (by decide) (by decide) hi hL) dL_law_969 ?_
  refine lv_topi (fun av6 eav6 => ?_)
  obtain rfl : av2 = av6 := eav2.trans eav6.symm
  refine cx_sX10_drop (ob := q) (a1 := av2) (rest := []) C1  hM hP hD hS hl.1 (Nat.le_of_ble_eq_true rfl) ⟨by omega, by omega⟩ dL_law_970 (fun an7 w8  H locs hq2 hM hP hD hS => ?_)
  have hP := P_perm (List.perm_append_comm_assoc w8 w4 tl) hP
  have hD := D_perm (List.perm_append_comm_assoc w8 w4 tl) hD
  refine lv_pop hx hb dL_law_973 rfl ?_
  refine lv_goto (tgt := 1350) hx hb dL_law_974 (by decide) ?_
  exact K _ _ _ _ ⟨w4, w8, tl, ts, fl0, wi0, sz0, fl1, wi1, sz1, fl2, wi2, sz2, fl3, wi3, sz3, f, ta, fm, fw, fh, hB, hM, hI, ⟨r0, r1, r2, r3, r4, i0, i1, i2⟩, hP, hD, hS, hl, by omega, by omega⟩

set_option maxHeartbeats 4000000 in
set_option maxRecDepth 100000 in
theorem law_25 {p : Program} {e : Env} {s : State} {m : MethodId} {below : List Frame} {meth : Method} {c : Code} {l : Launch} {b L : Nat} {xs : Nat → Int32} {A : Nat → Prop} {G : va_G} {y : Nat → ClassId} {aK aV : Nat → Nat} {H : Heap} {locs : List Loc} {cells slots : Nat} {ls : Array Slot} {Q : State → Prop} (C0 : lawC p s m meth c b L xs A G y aK aV) {x q : Nat} {i : Int32} (hi : 0 ≤ i.toInt ∧ i.toInt + 6 ≤ (L : Int)) (I : LI s b A G y x q i H locs ls cells slots) (K : ∀ H1 locs1 cells1 slots1, LI s b A G y x q i H1 locs1 ls cells1 slots1 → W p l e room_1 s m #[Value.ref b] below meth c H1 locs1 cells1 slots1 Q (F0 m 1350 ls [])) : W p l e room_1 s m #[Value.ref b] below meth c H locs cells slots Q (F0 m 977 ls []) := by
  have C1 := C0
  obtain ⟨hx, hb, hr, hml, hown, hw0, hX, hbl, hbA, hA, hAf, hlocks, hK, hE, hL⟩ := C0
  obtain ⟨w, wm, tl, ts, fl0, wi0, sz0, fl1, wi1, sz1, fl2, wi2, sz2, fl3, wi3, sz3, f, ta, fm, fw, fh, hB, hM, hI, hR, hP, hD, hS, hl, hc1, hc2⟩ := I
  obtain ⟨r0, r1, r2, r3, r4, i0, i1, i2⟩ := hR
  refine lv_aload_n hx hb dL_law_977 rfl (lv_at hl 2 rfl) ?_
  refine lv_aload_n hx hb dL_law_978 rfl (lv_at hl 3 rfl) ?_
  refine lv_iload_n hx hb dL_law_979 rfl (lv_at hl 0 rfl) ?_
  refine lv_iconst (v := 1) hx hb dL_law_980 (by decide) ?_
  refine lv_iadd hx hb dL_law_981 ?_
  refine lv_topi (fun jv1 ejv1 => ?_)
  refine va_sld hx hb hX hbl hbA hS (sl_in (c := 1) ejv1 (by decide) (by decide) hi hL) dL_law_982 ?_
  refine lv_topi (fun av2 eav2 => ?_)
  refine lv_aload_n hx hb dL_law_983 rfl (lv_at hl 3 rfl) ?_
  refine lv_iload_n hx hb dL_law_984 rfl (lv_at hl 0 rfl) ?_
  refine lv_iconst (v := 2) hx hb dL_law_985 (by decide) ?_
  refine lv_iadd hx hb dL_law_986 ?_
  refine lv_topi (fun jv3 ejv3 => ?_)
  refine va_sld hx hb hX hbl hbA hS (sl_in (c := 2) ejv3 (by decide) (by decide) hi hL) dL_law_987 ?_
  refine lv_topi (fun av4 eav4 => ?_)
  refine cx_sX9_tie (ob := x) (a1 := av2) (a2 := av4) (rest := []) C1  hB hP hD hS hl.1 (Nat.le_of_ble_eq_true rfl) ⟨by omega, by omega⟩ dL_law_988 (fun an5 w6  H locs hq hB hP hD hS => ?_)
  have hP := P_perm (List.perm_append_comm_assoc w6 wm tl) hP
  have hD := D_perm (List.perm_append_comm_assoc w6 wm tl) hD
  refine lv_pop hx hb dL_law_991 rfl ?_
  refine lv_aload_n hx hb dL_law_992 rfl (lv_at hl 1 rfl) ?_
  refine lv_aload_n hx hb dL_law_993 rfl (lv_at hl 3 rfl) ?_
  refine lv_iload_n hx hb dL_law_994 rfl (lv_at hl 0 rfl) ?_
  refine lv_iconst (v := 1) hx hb dL_law_995 (by decide) ?_
  refine lv_iadd hx hb dL_law_996 ?_
  refine lv_topi (fun jv7 ejv7 => ?_)
  obtain rfl : jv1 = jv7 := ejv1.trans ejv7.symm
  refine va_sld hx hb hX hbl hbA hS (sl_in (c := 1) ejv1 (by decide) (by decide) hi hL) dL_law_997 ?_
  refine lv_topi (fun av8 eav8 => ?_)
  obtain rfl : av2 = av8 := eav2.trans eav8.symm
  refine lv_aload_n hx hb dL_law_998 rfl (lv_at hl 3 rfl) ?_
  refine lv_iload_n hx hb dL_law_999 rfl (lv_at hl 0 rfl) ?_
  refine lv_iconst (v := 2) hx hb dL_law_1000 (by decide) ?_
  refine lv_iadd hx hb dL_law_1001 ?_
  refine lv_topi (fun jv9 ejv9 => ?_)
  obtain rfl : jv3 = jv9 := ejv3.trans ejv9.symm
  refine va_sld hx hb hX hbl hbA hS (sl_in (c := 2) ejv3 (by decide) (by decide) hi hL) dL_law_1002 ?_
  refine lv_topi (fun av10 eav10 => ?_)
  obtain rfl : av4 = av10 := eav4.trans eav10.symm
  refine cx_sX10_tie (ob := q) (a1 := av2) (a2 := av4) (rest := []) C1  hM hP hD hS hl.1 (Nat.le_of_ble_eq_true rfl) ⟨by omega, by omega⟩ dL_law_1003 (fun an11 w12  H locs hq2 hM hP hD hS => ?_)
  have hP := P_perm (List.perm_append_comm_assoc w12 w6 tl) hP
  have hD := D_perm (List.perm_append_comm_assoc w12 w6 tl) hD
  refine lv_pop hx hb dL_law_1006 rfl ?_
  refine lv_goto (tgt := 1350) hx hb dL_law_1007 (by decide) ?_
  exact K _ _ _ _ ⟨w6, w12, tl, ts, fl0, wi0, sz0, fl1, wi1, sz1, fl2, wi2, sz2, fl3, wi3, sz3, f, ta, fm, fw, fh, hB, hM, hI, ⟨r0, r1, r2, r3, r4, i0, i1, i2⟩, hP, hD, hS, hl, by omega, by omega⟩

set_option maxHeartbeats 4000000 in
set_option maxRecDepth 100000 in
theorem law_26 {p : Program} {e : Env} {s : State} {m : MethodId} {below : List Frame} {meth : Method} {c : Code} {l : Launch} {b L : Nat} {xs : Nat → Int32} {A : Nat → Prop} {G : va_G} {y : Nat → ClassId} {aK aV : Nat → Nat} {H : Heap} {locs : List Loc} {cells slots : Nat} {ls : Array Slot} {Q : State → Prop} (C0 : lawC p s m meth c b L xs A G y aK aV) {x q : Nat} {i : Int32} (hi : 0 ≤ i.toInt ∧ i.toInt + 6 ≤ (L : Int)) (I : LI s b A G y x q i H locs ls cells slots) (K : ∀ H1 locs1 cells1 slots1, LI s b A G y x q i H1 locs1 ls cells1 slots1 → W p l e room_1 s m #[Value.ref b] below meth c H1 locs1 cells1 slots1 Q (F0 m 1350 ls [])) : W p l e room_1 s m #[Value.ref b] below meth c H locs cells slots Q (F0 m 1010 ls []) := by
  have C1 := C0
  obtain ⟨hx, hb, hr, hml, hown, hw0, hX, hbl, hbA, hA, hAf, hlocks, hK, hE, hL⟩ := C0
  obtain ⟨w, wm, tl, ts, fl0, wi0, sz0, fl1, wi1, sz1, fl2, wi2, sz2, fl3, wi3, sz3, f, ta, fm, fw, fh, hB, hM, hI, hR, hP, hD, hS, hl, hc1, hc2⟩ := I
  obtain ⟨r0, r1, r2, r3, r4, i0, i1, i2⟩ := hR
  refine lv_aload_n hx hb dL_law_1010 rfl (lv_at hl 2 rfl) ?_
  refine cx_sX9_rings (ob := x)  (rest := []) C1  hB hP hD hS hl.1 (Nat.le_of_ble_eq_true rfl) ⟨by omega, by omega⟩ dL_law_1011 (fun an1 w2  H locs hq hB hP hD hS => ?_)
  have hP := P_perm (List.perm_append_comm_assoc w2 wm tl) hP
  have hD := D_perm (List.perm_append_comm_assoc w2 wm tl) hD
  refine lv_pop hx hb dL_law_1014 rfl ?_
  refine lv_aload_n hx hb dL_law_1015 rfl (lv_at hl 1 rfl) ?_
  refine cx_sX10_rings (ob := q)  (rest := []) C1  hM hP hD hS hl.1 (Nat.le_of_ble_eq_true rfl) ⟨by omega, by omega⟩ dL_law_1016 (fun an3 w4  H locs hq2 hM hP hD hS => ?_)
  have hP := P_perm (List.perm_append_comm_assoc w4 w2 tl) hP
  have hD := D_perm (List.perm_append_comm_assoc w4 w2 tl) hD
  refine lv_pop hx hb dL_law_1019 rfl ?_
  refine lv_goto (tgt := 1350) hx hb dL_law_1020 (by decide) ?_
  exact K _ _ _ _ ⟨w2, w4, tl, ts, fl0, wi0, sz0, fl1, wi1, sz1, fl2, wi2, sz2, fl3, wi3, sz3, f, ta, fm, fw, fh, hB, hM, hI, ⟨r0, r1, r2, r3, r4, i0, i1, i2⟩, hP, hD, hS, hl, by omega, by omega⟩

set_option maxHeartbeats 4000000 in
set_option maxRecDepth 100000 in
theorem law_27 {p : Program} {e : Env} {s : State} {m : MethodId} {below : List Frame} {meth : Method} {c : Code} {l : Launch} {b L : Nat} {xs : Nat → Int32} {A : Nat → Prop} {G : va_G} {y : Nat → ClassId} {aK aV : Nat → Nat} {H : Heap} {locs : List Loc} {cells slots : Nat} {ls : Array Slot} {Q : State → Prop} (C0 : lawC p s m meth c b L xs A G y aK aV) {x q : Nat} {i : Int32} (hi : 0 ≤ i.toInt ∧ i.toInt + 6 ≤ (L : Int)) (I : LI s b A G y x q i H locs ls cells slots) (K : ∀ H1 locs1 cells1 slots1, LI s b A G y x q i H1 locs1 ls cells1 slots1 → W p l e room_1 s m #[Value.ref b] below meth c H1 locs1 cells1 slots1 Q (F0 m 1350 ls [])) : W p l e room_1 s m #[Value.ref b] below meth c H locs cells slots Q (F0 m 1023 ls []) := by
  have C1 := C0
  obtain ⟨hx, hb, hr, hml, hown, hw0, hX, hbl, hbA, hA, hAf, hlocks, hK, hE, hL⟩ := C0
  obtain ⟨w, wm, tl, ts, fl0, wi0, sz0, fl1, wi1, sz1, fl2, wi2, sz2, fl3, wi3, sz3, f, ta, fm, fw, fh, hB, hM, hI, hR, hP, hD, hS, hl, hc1, hc2⟩ := I
  obtain ⟨r0, r1, r2, r3, r4, i0, i1, i2⟩ := hR
  refine lv_aload_n hx hb dL_law_1023 rfl (lv_at hl 2 rfl) ?_
  refine lv_aload_n hx hb dL_law_1024 rfl (lv_at hl 3 rfl) ?_
  refine lv_iload_n hx hb dL_law_1025 rfl (lv_at hl 0 rfl) ?_
  refine lv_iconst (v := 1) hx hb dL_law_1026 (by decide) ?_
  refine lv_iadd hx hb dL_law_1027 ?_
  refine lv_topi (fun jv1 ejv1 => ?_)
  refine va_sld hx hb hX hbl hbA hS (sl_in (c := 1) ejv1 (by decide) (by decide) hi hL) dL_law_1028 ?_
  refine lv_topi (fun av2 eav2 => ?_)
  refine cx_sX9_ring (ob := x) (a1 := av2) (rest := []) C1  hB hP hD hS hl.1 (Nat.le_of_ble_eq_true rfl) ⟨by omega, by omega⟩ dL_law_1029 (fun an3 w4  H locs hq hB hP hD hS => ?_)
  have hP := P_perm (List.perm_append_comm_assoc w4 wm tl) hP
  have hD := D_perm (List.perm_append_comm_assoc w4 wm tl) hD
  refine lv_pop hx hb dL_law_1032 rfl ?_
  refine lv_aload_n hx hb dL_law_1033 rfl (lv_at hl 1 rfl) ?_
  refine lv_aload_n hx hb dL_law_1034 rfl (lv_at hl 3 rfl) ?_
  refine lv_iload_n hx hb dL_law_1035 rfl (lv_at hl 0 rfl) ?_
  refine lv_iconst (v := 1) hx hb dL_law_1036 (by decide) ?_
  refine lv_iadd hx hb dL_law_1037 ?_
  refine lv_topi (fun jv5 ejv5 => ?_)
  obtain rfl : jv1 = jv5 := ejv1.trans ejv5.symm
  refine va_sld hx hb hX hbl hbA hS (sl_in (c := 1) ejv1 (by decide) (by decide) hi hL) dL_law_1038 ?_
  refine lv_topi (fun av6 eav6 => ?_)
  obtain rfl : av2 = av6 := eav2.trans eav6.symm
  refine cx_sX10_ring (ob := q) (a1 := av2) (rest := []) C1  hM hP hD hS hl.1 (Nat.le_of_ble_eq_true rfl) ⟨by omega, by omega⟩ dL_law_1039 (fun an7 w8  H locs hq2 hM hP hD hS => ?_)
  have hP := P_perm (List.perm_append_comm_assoc w8 w4 tl) hP
  have hD := D_perm (List.perm_append_comm_assoc w8 w4 tl) hD
  refine lv_pop hx hb dL_law_1042 rfl ?_
  refine lv_goto (tgt := 1350) hx hb dL_law_1043 (by decide) ?_
  exact K _ _ _ _ ⟨w4, w8, tl, ts, fl0, wi0, sz0, fl1, wi1, sz1, fl2, wi2, sz2, fl3, wi3, sz3, f, ta, fm, fw, fh, hB, hM, hI, ⟨r0, r1, r2, r3, r4, i0, i1, i2⟩, hP, hD, hS, hl, by omega, by omega⟩

set_option maxHeartbeats 4000000 in
set_option maxRecDepth 100000 in
theorem law_28 {p : Program} {e : Env} {s : State} {m : MethodId} {below : List Frame} {meth : Method} {c : Code} {l : Launch} {b L : Nat} {xs : Nat → Int32} {A : Nat → Prop} {G : va_G} {y : Nat → ClassId} {aK aV : Nat → Nat} {H : Heap} {locs : List Loc} {cells slots : Nat} {ls : Array Slot} {Q : State → Prop} (C0 : lawC p s m meth c b L xs A G y aK aV) {x q : Nat} {i : Int32} (hi : 0 ≤ i.toInt ∧ i.toInt + 6 ≤ (L : Int)) (I : LI s b A G y x q i H locs ls cells slots) (K : ∀ H1 locs1 cells1 slots1, LI s b A G y x q i H1 locs1 ls cells1 slots1 → W p l e room_1 s m #[Value.ref b] below meth c H1 locs1 cells1 slots1 Q (F0 m 1350 ls [])) : W p l e room_1 s m #[Value.ref b] below meth c H locs cells slots Q (F0 m 1046 ls []) := by
  have C1 := C0
  obtain ⟨hx, hb, hr, hml, hown, hw0, hX, hbl, hbA, hA, hAf, hlocks, hK, hE, hL⟩ := C0
  obtain ⟨w, wm, tl, ts, fl0, wi0, sz0, fl1, wi1, sz1, fl2, wi2, sz2, fl3, wi3, sz3, f, ta, fm, fw, fh, hB, hM, hI, hR, hP, hD, hS, hl, hc1, hc2⟩ := I
  obtain ⟨r0, r1, r2, r3, r4, i0, i1, i2⟩ := hR
  refine lv_aload_n hx hb dL_law_1046 rfl (lv_at hl 2 rfl) ?_
  refine lv_aload_n hx hb dL_law_1047 rfl (lv_at hl 3 rfl) ?_
  refine lv_iload_n hx hb dL_law_1048 rfl (lv_at hl 0 rfl) ?_
  refine lv_iconst (v := 1) hx hb dL_law_1049 (by decide) ?_
  refine lv_iadd hx hb dL_law_1050 ?_
  refine lv_topi (fun jv1 ejv1 => ?_)
  refine va_sld hx hb hX hbl hbA hS (sl_in (c := 1) ejv1 (by decide) (by decide) hi hL) dL_law_1051 ?_
  refine lv_topi (fun av2 eav2 => ?_)
  refine lv_aload_n hx hb dL_law_1052 rfl (lv_at hl 3 rfl) ?_
  refine lv_iload_n hx hb dL_law_1053 rfl (lv_at hl 0 rfl) ?_
  refine lv_iconst (v := 2) hx hb dL_law_1054 (by decide) ?_
  refine lv_iadd hx hb dL_law_1055 ?_
  refine lv_topi (fun jv3 ejv3 => ?_)
  refine va_sld hx hb hX hbl hbA hS (sl_in (c := 2) ejv3 (by decide) (by decide) hi hL) dL_law_1056 ?_
  refine lv_topi (fun av4 eav4 => ?_)
  refine cx_sX9_house (ob := x) (a1 := av2) (a2 := av4) (rest := []) C1  hB hP hD hS hl.1 (Nat.le_of_ble_eq_true rfl) ⟨by omega, by omega⟩ dL_law_1057 (fun an5 w6  H locs hq hB hP hD hS => ?_)
  have hP := P_perm (List.perm_append_comm_assoc w6 wm tl) hP
  have hD := D_perm (List.perm_append_comm_assoc w6 wm tl) hD
  refine lv_pop hx hb dL_law_1060 rfl ?_
  refine lv_aload_n hx hb dL_law_1061 rfl (lv_at hl 1 rfl) ?_
  refine lv_aload_n hx hb dL_law_1062 rfl (lv_at hl 3 rfl) ?_
  refine lv_iload_n hx hb dL_law_1063 rfl (lv_at hl 0 rfl) ?_
  refine lv_iconst (v := 1) hx hb dL_law_1064 (by decide) ?_
  refine lv_iadd hx hb dL_law_1065 ?_
  refine lv_topi (fun jv7 ejv7 => ?_)
  obtain rfl : jv1 = jv7 := ejv1.trans ejv7.symm
  refine va_sld hx hb hX hbl hbA hS (sl_in (c := 1) ejv1 (by decide) (by decide) hi hL) dL_law_1066 ?_
  refine lv_topi (fun av8 eav8 => ?_)
  obtain rfl : av2 = av8 := eav2.trans eav8.symm
  refine lv_aload_n hx hb dL_law_1067 rfl (lv_at hl 3 rfl) ?_
  refine lv_iload_n hx hb dL_law_1068 rfl (lv_at hl 0 rfl) ?_
  refine lv_iconst (v := 2) hx hb dL_law_1069 (by decide) ?_
  refine lv_iadd hx hb dL_law_1070 ?_
  refine lv_topi (fun jv9 ejv9 => ?_)
  obtain rfl : jv3 = jv9 := ejv3.trans ejv9.symm
  refine va_sld hx hb hX hbl hbA hS (sl_in (c := 2) ejv3 (by decide) (by decide) hi hL) dL_law_1071 ?_
  refine lv_topi (fun av10 eav10 => ?_)
  obtain rfl : av4 = av10 := eav4.trans eav10.symm
  refine cx_sX10_house (ob := q) (a1 := av2) (a2 := av4) (rest := []) C1  hM hP hD hS hl.1 (Nat.le_of_ble_eq_true rfl) ⟨by omega, by omega⟩ dL_law_1072 (fun an11 w12  H locs hq2 hM hP hD hS => ?_)
  have hP := P_perm (List.perm_append_comm_assoc w12 w6 tl) hP
  have hD := D_perm (List.perm_append_comm_assoc w12 w6 tl) hD
  refine lv_pop hx hb dL_law_1075 rfl ?_
  refine lv_goto (tgt := 1350) hx hb dL_law_1076 (by decide) ?_
  exact K _ _ _ _ ⟨w6, w12, tl, ts, fl0, wi0, sz0, fl1, wi1, sz1, fl2, wi2, sz2, fl3, wi3, sz3, f, ta, fm, fw, fh, hB, hM, hI, ⟨r0, r1, r2, r3, r4, i0, i1, i2⟩, hP, hD, hS, hl, by omega, by omega⟩

set_option maxHeartbeats 4000000 in
set_option maxRecDepth 100000 in
theorem law_29 {p : Program} {e : Env} {s : State} {m : MethodId} {below : List Frame} {meth : Method} {c : Code} {l : Launch} {b L : Nat} {xs : Nat → Int32} {A : Nat → Prop} {G : va_G} {y : Nat → ClassId} {aK aV : Nat → Nat} {H : Heap} {locs : List Loc} {cells slots : Nat} {ls : Array Slot} {Q : State → Prop} (C0 : lawC p s m meth c b L xs A G y aK aV) {x q : Nat} {i : Int32} (hi : 0 ≤ i.toInt ∧ i.toInt + 6 ≤ (L : Int)) (I : LI s b A G y x q i H locs ls cells slots) (K : ∀ H1 locs1 cells1 slots1, LI s b A G y x q i H1 locs1 ls cells1 slots1 → W p l e room_1 s m #[Value.ref b] below meth c H1 locs1 cells1 slots1 Q (F0 m 1350 ls [])) : W p l e room_1 s m #[Value.ref b] below meth c H locs cells slots Q (F0 m 1079 ls []) := by
  have C1 := C0
  obtain ⟨hx, hb, hr, hml, hown, hw0, hX, hbl, hbA, hA, hAf, hlocks, hK, hE, hL⟩ := C0
  obtain ⟨w, wm, tl, ts, fl0, wi0, sz0, fl1, wi1, sz1, fl2, wi2, sz2, fl3, wi3, sz3, f, ta, fm, fw, fh, hB, hM, hI, hR, hP, hD, hS, hl, hc1, hc2⟩ := I
  obtain ⟨r0, r1, r2, r3, r4, i0, i1, i2⟩ := hR
  refine lv_aload_n hx hb dL_law_1079 rfl (lv_at hl 2 rfl) ?_
  refine lv_aload_n hx hb dL_law_1080 rfl (lv_at hl 3 rfl) ?_
  refine lv_iload_n hx hb dL_law_1081 rfl (lv_at hl 0 rfl) ?_
  refine lv_iconst (v := 1) hx hb dL_law_1082 (by decide) ?_
  refine lv_iadd hx hb dL_law_1083 ?_
  refine lv_topi (fun jv1 ejv1 => ?_)
  refine va_sld hx hb hX hbl hbA hS (sl_in (c := 1) ejv1 (by decide) (by decide) hi hL) dL_law_1084 ?_
  refine lv_topi (fun av2 eav2 => ?_)
  rcases im_c5 av2 with h9 | h9 | h9 | h9 | h9
  · obtain rfl : 0 = av2 := h9.symm
    obtain ⟨t0, t1, t2, rfl, j0, j1, j2⟩ := hI
    rcases j0 with ⟨ze, zt⟩ | ⟨z, ze, zt⟩
    · skip
      have hB : BC y x ts fl0 wi0 sz0 fl1 wi1 sz1 fl2 wi2 sz2 fl3 wi3 sz3 (va_up f 0 none) w := by rw [upE ze]; exact hB
      refine cx_sbeside0n (ob := x) (fim := f) (rest := []) C1 hB hP hD hS hl.1 (Nat.le_of_ble_eq_true rfl) ⟨by omega, by omega⟩ dL_law_1085 (fun an3 w4 H locs hq hB hP hD hS => ?_)
      rw [upE ze] at hB
      have hI : IM y f (t0 ++ (t1 ++ t2)) := ⟨t0, t1, t2, rfl, Or.inl ⟨ze, zt⟩, j1, j2⟩
      have hP := P_perm (List.perm_append_comm_assoc w4 wm (t0 ++ (t1 ++ t2))) hP
      have hD := D_perm (List.perm_append_comm_assoc w4 wm (t0 ++ (t1 ++ t2))) hD
      refine lv_pop hx hb dL_law_1088 rfl ?_
      refine lv_aload_n hx hb dL_law_1089 rfl (lv_at hl 1 rfl) ?_
      refine lv_aload_n hx hb dL_law_1090 rfl (lv_at hl 3 rfl) ?_
      refine lv_iload_n hx hb dL_law_1091 rfl (lv_at hl 0 rfl) ?_
      refine lv_iconst (v := 1) hx hb dL_law_1092 (by decide) ?_
      refine lv_iadd hx hb dL_law_1093 ?_
      refine lv_topi (fun jv5 ejv5 => ?_)
      obtain rfl : jv1 = jv5 := ejv1.trans ejv5.symm
      refine va_sld hx hb hX hbl hbA hS (sl_in (c := 1) ejv1 (by decide) (by decide) hi hL) dL_law_1094 ?_
      refine lv_topi (fun av6 eav6 => ?_)
      obtain rfl : 0 = av6 := eav2.trans eav6.symm
      refine cx_sbes0 (ob := q)  (rest := []) C1  hM hP hD hS hl.1 (Nat.le_of_ble_eq_true rfl) ⟨by omega, by omega⟩ dL_law_1095 (fun an7 w8  H locs hq2 hM hP hD hS => ?_)
      have hP := P_perm (List.perm_append_comm_assoc w8 w4 (t0 ++ (t1 ++ t2))) hP
      have hD := D_perm (List.perm_append_comm_assoc w8 w4 (t0 ++ (t1 ++ t2))) hD
      refine lv_pop hx hb dL_law_1098 rfl ?_
      refine lv_goto (tgt := 1350) hx hb dL_law_1099 (by decide) ?_
      exact K _ _ _ _ ⟨w4, w8, (t0 ++ (t1 ++ t2)), ts, fl0, wi0, sz0, fl1, wi1, sz1, fl2, wi2, sz2, fl3, wi3, sz3, f, ta, fm, fw, fh, hB, hM, hI, ⟨r0, r1, r2, r3, r4, i0, i1, i2⟩, hP, hD, hS, hl, by omega, by omega⟩
    · skip
      have hB : BC y x ts fl0 wi0 sz0 fl1 wi1 sz1 fl2 wi2 sz2 fl3 wi3 sz3 (va_up f 0 (some z)) w := by rw [upE ze]; exact hB
      have hP := P_perm (pk_to (p_0 t0 t1 t2)) hP
      have hD := D_perm (pk_to (p_0 t0 t1 t2)) hD
      refine cx_sbeside0s (ob := x) (fim := f) (im := z) (rest := []) C1 hB zt hP hD hS hl.1 (Nat.le_of_ble_eq_true rfl) ⟨by omega, by omega⟩ dL_law_1085 (fun an9 w10 tk H locs hq hB hT hP hD hS => ?_)
      rw [upE ze] at hB
      have hP := P_perm (pk_to (p_0 tk t1 t2)).symm hP
      have hD := D_perm (pk_to (p_0 tk t1 t2)).symm hD
      have hI : IM y f (tk ++ (t1 ++ t2)) := ⟨tk, t1, t2, rfl, Or.inr ⟨z, ze, hT⟩, j1, j2⟩
      have hP := P_perm (List.perm_append_comm_assoc w10 wm (tk ++ (t1 ++ t2))) hP
      have hD := D_perm (List.perm_append_comm_assoc w10 wm (tk ++ (t1 ++ t2))) hD
      refine lv_pop hx hb dL_law_1088 rfl ?_
      refine lv_aload_n hx hb dL_law_1089 rfl (lv_at hl 1 rfl) ?_
      refine lv_aload_n hx hb dL_law_1090 rfl (lv_at hl 3 rfl) ?_
      refine lv_iload_n hx hb dL_law_1091 rfl (lv_at hl 0 rfl) ?_
      refine lv_iconst (v := 1) hx hb dL_law_1092 (by decide) ?_
      refine lv_iadd hx hb dL_law_1093 ?_
      refine lv_topi (fun jv11 ejv11 => ?_)
      obtain rfl : jv1 = jv11 := ejv1.trans ejv11.symm
      refine va_sld hx hb hX hbl hbA hS (sl_in (c := 1) ejv1 (by decide) (by decide) hi hL) dL_law_1094 ?_
      refine lv_topi (fun av12 eav12 => ?_)
      obtain rfl : 0 = av12 := eav2.trans eav12.symm
      refine cx_sbes0 (ob := q)  (rest := []) C1  hM hP hD hS hl.1 (Nat.le_of_ble_eq_true rfl) ⟨by omega, by omega⟩ dL_law_1095 (fun an13 w14  H locs hq2 hM hP hD hS => ?_)
      have hP := P_perm (List.perm_append_comm_assoc w14 w10 (tk ++ (t1 ++ t2))) hP
      have hD := D_perm (List.perm_append_comm_assoc w14 w10 (tk ++ (t1 ++ t2))) hD
      refine lv_pop hx hb dL_law_1098 rfl ?_
      refine lv_goto (tgt := 1350) hx hb dL_law_1099 (by decide) ?_
      exact K _ _ _ _ ⟨w10, w14, (tk ++ (t1 ++ t2)), ts, fl0, wi0, sz0, fl1, wi1, sz1, fl2, wi2, sz2, fl3, wi3, sz3, f, ta, fm, fw, fh, hB, hM, hI, ⟨r0, r1, r2, r3, r4, i0, i1, i2⟩, hP, hD, hS, hl, by omega, by omega⟩
  · obtain rfl : 1 = av2 := h9.symm
    obtain ⟨t0, t1, t2, rfl, j0, j1, j2⟩ := hI
    rcases j1 with ⟨ze, zt⟩ | ⟨z, ze, zt⟩
    · skip
      have hB : BC y x ts fl0 wi0 sz0 fl1 wi1 sz1 fl2 wi2 sz2 fl3 wi3 sz3 (va_up f 1 none) w := by rw [upE ze]; exact hB
      refine cx_sbeside1n (ob := x) (fim := f) (rest := []) C1 hB hP hD hS hl.1 (Nat.le_of_ble_eq_true rfl) ⟨by omega, by omega⟩ dL_law_1085 (fun an15 w16 H locs hq hB hP hD hS => ?_)
      rw [upE ze] at hB
      have hI : IM y f (t0 ++ (t1 ++ t2)) := ⟨t0, t1, t2, rfl, j0, Or.inl ⟨ze, zt⟩, j2⟩
      have hP := P_perm (List.perm_append_comm_assoc w16 wm (t0 ++ (t1 ++ t2))) hP
      have hD := D_perm (List.perm_append_comm_assoc w16 wm (t0 ++ (t1 ++ t2))) hD
      refine lv_pop hx hb dL_law_1088 rfl ?_
      refine lv_aload_n hx hb dL_law_1089 rfl (lv_at hl 1 rfl) ?_
      refine lv_aload_n hx hb dL_law_1090 rfl (lv_at hl 3 rfl) ?_
      refine lv_iload_n hx hb dL_law_1091 rfl (lv_at hl 0 rfl) ?_
      refine lv_iconst (v := 1) hx hb dL_law_1092 (by decide) ?_
      refine lv_iadd hx hb dL_law_1093 ?_
      refine lv_topi (fun jv17 ejv17 => ?_)
      obtain rfl : jv1 = jv17 := ejv1.trans ejv17.symm
      refine va_sld hx hb hX hbl hbA hS (sl_in (c := 1) ejv1 (by decide) (by decide) hi hL) dL_law_1094 ?_
      refine lv_topi (fun av18 eav18 => ?_)
      obtain rfl : 1 = av18 := eav2.trans eav18.symm
      refine cx_sbes1 (ob := q)  (rest := []) C1  hM hP hD hS hl.1 (Nat.le_of_ble_eq_true rfl) ⟨by omega, by omega⟩ dL_law_1095 (fun an19 w20  H locs hq2 hM hP hD hS => ?_)
      have hP := P_perm (List.perm_append_comm_assoc w20 w16 (t0 ++ (t1 ++ t2))) hP
      have hD := D_perm (List.perm_append_comm_assoc w20 w16 (t0 ++ (t1 ++ t2))) hD
      refine lv_pop hx hb dL_law_1098 rfl ?_
      refine lv_goto (tgt := 1350) hx hb dL_law_1099 (by decide) ?_
      exact K _ _ _ _ ⟨w16, w20, (t0 ++ (t1 ++ t2)), ts, fl0, wi0, sz0, fl1, wi1, sz1, fl2, wi2, sz2, fl3, wi3, sz3, f, ta, fm, fw, fh, hB, hM, hI, ⟨r0, r1, r2, r3, r4, i0, i1, i2⟩, hP, hD, hS, hl, by omega, by omega⟩
    · skip
      have hB : BC y x ts fl0 wi0 sz0 fl1 wi1 sz1 fl2 wi2 sz2 fl3 wi3 sz3 (va_up f 1 (some z)) w := by rw [upE ze]; exact hB
      have hP := P_perm (pk_to (p_1 t0 t1 t2)) hP
      have hD := D_perm (pk_to (p_1 t0 t1 t2)) hD
      refine cx_sbeside1s (ob := x) (fim := f) (im := z) (rest := []) C1 hB zt hP hD hS hl.1 (Nat.le_of_ble_eq_true rfl) ⟨by omega, by omega⟩ dL_law_1085 (fun an21 w22 tk H locs hq hB hT hP hD hS => ?_)
      rw [upE ze] at hB
      have hP := P_perm (pk_to (p_1 t0 tk t2)).symm hP
      have hD := D_perm (pk_to (p_1 t0 tk t2)).symm hD
      have hI : IM y f (t0 ++ (tk ++ t2)) := ⟨t0, tk, t2, rfl, j0, Or.inr ⟨z, ze, hT⟩, j2⟩
      have hP := P_perm (List.perm_append_comm_assoc w22 wm (t0 ++ (tk ++ t2))) hP
      have hD := D_perm (List.perm_append_comm_assoc w22 wm (t0 ++ (tk ++ t2))) hD
      refine lv_pop hx hb dL_law_1088 rfl ?_
      refine lv_aload_n hx hb dL_law_1089 rfl (lv_at hl 1 rfl) ?_
      refine lv_aload_n hx hb dL_law_1090 rfl (lv_at hl 3 rfl) ?_
      refine lv_iload_n hx hb dL_law_1091 rfl (lv_at hl 0 rfl) ?_
      refine lv_iconst (v := 1) hx hb dL_law_1092 (by decide) ?_
      refine lv_iadd hx hb dL_law_1093 ?_
      refine lv_topi (fun jv23 ejv23 => ?_)
      obtain rfl : jv1 = jv23 := ejv1.trans ejv23.symm
      refine va_sld hx hb hX hbl hbA hS (sl_in (c := 1) ejv1 (by decide) (by decide) hi hL) dL_law_1094 ?_
      refine lv_topi (fun av24 eav24 => ?_)
      obtain rfl : 1 = av24 := eav2.trans eav24.symm
      refine cx_sbes1 (ob := q)  (rest := []) C1  hM hP hD hS hl.1 (Nat.le_of_ble_eq_true rfl) ⟨by omega, by omega⟩ dL_law_1095 (fun an25 w26  H locs hq2 hM hP hD hS => ?_)
      have hP := P_perm (List.perm_append_comm_assoc w26 w22 (t0 ++ (tk ++ t2))) hP
      have hD := D_perm (List.perm_append_comm_assoc w26 w22 (t0 ++ (tk ++ t2))) hD
      refine lv_pop hx hb dL_law_1098 rfl ?_
      refine lv_goto (tgt := 1350) hx hb dL_law_1099 (by decide) ?_
      exact K _ _ _ _ ⟨w22, w26, (t0 ++ (tk ++ t2)), ts, fl0, wi0, sz0, fl1, wi1, sz1, fl2, wi2, sz2, fl3, wi3, sz3, f, ta, fm, fw, fh, hB, hM, hI, ⟨r0, r1, r2, r3, r4, i0, i1, i2⟩, hP, hD, hS, hl, by omega, by omega⟩
  · obtain rfl : 2 = av2 := h9.symm
    obtain ⟨t0, t1, t2, rfl, j0, j1, j2⟩ := hI
    rcases j2 with ⟨ze, zt⟩ | ⟨z, ze, zt⟩
    · skip
      have hB : BC y x ts fl0 wi0 sz0 fl1 wi1 sz1 fl2 wi2 sz2 fl3 wi3 sz3 (va_up f 2 none) w := by rw [upE ze]; exact hB
      refine cx_sbeside2n (ob := x) (fim := f) (rest := []) C1 hB hP hD hS hl.1 (Nat.le_of_ble_eq_true rfl) ⟨by omega, by omega⟩ dL_law_1085 (fun an27 w28 H locs hq hB hP hD hS => ?_)
      rw [upE ze] at hB
      have hI : IM y f (t0 ++ (t1 ++ t2)) := ⟨t0, t1, t2, rfl, j0, j1, Or.inl ⟨ze, zt⟩⟩
      have hP := P_perm (List.perm_append_comm_assoc w28 wm (t0 ++ (t1 ++ t2))) hP
      have hD := D_perm (List.perm_append_comm_assoc w28 wm (t0 ++ (t1 ++ t2))) hD
      refine lv_pop hx hb dL_law_1088 rfl ?_
      refine lv_aload_n hx hb dL_law_1089 rfl (lv_at hl 1 rfl) ?_
      refine lv_aload_n hx hb dL_law_1090 rfl (lv_at hl 3 rfl) ?_
      refine lv_iload_n hx hb dL_law_1091 rfl (lv_at hl 0 rfl) ?_
      refine lv_iconst (v := 1) hx hb dL_law_1092 (by decide) ?_
      refine lv_iadd hx hb dL_law_1093 ?_
      refine lv_topi (fun jv29 ejv29 => ?_)
      obtain rfl : jv1 = jv29 := ejv1.trans ejv29.symm
      refine va_sld hx hb hX hbl hbA hS (sl_in (c := 1) ejv1 (by decide) (by decide) hi hL) dL_law_1094 ?_
      refine lv_topi (fun av30 eav30 => ?_)
      obtain rfl : 2 = av30 := eav2.trans eav30.symm
      refine cx_sbes2 (ob := q)  (rest := []) C1  hM hP hD hS hl.1 (Nat.le_of_ble_eq_true rfl) ⟨by omega, by omega⟩ dL_law_1095 (fun an31 w32  H locs hq2 hM hP hD hS => ?_)
      have hP := P_perm (List.perm_append_comm_assoc w32 w28 (t0 ++ (t1 ++ t2))) hP
      have hD := D_perm (List.perm_append_comm_assoc w32 w28 (t0 ++ (t1 ++ t2))) hD
      refine lv_pop hx hb dL_law_1098 rfl ?_
      refine lv_goto (tgt := 1350) hx hb dL_law_1099 (by decide) ?_
      exact K _ _ _ _ ⟨w28, w32, (t0 ++ (t1 ++ t2)), ts, fl0, wi0, sz0, fl1, wi1, sz1, fl2, wi2, sz2, fl3, wi3, sz3, f, ta, fm, fw, fh, hB, hM, hI, ⟨r0, r1, r2, r3, r4, i0, i1, i2⟩, hP, hD, hS, hl, by omega, by omega⟩
    · skip
      have hB : BC y x ts fl0 wi0 sz0 fl1 wi1 sz1 fl2 wi2 sz2 fl3 wi3 sz3 (va_up f 2 (some z)) w := by rw [upE ze]; exact hB
      have hP := P_perm (pk_to (p_2 t0 t1 t2)) hP
      have hD := D_perm (pk_to (p_2 t0 t1 t2)) hD
      refine cx_sbeside2s (ob := x) (fim := f) (im := z) (rest := []) C1 hB zt hP hD hS hl.1 (Nat.le_of_ble_eq_true rfl) ⟨by omega, by omega⟩ dL_law_1085 (fun an33 w34 tk H locs hq hB hT hP hD hS => ?_)
      rw [upE ze] at hB
      have hP := P_perm (pk_to (p_2 t0 t1 tk)).symm hP
      have hD := D_perm (pk_to (p_2 t0 t1 tk)).symm hD
      have hI : IM y f (t0 ++ (t1 ++ tk)) := ⟨t0, t1, tk, rfl, j0, j1, Or.inr ⟨z, ze, hT⟩⟩
      have hP := P_perm (List.perm_append_comm_assoc w34 wm (t0 ++ (t1 ++ tk))) hP
      have hD := D_perm (List.perm_append_comm_assoc w34 wm (t0 ++ (t1 ++ tk))) hD
      refine lv_pop hx hb dL_law_1088 rfl ?_
      refine lv_aload_n hx hb dL_law_1089 rfl (lv_at hl 1 rfl) ?_
      refine lv_aload_n hx hb dL_law_1090 rfl (lv_at hl 3 rfl) ?_
      refine lv_iload_n hx hb dL_law_1091 rfl (lv_at hl 0 rfl) ?_
      refine lv_iconst (v := 1) hx hb dL_law_1092 (by decide) ?_
      refine lv_iadd hx hb dL_law_1093 ?_
      refine lv_topi (fun jv35 ejv35 => ?_)
      obtain rfl : jv1 = jv35 := ejv1.trans ejv35.symm
      refine va_sld hx hb hX hbl hbA hS (sl_in (c := 1) ejv1 (by decide) (by decide) hi hL) dL_law_1094 ?_
      refine lv_topi (fun av36 eav36 => ?_)
      obtain rfl : 2 = av36 := eav2.trans eav36.symm
      refine cx_sbes2 (ob := q)  (rest := []) C1  hM hP hD hS hl.1 (Nat.le_of_ble_eq_true rfl) ⟨by omega, by omega⟩ dL_law_1095 (fun an37 w38  H locs hq2 hM hP hD hS => ?_)
      have hP := P_perm (List.perm_append_comm_assoc w38 w34 (t0 ++ (t1 ++ tk))) hP
      have hD := D_perm (List.perm_append_comm_assoc w38 w34 (t0 ++ (t1 ++ tk))) hD
      refine lv_pop hx hb dL_law_1098 rfl ?_
      refine lv_goto (tgt := 1350) hx hb dL_law_1099 (by decide) ?_
      exact K _ _ _ _ ⟨w34, w38, (t0 ++ (t1 ++ tk)), ts, fl0, wi0, sz0, fl1, wi1, sz1, fl2, wi2, sz2, fl3, wi3, sz3, f, ta, fm, fw, fh, hB, hM, hI, ⟨r0, r1, r2, r3, r4, i0, i1, i2⟩, hP, hD, hS, hl, by omega, by omega⟩
  · have hav2 := h9
    refine cx_sbesidelo (ob := x) (a1 := av2) (rest := []) C1 hav2 hB hP hD hS hl.1 (Nat.le_of_ble_eq_true rfl) ⟨by omega, by omega⟩ dL_law_1085 (fun an39 w40  H locs hq hB hP hD hS => ?_)
    have hP := P_perm (List.perm_append_comm_assoc w40 wm tl) hP
    have hD := D_perm (List.perm_append_comm_assoc w40 wm tl) hD
    refine lv_pop hx hb dL_law_1088 rfl ?_
    refine lv_aload_n hx hb dL_law_1089 rfl (lv_at hl 1 rfl) ?_
    refine lv_aload_n hx hb dL_law_1090 rfl (lv_at hl 3 rfl) ?_
    refine lv_iload_n hx hb dL_law_1091 rfl (lv_at hl 0 rfl) ?_
    refine lv_iconst (v := 1) hx hb dL_law_1092 (by decide) ?_
    refine lv_iadd hx hb dL_law_1093 ?_
    refine lv_topi (fun jv41 ejv41 => ?_)
    obtain rfl : jv1 = jv41 := ejv1.trans ejv41.symm
    refine va_sld hx hb hX hbl hbA hS (sl_in (c := 1) ejv1 (by decide) (by decide) hi hL) dL_law_1094 ?_
    refine lv_topi (fun av42 eav42 => ?_)
    obtain rfl : av2 = av42 := eav2.trans eav42.symm
    refine cx_sbesideMlo (ob := q) (a1 := av2) (rest := []) C1 hav2 hM hP hD hS hl.1 (Nat.le_of_ble_eq_true rfl) ⟨by omega, by omega⟩ dL_law_1095 (fun an43 w44  H locs hq2 hM hP hD hS => ?_)
    have hP := P_perm (List.perm_append_comm_assoc w44 w40 tl) hP
    have hD := D_perm (List.perm_append_comm_assoc w44 w40 tl) hD
    refine lv_pop hx hb dL_law_1098 rfl ?_
    refine lv_goto (tgt := 1350) hx hb dL_law_1099 (by decide) ?_
    exact K _ _ _ _ ⟨w40, w44, tl, ts, fl0, wi0, sz0, fl1, wi1, sz1, fl2, wi2, sz2, fl3, wi3, sz3, f, ta, fm, fw, fh, hB, hM, hI, ⟨r0, r1, r2, r3, r4, i0, i1, i2⟩, hP, hD, hS, hl, by omega, by omega⟩
  · have hav2 := h9
    refine cx_sbesidehi (ob := x) (a1 := av2) (rest := []) C1 hav2 hB hP hD hS hl.1 (Nat.le_of_ble_eq_true rfl) ⟨by omega, by omega⟩ dL_law_1085 (fun an45 w46  H locs hq hB hP hD hS => ?_)
    have hP := P_perm (List.perm_append_comm_assoc w46 wm tl) hP
    have hD := D_perm (List.perm_append_comm_assoc w46 wm tl) hD
    refine lv_pop hx hb dL_law_1088 rfl ?_
    refine lv_aload_n hx hb dL_law_1089 rfl (lv_at hl 1 rfl) ?_
    refine lv_aload_n hx hb dL_law_1090 rfl (lv_at hl 3 rfl) ?_
    refine lv_iload_n hx hb dL_law_1091 rfl (lv_at hl 0 rfl) ?_
    refine lv_iconst (v := 1) hx hb dL_law_1092 (by decide) ?_
    refine lv_iadd hx hb dL_law_1093 ?_
    refine lv_topi (fun jv47 ejv47 => ?_)
    obtain rfl : jv1 = jv47 := ejv1.trans ejv47.symm
    refine va_sld hx hb hX hbl hbA hS (sl_in (c := 1) ejv1 (by decide) (by decide) hi hL) dL_law_1094 ?_
    refine lv_topi (fun av48 eav48 => ?_)
    obtain rfl : av2 = av48 := eav2.trans eav48.symm
    refine cx_sbesideMhi (ob := q) (a1 := av2) (rest := []) C1 hav2 hM hP hD hS hl.1 (Nat.le_of_ble_eq_true rfl) ⟨by omega, by omega⟩ dL_law_1095 (fun an49 w50  H locs hq2 hM hP hD hS => ?_)
    have hP := P_perm (List.perm_append_comm_assoc w50 w46 tl) hP
    have hD := D_perm (List.perm_append_comm_assoc w50 w46 tl) hD
    refine lv_pop hx hb dL_law_1098 rfl ?_
    refine lv_goto (tgt := 1350) hx hb dL_law_1099 (by decide) ?_
    exact K _ _ _ _ ⟨w46, w50, tl, ts, fl0, wi0, sz0, fl1, wi1, sz1, fl2, wi2, sz2, fl3, wi3, sz3, f, ta, fm, fw, fh, hB, hM, hI, ⟨r0, r1, r2, r3, r4, i0, i1, i2⟩, hP, hD, hS, hl, by omega, by omega⟩
