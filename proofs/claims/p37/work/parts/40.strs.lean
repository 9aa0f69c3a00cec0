theorem ap_byte {args : Array Value} {s : State} (h : (Cond.arrayClass .byte).before args s = true) : ∃ cA, ArrOfT s cA .byte ∧ va_RA s cA .byte := by
  obtain ⟨cA, kA, comp, h1, h2, h3⟩ := Cond.arrayClass_spec h
  exact ⟨cA, fun n z => ⟨fun k h => (by cases h), kA, h2, comp, h3⟩, h1⟩
theorem ap_int {args : Array Value} {s : State} (h : (Cond.arrayClass .int).before args s = true) : ∃ cA, ArrOfT s cA .int ∧ va_RA s cA .int := by
  obtain ⟨cA, kA, comp, h1, h2, h3⟩ := Cond.arrayClass_spec h
  exact ⟨cA, fun n z => ⟨fun k h => (by cases h), kA, h2, comp, h3⟩, h1⟩
theorem ap_long {args : Array Value} {s : State} (h : (Cond.arrayClass .long).before args s = true) : ∃ cA, ArrOfT s cA .long ∧ va_RA s cA .long := by
  obtain ⟨cA, kA, comp, h1, h2, h3⟩ := Cond.arrayClass_spec h
  exact ⟨cA, fun n z => ⟨fun k h => (by cases h), kA, h2, comp, h3⟩, h1⟩
theorem ap_boolean {args : Array Value} {s : State} (h : (Cond.arrayClass .boolean).before args s = true) : ∃ cA, ArrOfT s cA .boolean ∧ va_RA s cA .boolean := by
  obtain ⟨cA, kA, comp, h1, h2, h3⟩ := Cond.arrayClass_spec h
  exact ⟨cA, fun n z => ⟨fun k h => (by cases h), kA, h2, comp, h3⟩, h1⟩
theorem ap_q {C : String} {args : Array Value} {s : State} (h : (Cond.arrayOver (.object C)).before args s = true) : ∃ cA, ArrOfT s cA (.object C) ∧ va_RA s cA (.object C) := by
  obtain ⟨comp, cA, kA, h1, h2, h3, h4, h5⟩ := Cond.arrayOver_spec h
  exact ⟨cA, fun n z => ⟨fun k h => (by cases h), kA, h3, comp, h4⟩, kA, comp, h3, h4, h1, h5⟩
set_option maxRecDepth 20000 in
theorem n_a0 : Cond.arrayClass .byte ∈ lw_tbl := tb_1 _ (List.mem_of_getElem? (i := 109) (by decide +kernel))
set_option maxRecDepth 20000 in
theorem n_a1 : Cond.arrayClass .int ∈ lw_tbl := tb_1 _ (List.mem_of_getElem? (i := 110) (by decide +kernel))
set_option maxRecDepth 20000 in
theorem n_a2 : Cond.arrayClass .long ∈ lw_tbl := tb_2 _ (List.mem_of_getElem? (i := 202) (by decide +kernel))
set_option maxRecDepth 20000 in
theorem n_a3 : Cond.arrayClass .boolean ∈ lw_tbl := tb_6 _ (List.mem_of_getElem? (i := 57) (by decide +kernel))
set_option maxRecDepth 20000 in
theorem n_a4 : Cond.arrayOver (.object "CardBowl$Slot") ∈ lw_tbl := tb_2 _ (List.mem_of_getElem? (i := 70) (by decide +kernel))
set_option maxRecDepth 20000 in
theorem n_a5 : Cond.arrayOver (.object "CardBowl$State") ∈ lw_tbl := tb_2 _ (List.mem_of_getElem? (i := 68) (by decide +kernel))
set_option maxRecDepth 20000 in
theorem n_n11 : Cond.methodLinkNest RX6 34 yX2_init "CardBowl" ∈ lw_tbl := tb_2 _ (List.mem_of_getElem? (i := 5) (by decide +kernel))
set_option maxRecDepth 20000 in
theorem n_n10 : Cond.methodLinkNest RX6 27 yX1_init "CardBowl" ∈ lw_tbl := tb_1 _ (List.mem_of_getElem? (i := 205) (by decide +kernel))
set_option maxRecDepth 20000 in
theorem n_n9 : Cond.methodLinkNest RX6 20 yX0_init "CardBowl" ∈ lw_tbl := tb_1 _ (List.mem_of_getElem? (i := 202) (by decide +kernel))
set_option maxRecDepth 20000 in
theorem n_n8 : Cond.methodLinkNest RX6 11 yX7_init "CardBowl" ∈ lw_tbl := tb_1 _ (List.mem_of_getElem? (i := 200) (by decide +kernel))
set_option maxRecDepth 20000 in
theorem n_n7 : Cond.methodLinkNest RX3 20 yX0_init "CardBowl" ∈ lw_tbl := tb_1 _ (List.mem_of_getElem? (i := 113) (by decide +kernel))
set_option maxRecDepth 20000 in
theorem n_n6 : Cond.methodLinkNest RX3 11 yX7_init "CardBowl" ∈ lw_tbl := tb_1 _ (List.mem_of_getElem? (i := 36) (by decide +kernel))
set_option maxRecDepth 20000 in
theorem n_n5 : Cond.methodLinkNest RX9 62 yX5_init "CardBowl" ∈ lw_tbl := tb_2 _ (List.mem_of_getElem? (i := 180) (by decide +kernel))
set_option maxRecDepth 20000 in
theorem n_n4 : Cond.methodLinkNest RX9 53 yX1_init "CardBowl" ∈ lw_tbl := tb_2 _ (List.mem_of_getElem? (i := 178) (by decide +kernel))
set_option maxRecDepth 20000 in
theorem n_n3 : Cond.methodLinkNest RX9 46 yX8_init "CardBowl" ∈ lw_tbl := tb_2 _ (List.mem_of_getElem? (i := 136) (by decide +kernel))
set_option maxRecDepth 20000 in
theorem n_n2 : Cond.methodLinkNest RX9 39 yX4_init "CardBowl" ∈ lw_tbl := tb_2 _ (List.mem_of_getElem? (i := 73) (by decide +kernel))
set_option maxRecDepth 20000 in
theorem n_n1 : Cond.methodLinkNest RX9 22 yX6_init "CardBowl" ∈ lw_tbl := tb_1 _ (List.mem_of_getElem? (i := 195) (by decide +kernel))
set_option maxRecDepth 20000 in
theorem n_n0 : Cond.methodLinkNest RX9 15 yX3_init "CardBowl" ∈ lw_tbl := tb_1 _ (List.mem_of_getElem? (i := 30) (by decide +kernel))
set_option maxRecDepth 20000 in
theorem n_z0 : Cond.laysStatic "java/lang/String" "COMPACT_STRINGS" "Z" ∈ lw_tbl := tb_3 _ (List.mem_of_getElem? (i := 55) (by decide +kernel))
set_option maxRecDepth 20000 in
theorem n_z1 : Cond.initialized "java/lang/String" ∈ lw_tbl := tb_1 _ (List.mem_of_getElem? (i := 14) (by decide +kernel))
set_option maxRecDepth 20000 in
theorem n_z2 : Cond.laysStatic "jdk/internal/util/Preconditions" "SIOOBE_FORMATTER" "Ljava/util/function/BiFunction;" ∈ lw_tbl := tb_3 _ (List.mem_of_getElem? (i := 71) (by decide +kernel))
set_option maxRecDepth 20000 in
theorem n_z3 : Cond.initialized "jdk/internal/util/Preconditions" ∈ lw_tbl := tb_1 _ (List.mem_of_getElem? (i := 16) (by decide +kernel))
def sT (i : Nat) : Term := .string ((sL.getD i ("", 0, "", 0)).1) ((sL.getD i ("", 0, "", 0)).2.1)
def ndV (i : Nat) : Term := .field (sT i) "java/lang/String" "value" "[B"
def ndE (i : Nat) : Cond := .exactly (sT i) "java/lang/String"
def ndC (i : Nat) : Cond := .eq (.field (sT i) "java/lang/String" "coder" "B") (.int 0)
def ndA (i : Nat) : Cond := .arrayOf (ndV i) .byte
def ndL (i : Nat) : Cond := .eq (.length (ndV i)) (.int (Int32.ofNat (lenS.getD i 0)))
def ndB (i j : Nat) : Cond := .eq (.elem (ndV i) (.int (Int32.ofNat j))) (.int ((bytS.getD i []).getD j 0))
def ndI (i : Nat) : List Cond := ndE i :: ndC i :: ndA i :: ndL i :: (List.range (lenS.getD i 0)).map (ndB i)
def ndAll : List Cond := (List.range nS).flatMap ndI
set_option maxRecDepth 100000 in
theorem nd_in : ∀ w ∈ ndAll, w ∈ flatC (Jvm.Cond.and given_1 narrow_1) := mem_r [31, 32, 33, 34, 35, 36, 37, 38, 39, 40, 41, 42, 43, 44, 45, 46, 47, 48, 49, 50, 51, 52, 53, 54, 55, 56, 57, 58, 59, 60, 61, 62, 63, 64, 65, 66, 67, 68, 69, 70, 71, 72, 73, 74, 75, 76, 77, 78, 79, 80, 81, 82, 83, 84, 85, 86, 87, 88, 89, 90, 91, 92, 93, 94, 95, 96, 97, 98, 99, 100, 101, 102, 103, 104, 105, 106, 107, 108, 109, 110, 111, 112, 113, 114, 115, 116, 117, 118, 119, 120, 121, 122, 123, 124, 125, 126, 127, 128, 129, 130, 131, 132, 133, 134, 135, 136, 137, 138, 139, 140, 141, 142, 143, 144, 145, 146, 147, 148, 149, 150, 151, 152, 153, 154, 155, 156, 157, 158, 159, 160, 161, 162, 163, 164, 165, 166, 167, 168, 169, 170, 171, 172, 173, 174, 175, 176, 177, 178, 179, 180, 181, 182, 183, 184, 185, 186, 187, 188, 189, 190, 191, 192, 193, 194, 195, 196, 197, 198, 199, 200, 201, 202, 203, 204, 205, 206, 207, 208, 209, 210, 211, 212, 213, 214, 215, 216, 217, 218, 219, 220, 221, 222, 223, 224, 225, 226, 227, 228, 229, 230, 231, 232, 233, 234, 235, 236, 237, 238, 239, 240, 241, 242, 243, 244, 245, 246, 247, 248, 249, 250, 251, 252, 253, 254, 255, 256, 257, 258, 259, 260, 261, 262, 263, 264, 265, 266, 267, 268, 269, 270, 271, 272, 273, 274, 275, 276, 277, 278, 279, 280, 281, 282, 283, 284, 285, 286, 287, 288, 289, 290, 291, 292, 293, 294, 295, 296, 297, 298, 299, 300, 301, 302, 303, 304, 305, 306, 307, 308, 309, 310, 311, 312, 313, 314, 315, 316, 317, 318, 319, 320, 321, 322, 323, 324, 325, 326, 327, 328, 329, 330, 331, 332, 333, 334, 335, 336, 337, 338, 339, 340, 341, 342, 343, 344, 345, 346, 347, 348, 350, 351, 352, 353, 354, 355, 356, 357, 358, 359, 361, 362, 363, 364, 365, 366, 368, 369, 370, 371, 372, 373, 374, 375, 376, 377, 378, 379, 380, 381, 382, 383, 384, 385, 386, 387, 388, 389, 390, 391, 392, 393, 394, 395, 396, 397, 398, 399, 400, 401, 402, 403, 404, 405, 406, 407, 408, 409, 410, 411, 412, 413, 414, 415, 416, 417, 418, 419, 420, 421, 422, 423, 424, 425, 426, 427, 428, 429, 430, 431, 432, 433, 434, 435, 436, 437, 438, 439, 440, 441, 442, 443, 444, 445, 446, 447, 448, 449, 450, 451, 452, 453, 454, 455, 456, 457, 458, 459, 460, 461, 462, 463, 464, 465, 466, 467, 468, 469, 470, 471, 472, 473, 475, 476, 477, 478, 479, 480, 481, 482, 484, 485, 486, 487, 488, 489, 490, 491, 493, 494, 495, 496, 497, 498, 499, 500, 501, 502, 503, 504, 505, 506, 507, 508, 509, 510, 511, 512, 513, 514, 515, 516, 517, 518, 519, 520, 521, 522, 523, 524, 525, 526, 527, 528, 529, 530, 531, 532, 533, 534, 535, 536, 537, 538, 539, 540, 541, 542, 543, 544, 545, 546, 547, 548, 549, 551, 552, 553, 554, 555, 556, 557, 558, 559] (by decide +kernel)
set_option maxRecDepth 100000 in
theorem sr_in : ∀ w ∈ sL.map (fun q => Cond.stringRef q.1 q.2.1 q.2.2.1), w ∈ tables_1 := mem_r [521, 582, 587, 588, 593, 602, 607, 616, 617, 618, 619, 620, 621, 1311, 1318, 1319, 1320, 1321, 1322, 1323, 1324, 1337, 1346, 1355, 1368, 1369, 1370, 1371, 1372, 1373, 1374, 1375, 1376, 1377, 1378, 1379, 1384, 1385, 1386, 1391, 1392, 1393, 1394, 1395, 1396, 1397, 1398, 1399] (by decide +kernel)
set_option maxRecDepth 100000 in
theorem sL_ok : ∀ q ∈ sL, q.2.2.2 < nS ∧ sL.getD q.2.2.2 ("", 0, "", 0) = q := by decide +kernel
set_option maxRecDepth 100000 in
theorem n_f0 : Cond.eq (.static "java/lang/String" "COMPACT_STRINGS" "Z") (.int 1) ∈ flatC (Jvm.Cond.and given_1 narrow_1) := List.mem_of_getElem? (i := 4) (by decide +kernel)
set_option maxRecDepth 100000 in
theorem n_f1 : Cond.isRef (.static "jdk/internal/util/Preconditions" "SIOOBE_FORMATTER" "Ljava/util/function/BiFunction;") ∈ flatC (Jvm.Cond.and given_1 narrow_1) := List.mem_of_getElem? (i := 5) (by decide +kernel)
theorem isRef_v {args : Array Value} {s : State} {t : Term} (h : (Cond.isRef t).before args s = true) : ∃ bf : Value, t.eval args s none [] s = some bf ∧ (bf = .null ∨ ∃ q, bf = .ref q) := by
  cases hv : t.eval args s none [] s with
  | none => simp [Cond.before, Cond.holds, Cond.value, hv] at h
  | some w =>
    refine ⟨w, rfl, ?_⟩
    simp only [Cond.before, Cond.holds, Cond.value, hv] at h
    cases w with
    | null => exact Or.inl rfl
    | ref q => exact Or.inr ⟨q, rfl⟩
    | _ => simp at h
set_option maxRecDepth 100000 in
theorem sE_of {b : Nat} {s : State} {A : Nat → Prop} (hgv : (Jvm.Cond.and given_1 narrow_1).before #[Value.ref b] s = true) (hts : ∀ w ∈ lw_tbl, w.before #[Value.ref b] s = true) (hA : ∀ a : Nat, a < s.heap.size → ¬ A a) : ∃ aK aV : Nat → Nat, sE aK aV A s s.heap := by
  have hf := flat_of_before _ hgv
  have hI : ∀ i, i < nS → ∀ w ∈ ndI i, w.before #[Value.ref b] s = true := fun i hi w hw => hf w (nd_in w (List.mem_flatMap.mpr ⟨i, List.mem_range.mpr hi, hw⟩))
  have h0 : ∀ i : Nat, ∃ q : Nat × Nat, i < nS → (sT i).eval #[Value.ref b] s none [] s = some (.ref q.1) ∧ sE1 (lenS.getD i 0) (bytS.getD i []) q.1 q.2 A s s.heap := by
    intro i
    by_cases hi : i < nS
    · have hN : lenS.getD i 0 < 2 ^ 31 := Nat.lt_of_le_of_lt (lenS_b i hi).1 (by decide)
      have hex : (ndE i).before #[Value.ref b] s = true := hI i hi _ List.mem_cons_self
      have hco : (ndC i).before #[Value.ref b] s = true := hI i hi _ (List.mem_cons_of_mem _ List.mem_cons_self)
      have har : (ndA i).before #[Value.ref b] s = true := hI i hi _ (List.mem_cons_of_mem _ (List.mem_cons_of_mem _ List.mem_cons_self))
      have hle : (ndL i).before #[Value.ref b] s = true := hI i hi _ (List.mem_cons_of_mem _ (List.mem_cons_of_mem _ (List.mem_cons_of_mem _ List.mem_cons_self)))
      have hel : ∀ j, j < lenS.getD i 0 → (ndB i j).before #[Value.ref b] s = true := fun j hj => hI i hi _ (List.mem_cons_of_mem _ (List.mem_cons_of_mem _ (List.mem_cons_of_mem _ (List.mem_cons_of_mem _ (List.mem_map.mpr ⟨j, List.mem_range.mpr hj, rfl⟩)))))
      obtain ⟨a, c, cA, kA, q1, q2, q3, q4, q5, q6, -⟩ := Cond.exactly_spec (args := #[Value.ref b]) (first := s) (o := none) (s := s) (idx := []) (t := sT i) (cls := "java/lang/String") hex
      obtain ⟨t, ht, hT⟩ := va_Tof (f := fun j => .int ((bytS.getD i []).getD j 0)) (A := A) hN har (va_eqt hle) (fun j hj => va_eqt (hel j hj)) hA
      exact ⟨(a, t), fun _ => ⟨q1, ⟨cA, q3, q5, by rw [q6]; exact q2, hA a (Array.getElem?_eq_some_iff.mp q3).1⟩, vk_OFof q1 (va_eqt hco) hA, vk_OFof q1 ht hA, hT⟩⟩
    · exact ⟨(0, 0), fun h => absurd h hi⟩
  obtain ⟨ad, had⟩ := Classical.axiomOfChoice h0
  refine ⟨fun i => (ad i).1, fun i => (ad i).2, fun i hi => (had i hi).2, fun q hq => ?_, va_Zof (hts _ n_z0) (hts _ n_z1) (va_eqt (hf _ n_f0)) hA, ?_⟩
  · obtain ⟨k1, k2⟩ := sL_ok q hq
    have h1 := (had _ k1).1
    unfold sT at h1
    rw [k2] at h1
    exact vk_R.of (hts _ (List.mem_append_right _ (sr_in _ (List.mem_map.mpr ⟨q, hq, rfl⟩)))) h1
  · obtain ⟨bf, h1, h2⟩ := isRef_v (hf _ n_f1)
    exact ⟨bf, h2, va_Zof (hts _ n_z2) (hts _ n_z3) h1 hA⟩
theorem RI_z : RIw (fun _ => 0) := fun _ _ => RW_z
theorem RW_5 : RWw (upd (fun _ => 0) 5 3) := ⟨RV_up RW_z.1 (upk RW_z.1.1 (l := 3) (h := 3) (by decide) (by decide)) (by decide), WQ_up RW_z.1.1 RW_z.2 (Or.inr (Or.inl (by decide)))⟩
