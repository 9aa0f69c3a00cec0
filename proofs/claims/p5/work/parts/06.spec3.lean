section AMW
variable {f W W' : Nat → Int32} {n b e o o' l k L : Int} {i j m : Nat}
theorem tq_c (h : (List.range l.toNat).all (fun j => decide (qtb W (o + (j : Int)) = qtb W' (o' + (j : Int)))) = true) : qtqB f b e W o l = qtqB f b e W' o' l := by
  have h1 : ∀ j : Nat, (j : Int) < l → qtb W (o + (j : Int)) = qtb W' (o' + (j : Int)) := fun j hj => of_decide_eq_true (List.all_eq_true.mp h j (List.mem_range.mpr (by omega)))
  cases h2 : qtqB f b e W' o' l with
  | true =>
    obtain ⟨a1, a2⟩ := tqB_iff.mp h2
    exact tqB_iff.mpr ⟨a1, fun j hj => (a2 j hj).trans (h1 j hj).symm⟩
  | false =>
    cases h3 : qtqB f b e W o l with
    | false => rfl
    | true =>
      obtain ⟨a1, a2⟩ := tqB_iff.mp h3
      have h4 : qtqB f b e W' o' l = true := tqB_iff.mpr ⟨a1, fun j hj => (a2 j hj).trans (h1 j hj)⟩
      rw [h2] at h4
      cases h4
theorem am_m (h0 : o < L) (hr : qrun qcW W L o = o + l) : qamo f b e W L (m + 1) o k = if qtqB f b e W o l = true then k else qamo f b e W L m (o + l + 1) (k + 1) := by
  show (if L ≤ o then -1 else if qtqB f b e W o (qrun qcW W L o - o) = true then k else qamo f b e W L m (qrun qcW W L o + 1) (k + 1)) = _
  rw [if_neg (by omega), hr, show o + l - o = l by omega]
theorem am_1 (h0 : (0 : Int) < (lenS.getD i 0 : Int)) (hr : qrun qcW (qsb i) (lenS.getD i 0 : Int) 0 = 0 + (lenS.getD i 0 : Int)) : qam f n b i = if qkd f n b = 1 ∧ qtqB f b (qnx f n b) (qsb i) 0 (lenS.getD i 0 : Int) = true then 0 else -1 := by
  unfold qam
  by_cases hk : qkd f n b = 1
  · rw [if_pos hk, show (61 : Nat) = 60 + 1 from rfl, am_m h0 hr, am_x (by omega)]
    by_cases ht : qtqB f b (qnx f n b) (qsb i) 0 (lenS.getD i 0 : Int) = true
    · rw [if_pos ht, if_pos ⟨hk, ht⟩]
    · rw [if_neg ht, if_neg (fun q => ht q.2)]
  · rw [if_neg hk, if_neg (fun q => hk q.1)]
theorem am_eq (h1 : bytS.getD i [] = bytS.getD j []) (h2 : lenS.getD i 0 = lenS.getD j 0) : qam f n b i = qam f n b j := by
  unfold qam qsb
  rw [h1, h2]
theorem b_if (T : Bool) : ((if T = true then (0 : Int) else -1) = 0) = (T = true) := by
  cases T <;> simp
end AMW
theorem am1_13 {f : Nat → Int32} {n b : Int} : qam f n b 13 = if qkd f n b = 1 ∧ qtqB f b (qnx f n b) (qsb 13) 0 4 = true then 0 else -1 := am_1 (i := 13) (by decide) (by decide +kernel)
theorem am1_14 {f : Nat → Int32} {n b : Int} : qam f n b 14 = if qkd f n b = 1 ∧ qtqB f b (qnx f n b) (qsb 14) 0 4 = true then 0 else -1 := am_1 (i := 14) (by decide) (by decide +kernel)
theorem am1_15 {f : Nat → Int32} {n b : Int} : qam f n b 15 = if qkd f n b = 1 ∧ qtqB f b (qnx f n b) (qsb 15) 0 4 = true then 0 else -1 := am_1 (i := 15) (by decide) (by decide +kernel)
theorem am1_16 {f : Nat → Int32} {n b : Int} : qam f n b 16 = if qkd f n b = 1 ∧ qtqB f b (qnx f n b) (qsb 16) 0 6 = true then 0 else -1 := am_1 (i := 16) (by decide) (by decide +kernel)
theorem am1_17 {f : Nat → Int32} {n b : Int} : qam f n b 17 = if qkd f n b = 1 ∧ qtqB f b (qnx f n b) (qsb 17) 0 5 = true then 0 else -1 := am_1 (i := 17) (by decide) (by decide +kernel)
theorem am1_18 {f : Nat → Int32} {n b : Int} : qam f n b 18 = if qkd f n b = 1 ∧ qtqB f b (qnx f n b) (qsb 18) 0 4 = true then 0 else -1 := am_1 (i := 18) (by decide) (by decide +kernel)
theorem am1_19 {f : Nat → Int32} {n b : Int} : qam f n b 19 = if qkd f n b = 1 ∧ qtqB f b (qnx f n b) (qsb 19) 0 3 = true then 0 else -1 := am_1 (i := 19) (by decide) (by decide +kernel)
theorem am1_20 {f : Nat → Int32} {n b : Int} : qam f n b 20 = if qkd f n b = 1 ∧ qtqB f b (qnx f n b) (qsb 20) 0 9 = true then 0 else -1 := am_1 (i := 20) (by decide) (by decide +kernel)
theorem am1_21 {f : Nat → Int32} {n b : Int} : qam f n b 21 = if qkd f n b = 1 ∧ qtqB f b (qnx f n b) (qsb 21) 0 4 = true then 0 else -1 := am_1 (i := 21) (by decide) (by decide +kernel)
theorem am1_22 {f : Nat → Int32} {n b : Int} : qam f n b 22 = if qkd f n b = 1 ∧ qtqB f b (qnx f n b) (qsb 22) 0 6 = true then 0 else -1 := am_1 (i := 22) (by decide) (by decide +kernel)
theorem am1_23 {f : Nat → Int32} {n b : Int} : qam f n b 23 = if qkd f n b = 1 ∧ qtqB f b (qnx f n b) (qsb 23) 0 2 = true then 0 else -1 := am_1 (i := 23) (by decide) (by decide +kernel)
theorem am1_24 {f : Nat → Int32} {n b : Int} : qam f n b 24 = if qkd f n b = 1 ∧ qtqB f b (qnx f n b) (qsb 24) 0 4 = true then 0 else -1 := am_1 (i := 24) (by decide) (by decide +kernel)
theorem am1_25 {f : Nat → Int32} {n b : Int} : qam f n b 25 = if qkd f n b = 1 ∧ qtqB f b (qnx f n b) (qsb 25) 0 6 = true then 0 else -1 := am_1 (i := 25) (by decide) (by decide +kernel)
theorem am1_26 {f : Nat → Int32} {n b : Int} : qam f n b 26 = if qkd f n b = 1 ∧ qtqB f b (qnx f n b) (qsb 26) 0 5 = true then 0 else -1 := am_1 (i := 26) (by decide) (by decide +kernel)
theorem am1_27 {f : Nat → Int32} {n b : Int} : qam f n b 27 = if qkd f n b = 1 ∧ qtqB f b (qnx f n b) (qsb 27) 0 3 = true then 0 else -1 := am_1 (i := 27) (by decide) (by decide +kernel)
theorem am1_28 {f : Nat → Int32} {n b : Int} : qam f n b 28 = if qkd f n b = 1 ∧ qtqB f b (qnx f n b) (qsb 28) 0 5 = true then 0 else -1 := am_1 (i := 28) (by decide) (by decide +kernel)
theorem am1_29 {f : Nat → Int32} {n b : Int} : qam f n b 29 = if qkd f n b = 1 ∧ qtqB f b (qnx f n b) (qsb 29) 0 4 = true then 0 else -1 := am_1 (i := 29) (by decide) (by decide +kernel)
theorem am1_30 {f : Nat → Int32} {n b : Int} : qam f n b 30 = if qkd f n b = 1 ∧ qtqB f b (qnx f n b) (qsb 30) 0 5 = true then 0 else -1 := am_1 (i := 30) (by decide) (by decide +kernel)
theorem am1_31 {f : Nat → Int32} {n b : Int} : qam f n b 31 = if qkd f n b = 1 ∧ qtqB f b (qnx f n b) (qsb 31) 0 5 = true then 0 else -1 := am_1 (i := 31) (by decide) (by decide +kernel)
theorem am1_32 {f : Nat → Int32} {n b : Int} : qam f n b 32 = if qkd f n b = 1 ∧ qtqB f b (qnx f n b) (qsb 32) 0 4 = true then 0 else -1 := am_1 (i := 32) (by decide) (by decide +kernel)
theorem am1_33 {f : Nat → Int32} {n b : Int} : qam f n b 33 = if qkd f n b = 1 ∧ qtqB f b (qnx f n b) (qsb 33) 0 4 = true then 0 else -1 := am_1 (i := 33) (by decide) (by decide +kernel)
theorem am1_34 {f : Nat → Int32} {n b : Int} : qam f n b 34 = if qkd f n b = 1 ∧ qtqB f b (qnx f n b) (qsb 34) 0 4 = true then 0 else -1 := am_1 (i := 34) (by decide) (by decide +kernel)
theorem am1_35 {f : Nat → Int32} {n b : Int} : qam f n b 35 = if qkd f n b = 1 ∧ qtqB f b (qnx f n b) (qsb 35) 0 3 = true then 0 else -1 := am_1 (i := 35) (by decide) (by decide +kernel)
theorem am1_36 {f : Nat → Int32} {n b : Int} : qam f n b 36 = if qkd f n b = 1 ∧ qtqB f b (qnx f n b) (qsb 36) 0 2 = true then 0 else -1 := am_1 (i := 36) (by decide) (by decide +kernel)
theorem am1_37 {f : Nat → Int32} {n b : Int} : qam f n b 37 = if qkd f n b = 1 ∧ qtqB f b (qnx f n b) (qsb 37) 0 4 = true then 0 else -1 := am_1 (i := 37) (by decide) (by decide +kernel)
theorem am1_38 {f : Nat → Int32} {n b : Int} : qam f n b 38 = if qkd f n b = 1 ∧ qtqB f b (qnx f n b) (qsb 38) 0 4 = true then 0 else -1 := am_1 (i := 38) (by decide) (by decide +kernel)
theorem am1_39 {f : Nat → Int32} {n b : Int} : qam f n b 39 = if qkd f n b = 1 ∧ qtqB f b (qnx f n b) (qsb 39) 0 3 = true then 0 else -1 := am_1 (i := 39) (by decide) (by decide +kernel)
theorem am1_40 {f : Nat → Int32} {n b : Int} : qam f n b 40 = if qkd f n b = 1 ∧ qtqB f b (qnx f n b) (qsb 40) 0 3 = true then 0 else -1 := am_1 (i := 40) (by decide) (by decide +kernel)
theorem am1_41 {f : Nat → Int32} {n b : Int} : qam f n b 41 = if qkd f n b = 1 ∧ qtqB f b (qnx f n b) (qsb 41) 0 3 = true then 0 else -1 := am_1 (i := 41) (by decide) (by decide +kernel)
theorem am1_42 {f : Nat → Int32} {n b : Int} : qam f n b 42 = if qkd f n b = 1 ∧ qtqB f b (qnx f n b) (qsb 42) 0 3 = true then 0 else -1 := am_1 (i := 42) (by decide) (by decide +kernel)
theorem am1_43 {f : Nat → Int32} {n b : Int} : qam f n b 43 = if qkd f n b = 1 ∧ qtqB f b (qnx f n b) (qsb 43) 0 3 = true then 0 else -1 := am_1 (i := 43) (by decide) (by decide +kernel)
theorem am1_44 {f : Nat → Int32} {n b : Int} : qam f n b 44 = if qkd f n b = 1 ∧ qtqB f b (qnx f n b) (qsb 44) 0 3 = true then 0 else -1 := am_1 (i := 44) (by decide) (by decide +kernel)
theorem am1_45 {f : Nat → Int32} {n b : Int} : qam f n b 45 = if qkd f n b = 1 ∧ qtqB f b (qnx f n b) (qsb 45) 0 3 = true then 0 else -1 := am_1 (i := 45) (by decide) (by decide +kernel)
theorem am1_46 {f : Nat → Int32} {n b : Int} : qam f n b 46 = if qkd f n b = 1 ∧ qtqB f b (qnx f n b) (qsb 46) 0 4 = true then 0 else -1 := am_1 (i := 46) (by decide) (by decide +kernel)
theorem am1_47 {f : Nat → Int32} {n b : Int} : qam f n b 47 = if qkd f n b = 1 ∧ qtqB f b (qnx f n b) (qsb 47) 0 5 = true then 0 else -1 := am_1 (i := 47) (by decide) (by decide +kernel)
theorem am_w0 {f : Nat → Int32} {n b : Int} : qam f n b 0 = (if qam f n b 17 = 0 then 0 else (if qam f n b 18 = 0 then 1 else (if qam f n b 19 = 0 then 2 else (if qam f n b 20 = 0 then 3 else (if qam f n b 13 = 0 then 4 else (if qam f n b 14 = 0 then 5 else (if qam f n b 15 = 0 then 6 else (if qam f n b 16 = 0 then 7 else -1)))))))) := by
  rw [am1_17, am1_18, am1_19, am1_20, am1_13, am1_14, am1_15, am1_16]
  unfold qam
  by_cases hk : qkd f n b = 1
  · rw [if_pos hk]
    have e9 : ∀ m : Nat, qamo f b (qnx f n b) (qsb 0) 46 (m + 8) 0 0 = (if qtqB f b (qnx f n b) (qsb 17) 0 5 = true then 0 else (if qtqB f b (qnx f n b) (qsb 18) 0 4 = true then 1 else (if qtqB f b (qnx f n b) (qsb 19) 0 3 = true then 2 else (if qtqB f b (qnx f n b) (qsb 20) 0 9 = true then 3 else (if qtqB f b (qnx f n b) (qsb 13) 0 4 = true then 4 else (if qtqB f b (qnx f n b) (qsb 14) 0 4 = true then 5 else (if qtqB f b (qnx f n b) (qsb 15) 0 4 = true then 6 else (if qtqB f b (qnx f n b) (qsb 16) 0 6 = true then 7 else -1)))))))) := by
      intro m
      rw [show m + 8 = (m + 7) + 1 from rfl, am_m (o := 0) (l := 5) (by decide) (by decide +kernel), tq_c (W := qsb 0) (o := 0) (l := 5) (W' := qsb 17) (o' := 0) (by decide +kernel)]
      rw [show (0 : Int) + 5 + 1 = 6 from rfl, show (0 : Int) + 1 = 1 from rfl, show m + 7 = (m + 6) + 1 from rfl, am_m (o := 6) (l := 4) (by decide) (by decide +kernel), tq_c (W := qsb 0) (o := 6) (l := 4) (W' := qsb 18) (o' := 0) (by decide +kernel)]
      rw [show (6 : Int) + 4 + 1 = 11 from rfl, show (1 : Int) + 1 = 2 from rfl, show m + 6 = (m + 5) + 1 from rfl, am_m (o := 11) (l := 3) (by decide) (by decide +kernel), tq_c (W := qsb 0) (o := 11) (l := 3) (W' := qsb 19) (o' := 0) (by decide +kernel)]
      rw [show (11 : Int) + 3 + 1 = 15 from rfl, show (2 : Int) + 1 = 3 from rfl, show m + 5 = (m + 4) + 1 from rfl, am_m (o := 15) (l := 9) (by decide) (by decide +kernel), tq_c (W := qsb 0) (o := 15) (l := 9) (W' := qsb 20) (o' := 0) (by decide +kernel)]
      rw [show (15 : Int) + 9 + 1 = 25 from rfl, show (3 : Int) + 1 = 4 from rfl, show m + 4 = (m + 3) + 1 from rfl, am_m (o := 25) (l := 4) (by decide) (by decide +kernel), tq_c (W := qsb 0) (o := 25) (l := 4) (W' := qsb 13) (o' := 0) (by decide +kernel)]
      rw [show (25 : Int) + 4 + 1 = 30 from rfl, show (4 : Int) + 1 = 5 from rfl, show m + 3 = (m + 2) + 1 from rfl, am_m (o := 30) (l := 4) (by decide) (by decide +kernel), tq_c (W := qsb 0) (o := 30) (l := 4) (W' := qsb 14) (o' := 0) (by decide +kernel)]
      rw [show (30 : Int) + 4 + 1 = 35 from rfl, show (5 : Int) + 1 = 6 from rfl, show m + 2 = (m + 1) + 1 from rfl, am_m (o := 35) (l := 4) (by decide) (by decide +kernel), tq_c (W := qsb 0) (o := 35) (l := 4) (W' := qsb 15) (o' := 0) (by decide +kernel)]
      rw [show (35 : Int) + 4 + 1 = 40 from rfl, show (6 : Int) + 1 = 7 from rfl, show m + 1 = (m + 0) + 1 from rfl, am_m (o := 40) (l := 6) (by decide) (by decide +kernel), tq_c (W := qsb 0) (o := 40) (l := 6) (W' := qsb 16) (o' := 0) (by decide +kernel)]
      rw [am_x (by decide)]
    have e8 := e9 53
    refine e8.trans ?_
    simp only [hk, true_and, b_if]
  · simp [hk]
theorem am_w2 {f : Nat → Int32} {n b : Int} : qam f n b 2 = (if qam f n b 13 = 0 then 0 else (if qam f n b 14 = 0 then 1 else (if qam f n b 15 = 0 then 2 else (if qam f n b 16 = 0 then 3 else -1)))) := by
  rw [am1_13, am1_14, am1_15, am1_16]
  unfold qam
  by_cases hk : qkd f n b = 1
  · rw [if_pos hk]
    have e9 : ∀ m : Nat, qamo f b (qnx f n b) (qsb 2) 21 (m + 4) 0 0 = (if qtqB f b (qnx f n b) (qsb 13) 0 4 = true then 0 else (if qtqB f b (qnx f n b) (qsb 14) 0 4 = true then 1 else (if qtqB f b (qnx f n b) (qsb 15) 0 4 = true then 2 else (if qtqB f b (qnx f n b) (qsb 16) 0 6 = true then 3 else -1)))) := by
      intro m
      rw [show m + 4 = (m + 3) + 1 from rfl, am_m (o := 0) (l := 4) (by decide) (by decide +kernel), tq_c (W := qsb 2) (o := 0) (l := 4) (W' := qsb 13) (o' := 0) (by decide +kernel)]
      rw [show (0 : Int) + 4 + 1 = 5 from rfl, show (0 : Int) + 1 = 1 from rfl, show m + 3 = (m + 2) + 1 from rfl, am_m (o := 5) (l := 4) (by decide) (by decide +kernel), tq_c (W := qsb 2) (o := 5) (l := 4) (W' := qsb 14) (o' := 0) (by decide +kernel)]
      rw [show (5 : Int) + 4 + 1 = 10 from rfl, show (1 : Int) + 1 = 2 from rfl, show m + 2 = (m + 1) + 1 from rfl, am_m (o := 10) (l := 4) (by decide) (by decide +kernel), tq_c (W := qsb 2) (o := 10) (l := 4) (W' := qsb 15) (o' := 0) (by decide +kernel)]
      rw [show (10 : Int) + 4 + 1 = 15 from rfl, show (2 : Int) + 1 = 3 from rfl, show m + 1 = (m + 0) + 1 from rfl, am_m (o := 15) (l := 6) (by decide) (by decide +kernel), tq_c (W := qsb 2) (o := 15) (l := 6) (W' := qsb 16) (o' := 0) (by decide +kernel)]
      rw [am_x (by decide)]
    have e8 := e9 57
    refine e8.trans ?_
    simp only [hk, true_and, b_if]
  · simp [hk]
theorem am_w5 {f : Nat → Int32} {n b : Int} : qam f n b 5 = (if qam f n b 24 = 0 then 0 else (if qam f n b 25 = 0 then 1 else (if qam f n b 26 = 0 then 2 else (if qam f n b 27 = 0 then 3 else (if qam f n b 28 = 0 then 4 else -1))))) := by
  rw [am1_24, am1_25, am1_26, am1_27, am1_28]
  unfold qam
  by_cases hk : qkd f n b = 1
  · rw [if_pos hk]
    have e9 : ∀ m : Nat, qamo f b (qnx f n b) (qsb 5) 27 (m + 5) 0 0 = (if qtqB f b (qnx f n b) (qsb 24) 0 4 = true then 0 else (if qtqB f b (qnx f n b) (qsb 25) 0 6 = true then 1 else (if qtqB f b (qnx f n b) (qsb 26) 0 5 = true then 2 else (if qtqB f b (qnx f n b) (qsb 27) 0 3 = true then 3 else (if qtqB f b (qnx f n b) (qsb 28) 0 5 = true then 4 else -1))))) := by
      intro m
      rw [show m + 5 = (m + 4) + 1 from rfl, am_m (o := 0) (l := 4) (by decide) (by decide +kernel), tq_c (W := qsb 5) (o := 0) (l := 4) (W' := qsb 24) (o' := 0) (by decide +kernel)]
      rw [show (0 : Int) + 4 + 1 = 5 from rfl, show (0 : Int) + 1 = 1 from rfl, show m + 4 = (m + 3) + 1 from rfl, am_m (o := 5) (l := 6) (by decide) (by decide +kernel), tq_c (W := qsb 5) (o := 5) (l := 6) (W' := qsb 25) (o' := 0) (by decide +kernel)]
      rw [show (5 : Int) + 6 + 1 = 12 from rfl, show (1 : Int) + 1 = 2 from rfl, show m + 3 = (m + 2) + 1 from rfl, am_m (o := 12) (l := 5) (by decide) (by decide +kernel), tq_c (W := qsb 5) (o := 12) (l := 5) (W' := qsb 26) (o' := 0) (by decide +kernel)]
      rw [show (12 : Int) + 5 + 1 = 18 from rfl, show (2 : Int) + 1 = 3 from rfl, show m + 2 = (m + 1) + 1 from rfl, am_m (o := 18) (l := 3) (by decide) (by decide +kernel), tq_c (W := qsb 5) (o := 18) (l := 3) (W' := qsb 27) (o' := 0) (by decide +kernel)]
      rw [show (18 : Int) + 3 + 1 = 22 from rfl, show (3 : Int) + 1 = 4 from rfl, show m + 1 = (m + 0) + 1 from rfl, am_m (o := 22) (l := 5) (by decide) (by decide +kernel), tq_c (W := qsb 5) (o := 22) (l := 5) (W' := qsb 28) (o' := 0) (by decide +kernel)]
      rw [am_x (by decide)]
    have e8 := e9 56
    refine e8.trans ?_
    simp only [hk, true_and, b_if]
  · simp [hk]
theorem am_w6 {f : Nat → Int32} {n b : Int} : qam f n b 6 = (if qam f n b 29 = 0 then 0 else (if qam f n b 30 = 0 then 1 else (if qam f n b 31 = 0 then 2 else (if qam f n b 32 = 0 then 3 else (if qam f n b 33 = 0 then 4 else (if qam f n b 34 = 0 then 5 else (if qam f n b 35 = 0 then 6 else -1))))))) := by
  rw [am1_29, am1_30, am1_31, am1_32, am1_33, am1_34, am1_35]
  unfold qam
  by_cases hk : qkd f n b = 1
  · rw [if_pos hk]
    have e9 : ∀ m : Nat, qamo f b (qnx f n b) (qsb 6) 35 (m + 7) 0 0 = (if qtqB f b (qnx f n b) (qsb 29) 0 4 = true then 0 else (if qtqB f b (qnx f n b) (qsb 30) 0 5 = true then 1 else (if qtqB f b (qnx f n b) (qsb 31) 0 5 = true then 2 else (if qtqB f b (qnx f n b) (qsb 32) 0 4 = true then 3 else (if qtqB f b (qnx f n b) (qsb 33) 0 4 = true then 4 else (if qtqB f b (qnx f n b) (qsb 34) 0 4 = true then 5 else (if qtqB f b (qnx f n b) (qsb 35) 0 3 = true then 6 else -1))))))) := by
      intro m
      rw [show m + 7 = (m + 6) + 1 from rfl, am_m (o := 0) (l := 4) (by decide) (by decide +kernel), tq_c (W := qsb 6) (o := 0) (l := 4) (W' := qsb 29) (o' := 0) (by decide +kernel)]
      rw [show (0 : Int) + 4 + 1 = 5 from rfl, show (0 : Int) + 1 = 1 from rfl, show m + 6 = (m + 5) + 1 from rfl, am_m (o := 5) (l := 5) (by decide) (by decide +kernel), tq_c (W := qsb 6) (o := 5) (l := 5) (W' := qsb 30) (o' := 0) (by decide +kernel)]
      rw [show (5 : Int) + 5 + 1 = 11 from rfl, show (1 : Int) + 1 = 2 from rfl, show m + 5 = (m + 4) + 1 from rfl, am_m (o := 11) (l := 5) (by decide) (by decide +kernel), tq_c (W := qsb 6) (o := 11) (l := 5) (W' := qsb 31) (o' := 0) (by decide +kernel)]
      rw [show (11 : Int) + 5 + 1 = 17 from rfl, show (2 : Int) + 1 = 3 from rfl, show m + 4 = (m + 3) + 1 from rfl, am_m (o := 17) (l := 4) (by decide) (by decide +kernel), tq_c (W := qsb 6) (o := 17) (l := 4) (W' := qsb 32) (o' := 0) (by decide +kernel)]
      rw [show (17 : Int) + 4 + 1 = 22 from rfl, show (3 : Int) + 1 = 4 from rfl, show m + 3 = (m + 2) + 1 from rfl, am_m (o := 22) (l := 4) (by decide) (by decide +kernel), tq_c (W := qsb 6) (o := 22) (l := 4) (W' := qsb 33) (o' := 0) (by decide +kernel)]
      rw [show (22 : Int) + 4 + 1 = 27 from rfl, show (4 : Int) + 1 = 5 from rfl, show m + 2 = (m + 1) + 1 from rfl, am_m (o := 27) (l := 4) (by decide) (by decide +kernel), tq_c (W := qsb 6) (o := 27) (l := 4) (W' := qsb 34) (o' := 0) (by decide +kernel)]
      rw [show (27 : Int) + 4 + 1 = 32 from rfl, show (5 : Int) + 1 = 6 from rfl, show m + 1 = (m + 0) + 1 from rfl, am_m (o := 32) (l := 3) (by decide) (by decide +kernel), tq_c (W := qsb 6) (o := 32) (l := 3) (W' := qsb 35) (o' := 0) (by decide +kernel)]
      rw [am_x (by decide)]
    have e8 := e9 54
    refine e8.trans ?_
    simp only [hk, true_and, b_if]
  · simp [hk]
theorem am_w10 {f : Nat → Int32} {n b : Int} : qam f n b 10 = (if qam f n b 39 = 0 then 0 else (if qam f n b 40 = 0 then 1 else (if qam f n b 41 = 0 then 2 else (if qam f n b 42 = 0 then 3 else (if qam f n b 43 = 0 then 4 else (if qam f n b 44 = 0 then 5 else (if qam f n b 45 = 0 then 6 else -1))))))) := by
  rw [am1_39, am1_40, am1_41, am1_42, am1_43, am1_44, am1_45]
  unfold qam
  by_cases hk : qkd f n b = 1
  · rw [if_pos hk]
    have e9 : ∀ m : Nat, qamo f b (qnx f n b) (qsb 10) 27 (m + 7) 0 0 = (if qtqB f b (qnx f n b) (qsb 39) 0 3 = true then 0 else (if qtqB f b (qnx f n b) (qsb 40) 0 3 = true then 1 else (if qtqB f b (qnx f n b) (qsb 41) 0 3 = true then 2 else (if qtqB f b (qnx f n b) (qsb 42) 0 3 = true then 3 else (if qtqB f b (qnx f n b) (qsb 43) 0 3 = true then 4 else (if qtqB f b (qnx f n b) (qsb 44) 0 3 = true then 5 else (if qtqB f b (qnx f n b) (qsb 45) 0 3 = true then 6 else -1))))))) := by
      intro m
      rw [show m + 7 = (m + 6) + 1 from rfl, am_m (o := 0) (l := 3) (by decide) (by decide +kernel), tq_c (W := qsb 10) (o := 0) (l := 3) (W' := qsb 39) (o' := 0) (by decide +kernel)]
      rw [show (0 : Int) + 3 + 1 = 4 from rfl, show (0 : Int) + 1 = 1 from rfl, show m + 6 = (m + 5) + 1 from rfl, am_m (o := 4) (l := 3) (by decide) (by decide +kernel), tq_c (W := qsb 10) (o := 4) (l := 3) (W' := qsb 40) (o' := 0) (by decide +kernel)]
      rw [show (4 : Int) + 3 + 1 = 8 from rfl, show (1 : Int) + 1 = 2 from rfl, show m + 5 = (m + 4) + 1 from rfl, am_m (o := 8) (l := 3) (by decide) (by decide +kernel), tq_c (W := qsb 10) (o := 8) (l := 3) (W' := qsb 41) (o' := 0) (by decide +kernel)]
      rw [show (8 : Int) + 3 + 1 = 12 from rfl, show (2 : Int) + 1 = 3 from rfl, show m + 4 = (m + 3) + 1 from rfl, am_m (o := 12) (l := 3) (by decide) (by decide +kernel), tq_c (W := qsb 10) (o := 12) (l := 3) (W' := qsb 42) (o' := 0) (by decide +kernel)]
      rw [show (12 : Int) + 3 + 1 = 16 from rfl, show (3 : Int) + 1 = 4 from rfl, show m + 3 = (m + 2) + 1 from rfl, am_m (o := 16) (l := 3) (by decide) (by decide +kernel), tq_c (W := qsb 10) (o := 16) (l := 3) (W' := qsb 43) (o' := 0) (by decide +kernel)]
      rw [show (16 : Int) + 3 + 1 = 20 from rfl, show (4 : Int) + 1 = 5 from rfl, show m + 2 = (m + 1) + 1 from rfl, am_m (o := 20) (l := 3) (by decide) (by decide +kernel), tq_c (W := qsb 10) (o := 20) (l := 3) (W' := qsb 44) (o' := 0) (by decide +kernel)]
      rw [show (20 : Int) + 3 + 1 = 24 from rfl, show (5 : Int) + 1 = 6 from rfl, show m + 1 = (m + 0) + 1 from rfl, am_m (o := 24) (l := 3) (by decide) (by decide +kernel), tq_c (W := qsb 10) (o := 24) (l := 3) (W' := qsb 45) (o' := 0) (by decide +kernel)]
      rw [am_x (by decide)]
    have e8 := e9 54
    refine e8.trans ?_
    simp only [hk, true_and, b_if]
  · simp [hk]
