/-! the reference's side -/
theorem up_y {f : Nat → Int32} {k : Nat} {x : Int32} (b : ∀ i, (-128 : Int) ≤ (f i).toInt ∧ (f i).toInt ≤ 127) : ∀ i, (-128 : Int) ≤ (upd f k (vp_nar .byte x) i).toInt ∧ (upd f k (vp_nar .byte x) i).toInt ≤ 127 := up_b b (ba_i2b (v := vp_nar .byte x) (a := x) rfl)
theorem and_255 {x : Int32} (h : -128 ≤ x.toInt ∧ x.toInt ≤ 127) : (0 ≤ x.toInt ∧ (x &&& 255).toInt = x.toInt) ∨ (x.toInt < 0 ∧ (x &&& 255).toInt = x.toInt + 256) := by
  have key : ∀ k : Nat, k < 256 → (0 ≤ (Int32.ofInt ((k : Int) - 128)).toInt ∧ (Int32.ofInt ((k : Int) - 128) &&& 255).toInt = (Int32.ofInt ((k : Int) - 128)).toInt) ∨ ((Int32.ofInt ((k : Int) - 128)).toInt < 0 ∧ (Int32.ofInt ((k : Int) - 128) &&& 255).toInt = (Int32.ofInt ((k : Int) - 128)).toInt + 256) := by decide +kernel
  have e : x = Int32.ofInt (((x.toInt + 128).toNat : Int) - 128) := by
    have h1 : (((x.toInt + 128).toNat : Int) - 128) = x.toInt := by omega
    rw [h1]
    exact (Int32.ofInt_toInt x).symm
  have := key (x.toInt + 128).toNat (by omega)
  rw [← e] at this
  exact this
theorem see_v {f : Nat → Int32} {sz k c : Int} (hb : ∀ i, (-128 : Int) ≤ (f i).toInt ∧ (f i).toInt ≤ 127) (h : c = seeI f sz k) : (k < sz ∧ -128 ≤ qtb f k ∧ qtb f k ≤ 127 ∧ ((0 ≤ qtb f k ∧ c = qtb f k) ∨ (qtb f k < 0 ∧ c = qtb f k + 256))) ∨ (sz ≤ k ∧ c = -1) := by
  unfold seeI at h
  by_cases h1 : k < sz
  · rw [if_pos h1] at h
    have := and_255 (hb k.toNat)
    have := hb k.toNat
    unfold qtb
    omega
  · rw [if_neg h1] at h
    omega
section REFM
variable {f : Nat → Int32} {n H tk b a v F P w r F' P' b' : Int} {i j : Nat}
theorem is_tq (hT : qTok f n H tk b a v) (hF : F = 0) : isP f F tk a b i ↔ (qkd f n b = 1 ∧ qtqB f b (qnx f n b) (qsb i) 0 (lenS.getD i 0 : Int) = true) := by
  obtain ⟨t1, t2, -, t4, t5⟩ := hT
  constructor
  · rintro ⟨-, h1, h2, h3⟩
    refine ⟨by omega, tqB_iff.mpr ⟨by omega, fun j hj => ?_⟩⟩
    have h4 := h3 j (by omega)
    unfold qtb qsb
    rw [show (b + (j : Int)).toNat = b.toNat + j by omega, show ((0 : Int) + (j : Int)).toNat = j by omega, h4]
  · rintro ⟨h1, h2⟩
    obtain ⟨h3, h4⟩ := tqB_iff.mp h2
    refine ⟨hF, by omega, by omega, fun k hk => ?_⟩
    have h5 := h4 k (by omega)
    unfold qtb qsb at h5
    rw [show (b + (k : Int)).toNat = b.toNat + k by omega, show ((0 : Int) + (k : Int)).toNat = k by omega] at h5
    exact Int32.toInt_inj.mp h5
theorem is_am (hT : qTok f n H tk b a v) (h0 : (0 : Int) < (lenS.getD i 0 : Int)) (hr : qrun qcW (qsb i) (lenS.getD i 0 : Int) 0 = 0 + (lenS.getD i 0 : Int)) (h : (r = 1 ∧ isI f F tk a b i = 1) ∨ (r = 0 ∧ isI f F tk a b i = 0)) (hF : F = 0) : (r = 1 ∧ qam f n b i = 0) ∨ (r = 0 ∧ qam f n b i = -1) := by
  rw [am_1 h0 hr]
  have hi := is_tq (i := i) hT hF
  by_cases c : qkd f n b = 1 ∧ qtqB f b (qnx f n b) (qsb i) 0 (lenS.getD i 0 : Int) = true
  · rw [if_pos c]
    have h1 := isI_1 (hi.mpr c)
    rcases h with h | h
    · exact Or.inl ⟨h.1, rfl⟩
    · omega
  · rw [if_neg c]
    have h1 := isI_0 (fun q => c (hi.mp q))
    rcases h with h | h
    · omega
    · exact Or.inr ⟨h.1, rfl⟩
theorem chi_of (h : F ≠ 0 ∨ w = qam f n b i) : r_ch f n w (F, P, b) = r_chi f n i (F, P, b) := by
  rcases h with h | h
  · unfold r_chi r_ch
    rw [if_neg h]
    exact (if_neg h).symm
  · rw [h]
    rfl
theorem chi_eq {s : Int × Int × Int} (h1 : bytS.getD i [] = bytS.getD j []) (h2 : lenS.getD i 0 = lenS.getD j 0) : r_chi f n i s = r_chi f n j s := by
  unfold r_chi
  rw [am_eq h1 h2]
theorem opt_eq {lo hi : Int} {s : Int × Int × Int} (h1 : bytS.getD i [] = bytS.getD j []) (h2 : lenS.getD i 0 = lenS.getD j 0) : r_opt f n i lo hi s = r_opt f n j lo hi s := by
  unfold r_opt
  rw [am_eq h1 h2]
end REFM
section REFN
variable {f : Nat → Int32} {n F P b w F' P' b' F1 P1 b1 : Int} {i j : Nat}
theorem chi_y (h : F = 0 ∧ 0 ≤ qam f n b i) : r_ad f n (F, P, b) = r_chi f n i (F, P, b) := by
  unfold r_chi r_ch
  rw [if_pos h.1]
  exact (if_pos h.2).symm
theorem chi_n (h : ¬ (F = 0 ∧ 0 ≤ qam f n b i)) : r_fl 1 (F, P, b) = r_chi f n i (F, P, b) := by
  unfold r_chi r_ch
  by_cases h0 : F = 0
  · rw [if_pos h0]
    exact (if_neg (fun q => h ⟨h0, q⟩)).symm
  · rw [if_neg h0]
    exact if_neg h0
theorem am_01 (i : Nat) (h0 : (0 : Int) < (lenS.getD i 0 : Int)) (hr : qrun qcW (qsb i) (lenS.getD i 0 : Int) 0 = 0 + (lenS.getD i 0 : Int)) : qam f n b i = 0 ∨ qam f n b i = -1 := by
  rw [am_1 h0 hr]
  split
  · exact Or.inl rfl
  · exact Or.inr rfl
/-- two words are not one token -/
theorem tq_uni {e l l' : Int} {W W' : Nat → Int32} (h1 : qtqB f b e W 0 l = true) (h2 : qtqB f b e W' 0 l' = true) : l = l' ∧ ∀ j : Nat, (j : Int) < l → qtb W (0 + (j : Int)) = qtb W' (0 + (j : Int)) := by
  obtain ⟨a1, a2⟩ := tqB_iff.mp h1
  obtain ⟨c1, c2⟩ := tqB_iff.mp h2
  exact ⟨by omega, fun j hj => (a2 j hj).symm.trans (c2 j (by omega))⟩
theorem pa_am (h : 0 ≤ qam f n b 5) (e : ((F', P', b') : Int × Int × Int) = r_ad f n (F, P, b)) (h0 : F = 0) : ((F', P', b') : Int × Int × Int) = r_pa f n (F, P, b) := by
  rw [e]
  unfold r_pa
  have hk := am_kd h
  have h3 : r_ad f n (F, P, b) = r_chi f n 5 (F, P, b) := chi_y ⟨h0, h⟩
  rw [h3]
  exact (if_neg (by show ¬ qkd f n b = 2; omega)).symm
theorem pa_nm (h : F ≠ 0 ∨ qam f n b 5 < 0) (e : ((F', P', b') : Int × Int × Int) = r_nm f n 0 999 (F, P, b)) : ((F', P', b') : Int × Int × Int) = r_pa f n (F, P, b) := by
  rw [e]
  unfold r_pa
  by_cases hk : qkd f n b = 2
  · exact (if_pos hk).symm
  · refine Eq.trans ?_ (if_neg hk).symm
    unfold r_nm
    by_cases h0 : F = 0
    · have h5 : qam f n b 5 < 0 := h.resolve_left (fun q => q h0)
      refine (if_pos h0).trans ?_
      refine (if_neg hk).trans ?_
      exact chi_n (fun q => by have := q.2; omega)
    · refine (if_neg h0).trans ?_
      unfold r_chi r_ch
      exact (if_neg h0).symm
end REFN
section REFT
variable {f : Nat → Int32} {n F P b F' P' b' F1 P1 b1 : Int} {c : Bool} {s t : Int × Int × Int} {Q : Int × Int × Int}
theorem tp_f (h : F ≠ 0) : r_tp f n (qT f n) c (F, P, b) = (F, P, b) := by
  unfold r_tp
  exact if_pos (Or.inl h)
theorem tp_ng (h : F = 0) (hk : c = false ∨ qkd f n b ≠ 3) : ¬ (F ≠ 0 ∨ (c = true ∧ qkd f n b = 3)) := by
  rintro (q | ⟨q, q2⟩)
  · exact q h
  · rcases hk with hk | hk
    · rw [hk] at q
      cases q
    · exact hk q2
theorem T_tp (h : b ≤ n) : qT f n c (F, P, b) = r_tp f n (qT f n) c (r_pa f n (F, P, b)) := T_eq h
/-- a sum goes on -/
theorem tp_go (h : F = 0) (ha : 0 ≤ qam f n b 6 ∧ qam f n b 6 ≤ 2) (e1 : ((F1, P1, b1) : Int × Int × Int) = r_ad f n (F, P, b)) (hb : b1 ≤ n) (e2 : t = r_pa f n (F1, P1, b1)) : r_tp f n (qT f n) c (F, P, b) = r_tp f n (qT f n) c t := by
  have hk := am_kd ha.1
  rw [e2, ← T_tp hb, e1]
  unfold r_tp
  rw [if_neg (tp_ng h (Or.inr (show qkd f n b ≠ 3 by omega))), if_pos ha]
theorem tp_si (h : F = 0) (ha : 3 ≤ qam f n b 6 ∧ qam f n b 6 ≤ 5) (e1 : ((F1, P1, b1) : Int × Int × Int) = r_ad f n (F, P, b)) (hb : b1 ≤ n) (e2 : r_tp f n (qT f n) true (r_pa f n (F1, P1, b1)) = Q) : r_tp f n (qT f n) false (F, P, b) = Q := by
  rw [← e2, ← T_tp hb, e1]
  unfold r_tp
  rw [if_neg (tp_ng h (Or.inl rfl)), if_neg (fun q => by have q2 : qam f n b 6 ≤ 2 := q.2; omega), if_pos ⟨ha.1, ha.2, rfl⟩]
theorem tp_an (h : F = 0) (ha : qam f n b 6 = 6) : r_tp f n (qT f n) true (F, P, b) = qT f n false (r_ad f n (F, P, b)) := by
  have hk := am_kd (f := f) (n := n) (b := b) (i := 6) (by omega)
  unfold r_tp
  rw [if_neg (tp_ng h (Or.inr (show qkd f n b ≠ 3 by omega))), if_neg (fun q => by have q2 : qam f n b 6 ≤ 2 := q.2; omega), if_neg (fun q => by have q2 : qam f n b 6 ≤ 5 := q.2.1; omega), if_pos ⟨ha, rfl⟩]
theorem tp_no1 (h : F = 0) (ha : qam f n b 6 < 0 ∨ qam f n b 6 = 6 ∨ 6 < qam f n b 6) : r_tp f n (qT f n) false (F, P, b) = r_fl 1 (F, P, b) := by
  unfold r_tp
  rw [if_neg (tp_ng h (Or.inl rfl)), if_neg (fun q => by have q1 : 0 ≤ qam f n b 6 := q.1; have q2 : qam f n b 6 ≤ 2 := q.2; omega), if_neg (fun q => by have q1 : 3 ≤ qam f n b 6 := q.1; have q2 : qam f n b 6 ≤ 5 := q.2.1; omega), if_neg (fun q => by cases q.2)]
/-- behind the last test: the end of the line tells -/
theorem tp_cl (h : F = 0) (ha : qam f n b 6 < 0 ∨ 3 ≤ qam f n b 6) (h6 : qam f n b 6 ≠ 6) : r_cl f n (r_tp f n (qT f n) true (F, P, b)) = r_cl f n (F, P, b) := by
  by_cases hk : qkd f n b = 3
  · have e : r_tp f n (qT f n) true (F, P, b) = (F, P, b) := by
      unfold r_tp
      exact if_pos (Or.inr ⟨rfl, hk⟩)
    rw [e]
  · have e : r_tp f n (qT f n) true (F, P, b) = r_fl 1 (F, P, b) := by
      unfold r_tp
      rw [if_neg (tp_ng h (Or.inr hk)), if_neg (fun q => by have q1 : 0 ≤ qam f n b 6 := q.1; have q2 : qam f n b 6 ≤ 2 := q.2; omega), if_neg (fun q => by cases q.2.2), if_neg (fun q => h6 q.1)]
    rw [e]
    have e2 : r_fl 1 (F, P, b) = (1, b, b) := if_pos h
    have e3 : r_cl f n (F, P, b) = r_fl 1 (F, P, b) := by
      unfold r_cl
      rw [if_pos h]
      exact if_neg hk
    rw [e3, e2]
    unfold r_cl
    exact if_neg (show ¬ (1 : Int) = 0 by decide)
end REFT
theorem k1_f {f : Nat → Int32} {n F P b a : Int} (h : F ≠ 0) : ((F, P, b) : Int × Int × Int) = r_k1 f n a (F, P, b) := by
  unfold r_k1
  split
  · exact (if_neg h).symm
  · rfl
theorem ch_id {f : Nat → Int32} {n F P b w : Int} (h : F ≠ 0) : r_ch f n w (F, P, b) = (F, P, b) := if_neg h
theorem ch_neg {f : Nat → Int32} {n F P b w : Int} (h : F = 0) (hw : w < 0) : r_ch f n w (F, P, b) = r_fl 1 (F, P, b) := (if_pos h).trans (if_neg (by omega))
theorem ch_pos {f : Nat → Int32} {n F P b w : Int} (h : F = 0) (hw : 0 ≤ w) : r_ch f n w (F, P, b) = r_ad f n (F, P, b) := (if_pos h).trans (if_pos hw)
section REFO
variable {f : Nat → Int32} {n F P b F' P' b' F1 P1 b1 : Int} {s t Q Q' : Int × Int × Int}
theorem tt_q {X Y Z : Prop} (e : Q = Q') (h : (X ∧ Q' = s) ∨ (Y ∧ Q' = t ∧ Z)) : (X ∧ Q = s) ∨ (Y ∧ Q = t ∧ Z) := by
  rw [e]
  exact h
theorem oi_1 (e : ((F, P, b) : Int × Int × Int) = t) (h : F = 0 ∧ 0 ≤ qam f n b 4) (e1 : s = r_ad f n (F, P, b)) : r_oi f n t = qT f n false s := by
  rw [← e, e1]
  unfold r_oi
  exact if_pos h
theorem oi_0 (h : ¬ (F = 0 ∧ 0 ≤ qam f n b 4)) : ((F, P, b) : Int × Int × Int) = r_oi f n (F, P, b) := by
  unfold r_oi
  exact (if_neg h).symm
end REFO
theorem tok_le {f : Nat → Int32} {n H k b e v : Int} (h : qTok f n H k b e v) : b ≤ e ∧ e ≤ n := by
  obtain ⟨-, a2, -, -, a5⟩ := h
  have := nx_le (f := f) a5
  omega
