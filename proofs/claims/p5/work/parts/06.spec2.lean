/-! lines: houses, who knows whom, the code -/
def r_opt (f : Nat → Int32) (n : Int) (i : Nat) (lo hi : Int) (s : Int × Int × Int) : Int × Int × Int := if s.1 = 0 ∧ 0 ≤ qam f n s.2.2 i then r_nm f n lo hi (r_ad f n s) else s
theorem opt_y {f : Nat → Int32} {n lo hi F P b : Int} {i : Nat} {s1 s2 : Int × Int × Int} (h : F = 0 ∧ 0 ≤ qam f n b i) (e1 : s1 = r_ad f n (F, P, b)) (e2 : s2 = r_nm f n lo hi s1) : s2 = r_opt f n i lo hi (F, P, b) := by
  rw [e2, e1]
  unfold r_opt
  exact (if_pos h).symm
theorem opt_n {f : Nat → Int32} {n lo hi F P b : Int} {i : Nat} (h : ¬ (F = 0 ∧ 0 ≤ qam f n b i)) : ((F, P, b) : Int × Int × Int) = r_opt f n i lo hi (F, P, b) := by
  unfold r_opt
  exact (if_neg h).symm
def r_h1 (f : Nat → Int32) (n : Int) (s : Int × Int × Int) : Int × Int × Int := r_chi f n 10 (r_chi f n 9 (r_nm f n 0 9 (r_chi f n 8 (r_nm f n 0 99 (r_nm f n 0 99 (r_chi f n 7 s))))))
def r_h2 (f : Nat → Int32) (n : Int) (s : Int × Int × Int) : Int × Int × Int := r_nm f n (r_nv f n 0 180 (r_h1 f n s)) 180 (r_nm f n 0 180 (r_h1 f n s))
def r_ho (f : Nat → Int32) (n hs : Int) (s : Int × Int × Int) : Int × Int × Int := if hs < 16 then r_opt f n 12 0 99 (r_opt f n 11 0 399 (r_h2 f n (r_ad f n s))) else r_fl 3 s
def r_k1 (f : Nat → Int32) (n a : Int) (s : Int × Int × Int) : Int × Int × Int := if qkd f n s.2.2 = 2 ∧ qdv f n s.2.2 = a then r_fl 2 s else s
def r_kn (f : Nat → Int32) (n hs : Int) (s : Int × Int × Int) : Int × Int × Int := r_nm f n 0 (hs - 1) (r_k1 f n (r_nv f n 0 (hs - 1) s) (r_nm f n 0 (hs - 1) s))
section KNW
variable {f : Nat → Int32} {n H k b e v F P F' P' b' a : Int}
theorem k1_y (hT : qTok f n H k b e v) (hk : k = 2) (hv : v = a) (ha : a < H) (h : ((F', P', b') : Int × Int × Int) = r_fl 2 (F, P, b)) : ((F', P', b') : Int × Int × Int) = r_k1 f n a (F, P, b) := by
  have a1 := hT.1
  have a3 := hT.2.2.1 hk
  rw [h]
  unfold r_k1
  exact (if_pos ⟨by show qkd f n b = 2; omega, by show qdv f n b = a; omega⟩).symm
theorem k1_n (hT : qTok f n H k b e v) (h : k ≠ 2 ∨ v ≠ a) (ha : a < H) : ((F, P, b) : Int × Int × Int) = r_k1 f n a (F, P, b) := by
  have a1 := hT.1
  have a3 := hT.2.2.1
  unfold r_k1
  refine (if_neg ?_).symm
  rintro ⟨q1, q2⟩
  have q1 : qkd f n b = 2 := q1
  have q2 : qdv f n b = a := q2
  have := a3 (by omega)
  omega
end KNW
def r_ot (f : Nat → Int32) (n hs w : Int) (s : Int × Int × Int) : Int × Int × Int := if w = 0 then r_ho f n hs s else if w = 1 then r_kn f n hs (r_ad f n s) else if w = 2 then r_nm f n 0 99 (r_ad f n s) else if w = 3 then r_nm f n 1 9 (r_ad f n s) else r_fl 1 s
/-! tests: a part, then what may stand behind it -/
def r_pa (f : Nat → Int32) (n : Int) (s : Int × Int × Int) : Int × Int × Int := if qkd f n s.2.2 = 2 then r_nm f n 0 999 s else r_chi f n 5 s
def r_tp (f : Nat → Int32) (n : Int) (T : Bool → Int × Int × Int → Int × Int × Int) (c : Bool) (s : Int × Int × Int) : Int × Int × Int := if s.1 ≠ 0 ∨ (c = true ∧ qkd f n s.2.2 = 3) then s else if 0 ≤ qam f n s.2.2 6 ∧ qam f n s.2.2 6 ≤ 2 then T c (r_ad f n s) else if 3 ≤ qam f n s.2.2 6 ∧ qam f n s.2.2 6 ≤ 5 ∧ c = false then T true (r_ad f n s) else if qam f n s.2.2 6 = 6 ∧ c = true then T false (r_ad f n s) else r_fl 1 s
def r_te (f : Nat → Int32) (n : Int) : Nat → Bool → Int × Int × Int → Int × Int × Int
  | 0, _, s => s
  | m + 1, c, s => r_tp f n (r_te f n m) c (r_pa f n s)
/-- what a step leaves: in its bounds, not further back -/
def r_in (n : Int) (s t : Int × Int × Int) : Prop := s.2.2 ≤ t.2.2 ∧ t.2.2 ≤ n
theorem in_fl {n k : Int} {s : Int × Int × Int} (h : s.2.2 ≤ n) : r_in n s (r_fl k s) := by
  unfold r_fl
  split
  · exact ⟨Int.le_refl _, h⟩
  · exact ⟨Int.le_refl _, h⟩
theorem in_ad {f : Nat → Int32} {n : Int} {s : Int × Int × Int} (h : s.2.2 ≤ n) : r_in n s (r_ad f n s) := by
  have h1 := nx_le (f := f) h
  have h2 := av_le (f := f) h
  exact ⟨by show s.2.2 ≤ qav f n s.2.2; omega, h2.2⟩
theorem in_nm {f : Nat → Int32} {n lo hi : Int} {s : Int × Int × Int} (h : s.2.2 ≤ n) : r_in n s (r_nm f n lo hi s) := by
  unfold r_nm
  split
  · split
    · split
      · exact in_ad h
      · exact in_fl h
    · exact in_fl h
  · exact ⟨Int.le_refl _, h⟩
theorem in_ch {f : Nat → Int32} {n : Int} {i : Nat} {s : Int × Int × Int} (h : s.2.2 ≤ n) : r_in n s (r_chi f n i s) := by
  unfold r_chi r_ch
  split
  · split
    · exact in_ad h
    · exact in_fl h
  · exact ⟨Int.le_refl _, h⟩
theorem in_pa {f : Nat → Int32} {n : Int} {s : Int × Int × Int} (h : s.2.2 ≤ n) : r_in n s (r_pa f n s) := by
  unfold r_pa
  split
  · exact in_nm h
  · exact in_ch h
theorem am_kd {f : Nat → Int32} {n b : Int} {i : Nat} (h : 0 ≤ qam f n b i) : qkd f n b = 1 := by
  unfold qam at h
  split at h
  · assumption
  · omega
theorem ad_lt {f : Nat → Int32} {n : Int} {i : Nat} {s : Int × Int × Int} (h : s.2.2 ≤ n) (ha : 0 ≤ qam f n s.2.2 i) : s.2.2 < (r_ad f n s).2.2 ∧ (r_ad f n s).2.2 ≤ n := by
  have h1 := nx_le (f := f) h
  have h2 := av_le (f := f) h
  have h3 := am_kd ha
  refine ⟨?_, h2.2⟩
  show s.2.2 < qav f n s.2.2
  rcases h1.2.2 with h4 | h4
  · omega
  · omega
/-- the count is of no weight, once it is large enough -/
theorem te_fuel {f : Nat → Int32} {n : Int} : ∀ (m k : Nat) (c : Bool) (s : Int × Int × Int), s.2.2 ≤ n → (n - s.2.2).toNat < m → (n - s.2.2).toNat < k → r_te f n m c s = r_te f n k c s := by
  intro m
  induction m with
  | zero => intro k c s h0 h1 h2; omega
  | succ m ih =>
    intro k c s h0 h1 h2
    obtain ⟨k, rfl⟩ : ∃ z, k = z + 1 := ⟨k - 1, by omega⟩
    show r_tp f n (r_te f n m) c (r_pa f n s) = r_tp f n (r_te f n k) c (r_pa f n s)
    have hp := in_pa (f := f) h0
    generalize r_pa f n s = t at hp ⊢
    obtain ⟨p1, p2⟩ := hp
    have key : ∀ d, 0 ≤ qam f n t.2.2 6 → r_te f n m d (r_ad f n t) = r_te f n k d (r_ad f n t) := by
      intro d ha
      have h3 := ad_lt p2 ha
      exact ih k d _ h3.2 (by omega) (by omega)
    unfold r_tp
    split
    · rfl
    · split
      · next h => exact key c h.1
      · split
        · next h => exact key true (by omega)
        · split
          · next h => exact key false (by omega)
          · rfl
def qT (f : Nat → Int32) (n : Int) (c : Bool) (s : Int × Int × Int) : Int × Int × Int := r_te f n ((n - s.2.2).toNat + 1) c s
theorem te_T {f : Nat → Int32} {n : Int} {m : Nat} {c : Bool} {s : Int × Int × Int} (h : s.2.2 ≤ n) (hm : (n - s.2.2).toNat < m) : r_te f n m c s = qT f n c s := te_fuel m _ c s h hm (by omega)
theorem T_eq {f : Nat → Int32} {n : Int} {c : Bool} {s : Int × Int × Int} (h : s.2.2 ≤ n) : qT f n c s = r_tp f n (qT f n) c (r_pa f n s) := by
  show r_tp f n (r_te f n (n - s.2.2).toNat) c (r_pa f n s) = r_tp f n (qT f n) c (r_pa f n s)
  have hp := in_pa (f := f) h
  generalize r_pa f n s = t at hp ⊢
  obtain ⟨p1, p2⟩ := hp
  have key : ∀ d, 0 ≤ qam f n t.2.2 6 → r_te f n (n - s.2.2).toNat d (r_ad f n t) = qT f n d (r_ad f n t) := by
    intro d ha
    have h3 := ad_lt p2 ha
    exact te_T h3.2 (by omega)
  unfold r_tp
  split
  · rfl
  · split
    · next h => exact key c h.1
    · split
      · next h => exact key true (by omega)
      · split
        · next h => exact key false (by omega)
        · rfl
def r_o1 (f : Nat → Int32) (n : Int) (s : Int × Int × Int) : Int × Int × Int := r_nm f n 0 99 (r_chi f n 3 (r_chi f n 2 (r_chi f n 1 (r_ad f n s))))
def r_oi (f : Nat → Int32) (n : Int) (s : Int × Int × Int) : Int × Int × Int := if s.1 = 0 ∧ 0 ≤ qam f n s.2.2 4 then qT f n false (r_ad f n s) else s
def r_ow (f : Nat → Int32) (n ls : Int) (s : Int × Int × Int) : Int × Int × Int := if ls < 24 then r_oi f n (r_o1 f n s) else r_fl 3 s
/-! all lines -/
def r_ln (f : Nat → Int32) (n : Int) (q : (Int × Int × Int) × Int × Int) : (Int × Int × Int) × Int × Int := if 4 ≤ qam f n q.1.2.2 0 then (r_cl f n (r_ow f n q.2.2 q.1), q.2.1, q.2.2 + 1) else (r_cl f n (r_ot f n q.2.1 (qam f n q.1.2.2 0) q.1), (if qam f n q.1.2.2 0 = 0 then q.2.1 + 1 else q.2.1), q.2.2)
def r_rd (f : Nat → Int32) (n : Int) : Nat → (Int × Int × Int) × Int × Int → (Int × Int × Int) × Int × Int
  | 0, q => q
  | m + 1, q => if q.1.1 ≠ 0 ∨ qkd f n q.1.2.2 = 0 then q else r_rd f n m (r_ln f n q)
theorem ho_y {f : Nat → Int32} {n hs : Int} {s t : Int × Int × Int} (h : hs < 16) (e : t = r_opt f n 12 0 99 (r_opt f n 11 0 399 (r_h2 f n (r_ad f n s)))) : t = r_ho f n hs s := by
  rw [e]
  unfold r_ho
  exact (if_pos h).symm
theorem ho_n {f : Nat → Int32} {n hs : Int} {s t : Int × Int × Int} (h : 16 ≤ hs) (e : t = r_fl 3 s) : t = r_ho f n hs s := by
  rw [e]
  unfold r_ho
  exact (if_neg (by omega)).symm
theorem ot_0 {f : Nat → Int32} {n hs w : Int} {s t : Int × Int × Int} (h : w = 0) (e : t = r_ho f n hs s) : t = r_ot f n hs w s := by
  rw [e]
  unfold r_ot
  exact (if_pos h).symm
theorem ot_1 {f : Nat → Int32} {n hs w : Int} {s t : Int × Int × Int} (h : w = 1) (e : t = r_kn f n hs (r_ad f n s)) : t = r_ot f n hs w s := by
  rw [e]
  unfold r_ot
  rw [if_neg (by omega), if_pos h]
theorem ot_2 {f : Nat → Int32} {n hs w : Int} {s t : Int × Int × Int} (h : w = 2) (e : t = r_nm f n 0 99 (r_ad f n s)) : t = r_ot f n hs w s := by
  rw [e]
  unfold r_ot
  rw [if_neg (by omega), if_neg (by omega), if_pos h]
theorem ot_3 {f : Nat → Int32} {n hs w : Int} {s t : Int × Int × Int} (h : w = 3) (e : t = r_nm f n 1 9 (r_ad f n s)) : t = r_ot f n hs w s := by
  rw [e]
  unfold r_ot
  rw [if_neg (by omega), if_neg (by omega), if_neg (by omega), if_pos h]
theorem ot_n {f : Nat → Int32} {n hs w : Int} {s t : Int × Int × Int} (h : w < 0 ∨ 3 < w) (e : t = r_fl 1 s) : t = r_ot f n hs w s := by
  rw [e]
  unfold r_ot
  rw [if_neg (by omega), if_neg (by omega), if_neg (by omega), if_neg (by omega)]
section TES
variable {f : Nat → Int32} {n i i' c c' F P b F' P' b' H k e v : Int} {s t R : Int × Int × Int} {T : Bool → Int × Int × Int → Int × Int × Int} {d : Bool}
theorem te_0 (hi : i = 0) (hc : c = 0) : r_te f n (1401 - i).toNat (decide (c = 1)) s = r_te f n 1401 false s := by
  subst hi hc
  rfl
theorem te_z (hI : r_te f n (1401 - i).toNat d s = R) (hi : 1400 < i) : s = R := by
  have e : (1401 - i).toNat = 0 := by omega
  rw [e] at hI
  exact hI
theorem te_u (hI : r_te f n (1401 - i).toNat d s = R) (hi : 0 ≤ i ∧ i ≤ 1400) (ei : i' = i + 1) (hp : t = r_pa f n s) : r_tp f n (r_te f n (1401 - i').toNat) d t = R := by
  have e : (1401 - i).toNat = (1401 - i').toNat + 1 := by omega
  rw [e] at hI
  rw [hp]
  exact hI
theorem tp_e (h : F ≠ 0 ∨ (c = 1 ∧ qkd f n b = 3)) : r_tp f n T (decide (c = 1)) (F, P, b) = (F, P, b) := by
  unfold r_tp
  refine if_pos ?_
  rcases h with h | h
  · exact Or.inl h
  · exact Or.inr ⟨decide_eq_true h.1, h.2⟩
theorem tp_g (h : F = 0) (h2 : c = 0 ∨ qkd f n b ≠ 3) : ¬ (F ≠ 0 ∨ (decide (c = 1) = true ∧ qkd f n b = 3)) := by
  rintro (q | ⟨q, q2⟩)
  · exact q h
  · have := of_decide_eq_true q
    omega
theorem tp_r (h : F = 0) (h2 : c = 0 ∨ qkd f n b ≠ 3) (ha : 0 ≤ qam f n b 6 ∧ qam f n b 6 ≤ 2) (e : t = r_ad f n (F, P, b)) (hc : c' = c) : r_tp f n T (decide (c = 1)) (F, P, b) = T (decide (c' = 1)) t := by
  rw [e, hc]
  unfold r_tp
  rw [if_neg (tp_g h h2), if_pos ha]
theorem tp_m (h : F = 0) (h2 : c = 0 ∨ qkd f n b ≠ 3) (ha : 3 ≤ qam f n b 6 ∧ qam f n b 6 ≤ 5) (e : t = r_ad f n (F, P, b)) (hc : c = 0) (hc' : c' = 1) : r_tp f n T (decide (c = 1)) (F, P, b) = T (decide (c' = 1)) t := by
  subst hc hc'
  rw [e]
  unfold r_tp
  rw [if_neg (tp_g h h2), if_neg (fun q => by have q2 : qam f n b 6 ≤ 2 := q.2; omega), if_pos ⟨ha.1, ha.2, rfl⟩]
  rfl
theorem tp_a (h : F = 0) (h2 : c = 0 ∨ qkd f n b ≠ 3) (ha : qam f n b 6 = 6) (e : t = r_ad f n (F, P, b)) (hc : c = 1) (hc' : c' = 0) : r_tp f n T (decide (c = 1)) (F, P, b) = T (decide (c' = 1)) t := by
  subst hc hc'
  rw [e]
  unfold r_tp
  rw [if_neg (tp_g h h2), if_neg (fun q => by have q2 : qam f n b 6 ≤ 2 := q.2; omega), if_neg (fun q => by have q2 : qam f n b 6 ≤ 5 := q.2.1; omega), if_pos ⟨ha, rfl⟩]
  rfl
theorem tp_x (h : F = 0) (h2 : c = 0 ∨ qkd f n b ≠ 3) (hc : c = 0 ∨ c = 1) (ha : qam f n b 6 < 0 ∨ 6 < qam f n b 6 ∨ (3 ≤ qam f n b 6 ∧ qam f n b 6 ≤ 5 ∧ c = 1) ∨ (qam f n b 6 = 6 ∧ c = 0)) : r_tp f n T (decide (c = 1)) (F, P, b) = r_fl 1 (F, P, b) := by
  unfold r_tp
  rw [if_neg (tp_g h h2), if_neg (fun q => by have q1 : 0 ≤ qam f n b 6 := q.1; have q2 : qam f n b 6 ≤ 2 := q.2; omega)]
  rw [if_neg (fun q => by
    have q1 : 3 ≤ qam f n b 6 := q.1
    have q2 : qam f n b 6 ≤ 5 := q.2.1
    have q3 : decide (c = 1) = false := q.2.2
    have q4 := of_decide_eq_false q3
    omega)]
  rw [if_neg (fun q => by
    have q1 : qam f n b 6 = 6 := q.1
    have q3 := of_decide_eq_true q.2
    omega)]
theorem pa_n (hT : qTok f n H k b e v) (hk : k = 2) (he : ((F', P', b') : Int × Int × Int) = r_nm f n 0 999 (F, P, b)) : ((F', P', b') : Int × Int × Int) = r_pa f n (F, P, b) := by
  rw [he]
  unfold r_pa
  exact (if_pos (by show qkd f n b = 2; have := hT.1; omega)).symm
theorem pa_c (hT : qTok f n H k b e v) (hk : k ≠ 2) (he : ((F', P', b') : Int × Int × Int) = r_chi f n 5 (F, P, b)) : ((F', P', b') : Int × Int × Int) = r_pa f n (F, P, b) := by
  rw [he]
  unfold r_pa
  exact (if_neg (by show ¬ qkd f n b = 2; have := hT.1; omega)).symm
end TES
theorem te_S {f : Nat → Int32} {n F P b : Int} {t : Int × Int × Int} (hb : 0 ≤ b ∧ b ≤ n) (hn : n ≤ 1400) (h : t = r_te f n 1401 false (F, P, b)) : t = qT f n false (F, P, b) := h.trans (te_T hb.2 (by show (n - b).toNat < 1401; omega))
theorem oi_y {f : Nat → Int32} {n F P b : Int} {s1 s2 : Int × Int × Int} (h : F = 0 ∧ 0 ≤ qam f n b 4) (e1 : s1 = r_ad f n (F, P, b)) (e2 : s2 = qT f n false s1) : s2 = r_oi f n (F, P, b) := by
  rw [e2, e1]
  unfold r_oi
  exact (if_pos h).symm
theorem oi_n {f : Nat → Int32} {n F P b : Int} (h : ¬ (F = 0 ∧ 0 ≤ qam f n b 4)) : ((F, P, b) : Int × Int × Int) = r_oi f n (F, P, b) := by
  unfold r_oi
  exact (if_neg h).symm
theorem ow_y {f : Nat → Int32} {n ls : Int} {s t : Int × Int × Int} (h : ls < 24) (e : t = r_oi f n (r_o1 f n s)) : t = r_ow f n ls s := by
  rw [e]
  unfold r_ow
  exact (if_pos h).symm
theorem ow_n {f : Nat → Int32} {n ls : Int} {s t : Int × Int × Int} (h : 24 ≤ ls) (e : t = r_fl 3 s) : t = r_ow f n ls s := by
  rw [e]
  unfold r_ow
  exact (if_neg (by omega)).symm
section RDL
variable {f : Nat → Int32} {n i i' F P b hs ls : Int} {t : Int × Int × Int} {R : (Int × Int × Int) × Int × Int}
theorem rd_u (hI : r_rd f n (1401 - i).toNat ((F, P, b), hs, ls) = R) (hi : 0 ≤ i ∧ i ≤ 1400) (ei : i' = i + 1) (h0 : F = 0) (hk : qkd f n b ≠ 0) : r_rd f n (1401 - i').toNat (r_ln f n ((F, P, b), hs, ls)) = R := by
  have e : (1401 - i).toNat = (1401 - i').toNat + 1 := by omega
  rw [e] at hI
  rw [← hI]
  exact (if_neg (fun q => q.elim (fun q => q h0) (fun q => hk q))).symm
theorem rd_o (hI : r_rd f n (1401 - i).toNat ((F, P, b), hs, ls) = R) (hi : 0 ≤ i ∧ i ≤ 1400) (ei : i' = i + 1) (h0 : F = 0) (hk : qkd f n b ≠ 0) (ha : 4 ≤ qam f n b 0) (e : t = r_ow f n ls (F, P, b)) : r_rd f n (1401 - i').toNat (r_cl f n t, hs, ls + 1) = R := by
  rw [e, ← rd_u hI hi ei h0 hk]
  exact congrArg _ (if_pos ha).symm
theorem rd_t (hI : r_rd f n (1401 - i).toNat ((F, P, b), hs, ls) = R) (hi : 0 ≤ i ∧ i ≤ 1400) (ei : i' = i + 1) (h0 : F = 0) (hk : qkd f n b ≠ 0) (ha : qam f n b 0 < 4) (e : t = r_ot f n hs (qam f n b 0) (F, P, b)) : r_rd f n (1401 - i').toNat (r_cl f n t, (if qam f n b 0 = 0 then hs + 1 else hs), ls) = R := by
  rw [e, ← rd_u hI hi ei h0 hk]
  exact congrArg _ (if_neg (by show ¬ 4 ≤ qam f n b 0; omega)).symm
theorem rd_e (hI : r_rd f n (1401 - i).toNat ((F, P, b), hs, ls) = R) (h : F ≠ 0 ∨ qkd f n b = 0 ∨ 1400 < i) : (((F, P, b), hs, ls) : (Int × Int × Int) × Int × Int) = R := by
  rw [← hI]
  cases hm : (1401 - i).toNat with
  | zero => rfl
  | succ m =>
    refine (if_pos ?_).symm
    rcases h with h | h | h
    · exact Or.inl h
    · exact Or.inr h
    · omega
end RDL
