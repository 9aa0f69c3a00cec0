section RT2
variable {f : Nat → Int32} {n H k e v i i' F P b F' P' b' c c' x u : Int} {s t : Int × Int × Int} {d : Bool} {T : Bool → Int × Int × Int → List (Int × Int)}
theorem ad_3 (hb : b ≤ n) (ha : 0 ≤ qam f n b 6) (h : ((F', P', b') : Int × Int × Int) = r_ad f n (F, P, b)) : b + 3 ≤ b' := by
  have h1 := am_l6 ha
  have h2 := av_le (f := f) hb
  have h3 : b' = qav f n b := congrArg (fun q : Int × Int × Int => q.2.2) h
  omega
theorem pa_1 (hb : b ≤ n) (h : ((F', P', b') : Int × Int × Int) = r_pa f n (F, P, b)) (h0 : F' = 0) : b + 1 ≤ b' := by
  have hF : (r_pa f n (F, P, b)).1 = 0 := by rw [← h]; exact h0
  have h3 : b' = (r_pa f n (F, P, b)).2.2 := congrArg (fun q : Int × Int × Int => q.2.2) h
  have h1 := nx_le (f := f) hb
  have h2 := av_le (f := f) hb
  unfold r_pa at hF h3
  by_cases z : qkd f n (F, P, b).2.2 = 2
  · rw [if_pos z] at hF h3
    have zb : qkd f n b = 2 := z
    have e9 : r_nm f n 0 999 (F, P, b) = r_ad f n (F, P, b) := by
      unfold r_nm at hF ⊢
      by_cases z0 : (F, P, b).1 = 0
      · rw [if_pos z0, if_pos z] at hF ⊢
        by_cases z2 : 0 ≤ qdv f n (F, P, b).2.2 ∧ qdv f n (F, P, b).2.2 ≤ 999
        · rw [if_pos z2]
        · rw [if_neg z2] at hF; exact absurd hF (fl_k (by decide))
      · rw [if_neg z0] at hF; exact absurd hF z0
    rw [e9] at h3
    have h4 : b' = qav f n b := h3
    omega
  · rw [if_neg z] at hF h3
    have c9 := chi_b hF
    rw [c9.2.2] at h3
    have h4 : b' = qav f n b := h3
    have c8 : 0 ≤ qam f n b 5 := c9.2.1
    have c7 := am_kd c8
    omega
theorem lte_s (hi : 0 ≤ i ∧ i ≤ 1400) : l_te f n (1401 - i).toNat d s = l_tp f n (l_te f n (1400 - i).toNat) (tkn f n s) d (r_pa f n s) := by
  rw [show (1401 - i).toNat = (1400 - i).toNat + 1 by omega]
  rfl
theorem lte_t (hi : 0 ≤ i ∧ i ≤ 1400) (ht : t = r_pa f n s) : l_te f n (1401 - i).toNat d s = l_tp f n (l_te f n (1400 - i).toNat) (tkn f n s) d t := by
  rw [ht]
  exact lte_s hi
theorem lte_0 (hi : 1400 < i) : l_te f n (1401 - i).toNat d s = [] := by
  rw [show (1401 - i).toNat = 0 by omega]
  rfl
theorem tk_n {vv : Int} (hT : qTok f n H k b e v) (hk : k = 2) (hv : vv = r_nv f n 0 999 (F, P, b)) : vv = tkn f n (F, P, b) := by
  unfold tkn
  rw [if_pos (show qkd f n b = 2 by have := hT.1; omega)]
  exact hv
theorem tk_c {vv : Int} (hT : qTok f n H k b e v) (hk : k ≠ 2) (hv : vv = 1000 + qam f n b 5) : vv = tkn f n (F, P, b) := by
  unfold tkn
  rw [if_neg (show ¬ qkd f n b = 2 by have := hT.1; omega)]
  exact hv
theorem ltp_g (h : F = 0) (h2 : c = 0 ∨ qkd f n b ≠ 3) : ¬ (F, P, b).1 ≠ 0 ∧ ¬ (decide (c = 1) = true ∧ qkd f n (F, P, b).2.2 = 3) := by
  refine ⟨fun q => q h, ?_⟩
  rintro ⟨q, q2⟩
  have := of_decide_eq_true q
  have q3 : qkd f n b = 3 := q2
  omega
theorem ltp_e (h : F = 0) (h2 : c = 1 ∧ qkd f n b = 3) : l_tp f n T x (decide (c = 1)) (F, P, b) = [(x, 2006)] := by
  unfold l_tp
  rw [if_neg (fun q => q h), if_pos ⟨decide_eq_true h2.1, h2.2⟩]
theorem ltp_r (h : F = 0) (h2 : c = 0 ∨ qkd f n b ≠ 3) (ha : 0 ≤ qam f n b 6 ∧ qam f n b 6 ≤ 2) (e : t = r_ad f n (F, P, b)) (hc : c' = c) : l_tp f n T x (decide (c = 1)) (F, P, b) = (x, 2000 + qam f n b 6) :: T (decide (c' = 1)) t := by
  rw [e, hc]
  unfold l_tp
  have g := ltp_g (P := P) h h2
  rw [if_neg g.1, if_neg g.2, if_pos ha]
theorem ltp_m (h : F = 0) (h2 : c = 0 ∨ qkd f n b ≠ 3) (ha : 3 ≤ qam f n b 6 ∧ qam f n b 6 ≤ 5) (e : t = r_ad f n (F, P, b)) (hc : c = 0) (hc' : c' = 1) : l_tp f n T x (decide (c = 1)) (F, P, b) = (x, 2000 + qam f n b 6) :: T (decide (c' = 1)) t := by
  have g := ltp_g (P := P) h h2
  subst hc hc'
  rw [e]
  unfold l_tp
  rw [if_neg g.1, if_neg g.2, if_neg (fun q => by have q2 : qam f n b 6 ≤ 2 := q.2; omega), if_pos ⟨ha.1, ha.2, rfl⟩]
  rfl
theorem ltp_a (h : F = 0) (h2 : c = 0 ∨ qkd f n b ≠ 3) (ha : qam f n b 6 = 6) (e : t = r_ad f n (F, P, b)) (hc : c = 1) (hc' : c' = 0) : l_tp f n T x (decide (c = 1)) (F, P, b) = (x, 2006) :: T (decide (c' = 1)) t := by
  have g := ltp_g (P := P) h h2
  subst hc hc'
  rw [e]
  unfold l_tp
  rw [if_neg g.1, if_neg g.2, if_neg (fun q => by have q2 : qam f n b 6 ≤ 2 := q.2; omega), if_neg (fun q => by have q2 : qam f n b 6 ≤ 5 := q.2.1; omega), if_pos ⟨ha, rfl⟩]
  rfl
end RT2
/-! a line in the class's rows -/
def owC (f : Nat → Int32) (n : Int) (s : Int × Int × Int) (w ln us us' : Int) (pa kd wi st sp ts pa' kd' wi' st' sp' ts' : Nat → Int32) : Prop := ∃ v0 v1 v2 v3 v4 : Int32, (pa' = upd pa ln.toNat v0 ∧ v0.toInt = w) ∧ (kd' = upd kd ln.toNat v1 ∧ v1.toInt = qam f n (r_chi f n 1 (r_ad f n s)).2.2 2) ∧ (wi' = upd wi ln.toNat v2 ∧ v2.toInt = r_nv f n 0 99 (r_chi f n 3 (r_chi f n 2 (r_chi f n 1 (r_ad f n s))))) ∧ (st' = upd st ln.toNat v3 ∧ v3.toInt = us) ∧ (sp' = upd sp ln.toNat v4 ∧ v4.toInt = us') ∧ tkE ts' (rlt f n s) us.toNat us'.toNat ∧ (∀ j : Nat, (j : Int) < us → ts' j = ts j) ∧ us ≤ us'
theorem cd_add {f : Nat → Int32} {n ln us us' w : Int} {s : Int × Int × Int} {pa kd wi st sp ts pa' kd' wi' st' sp' ts' : Nat → Int32} {C : List LN} (H : cdC ln us pa kd wi st sp ts C) (h0 : 0 ≤ us) (O : owC f n s w ln us us' pa kd wi st sp ts pa' kd' wi' st' sp' ts') (ok : okL (r_lx f n s)) (hw : w = qam f n s.2.2 0 - 4) : cdC (ln + 1) us' pa' kd' wi' st' sp' ts' (C ++ [r_lx f n s]) := by
  obtain ⟨v0, v1, v2, v3, v4, ⟨e0, x0⟩, ⟨e1, x1⟩, ⟨e2, x2⟩, ⟨e3, x3⟩, ⟨e4, x4⟩, tk, fr, le⟩ := O
  obtain ⟨h1, h2⟩ := H
  refine ⟨by rw [List.length_append]; show ln + 1 = ((C.length + 1 : Nat) : Int); omega, fun l x hx => ?_⟩
  by_cases z : l < C.length
  · rw [List.getElem?_append_left z] at hx
    obtain ⟨q1, q2, q3, q4, q5, q6⟩ := h2 l x hx
    have nl : l ≠ ln.toNat := by omega
    refine ⟨q1, ?_, ?_, ?_, ?_, ?_⟩
    · rw [e0, upd_n nl]; exact q2
    · rw [e1, upd_n nl]; exact q3
    · rw [e2, upd_n nl]; exact q4
    · rw [e4, upd_n nl]; omega
    · rw [e3, e4, upd_n nl, upd_n nl]
      exact tkE_c _ _ _ (fun j hj => fr j (by omega)) q6
  · rw [List.getElem?_append_right (by omega)] at hx
    by_cases y : l = C.length
    · rw [y, Nat.sub_self] at hx
      have ex : r_lx f n s = x := Option.some.inj hx
      rw [← ex]
      have ll : l = ln.toNat := by omega
      refine ⟨ok, ?_, ?_, ?_, ?_, ?_⟩
      · rw [e0, upd_h ll, x0, hw]; rfl
      · rw [e1, upd_h ll, x1]; rfl
      · rw [e2, upd_h ll, x2]; rfl
      · rw [e4, upd_h ll]; omega
      · rw [e3, e4, upd_h ll, upd_h ll, x3, x4]
        exact tk
    · rw [List.getElem?_eq_none (by show 1 ≤ l - C.length; omega)] at hx
      cases hx
theorem cd_ad {f : Nat → Int32} {n ln us us' w : Int} {F P b : Int} {pa kd wi st sp ts pa' kd' wi' st' sp' ts' : Nat → Int32} {C : List LN} (H : cdC ln us pa kd wi st sp ts C) (h0 : 0 ≤ us) (O : owC f n (F, P, b) w ln us us' pa kd wi st sp ts pa' kd' wi' st' sp' ts') (ok : okL (r_lx f n (F, P, b))) (hw : w = qam f n b 0 - 4) : cdC (ln + 1) us' pa' kd' wi' st' sp' ts' (C ++ [r_lx f n (F, P, b)]) := cd_add H h0 O ok hw
theorem cp_C {ln us ln' us' : Int} {pa kd wi st sp ts pa' kd' wi' st' sp' ts' : Nat → Int32} {C : List LN} (H : cdC ln us pa kd wi st sp ts C) (e0 : ∀ j : Nat, (j : Int) < ln → pa' j = pa j) (e1 : ∀ j : Nat, (j : Int) < ln → kd' j = kd j) (e2 : ∀ j : Nat, (j : Int) < ln → wi' j = wi j) (e3 : ∀ j : Nat, (j : Int) < ln → st' j = st j) (e4 : ∀ j : Nat, (j : Int) < ln → sp' j = sp j) (e5 : ∀ j : Nat, (j : Int) < us → ts' j = ts j) (el : ln' = ln) (eu : us' = us) : cdC ln' us' pa' kd' wi' st' sp' ts' C := by
  subst el; subst eu
  obtain ⟨h1, h2⟩ := H
  refine ⟨h1, fun l x hx => ?_⟩
  have hl : l < C.length := by
    by_cases z : l < C.length
    · exact z
    · rw [List.getElem?_eq_none (by omega)] at hx; cases hx
  obtain ⟨q1, q2, q3, q4, q5, q6⟩ := h2 l x hx
  have hi : (l : Int) < ln' := by omega
  refine ⟨q1, by rw [e0 l hi]; exact q2, by rw [e1 l hi]; exact q3, by rw [e2 l hi]; exact q4, by rw [e4 l hi]; exact q5, ?_⟩
  rw [e3 l hi, e4 l hi]
  exact tkE_c _ _ _ (fun j hj => e5 j (by omega)) q6
theorem lT_14 {f : Nat → Int32} {n F P b : Int} (hb : 0 ≤ b ∧ b ≤ n) (hn : n ≤ 1400) : lT f n false (F, P, b) = l_te f n 1401 false (F, P, b) := (lT_te (m := 1401) hb.2 (by show (n - b).toNat < 1401; omega)).symm
theorem rlt_y {f : Nat → Int32} {n F P b : Int} {s t : Int × Int × Int} (e1 : ((F, P, b) : Int × Int × Int) = r_o1 f n s) (h : F = 0 ∧ 0 ≤ qam f n b 4) (et : t = r_ad f n (F, P, b)) : rlt f n s = lT f n false t := by
  unfold rlt
  rw [← e1, et]
  exact if_pos h
theorem rlt_n {f : Nat → Int32} {n F P b : Int} {s : Int × Int × Int} (e1 : ((F, P, b) : Int × Int × Int) = r_o1 f n s) (h : ¬ (F = 0 ∧ 0 ≤ qam f n b 4)) : rlt f n s = [] := by
  unfold rlt
  rw [← e1]
  exact if_neg h
section MON
variable {f : Nat → Int32} {n F P b F' P' b' hs ls w : Int} {s t r : Int × Int × Int}
theorem ch_u2 {v x : Int} (h : v = 0 ∨ v = qam f n x 2) : v ≤ 3 := by
  have := am_u2 (f := f) (n := n) (b := x)
  omega
theorem in_tr (h1 : r_in n s t) (h2 : r_in n t r) : r_in n s r := ⟨Int.le_trans h1.1 h2.1, h2.2⟩
theorem o1_in (h : s.2.2 ≤ n) : r_in n s (r_o1 f n s) := by
  have q0 := in_ad (f := f) h
  have q1 := in_ch (f := f) (i := 1) q0.2
  have q2 := in_ch (f := f) (i := 2) q1.2
  have q3 := in_ch (f := f) (i := 3) q2.2
  exact in_tr (in_tr (in_tr (in_tr q0 q1) q2) q3) (in_nm q3.2)
theorem o1_b (hb : b ≤ n) (e : ((F', P', b') : Int × Int × Int) = r_o1 f n (F, P, b)) : b ≤ b' ∧ b' ≤ n := by
  have h := o1_in (f := f) (s := (F, P, b)) hb
  rw [← e] at h
  exact h
theorem ad_b (hb : b ≤ n) (e : ((F', P', b') : Int × Int × Int) = r_ad f n (F, P, b)) : b ≤ b' := by
  have h := (in_ad (f := f) (s := (F, P, b)) hb).1
  rw [← e] at h
  exact h
theorem o1_c (h : (r_o1 f n s).1 = 0) : (r_chi f n 2 (r_chi f n 1 (r_ad f n s))).1 = 0 := (chi_b (nm_b (show (r_nm f n 0 99 (r_chi f n 3 (r_chi f n 2 (r_chi f n 1 (r_ad f n s))))).1 = 0 from h)).1).1
theorem oi_f (h : (r_oi f n s).1 = 0) : s.1 = 0 := by
  unfold r_oi at h
  by_cases z : s.1 = 0 ∧ 0 ≤ qam f n s.2.2 4
  · exact z.1
  · rw [if_neg z] at h; exact h
theorem ow_f (h : (r_ow f n ls s).1 = 0) : (r_oi f n (r_o1 f n s)).1 = 0 := by
  unfold r_ow at h
  by_cases z : ls < 24
  · rw [if_pos z] at h; exact h
  · rw [if_neg z] at h; exact absurd h (fl_k (by decide))
theorem in_op {i : Nat} {lo hi : Int} (h : s.2.2 ≤ n) : r_in n s (r_opt f n i lo hi s) := by
  unfold r_opt
  split
  · have q := in_ad (f := f) h
    exact in_tr q (in_nm q.2)
  · exact ⟨Int.le_refl _, h⟩
theorem ot_in (h : s.2.2 ≤ n) : r_in n s (r_ot f n hs w s) := by
  have a0 := in_ad (f := f) h
  unfold r_ot
  split
  · unfold r_ho
    split
    · have q1 := in_ch (f := f) (i := 7) a0.2
      have q2 := in_nm (f := f) (lo := 0) (hi := 99) q1.2
      have q3 := in_nm (f := f) (lo := 0) (hi := 99) q2.2
      have q4 := in_ch (f := f) (i := 8) q3.2
      have q5 := in_nm (f := f) (lo := 0) (hi := 9) q4.2
      have q6 := in_ch (f := f) (i := 9) q5.2
      have q7 := in_ch (f := f) (i := 10) q6.2
      have h1 : r_in n (r_ad f n s) (r_h1 f n (r_ad f n s)) := in_tr (in_tr (in_tr (in_tr (in_tr (in_tr q1 q2) q3) q4) q5) q6) q7
      have q8 := in_nm (f := f) (lo := 0) (hi := 180) h1.2
      have q9 := in_nm (f := f) (lo := r_nv f n 0 180 (r_h1 f n (r_ad f n s))) (hi := 180) q8.2
      have h2 : r_in n (r_ad f n s) (r_h2 f n (r_ad f n s)) := in_tr (in_tr h1 q8) q9
      have p1 := in_op (f := f) (i := 11) (lo := 0) (hi := 399) h2.2
      exact in_tr a0 (in_tr (in_tr h2 p1) (in_op p1.2))
    · exact in_fl h
  · split
    · unfold r_kn
      have q1 := in_nm (f := f) (lo := 0) (hi := hs - 1) a0.2
      have k1 : r_in n (r_nm f n 0 (hs - 1) (r_ad f n s)) (r_k1 f n (r_nv f n 0 (hs - 1) (r_ad f n s)) (r_nm f n 0 (hs - 1) (r_ad f n s))) := by
        unfold r_k1
        split
        · exact in_fl q1.2
        · exact ⟨Int.le_refl _, q1.2⟩
      exact in_tr a0 (in_tr (in_tr q1 k1) (in_nm k1.2))
    · split
      · exact in_tr a0 (in_nm a0.2)
      · split
        · exact in_tr a0 (in_nm a0.2)
        · exact in_fl h
theorem ot_b (hb : b ≤ n) (e : ((F', P', b') : Int × Int × Int) = r_ot f n hs w (F, P, b)) : b ≤ b' := by
  have h := (ot_in (f := f) (hs := hs) (w := w) (s := (F, P, b)) hb).1
  rw [← e] at h
  exact h
theorem cl_1b (hb : b ≤ n) (e : ((F', P', b') : Int × Int × Int) = r_cl f n (F, P, b)) (h : F' = 0) : b + 1 ≤ b' := by
  have h1 := nx_le (f := f) hb
  have h2 := av_le (f := f) hb
  have hF : (r_cl f n (F, P, b)).1 = 0 := by rw [← e]; exact h
  have h3 : b' = (r_cl f n (F, P, b)).2.2 := congrArg (fun q : Int × Int × Int => q.2.2) e
  unfold r_cl at hF h3
  by_cases z0 : (F, P, b).1 = 0
  · rw [if_pos z0] at hF h3
    by_cases z : qkd f n (F, P, b).2.2 = 3
    · rw [if_pos z] at h3
      have h4 : b' = qav f n b := h3
      have z2 : qkd f n b = 3 := z
      omega
    · rw [if_neg z] at hF
      exact absurd hF (fl_k (by decide))
  · rw [if_neg z0] at hF
    exact absurd hF z0
theorem cl_1f (e : ((F', P', b') : Int × Int × Int) = r_cl f n (F, P, b)) (h : F' = 0) : F = 0 := by
  have hF : (r_cl f n (F, P, b)).1 = 0 := by rw [← e]; exact h
  unfold r_cl at hF
  by_cases z0 : (F, P, b).1 = 0
  · exact z0
  · rw [if_neg z0] at hF
    exact absurd hF z0
theorem cd_0 {ln us : Int} {pa kd wi st sp ts : Nat → Int32} (h : ln = 0) : cdC ln us pa kd wi st sp ts [] := ⟨h, fun l x hx => by rw [List.getElem?_nil] at hx; cases hx⟩
end MON
