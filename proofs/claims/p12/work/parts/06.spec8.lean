theorem upd_w9 {g g' : Nat → Int32} {i v : Int32} (h : upd g i.toNatClampNeg v = g') (hi : 0 ≤ i.toInt) : g' = upd g i.toInt.toNat v := by
  rw [← h, show i.toNatClampNeg = i.toInt.toNat by have := cl_to hi; omega]
/-! the code as the text tells it: a line's tests as a list -/
def tkn (f : Nat → Int32) (n : Int) (s : Int × Int × Int) : Int := if qkd f n s.2.2 = 2 then r_nv f n 0 999 s else 1000 + qam f n s.2.2 5
def l_tp (f : Nat → Int32) (n : Int) (T : Bool → Int × Int × Int → List (Int × Int)) (x : Int) (c : Bool) (s : Int × Int × Int) : List (Int × Int) := if s.1 ≠ 0 then [] else if c = true ∧ qkd f n s.2.2 = 3 then [(x, 2006)] else if 0 ≤ qam f n s.2.2 6 ∧ qam f n s.2.2 6 ≤ 2 then (x, 2000 + qam f n s.2.2 6) :: T c (r_ad f n s) else if 3 ≤ qam f n s.2.2 6 ∧ qam f n s.2.2 6 ≤ 5 ∧ c = false then (x, 2000 + qam f n s.2.2 6) :: T true (r_ad f n s) else if qam f n s.2.2 6 = 6 ∧ c = true then (x, 2006) :: T false (r_ad f n s) else []
def l_te (f : Nat → Int32) (n : Int) : Nat → Bool → Int × Int × Int → List (Int × Int)
  | 0, _, _ => []
  | m + 1, c, s => l_tp f n (l_te f n m) (tkn f n s) c (r_pa f n s)
def lT (f : Nat → Int32) (n : Int) (c : Bool) (s : Int × Int × Int) : List (Int × Int) := l_te f n ((n - s.2.2).toNat + 1) c s
section LTE
variable {f : Nat → Int32} {n : Int}
theorem lte_fuel : ∀ (m k : Nat) (c : Bool) (s : Int × Int × Int), s.2.2 ≤ n → (n - s.2.2).toNat < m → (n - s.2.2).toNat < k → l_te f n m c s = l_te f n k c s := by
  intro m
  induction m with
  | zero => intro k c s h0 h1 h2; omega
  | succ m ih =>
    intro k c s h0 h1 h2
    obtain ⟨k, rfl⟩ : ∃ z, k = z + 1 := ⟨k - 1, by omega⟩
    show l_tp f n (l_te f n m) (tkn f n s) c (r_pa f n s) = l_tp f n (l_te f n k) (tkn f n s) c (r_pa f n s)
    have hp := in_pa (f := f) h0
    generalize r_pa f n s = t at hp ⊢
    obtain ⟨p1, p2⟩ := hp
    have key : ∀ d, 0 ≤ qam f n t.2.2 6 → l_te f n m d (r_ad f n t) = l_te f n k d (r_ad f n t) := by
      intro d ha
      have h3 := ad_lt p2 ha
      exact ih k d _ h3.2 (by omega) (by omega)
    unfold l_tp
    split
    · rfl
    · split
      · rfl
      · split
        · next h => rw [key c h.1]
        · split
          · next h => rw [key true (by omega)]
          · split
            · next h => rw [key false (by omega)]
            · rfl
theorem lT_te {m : Nat} {c : Bool} {s : Int × Int × Int} (h : s.2.2 ≤ n) (hm : (n - s.2.2).toNat < m) : l_te f n m c s = lT f n c s := lte_fuel m _ c s h hm (by omega)
theorem lT_eq {c : Bool} {s : Int × Int × Int} (h : s.2.2 ≤ n) : lT f n c s = l_tp f n (lT f n) (tkn f n s) c (r_pa f n s) := by
  show l_tp f n (l_te f n (n - s.2.2).toNat) (tkn f n s) c (r_pa f n s) = l_tp f n (lT f n) (tkn f n s) c (r_pa f n s)
  have hp := in_pa (f := f) h
  generalize r_pa f n s = t at hp ⊢
  obtain ⟨p1, p2⟩ := hp
  have key : ∀ d, 0 ≤ qam f n t.2.2 6 → l_te f n (n - s.2.2).toNat d (r_ad f n t) = lT f n d (r_ad f n t) := by
    intro d ha
    have h3 := ad_lt p2 ha
    exact lT_te h3.2 (by omega)
  unfold l_tp
  split
  · rfl
  · split
    · rfl
    · split
      · next h => rw [key c h.1]
      · split
        · next h => rw [key true (by omega)]
        · split
          · next h => rw [key false (by omega)]
          · rfl
theorem am_u0 {b : Int} : qam f n b 0 ≤ 7 := by
  rw [am_w0]
  repeat' split
  all_goals decide
theorem am_u2 {b : Int} : qam f n b 2 ≤ 3 := by
  rw [am_w2]
  repeat' split
  all_goals decide
theorem am_u5 {b : Int} : qam f n b 5 ≤ 4 := by
  rw [am_w5]
  repeat' split
  all_goals decide
theorem am_u6 {b : Int} : qam f n b 6 ≤ 6 := by
  rw [am_w6]
  repeat' split
  all_goals decide
theorem fl_k {k : Int} {s : Int × Int × Int} (hk : k ≠ 0) : (r_fl k s).1 ≠ 0 := by
  unfold r_fl
  split
  · exact hk
  · assumption
theorem chi_b {i : Nat} {s : Int × Int × Int} (h : (r_chi f n i s).1 = 0) : s.1 = 0 ∧ 0 ≤ qam f n s.2.2 i ∧ r_chi f n i s = r_ad f n s := by
  unfold r_chi r_ch at h ⊢
  by_cases z : s.1 = 0
  · rw [if_pos z] at h ⊢
    by_cases y : 0 ≤ qam f n s.2.2 i
    · rw [if_pos y] at h ⊢
      exact ⟨z, y, rfl⟩
    · rw [if_neg y] at h
      exact absurd h (fl_k (by decide))
  · rw [if_neg z] at h
    exact absurd h z
theorem tk_r {s : Int × Int × Int} (h : (r_pa f n s).1 = 0) : 0 ≤ tkn f n s ∧ tkn f n s < 1005 := by
  unfold r_pa at h
  unfold tkn
  by_cases z : qkd f n s.2.2 = 2
  · rw [if_pos z]
    have := nv_b (f := f) (n := n) (lo := 0) (hi := 999) (s := s) (by decide)
    omega
  · rw [if_neg z] at h ⊢
    have h1 := chi_b h
    have h2 := am_u5 (f := f) (n := n) (b := s.2.2)
    omega
/-- what is read without a fault is well told -/
theorem wf_te : ∀ (m : Nat) (c : Bool) (s : Int × Int × Int) (k : Nat), s.2.2 ≤ n → (n - s.2.2).toNat < m → (r_te f n m c s).1 = 0 → k < 2 → wfE (l_te f n m c s) (if c then 2 else k) := by
  intro m
  induction m with
  | zero => intro c s k h0 h1; omega
  | succ m ih =>
    intro c s k h0 h1 hF hk
    have hr : (r_pa f n s).1 = 0 → 0 ≤ tkn f n s ∧ tkn f n s < 1005 := tk_r
    have hF2 : (r_tp f n (r_te f n m) c (r_pa f n s)).1 = 0 := hF
    show wfE (l_tp f n (l_te f n m) (tkn f n s) c (r_pa f n s)) (if c then 2 else k)
    have hp := in_pa (f := f) h0
    generalize tkn f n s = x at hr ⊢
    generalize r_pa f n s = t at hp hr hF2 ⊢
    obtain ⟨p1, p2⟩ := hp
    have key : ∀ d j, 0 ≤ qam f n t.2.2 6 → j < 2 → (r_te f n m d (r_ad f n t)).1 = 0 → wfE (l_te f n m d (r_ad f n t)) (if d then 2 else j) := by
      intro d j ha hj h9
      have h3 := ad_lt p2 ha
      exact ih d _ j h3.2 (by omega) h9 hj
    unfold r_tp at hF2
    unfold l_tp
    by_cases z0 : t.1 = 0
    · have hx := hr z0
      rw [if_neg (fun q => q z0)]
      by_cases z1 : c = true ∧ qkd f n t.2.2 = 3
      · rw [if_pos z1, if_pos z1.1]
        exact ⟨hx, Or.inr (Or.inr ⟨rfl, rfl, rfl⟩)⟩
      · rw [if_neg (fun q => q.elim (fun q1 => q1 z0) z1)] at hF2
        rw [if_neg z1]
        by_cases z2 : 0 ≤ qam f n t.2.2 6 ∧ qam f n t.2.2 6 ≤ 2
        · rw [if_pos z2] at hF2 ⊢
          have h4 := key c 1 z2.1 (by decide) hF2
          refine ⟨hx, Or.inl ⟨by omega, by omega, ?_⟩⟩
          cases c with
          | true => exact h4
          | false =>
            have e : (if (if false = true then 2 else k) = 2 then 2 else 1) = (1 : Nat) := by
              rw [if_neg (show ¬ (if false = true then 2 else k) = 2 by rw [if_neg Bool.false_ne_true]; omega)]
            rw [e]
            exact h4
        · rw [if_neg z2] at hF2 ⊢
          by_cases z3 : 3 ≤ qam f n t.2.2 6 ∧ qam f n t.2.2 6 ≤ 5 ∧ c = false
          · rw [if_pos z3] at hF2 ⊢
            have h4 := key true 0 (by omega) (by decide) hF2
            refine ⟨hx, Or.inr (Or.inl ⟨by omega, by omega, ?_, h4⟩)⟩
            rw [z3.2.2, if_neg Bool.false_ne_true]
            omega
          · rw [if_neg z3] at hF2 ⊢
            by_cases z4 : qam f n t.2.2 6 = 6 ∧ c = true
            · rw [if_pos z4] at hF2 ⊢
              have h4 := key false 0 (by omega) (by decide) hF2
              exact ⟨hx, Or.inr (Or.inr ⟨rfl, by rw [z4.2]; rfl, h4⟩)⟩
            · rw [if_neg z4] at hF2
              exact absurd hF2 (fl_k (by decide))
    · rw [if_pos (Or.inl z0)] at hF2
      exact absurd hF2 z0
theorem wf_T {s : Int × Int × Int} (h : s.2.2 ≤ n) (hF : (qT f n false s).1 = 0) : wfE (lT f n false s) 0 := wf_te _ false s 0 h (by omega) hF (by decide)
end LTE
/-! a line, all lines -/
def rlt (f : Nat → Int32) (n : Int) (s : Int × Int × Int) : List (Int × Int) := if (r_o1 f n s).1 = 0 ∧ 0 ≤ qam f n (r_o1 f n s).2.2 4 then lT f n false (r_ad f n (r_o1 f n s)) else []
def r_lx (f : Nat → Int32) (n : Int) (s : Int × Int × Int) : LN := (qam f n s.2.2 0 - 4, qam f n (r_chi f n 1 (r_ad f n s)).2.2 2, r_nv f n 0 99 (r_chi f n 3 (r_chi f n 2 (r_chi f n 1 (r_ad f n s)))), rlt f n s)
def r_lc (f : Nat → Int32) (n : Int) (q : (Int × Int × Int) × Int × Int) (C : List LN) : List LN := if 4 ≤ qam f n q.1.2.2 0 then C ++ [r_lx f n q.1] else C
def r_rdc (f : Nat → Int32) (n : Int) : Nat → (Int × Int × Int) × Int × Int → List LN → List LN
  | 0, _, C => C
  | m + 1, q, C => if q.1.1 ≠ 0 ∨ qkd f n q.1.2.2 = 0 then C else r_rdc f n m (r_ln f n q) (r_lc f n q C)
def rrc (f : Nat → Int32) (n : Int) : List LN := r_rdc f n 1401 (((0, -1, qrun qcB f n 0) : Int × Int × Int), 0, 0) []
section RDC
variable {f : Nat → Int32} {n i i' F P b hs ls : Int} {t s : Int × Int × Int} {C R : List LN} {m : Nat}
theorem rdc_o (hI : r_rdc f n (1401 - i).toNat ((F, P, b), hs, ls) C = R) (hi : 0 ≤ i ∧ i ≤ 1400) (ei : i' = i + 1) (h0 : F = 0) (hk : qkd f n b ≠ 0) (ha : 4 ≤ qam f n b 0) (e : t = r_ow f n ls (F, P, b)) : r_rdc f n (1401 - i').toNat (r_cl f n t, hs, ls + 1) (C ++ [r_lx f n (F, P, b)]) = R := by
  have e1 : (1401 - i).toNat = (1401 - i').toNat + 1 := by omega
  rw [e1] at hI
  rw [← hI, e]
  have e2 : r_rdc f n ((1401 - i').toNat + 1) ((F, P, b), hs, ls) C = r_rdc f n (1401 - i').toNat (r_ln f n ((F, P, b), hs, ls)) (r_lc f n ((F, P, b), hs, ls) C) := if_neg (fun q => q.elim (fun q => q h0) (fun q => hk q))
  have e3 : r_ln f n ((F, P, b), hs, ls) = (r_cl f n (r_ow f n ls (F, P, b)), hs, ls + 1) := if_pos ha
  have e4 : r_lc f n ((F, P, b), hs, ls) C = C ++ [r_lx f n (F, P, b)] := if_pos ha
  rw [e2, e3, e4]
theorem rdc_t (hI : r_rdc f n (1401 - i).toNat ((F, P, b), hs, ls) C = R) (hi : 0 ≤ i ∧ i ≤ 1400) (ei : i' = i + 1) (h0 : F = 0) (hk : qkd f n b ≠ 0) (ha : qam f n b 0 < 4) (e : t = r_ot f n hs (qam f n b 0) (F, P, b)) : r_rdc f n (1401 - i').toNat (r_cl f n t, (if qam f n b 0 = 0 then hs + 1 else hs), ls) C = R := by
  have e1 : (1401 - i).toNat = (1401 - i').toNat + 1 := by omega
  rw [e1] at hI
  rw [← hI, e]
  have hn : ¬ 4 ≤ qam f n b 0 := by omega
  have e2 : r_rdc f n ((1401 - i').toNat + 1) ((F, P, b), hs, ls) C = r_rdc f n (1401 - i').toNat (r_ln f n ((F, P, b), hs, ls)) (r_lc f n ((F, P, b), hs, ls) C) := if_neg (fun q => q.elim (fun q => q h0) (fun q => hk q))
  have e3 : r_ln f n ((F, P, b), hs, ls) = (r_cl f n (r_ot f n hs (qam f n b 0) (F, P, b)), (if qam f n b 0 = 0 then hs + 1 else hs), ls) := if_neg hn
  have e4 : r_lc f n ((F, P, b), hs, ls) C = C := if_neg hn
  rw [e2, e3, e4]
theorem rdc_e (hI : r_rdc f n (1401 - i).toNat ((F, P, b), hs, ls) C = R) (h : F ≠ 0 ∨ qkd f n b = 0 ∨ 1400 < i) : C = R := by
  rw [← hI]
  cases hm : (1401 - i).toNat with
  | zero => rfl
  | succ m =>
    refine (if_pos ?_).symm
    rcases h with h | h | h
    · exact Or.inl h
    · exact Or.inr h
    · omega
theorem rdc_m (hI : r_rdc f n m ((F, P, b), hs, ls) C = R) (h : F = 0) (hk : qkd f n b ≠ 0) (hm : 0 < m) : r_rdc f n (m - 1) (r_ln f n ((F, P, b), hs, ls)) (r_lc f n ((F, P, b), hs, ls) C) = R := by
  obtain ⟨k, rfl⟩ : ∃ z, m = z + 1 := ⟨m - 1, by omega⟩
  rw [← hI]
  exact (if_neg (fun q => q.elim (fun q => q h) (fun q => hk q))).symm
theorem rdc_z (hI : r_rdc f n m ((F, P, b), hs, ls) C = R) (h : F ≠ 0 ∨ qkd f n b = 0) : C = R := by
  rw [← hI]
  cases m with
  | zero => rfl
  | succ k => exact (if_pos h).symm
/-- a line that is read without a fault -/
theorem lx_ok (hb : b ≤ n) (h4 : 4 ≤ qam f n b 0) (hF : (r_oi f n (r_o1 f n (F, P, b))).1 = 0) : okL (r_lx f n (F, P, b)) := by
  have h1 : (r_o1 f n (F, P, b)).1 = 0 := by
    unfold r_oi at hF
    by_cases z : (r_o1 f n (F, P, b)).1 = 0 ∧ 0 ≤ qam f n (r_o1 f n (F, P, b)).2.2 4
    · exact z.1
    · rw [if_neg z] at hF; exact hF
  have hin : (r_o1 f n (F, P, b)).2.2 ≤ n := by
    have q0 := (in_ad (f := f) (n := n) (s := (F, P, b)) hb).2
    have q1 := (in_ch (f := f) (n := n) (i := 1) q0).2
    have q2 := (in_ch (f := f) (n := n) (i := 2) q1).2
    have q3 := (in_ch (f := f) (n := n) (i := 3) q2).2
    exact (in_nm (f := f) (n := n) (lo := 0) (hi := 99) q3).2
  have n1 : (r_chi f n 3 (r_chi f n 2 (r_chi f n 1 (r_ad f n (F, P, b))))).1 = 0 := (nm_b (show (r_nm f n 0 99 (r_chi f n 3 (r_chi f n 2 (r_chi f n 1 (r_ad f n (F, P, b)))))).1 = 0 from h1)).1
  have c3 := chi_b n1
  have c2 := chi_b c3.1
  have u0 := am_u0 (f := f) (n := n) (b := b)
  have u2 := am_u2 (f := f) (n := n) (b := (r_chi f n 1 (r_ad f n (F, P, b))).2.2)
  have v9 := nv_b (f := f) (n := n) (lo := 0) (hi := 99) (s := r_chi f n 3 (r_chi f n 2 (r_chi f n 1 (r_ad f n (F, P, b))))) (by decide)
  refine ⟨⟨?_, ?_⟩, ⟨c2.2.1, u2⟩, v9, ?_⟩
  · show 0 ≤ qam f n b 0 - 4; omega
  · show qam f n b 0 - 4 ≤ 3; omega
  · show wfE (rlt f n (F, P, b)) 0
    unfold rlt
    unfold r_oi at hF
    by_cases z : (r_o1 f n (F, P, b)).1 = 0 ∧ 0 ≤ qam f n (r_o1 f n (F, P, b)).2.2 4
    · rw [if_pos z] at hF ⊢
      exact wf_T (ad_lt hin z.2).2 hF
    · rw [if_neg z]
      rfl
end RDC
/-! the class's tokens -/
def pkE (ts : Nat → Int32) : List (Int × Int) → Nat → Prop
  | [], _ => True
  | (x, j) :: R, a => (ts a).toInt = x ∧ (ts (a + 1)).toInt = j ∧ pkE ts R (a + 2)
section PKE
variable {ts us : Nat → Int32} {f : Nat → Int32} {n : Int}
theorem pk_c : ∀ (P : List (Int × Int)) (a : Nat), (∀ j : Nat, a ≤ j → j < a + 2 * P.length → us j = ts j) → pkE ts P a → pkE us P a := by
  intro P
  induction P with
  | nil => intro a _ _; trivial
  | cons xj R ih =>
    obtain ⟨x, j⟩ := xj
    intro a h H
    rw [List.length_cons] at h
    obtain ⟨h1, h2, h3⟩ := H
    exact ⟨by rw [h a (by omega) (by omega)]; exact h1, by rw [h (a + 1) (by omega) (by omega)]; exact h2, ih (a + 2) (fun k k1 k2 => h k (by omega) (by omega)) h3⟩
theorem pk_app {x j : Int} : ∀ (P : List (Int × Int)) (a : Nat), pkE ts P a → (ts (a + 2 * P.length)).toInt = x → (ts (a + 2 * P.length + 1)).toInt = j → pkE ts (P ++ [(x, j)]) a := by
  intro P
  induction P with
  | nil => intro a _ h1 h2; exact ⟨h1, h2, trivial⟩
  | cons yk R ih =>
    obtain ⟨y, k⟩ := yk
    intro a H h1 h2
    rw [List.length_cons, show a + 2 * (R.length + 1) = a + 2 + 2 * R.length by omega] at h1 h2
    exact ⟨H.1, H.2.1, ih (a + 2) H.2.2 h1 h2⟩
theorem pk_tk : ∀ (P : List (Int × Int)) (a : Nat), pkE ts P a → tkE ts P a (a + 2 * P.length) := by
  intro P
  induction P with
  | nil => intro a _; exact Nat.le_refl _
  | cons yk R ih =>
    obtain ⟨y, k⟩ := yk
    intro a H
    have h := ih (a + 2) H.2.2
    rw [List.length_cons, show a + 2 * (R.length + 1) = a + 2 + 2 * R.length by omega]
    exact ⟨by omega, H.1, fun _ => H.2.1, fun q => by omega, h⟩
theorem pk_te {x : Int} : ∀ (P : List (Int × Int)) (a : Nat), pkE ts P a → (ts (a + 2 * P.length)).toInt = x → tkE ts (P ++ [(x, 2006)]) a (a + 2 * P.length + 1) := by
  intro P
  induction P with
  | nil => intro a _ h; exact ⟨Nat.lt_succ_self _, h, fun q => absurd q (Nat.lt_irrefl _), fun _ => rfl, Nat.le_succ _⟩
  | cons yk R ih =>
    obtain ⟨y, k⟩ := yk
    intro a H h
    rw [List.length_cons, show a + 2 * (R.length + 1) = a + 2 + 2 * R.length by omega] at h ⊢
    exact ⟨by omega, H.1, fun _ => H.2.1, fun q => by omega, ih (a + 2) H.2.2 h⟩
theorem tkE_c : ∀ (L : List (Int × Int)) (a e : Nat), (∀ j : Nat, j < e → us j = ts j) → tkE ts L a e → tkE us L a e := by
  intro L
  induction L with
  | nil => intro a e _ h; exact h
  | cons xj R ih =>
    obtain ⟨x, j⟩ := xj
    intro a e h H
    obtain ⟨h1, h2, h3, h4, h5⟩ := H
    exact ⟨h1, by rw [h a h1]; exact h2, fun q => by rw [h (a + 1) q]; exact h3 q, h4, ih (a + 2) e h h5⟩
/-- the class's reader of tests: at a part, behind it -/
def rtI (f : Nat → Int32) (n : Int) (L0 : List (Int × Int)) (vs ts : Nat → Int32) (u0 u : Int) (L : List (Int × Int)) : Prop := ∃ P : List (Int × Int), L0 = P ++ L ∧ u = u0 + 2 * (P.length : Int) ∧ pkE ts P u0.toNat ∧ ∀ j : Nat, (j : Int) < u0 → ts j = vs j
def rtJ (f : Nat → Int32) (n : Int) (L0 : List (Int × Int)) (vs ts : Nat → Int32) (u0 u : Int) (x : Int) (L : List (Int × Int)) : Prop := ∃ P : List (Int × Int), L0 = P ++ L ∧ u = u0 + 2 * (P.length : Int) + 1 ∧ pkE ts P u0.toNat ∧ (ts (u - 1).toNat).toInt = x ∧ ∀ j : Nat, (j : Int) < u0 → ts j = vs j
variable {L0 L : List (Int × Int)} {vs : Nat → Int32} {u0 u u' x j : Int}
theorem rt_0 (hu : u = u0) : rtI f n L vs vs u0 u L := ⟨[], rfl, by rw [hu]; exact (Int.add_zero _).symm, trivial, fun _ _ => rfl⟩
theorem rt_p {v : Int32} {L' : List (Int × Int)} (R : rtI f n L0 vs ts u0 u L) (h0 : 0 ≤ u0) (hs : us = upd ts u.toNat v) (hx : v.toInt = x) (eu : u' = u + 1) (eL : L = L') : rtJ f n L0 vs us u0 u' x L' := by
  subst eu; subst eL; subst hs
  obtain ⟨P, e, h1, h2, h3⟩ := R
  refine ⟨P, e, by omega, pk_c P _ (fun k k1 k2 => upd_n (by omega)) h2, ?_, fun k hk => ?_⟩
  · rw [show u + 1 - 1 = u by omega, upd_h rfl]; exact hx
  · rw [upd_n (by omega)]; exact h3 k hk
theorem rt_j {v : Int32} (R : rtJ f n L0 vs ts u0 u x ((x, j) :: L)) (h0 : 0 ≤ u0) (hs : us = upd ts u.toNat v) (hj : v.toInt = j) (eu : u' = u + 1) : rtI f n L0 vs us u0 u' L := by
  subst eu; subst hs
  obtain ⟨P, e, h1, h2, hx, h3⟩ := R
  refine ⟨P ++ [(x, j)], by rw [e, List.append_assoc]; rfl, by rw [List.length_append]; show u + 1 = u0 + 2 * ((P.length + 1 : Nat) : Int); omega, ?_, fun k hk => ?_⟩
  · refine pk_app P _ (pk_c P _ (fun k k1 k2 => upd_n (by omega)) h2) ?_ ?_
    · rw [upd_n (by omega), show u0.toNat + 2 * P.length = (u - 1).toNat by omega]; exact hx
    · rw [upd_h (by omega)]; exact hj
  · rw [upd_n (by omega)]; exact h3 k hk
theorem rt_e (R : rtJ f n L0 vs ts u0 u x [(x, 2006)]) (h0 : 0 ≤ u0) : tkE ts L0 u0.toNat u.toNat ∧ ∀ j : Nat, (j : Int) < u0 → ts j = vs j := by
  obtain ⟨P, e, h1, h2, hx, h3⟩ := R
  refine ⟨?_, h3⟩
  rw [e, show u.toNat = u0.toNat + 2 * P.length + 1 by omega]
  exact pk_te P _ h2 (by rw [show u0.toNat + 2 * P.length = (u - 1).toNat by omega]; exact hx)
theorem rt_z (R : rtI f n L0 vs ts u0 u []) (h0 : 0 ≤ u0) : tkE ts L0 u0.toNat u.toNat ∧ ∀ j : Nat, (j : Int) < u0 → ts j = vs j := by
  obtain ⟨P, e, h1, h2, h3⟩ := R
  refine ⟨?_, h3⟩
  rw [e, List.append_nil, show u.toNat = u0.toNat + 2 * P.length by omega]
  exact pk_tk P _ h2
end PKE
