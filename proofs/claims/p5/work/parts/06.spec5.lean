/-! a whole line of the reference; all lines; the tape's bytes -/
section LNE
variable {f : Nat → Int32} {n F P b hs ls : Int} {s t X : Int × Int × Int}
theorem am_dis {i j : Nat} (hi0 : (0 : Int) < (lenS.getD i 0 : Int)) (hir : qrun qcW (qsb i) (lenS.getD i 0 : Int) 0 = 0 + (lenS.getD i 0 : Int)) (hj0 : (0 : Int) < (lenS.getD j 0 : Int)) (hjr : qrun qcW (qsb j) (lenS.getD j 0 : Int) 0 = 0 + (lenS.getD j 0 : Int)) (hne : ¬ ((lenS.getD i 0 : Int) = (lenS.getD j 0 : Int) ∧ (List.range (lenS.getD i 0)).all (fun k => decide (qtb (qsb i) (0 + (k : Int)) = qtb (qsb j) (0 + (k : Int)))) = true)) : ¬ (qam f n b i = 0 ∧ qam f n b j = 0) := by
  rintro ⟨h1, h2⟩
  rw [am_1 hi0 hir] at h1
  rw [am_1 hj0 hjr] at h2
  by_cases h3 : qkd f n b = 1 ∧ qtqB f b (qnx f n b) (qsb i) 0 (lenS.getD i 0 : Int) = true
  · by_cases h4 : qkd f n b = 1 ∧ qtqB f b (qnx f n b) (qsb j) 0 (lenS.getD j 0 : Int) = true
    · obtain ⟨a1, a2⟩ := tq_uni h3.2 h4.2
      refine hne ⟨a1, List.all_eq_true.mpr (fun k hk => decide_eq_true (a2 k ?_))⟩
      have := List.mem_range.mp hk
      omega
    · rw [if_neg h4] at h2
      omega
  · rw [if_neg h3] at h1
    omega
theorem am_pay : 0 ≤ qam f n b 2 ↔ 4 ≤ qam f n b 0 := by
  have d_13_17 := am_dis (f := f) (n := n) (b := b) (i := 13) (j := 17) (by decide) (by decide +kernel) (by decide) (by decide +kernel) (by decide +kernel)
  have d_13_18 := am_dis (f := f) (n := n) (b := b) (i := 13) (j := 18) (by decide) (by decide +kernel) (by decide) (by decide +kernel) (by decide +kernel)
  have d_13_19 := am_dis (f := f) (n := n) (b := b) (i := 13) (j := 19) (by decide) (by decide +kernel) (by decide) (by decide +kernel) (by decide +kernel)
  have d_13_20 := am_dis (f := f) (n := n) (b := b) (i := 13) (j := 20) (by decide) (by decide +kernel) (by decide) (by decide +kernel) (by decide +kernel)
  have d_14_17 := am_dis (f := f) (n := n) (b := b) (i := 14) (j := 17) (by decide) (by decide +kernel) (by decide) (by decide +kernel) (by decide +kernel)
  have d_14_18 := am_dis (f := f) (n := n) (b := b) (i := 14) (j := 18) (by decide) (by decide +kernel) (by decide) (by decide +kernel) (by decide +kernel)
  have d_14_19 := am_dis (f := f) (n := n) (b := b) (i := 14) (j := 19) (by decide) (by decide +kernel) (by decide) (by decide +kernel) (by decide +kernel)
  have d_14_20 := am_dis (f := f) (n := n) (b := b) (i := 14) (j := 20) (by decide) (by decide +kernel) (by decide) (by decide +kernel) (by decide +kernel)
  have d_15_17 := am_dis (f := f) (n := n) (b := b) (i := 15) (j := 17) (by decide) (by decide +kernel) (by decide) (by decide +kernel) (by decide +kernel)
  have d_15_18 := am_dis (f := f) (n := n) (b := b) (i := 15) (j := 18) (by decide) (by decide +kernel) (by decide) (by decide +kernel) (by decide +kernel)
  have d_15_19 := am_dis (f := f) (n := n) (b := b) (i := 15) (j := 19) (by decide) (by decide +kernel) (by decide) (by decide +kernel) (by decide +kernel)
  have d_15_20 := am_dis (f := f) (n := n) (b := b) (i := 15) (j := 20) (by decide) (by decide +kernel) (by decide) (by decide +kernel) (by decide +kernel)
  have d_16_17 := am_dis (f := f) (n := n) (b := b) (i := 16) (j := 17) (by decide) (by decide +kernel) (by decide) (by decide +kernel) (by decide +kernel)
  have d_16_18 := am_dis (f := f) (n := n) (b := b) (i := 16) (j := 18) (by decide) (by decide +kernel) (by decide) (by decide +kernel) (by decide +kernel)
  have d_16_19 := am_dis (f := f) (n := n) (b := b) (i := 16) (j := 19) (by decide) (by decide +kernel) (by decide) (by decide +kernel) (by decide +kernel)
  have d_16_20 := am_dis (f := f) (n := n) (b := b) (i := 16) (j := 20) (by decide) (by decide +kernel) (by decide) (by decide +kernel) (by decide +kernel)
  rw [am_w0, am_w2]
  by_cases c17 : qam f n b 17 = 0
  · rw [if_pos c17, if_neg (show ¬ qam f n b 13 = 0 from fun q => d_13_17 ⟨q, c17⟩), if_neg (show ¬ qam f n b 14 = 0 from fun q => d_14_17 ⟨q, c17⟩), if_neg (show ¬ qam f n b 15 = 0 from fun q => d_15_17 ⟨q, c17⟩), if_neg (show ¬ qam f n b 16 = 0 from fun q => d_16_17 ⟨q, c17⟩)]
    decide
  by_cases c18 : qam f n b 18 = 0
  · rw [if_neg c17, if_pos c18, if_neg (show ¬ qam f n b 13 = 0 from fun q => d_13_18 ⟨q, c18⟩), if_neg (show ¬ qam f n b 14 = 0 from fun q => d_14_18 ⟨q, c18⟩), if_neg (show ¬ qam f n b 15 = 0 from fun q => d_15_18 ⟨q, c18⟩), if_neg (show ¬ qam f n b 16 = 0 from fun q => d_16_18 ⟨q, c18⟩)]
    decide
  by_cases c19 : qam f n b 19 = 0
  · rw [if_neg c17, if_neg c18, if_pos c19, if_neg (show ¬ qam f n b 13 = 0 from fun q => d_13_19 ⟨q, c19⟩), if_neg (show ¬ qam f n b 14 = 0 from fun q => d_14_19 ⟨q, c19⟩), if_neg (show ¬ qam f n b 15 = 0 from fun q => d_15_19 ⟨q, c19⟩), if_neg (show ¬ qam f n b 16 = 0 from fun q => d_16_19 ⟨q, c19⟩)]
    decide
  by_cases c20 : qam f n b 20 = 0
  · rw [if_neg c17, if_neg c18, if_neg c19, if_pos c20, if_neg (show ¬ qam f n b 13 = 0 from fun q => d_13_20 ⟨q, c20⟩), if_neg (show ¬ qam f n b 14 = 0 from fun q => d_14_20 ⟨q, c20⟩), if_neg (show ¬ qam f n b 15 = 0 from fun q => d_15_20 ⟨q, c20⟩), if_neg (show ¬ qam f n b 16 = 0 from fun q => d_16_20 ⟨q, c20⟩)]
    decide
  rw [if_neg c17, if_neg c18, if_neg c19, if_neg c20]
  by_cases c13 : qam f n b 13 = 0
  · rw [if_pos c13, if_pos c13]; decide
  · rw [if_neg c13, if_neg c13]
    by_cases c14 : qam f n b 14 = 0
    · rw [if_pos c14, if_pos c14]; decide
    · rw [if_neg c14, if_neg c14]
      by_cases c15 : qam f n b 15 = 0
      · rw [if_pos c15, if_pos c15]; decide
      · rw [if_neg c15, if_neg c15]
        by_cases c16 : qam f n b 16 = 0
        · rw [if_pos c16, if_pos c16]; decide
        · rw [if_neg c16, if_neg c16]
          decide
theorem am_and (h : 0 ≤ qam f n b 35) : qam f n b 6 = 6 := by
  have h0 : qam f n b 35 = 0 := by
    rcases am_01 (f := f) (n := n) (b := b) 35 (by decide) (by decide +kernel) with q | q
    · exact q
    · omega
  have d_29 := am_dis (f := f) (n := n) (b := b) (i := 29) (j := 35) (by decide) (by decide +kernel) (by decide) (by decide +kernel) (by decide +kernel)
  have d_30 := am_dis (f := f) (n := n) (b := b) (i := 30) (j := 35) (by decide) (by decide +kernel) (by decide) (by decide +kernel) (by decide +kernel)
  have d_31 := am_dis (f := f) (n := n) (b := b) (i := 31) (j := 35) (by decide) (by decide +kernel) (by decide) (by decide +kernel) (by decide +kernel)
  have d_32 := am_dis (f := f) (n := n) (b := b) (i := 32) (j := 35) (by decide) (by decide +kernel) (by decide) (by decide +kernel) (by decide +kernel)
  have d_33 := am_dis (f := f) (n := n) (b := b) (i := 33) (j := 35) (by decide) (by decide +kernel) (by decide) (by decide +kernel) (by decide +kernel)
  have d_34 := am_dis (f := f) (n := n) (b := b) (i := 34) (j := 35) (by decide) (by decide +kernel) (by decide) (by decide +kernel) (by decide +kernel)
  rw [am_w6, if_neg (show ¬ qam f n b 29 = 0 from fun q => d_29 ⟨q, h0⟩), if_neg (show ¬ qam f n b 30 = 0 from fun q => d_30 ⟨q, h0⟩), if_neg (show ¬ qam f n b 31 = 0 from fun q => d_31 ⟨q, h0⟩), if_neg (show ¬ qam f n b 32 = 0 from fun q => d_32 ⟨q, h0⟩), if_neg (show ¬ qam f n b 33 = 0 from fun q => d_33 ⟨q, h0⟩), if_neg (show ¬ qam f n b 34 = 0 from fun q => d_34 ⟨q, h0⟩), if_pos h0]
theorem ln_o (h : 4 ≤ qam f n b 0) : (r_ln f n ((F, P, b), hs, ls)).1 = r_cl f n (r_ow f n ls (F, P, b)) := congrArg Prod.fst (if_pos h)
theorem ln_t (h : qam f n b 0 < 4) : (r_ln f n ((F, P, b), hs, ls)).1 = r_cl f n (r_ot f n hs (qam f n b 0) (F, P, b)) := congrArg Prod.fst (if_neg (show ¬ 4 ≤ qam f n b 0 by omega))
theorem ln2_o (h : 4 ≤ qam f n b 0) : (r_ln f n ((F, P, b), hs, ls)).2.1 = hs ∧ (r_ln f n ((F, P, b), hs, ls)).2.2 = ls + 1 := by
  have e : (r_ln f n ((F, P, b), hs, ls)).2 = (hs, ls + 1) := congrArg Prod.snd (if_pos h)
  rw [e]
  exact ⟨rfl, rfl⟩
theorem ln2_h (h : qam f n b 0 = 0) : (r_ln f n ((F, P, b), hs, ls)).2.1 = hs + 1 ∧ (r_ln f n ((F, P, b), hs, ls)).2.2 = ls := by
  have e : (r_ln f n ((F, P, b), hs, ls)).2 = ((if qam f n b 0 = 0 then hs + 1 else hs), ls) := congrArg Prod.snd (if_neg (show ¬ 4 ≤ qam f n b 0 by omega))
  rw [e, if_pos h]
  exact ⟨rfl, rfl⟩
theorem ln2_t (h : qam f n b 0 < 4) (h2 : qam f n b 0 ≠ 0) : (r_ln f n ((F, P, b), hs, ls)).2.1 = hs ∧ (r_ln f n ((F, P, b), hs, ls)).2.2 = ls := by
  have e : (r_ln f n ((F, P, b), hs, ls)).2 = ((if qam f n b 0 = 0 then hs + 1 else hs), ls) := congrArg Prod.snd (if_neg (show ¬ 4 ≤ qam f n b 0 by omega))
  rw [e, if_neg h2]
  exact ⟨rfl, rfl⟩
theorem cl_fl {k : Int} (h : F = 0) (hk : k ≠ 0) : r_cl f n (r_fl k (F, P, b)) = r_fl k (F, P, b) := by
  have e : r_fl k (F, P, b) = (k, b, b) := if_pos h
  rw [e]
  exact if_neg hk
theorem L_no (hF : F = 0) (h : qam f n b 0 < 0) (e : t = r_fl 1 (F, P, b)) : t = (r_ln f n ((F, P, b), hs, ls)).1 := by
  have e1 : t = r_ot f n hs (qam f n b 0) (F, P, b) := ot_n (Or.inl h) e
  rw [ln_t (show qam f n b 0 < 4 by omega), ← e1, e]
  exact (cl_fl hF (by decide)).symm
theorem L_h3 (hF : F = 0) (h : qam f n b 0 = 0) (hh : 16 ≤ hs) (e : t = r_fl 3 (F, P, b)) : t = (r_ln f n ((F, P, b), hs, ls)).1 := by
  have e1 : t = r_ot f n hs (qam f n b 0) (F, P, b) := ot_0 h (ho_n hh e)
  rw [ln_t (show qam f n b 0 < 4 by omega), ← e1, e]
  exact (cl_fl hF (by decide)).symm
theorem L_o3 (hF : F = 0) (h : 4 ≤ qam f n b 0) (hl : 24 ≤ ls) (e : t = r_fl 3 (F, P, b)) : t = (r_ln f n ((F, P, b), hs, ls)).1 := by
  have e1 : t = r_ow f n ls (F, P, b) := ow_n hl e
  rw [ln_o h, ← e1, e]
  exact (cl_fl hF (by decide)).symm
theorem L_o (h : 4 ≤ qam f n b 0) (hl : ls < 24) (e : r_cl f n (r_oi f n (r_o1 f n (F, P, b))) = r_cl f n t) : r_cl f n t = (r_ln f n ((F, P, b), hs, ls)).1 := by
  have e1 : r_oi f n (r_o1 f n (F, P, b)) = r_ow f n ls (F, P, b) := ow_y hl rfl
  rw [ln_o h, ← e1]
  exact e.symm
theorem L_h (h : qam f n b 0 = 0) (hh : hs < 16) (e1 : s = r_ad f n (F, P, b)) (e : t = r_opt f n 12 0 99 (r_opt f n 11 0 399 (r_h2 f n s))) : r_cl f n t = (r_ln f n ((F, P, b), hs, ls)).1 := by
  rw [e1] at e
  have e2 : t = r_ot f n hs (qam f n b 0) (F, P, b) := ot_0 h (ho_y hh e)
  rw [ln_t (show qam f n b 0 < 4 by omega), ← e2]
theorem L_k (h : qam f n b 0 = 1) (e1 : s = r_ad f n (F, P, b)) (e : t = r_kn f n hs s) : r_cl f n t = (r_ln f n ((F, P, b), hs, ls)).1 := by
  rw [e1] at e
  have e2 : t = r_ot f n hs (qam f n b 0) (F, P, b) := ot_1 h e
  rw [ln_t (show qam f n b 0 < 4 by omega), ← e2]
theorem L_n (h : qam f n b 0 = 2) (e1 : s = r_ad f n (F, P, b)) (e : t = r_nm f n 0 99 s) : r_cl f n t = (r_ln f n ((F, P, b), hs, ls)).1 := by
  rw [e1] at e
  have e2 : t = r_ot f n hs (qam f n b 0) (F, P, b) := ot_2 h e
  rw [ln_t (show qam f n b 0 < 4 by omega), ← e2]
theorem L_i (h : qam f n b 0 = 3) (e1 : s = r_ad f n (F, P, b)) (e : t = r_nm f n 1 9 s) : r_cl f n t = (r_ln f n ((F, P, b), hs, ls)).1 := by
  rw [e1] at e
  have e2 : t = r_ot f n hs (qam f n b 0) (F, P, b) := ot_3 h e
  rw [ln_t (show qam f n b 0 < 4 by omega), ← e2]
theorem C_f (h : F ≠ 0) (e : r_cl f n (F, P, b) = X) : ((F, P, b) : Int × Int × Int) = X := Eq.trans (if_neg h).symm e
theorem C_1 {H k a v : Int} (hT : qTok f n H k b a v) (h : F = 0) (hk : k ≠ 3) (e : t = r_fl 1 (F, P, b)) (hX : r_cl f n (F, P, b) = X) : t = X := by
  have hk2 : ¬ qkd f n b = 3 := by have := hT.1; omega
  rw [e, ← hX]
  exact ((if_pos h).trans (if_neg hk2)).symm
theorem C_y {H k a v : Int} (hT : qTok f n H k b a v) (h : F = 0) (hk : k = 3) (e : t = r_ad f n (F, P, b)) (hX : r_cl f n (F, P, b) = X) : t = X := by
  have hk2 : qkd f n b = 3 := by have := hT.1; omega
  rw [e, ← hX]
  exact ((if_pos h).trans (if_pos hk2)).symm
theorem T_s {m : Nat} {R : (Int × Int × Int) × Int × Int} (hI : r_rd f n m ((F, P, b), hs, ls) = R) (h : F = 0) (hk : qkd f n b ≠ 0) (hm : 0 < m) : r_rd f n (m - 1) (r_ln f n ((F, P, b), hs, ls)) = R := by
  obtain ⟨m, rfl⟩ : ∃ z, m = z + 1 := ⟨m - 1, by omega⟩
  rw [← hI]
  exact (if_neg (fun q => q.elim (fun q => q h) (fun q => hk q))).symm
theorem T_e {m : Nat} {R : (Int × Int × Int) × Int × Int} (hI : r_rd f n m ((F, P, b), hs, ls) = R) (h : F ≠ 0 ∨ qkd f n b = 0) : (((F, P, b), hs, ls) : (Int × Int × Int) × Int × Int) = R := by
  rw [← hI]
  cases m with
  | zero => rfl
  | succ m => exact (if_pos h).symm
end LNE
def rr (f : Nat → Int32) (n : Int) : (Int × Int × Int) × Int × Int := r_rd f n 1401 (((0, -1, qrun qcB f n 0) : Int × Int × Int), 0, 0)
theorem rr_1 {F P b hs ls : Int} {R : (Int × Int × Int) × Int × Int} (h : (((F, P, b), hs, ls) : (Int × Int × Int) × Int × Int) = R) : F = R.1.1 ∧ P = R.1.2.1 ∧ hs = R.2.1 ∧ ls = R.2.2 := by
  subst h
  exact ⟨rfl, rfl, rfl, rfl⟩
/-! the tape -/
def bt (x y : Int32) : Int32 := vp_nar .byte ((x >>> (y &&& 31)).toInt8.toInt32)
def bts (x : Int32) (i : Nat) : Int32 := bt x (Int32.ofInt (24 - 8 * (i : Int)))
def fdg (g f : Nat → Int32) (p q : Nat) : Nat → Int32 := fun j => if p ≤ j ∧ j < q then g (j - p) else f j
theorem fdg_0 {g f : Nat → Int32} {p q : Nat} (h : q ≤ p) : f = fdg g f p q := by
  funext j
  exact (if_neg (by omega)).symm
theorem fdg_s {g f : Nat → Int32} {p q : Nat} {x : Int32} (h : p ≤ q) (hx : x = g (q - p)) : upd (fdg g f p q) q x = fdg g f p (q + 1) := by
  funext j
  unfold upd fdg
  by_cases h1 : j = q
  · subst h1
    rw [if_pos rfl, if_pos ⟨h, by omega⟩]
    exact hx
  · rw [if_neg h1]
    by_cases h2 : p ≤ j ∧ j < q
    · rw [if_pos h2, if_pos ⟨h2.1, by omega⟩]
    · rw [if_neg h2, if_neg (by omega)]
theorem fd_n {f f' f0 : Nat → Int32} {x v w sh q q' : Int32} {p : Int} (h : f = fdg (bts x) f0 p.toNat q.toInt.toNat) (hf : upd f q.toNatClampNeg (vp_nar .byte w) = f') (ew : w = v.toInt8.toInt32) (ev : v = x >>> (sh &&& 31)) (hs : sh.toInt = 24 - 8 * (q.toInt - p)) (hq : 0 ≤ p ∧ p ≤ q.toInt) (hq' : q'.toInt = q.toInt + 1) : f' = fdg (bts x) f0 p.toNat q'.toInt.toNat := by
  have h1 : q.toNatClampNeg = q.toInt.toNat := by have := cl_to (x := q) (by omega); omega
  have h2 : q'.toInt.toNat = q.toInt.toNat + 1 := by omega
  rw [← hf, h, h1, h2]
  refine fdg_s (by omega) ?_
  have h3 : sh = Int32.ofInt (24 - 8 * ((q.toInt.toNat - p.toNat : Nat) : Int)) := by
    have h4 : (24 - 8 * ((q.toInt.toNat - p.toNat : Nat) : Int)) = sh.toInt := by omega
    rw [h4]
    exact (Int32.ofInt_toInt sh).symm
  show _ = bt x (Int32.ofInt (24 - 8 * ((q.toInt.toNat - p.toNat : Nat) : Int)))
  rw [← h3, ew, ev]
  rfl
def fd5 (f : Nat → Int32) (p : Nat) (a b c d e : Int32) : Nat → Int32 := fdg (bts e) (fdg (bts d) (fdg (bts c) (fdg (bts b) (fdg (bts a) f p (p + 4)) (p + 4) (p + 8)) (p + 8) (p + 12)) (p + 12) (p + 16)) (p + 16) (p + 20)
theorem fd5_of {f ff : Nat → Int32} {p : Nat} {a b c d e : Int32} (h0 : ff 0 = a) (h1 : ff 1 = b) (h2 : ff 2 = c) (h3 : ff 3 = d) (h4 : ff 4 = e) : fdg (fun i => bts (ff (i / 4)) (i % 4)) f p (p + 20) = fd5 f p a b c d e := by
  subst h0 h1 h2 h3 h4
  funext j
  unfold fd5 fdg
  by_cases c4 : p + 16 ≤ j ∧ j < p + 20
  · rw [if_pos c4, if_pos ⟨by omega, by omega⟩]
    show bts (ff ((j - p) / 4)) ((j - p) % 4) = _
    rw [show (j - p) / 4 = 4 by omega, show (j - p) % 4 = j - (p + 16) by omega]
  · rw [if_neg c4]
    by_cases c3 : p + 12 ≤ j ∧ j < p + 16
    · rw [if_pos c3, if_pos ⟨by omega, by omega⟩]
      show bts (ff ((j - p) / 4)) ((j - p) % 4) = _
      rw [show (j - p) / 4 = 3 by omega, show (j - p) % 4 = j - (p + 12) by omega]
    · rw [if_neg c3]
      by_cases c2 : p + 8 ≤ j ∧ j < p + 12
      · rw [if_pos c2, if_pos ⟨by omega, by omega⟩]
        show bts (ff ((j - p) / 4)) ((j - p) % 4) = _
        rw [show (j - p) / 4 = 2 by omega, show (j - p) % 4 = j - (p + 8) by omega]
      · rw [if_neg c2]
        by_cases c1 : p + 4 ≤ j ∧ j < p + 8
        · rw [if_pos c1, if_pos ⟨by omega, by omega⟩]
          show bts (ff ((j - p) / 4)) ((j - p) % 4) = _
          rw [show (j - p) / 4 = 1 by omega, show (j - p) % 4 = j - (p + 4) by omega]
        · rw [if_neg c1]
          by_cases c0 : p ≤ j ∧ j < p + 4
          · rw [if_pos c0, if_pos ⟨by omega, by omega⟩]
            show bts (ff ((j - p) / 4)) ((j - p) % 4) = _
            rw [show (j - p) / 4 = 0 by omega, show (j - p) % 4 = j - p by omega]
          · rw [if_neg c0, if_neg (by omega)]
theorem rm4 {v a b : Int32} (e : v = a - a / b * b) (ha : 0 ≤ a.toInt) (hb : b = nI 4) : v.toInt = a.toInt % 4 := by
  obtain ⟨n, h1, h2, h3⟩ := ix_nI (x := a) (l := 0) (h := a.toInt) ⟨ha, Int.le_refl _⟩ (by decide)
  rw [h1, hb, pk_rem (by omega) (by decide) (by decide)] at e
  have h4 : n % 4 < 4 := Nat.mod_lt _ (by decide)
  rw [e, nI_toInt (by omega)]
  omega
theorem dv4 {v a b : Int32} (e : v = a / b) (ha : 0 ≤ a.toInt) (hb : b = nI 4) : v.toInt = a.toInt / 4 := by
  obtain ⟨n, h1, h2, h3⟩ := ix_nI (x := a) (l := 0) (h := a.toInt) ⟨ha, Int.le_refl _⟩ (by decide)
  rw [h1, hb, pk_div (by omega) (by decide) (by decide)] at e
  have h5 : n / 4 ≤ n := Nat.div_le_self _ _
  rw [e, nI_toInt (by omega)]
  omega
theorem fd_m {f f' f0 ff : Nat → Int32} {k k' q v4 vs v5 v w : Int32} {p : Int} (h : f = fdg (fun i => bts (ff (i / 4)) (i % 4)) f0 p.toNat (p.toNat + k.toInt.toNat)) (hf : upd f q.toNatClampNeg (vp_nar .byte w) = f') (ew : w = v.toInt8.toInt32) (ev : v = v5 >>> (vs &&& 31)) (e5 : v5 = ff v4.toNatClampNeg) (h4 : v4.toInt = k.toInt / 4) (hs : vs.toInt = 24 - 8 * (k.toInt % 4)) (hq : q.toInt = p + k.toInt) (hp : 0 ≤ p ∧ 0 ≤ k.toInt) (hk : k'.toInt = k.toInt + 1) : f' = fdg (fun i => bts (ff (i / 4)) (i % 4)) f0 p.toNat (p.toNat + k'.toInt.toNat) := by
  have h1 : q.toNatClampNeg = p.toNat + k.toInt.toNat := by have := cl_to (x := q) (by omega); omega
  have h2 : p.toNat + k'.toInt.toNat = p.toNat + k.toInt.toNat + 1 := by omega
  rw [← hf, h, h1, h2]
  refine fdg_s (by omega) ?_
  have h5 : v4.toNatClampNeg = k.toInt.toNat / 4 := by have := cl_to (x := v4) (by omega); omega
  have h3 : vs = Int32.ofInt (24 - 8 * ((k.toInt.toNat % 4 : Nat) : Int)) := by
    have h6 : (24 - 8 * ((k.toInt.toNat % 4 : Nat) : Int)) = vs.toInt := by omega
    rw [h6]
    exact (Int32.ofInt_toInt vs).symm
  rw [show p.toNat + k.toInt.toNat - p.toNat = k.toInt.toNat by omega]
  show _ = bt (ff (k.toInt.toNat / 4)) (Int32.ofInt (24 - 8 * ((k.toInt.toNat % 4 : Nat) : Int)))
  rw [← h3, ← h5, ← e5, ew, ev]
  rfl
theorem fd_tie {ft ft' fm fm' : Nat → Int32} {t u : Int} {a b c d e : Int32} (h : t = u) (hf : ft = fm) (h1 : (1380 < t ∧ ft' = ft) ∨ (t ≤ 1380 ∧ ft' = fd5 ft t.toNat a b c d e)) (h2 : (1380 < u ∧ fm' = fm) ∨ (u ≤ 1380 ∧ fm' = fd5 fm u.toNat a b c d e)) : ft' = fm' := by
  subst h hf
  rcases h1 with ⟨p, q⟩ | ⟨p, q⟩ <;> rcases h2 with ⟨r, s⟩ | ⟨r, s⟩
  · rw [q, s]
  · exfalso; omega
  · exfalso; omega
  · rw [q, s]
