/-! the reader, told by functions: runs of bytes, tokens, words -/
def qtb (f : Nat → Int32) (j : Int) : Int := (f j.toNat).toInt
def qcB (c : Int) : Bool := decide (c = 32) || decide (c = 10)
def qcL (c : Int) : Bool := decide (97 ≤ c) && decide (c ≤ 122)
def qcN (c : Int) : Bool := decide (48 ≤ c) && decide (c ≤ 57)
def qcW (c : Int) : Bool := !decide (c = 32)
theorem cB_t {c : Int} (h : c = 32 ∨ c = 10) : qcB c = true := by simp [qcB, h]
theorem cB_f {c : Int} (h : c ≠ 32 ∧ c ≠ 10) : qcB c = false := by simp [qcB, h]
theorem cL_t {c : Int} (h : 97 ≤ c ∧ c ≤ 122) : qcL c = true := by simp [qcL, h]
theorem cL_f {c : Int} (h : c < 97 ∨ 122 < c) : qcL c = false := by
  simp only [qcL, Bool.and_eq_false_iff, decide_eq_false_iff_not]
  omega
theorem cN_t {c : Int} (h : 48 ≤ c ∧ c ≤ 57) : qcN c = true := by simp [qcN, h]
theorem cN_f {c : Int} (h : c < 48 ∨ 57 < c) : qcN c = false := by
  simp only [qcN, Bool.and_eq_false_iff, decide_eq_false_iff_not]
  omega
theorem cL_i {c : Int} (h : qcL c = true) : 97 ≤ c ∧ c ≤ 122 := by simpa [qcL] using h
theorem cN_i {c : Int} (h : qcN c = true) : 48 ≤ c ∧ c ≤ 57 := by simpa [qcN] using h
theorem cW_t {c : Int} (h : c ≠ 32) : qcW c = true := by simp [qcW, h]
theorem cW_f {c : Int} (h : c = 32) : qcW c = false := by simp [qcW, h]
theorem tb_e {f : Nat → Int32} {v i : Int32} (e : v = f i.toNatClampNeg) (h : 0 ≤ i.toInt) : qtb f i.toInt = v.toInt := by
  have h1 := cl_to h
  have h2 : i.toInt.toNat = i.toNatClampNeg := by omega
  unfold qtb
  rw [h2, ← e]
def qrunF (P : Int → Bool) (n : Int) : Nat → Int → Int
  | 0, p => p
  | k + 1, p => if p < n ∧ P p = true then qrunF P n k (p + 1) else p
def qrun (C : Int → Bool) (f : Nat → Int32) (n p : Int) : Int := qrunF (fun j => C (qtb f j)) n (n - p).toNat p
theorem runF_eq {P : Int → Bool} {n q : Int} : ∀ (k : Nat) (p : Int), p ≤ q → (∀ j, p ≤ j → j < q → P j = true ∧ j < n) → (n ≤ q ∨ P q = false) → (n - p).toNat ≤ k → qrunF P n k p = q := by
  intro k
  induction k with
  | zero =>
    intro p h1 h2 h3 h4
    show p = q
    by_cases h : p = q
    · exact h
    · have := (h2 p (Int.le_refl p) (by omega)).2
      omega
  | succ k ih =>
    intro p h1 h2 h3 h4
    show (if p < n ∧ P p = true then qrunF P n k (p + 1) else p) = q
    by_cases h : p = q
    · subst h
      rw [if_neg]
      rintro ⟨a, b⟩
      rcases h3 with h3 | h3
      · omega
      · rw [b] at h3
        cases h3
    · have h5 := h2 p (Int.le_refl p) (by omega)
      rw [if_pos ⟨h5.2, h5.1⟩]
      exact ih (p + 1) (by omega) (fun j a b => h2 j (by omega) b) h3 (by omega)
def qrn (C : Int → Bool) (f : Nat → Int32) (n p q : Int) : Prop := p ≤ q ∧ ∀ j, p ≤ j → j < q → C (qtb f j) = true ∧ j < n
theorem rn_0 {C : Int → Bool} {f : Nat → Int32} {n p q : Int} (h : q = p) : qrn C f n p q := ⟨by omega, fun j a b => by omega⟩
theorem rn_s {C : Int → Bool} {f : Nat → Int32} {n p q q' : Int} (h : qrn C f n p q) (c : C (qtb f q) = true) (hn : q < n) (e : q' = q + 1) : qrn C f n p q' := by
  refine ⟨by have := h.1; omega, fun j a b => ?_⟩
  by_cases hj : j = q
  · subst hj
    exact ⟨c, hn⟩
  · exact h.2 j a (by omega)
theorem rn_e {C : Int → Bool} {f : Nat → Int32} {n p q : Int} (h : qrn C f n p q) (he : n ≤ q ∨ C (qtb f q) = false) : qrun C f n p = q := runF_eq _ p h.1 h.2 he (Nat.le_refl _)
theorem rn_q {C : Int → Bool} {f : Nat → Int32} {n p q q' : Int} (h : qrn C f n p q) (e : q' = q) : qrn C f n p q' := by rw [e]; exact h
theorem runF_sp {P : Int → Bool} {n : Int} : ∀ (k : Nat) (p : Int), (n - p).toNat ≤ k → p ≤ qrunF P n k p ∧ (∀ j, p ≤ j → j < qrunF P n k p → P j = true ∧ j < n) ∧ (n ≤ qrunF P n k p ∨ P (qrunF P n k p) = false) := by
  intro k
  induction k with
  | zero =>
    intro p h
    exact ⟨Int.le_refl _, fun j a b => by have b : j < p := b; omega, Or.inl (by show n ≤ p; omega)⟩
  | succ k ih =>
    intro p h
    by_cases c : p < n ∧ P p = true
    · have e : qrunF P n (k + 1) p = qrunF P n k (p + 1) := if_pos c
      rw [e]
      obtain ⟨h1, h2, h3⟩ := ih (p + 1) (by omega)
      refine ⟨by omega, fun j a b => ?_, h3⟩
      by_cases hj : j = p
      · subst hj
        exact ⟨c.2, c.1⟩
      · exact h2 j (by omega) b
    · have e : qrunF P n (k + 1) p = p := if_neg c
      rw [e]
      refine ⟨Int.le_refl _, fun j a b => by omega, ?_⟩
      by_cases h5 : p < n
      · right
        cases h6 : P p with
        | false => rfl
        | true => exact absurd ⟨h5, h6⟩ c
      · left
        omega
theorem run_sp (C : Int → Bool) (f : Nat → Int32) (n p : Int) : qrn C f n p (qrun C f n p) ∧ (n ≤ qrun C f n p ∨ C (qtb f (qrun C f n p)) = false) := by
  obtain ⟨h1, h2, h3⟩ := runF_sp (P := fun j => C (qtb f j)) (n := n) (n - p).toNat p (Nat.le_refl _)
  exact ⟨⟨h1, h2⟩, h3⟩
theorem run_le {C : Int → Bool} {f : Nat → Int32} {n p : Int} (h : p ≤ n) : p ≤ qrun C f n p ∧ qrun C f n p ≤ n := by
  obtain ⟨⟨h1, h2⟩, h3⟩ := run_sp C f n p
  refine ⟨h1, ?_⟩
  by_cases h4 : qrun C f n p ≤ n
  · exact h4
  · have := (h2 (qrun C f n p - 1) (by omega) (by omega)).2
    omega
theorem runF_cong {P Q : Int → Bool} {n : Int} : ∀ (k : Nat) (p : Int), (∀ j, p ≤ j → j < n → P j = Q j) → qrunF P n k p = qrunF Q n k p := by
  intro k
  induction k with
  | zero => intro p _; rfl
  | succ k ih =>
    intro p h
    show (if p < n ∧ P p = true then qrunF P n k (p + 1) else p) = (if p < n ∧ Q p = true then qrunF Q n k (p + 1) else p)
    by_cases c : p < n
    · rw [h p (Int.le_refl _) c, ih (p + 1) (fun j a b => h j (by omega) b)]
    · rw [if_neg (fun q => c q.1), if_neg (fun q => c q.1)]
def qdg (f : Nat → Int32) (b : Int) : Nat → Int
  | 0 => 0
  | k + 1 => 10 * qdg f b k + (qtb f (b + (k : Int)) - 48)
theorem dg_nn {f : Nat → Int32} {n b q : Int} (h : qrn qcN f n b q) : ∀ k : Nat, b + (k : Int) ≤ q → 0 ≤ qdg f b k := by
  intro k
  induction k with
  | zero => intro _; exact Int.le_refl 0
  | succ k ih =>
    intro hk
    have h1 := ih (by omega)
    have h2 := cN_i (h.2 (b + (k : Int)) (by omega) (by omega)).1
    show 0 ≤ 10 * qdg f b k + (qtb f (b + (k : Int)) - 48)
    omega
theorem dg_0 {f : Nat → Int32} {b q v H : Int} (hH : 0 ≤ H) (h : q = b) (hv : v = 0) : v = min H (qdg f b (q - b).toNat) := by
  have e : (q - b).toNat = 0 := by omega
  rw [e, hv]
  show (0 : Int) = min H 0
  omega
theorem dg_s {f : Nat → Int32} {n b q q' v v' H : Int} (hH : 0 ≤ H) (h : qrn qcN f n b q) (hv : v = min H (qdg f b (q - b).toNat)) (hv' : v' = min H (10 * v + (qtb f q - 48))) (hc : 48 ≤ qtb f q ∧ qtb f q ≤ 57) (e : q' = q + 1) : v' = min H (qdg f b (q' - b).toNat) := by
  have h1 := h.1
  have e1 : (q' - b).toNat = (q - b).toNat + 1 := by omega
  have e2 : b + ((q - b).toNat : Int) = q := by omega
  have h2 := dg_nn h (q - b).toNat (by omega)
  rw [e1]
  show v' = min H (10 * qdg f b (q - b).toNat + (qtb f (b + ((q - b).toNat : Int)) - 48))
  rw [e2]
  omega
def qkd (f : Nat → Int32) (n b : Int) : Int := if n ≤ b then 0 else if qcL (qtb f b) = true then 1 else if qcN (qtb f b) = true then 2 else if qtb f b = 59 then 3 else 4
def qnx (f : Nat → Int32) (n b : Int) : Int := if n ≤ b then b else if qcL (qtb f b) = true then qrun qcL f n b else if qcN (qtb f b) = true then qrun qcN f n b else b + 1
def qdv (f : Nat → Int32) (n b : Int) : Int := qdg f b (qnx f n b - b).toNat
def qav (f : Nat → Int32) (n b : Int) : Int := qrun qcB f n (qnx f n b)
def qTok (f : Nat → Int32) (n H k b e v : Int) : Prop := k = qkd f n b ∧ e = qnx f n b ∧ (k = 2 → v = min H (qdv f n b)) ∧ 0 ≤ b ∧ b ≤ n
theorem tok_end {f : Nat → Int32} {n H k b e v : Int} (h : n ≤ b) (h0 : 0 ≤ b ∧ b ≤ n) (hk : k = 0) (he : e = b) : qTok f n H k b e v := by
  refine ⟨?_, ?_, fun q => ?_, h0.1, h0.2⟩
  · unfold qkd; rw [if_pos h]; exact hk
  · unfold qnx; rw [if_pos h]; exact he
  · omega
theorem tok_w {f : Nat → Int32} {n H k b e v : Int} (h : b < n) (h0 : 0 ≤ b) (c : 97 ≤ qtb f b ∧ qtb f b ≤ 122) (hk : k = 1) (he : qrun qcL f n b = e) : qTok f n H k b e v := by
  have c1 := cL_t c
  refine ⟨?_, ?_, fun q => ?_, h0, by omega⟩
  · unfold qkd; rw [if_neg (Int.not_le.mpr h), if_pos c1]; exact hk
  · unfold qnx; rw [if_neg (Int.not_le.mpr h), if_pos c1]; exact he.symm
  · omega
theorem tok_n {f : Nat → Int32} {n H k b e v : Int} (h : b < n) (h0 : 0 ≤ b) (c : 48 ≤ qtb f b ∧ qtb f b ≤ 57) (hk : k = 2) (he : qrun qcN f n b = e) (hv : v = min H (qdg f b (e - b).toNat)) : qTok f n H k b e v := by
  have c1 := cN_t c
  have c2 : ¬ qcL (qtb f b) = true := by rw [cL_f (Or.inl (by omega))]; decide
  have e1 : e = qnx f n b := by unfold qnx; rw [if_neg (Int.not_le.mpr h), if_neg c2, if_pos c1]; exact he.symm
  refine ⟨?_, e1, fun q => ?_, h0, by omega⟩
  · unfold qkd; rw [if_neg (Int.not_le.mpr h), if_neg c2, if_pos c1]; exact hk
  · unfold qdv; rw [← e1]; exact hv
theorem tok_s {f : Nat → Int32} {n H k b e v : Int} (h : b < n) (h0 : 0 ≤ b) (c : qtb f b = 59) (hk : k = 3) (he : e = b + 1) : qTok f n H k b e v := by
  have c1 : ¬ qcN (qtb f b) = true := by rw [cN_f (Or.inr (by omega))]; decide
  have c2 : ¬ qcL (qtb f b) = true := by rw [cL_f (Or.inl (by omega))]; decide
  refine ⟨?_, ?_, fun q => ?_, h0, by omega⟩
  · unfold qkd; rw [if_neg (Int.not_le.mpr h), if_neg c2, if_neg c1, if_pos c]; exact hk
  · unfold qnx; rw [if_neg (Int.not_le.mpr h), if_neg c2, if_neg c1]; exact he
  · omega
theorem tok_x {f : Nat → Int32} {n H k b e v : Int} (h : b < n) (h0 : 0 ≤ b) (c : qtb f b ≠ 59) (d1 : qtb f b < 97 ∨ 122 < qtb f b) (d2 : qtb f b < 48 ∨ 57 < qtb f b) (hk : k = 4) (he : e = b + 1) : qTok f n H k b e v := by
  have c1 : ¬ qcN (qtb f b) = true := by rw [cN_f d2]; decide
  have c2 : ¬ qcL (qtb f b) = true := by rw [cL_f d1]; decide
  refine ⟨?_, ?_, fun q => ?_, h0, by omega⟩
  · unfold qkd; rw [if_neg (Int.not_le.mpr h), if_neg c2, if_neg c1, if_neg c]; exact hk
  · unfold qnx; rw [if_neg (Int.not_le.mpr h), if_neg c2, if_neg c1]; exact he
  · omega
theorem nx_le {f : Nat → Int32} {n b : Int} (h : b ≤ n) : b ≤ qnx f n b ∧ qnx f n b ≤ n ∧ (qkd f n b = 0 ∨ b < qnx f n b) := by
  unfold qnx qkd
  by_cases h1 : n ≤ b
  · rw [if_pos h1, if_pos h1]
    exact ⟨Int.le_refl _, h, Or.inl rfl⟩
  · rw [if_neg h1, if_neg h1]
    by_cases h2 : qcL (qtb f b) = true
    · rw [if_pos h2]
      have h3 := run_le (C := qcL) (f := f) h
      refine ⟨h3.1, h3.2, Or.inr ?_⟩
      obtain ⟨-, h5⟩ := run_sp qcL f n b
      by_cases h6 : qrun qcL f n b = b
      · rw [h6] at h5
        rcases h5 with h5 | h5
        · omega
        · rw [h2] at h5
          cases h5
      · omega
    · rw [if_neg h2]
      by_cases h4 : qcN (qtb f b) = true
      · rw [if_pos h4]
        have h3 := run_le (C := qcN) (f := f) h
        refine ⟨h3.1, h3.2, Or.inr ?_⟩
        obtain ⟨-, h5⟩ := run_sp qcN f n b
        by_cases h6 : qrun qcN f n b = b
        · rw [h6] at h5
          rcases h5 with h5 | h5
          · omega
          · rw [h4] at h5
            cases h5
        · omega
      · rw [if_neg h4]
        exact ⟨by omega, by omega, Or.inr (by omega)⟩
theorem av_le {f : Nat → Int32} {n b : Int} (h : b ≤ n) : qnx f n b ≤ qav f n b ∧ qav f n b ≤ n := run_le (nx_le h).2.1
/-! the state of a reader: its fault, the fault's place, where the token begins -/
def r_fl (k : Int) (s : Int × Int × Int) : Int × Int × Int := if s.1 = 0 then (k, s.2.2, s.2.2) else s
def r_ad (f : Nat → Int32) (n : Int) (s : Int × Int × Int) : Int × Int × Int := (s.1, s.2.1, qav f n s.2.2)
def r_nm (f : Nat → Int32) (n lo hi : Int) (s : Int × Int × Int) : Int × Int × Int := if s.1 = 0 then (if qkd f n s.2.2 = 2 then (if lo ≤ qdv f n s.2.2 ∧ qdv f n s.2.2 ≤ hi then r_ad f n s else r_fl 2 s) else r_fl 1 s) else s
def r_nv (f : Nat → Int32) (n lo hi : Int) (s : Int × Int × Int) : Int := if s.1 = 0 ∧ qkd f n s.2.2 = 2 ∧ lo ≤ qdv f n s.2.2 ∧ qdv f n s.2.2 ≤ hi then qdv f n s.2.2 else 0
def r_ch (f : Nat → Int32) (n w : Int) (s : Int × Int × Int) : Int × Int × Int := if s.1 = 0 then (if 0 ≤ w then r_ad f n s else r_fl 1 s) else s
def r_tk (f : Nat → Int32) (n w : Int) (s : Int × Int × Int) : Int × Int × Int := if s.1 = 0 ∧ 0 ≤ w then r_ad f n s else s
/-! words of a constant, one blank between them -/
def qsb (i : Nat) : Nat → Int32 := fun j => (bytS.getD i []).getD j 0
theorem sb_e {i : Nat} {r a : Int32} (e : r = (bytS.getD i []).getD a.toInt.toNat 0) : qtb (qsb i) a.toInt = r.toInt := by
  unfold qtb qsb
  rw [e]
def qtqB (f : Nat → Int32) (b e : Int) (W : Nat → Int32) (o l : Int) : Bool := decide (e - b = l) && (List.range l.toNat).all (fun j => decide (qtb f (b + (j : Int)) = qtb W (o + (j : Int))))
theorem tqB_iff {f W : Nat → Int32} {b e o l : Int} : qtqB f b e W o l = true ↔ e - b = l ∧ ∀ j : Nat, (j : Int) < l → qtb f (b + (j : Int)) = qtb W (o + (j : Int)) := by
  unfold qtqB
  simp only [Bool.and_eq_true, decide_eq_true_eq, List.all_eq_true, List.mem_range]
  constructor
  · rintro ⟨h1, h2⟩
    exact ⟨h1, fun j hj => h2 j (by omega)⟩
  · rintro ⟨h1, h2⟩
    exact ⟨h1, fun j hj => h2 j (by omega)⟩
def qamo (f : Nat → Int32) (b e : Int) (W : Nat → Int32) (L : Int) : Nat → Int → Int → Int
  | 0, _, _ => -1
  | m + 1, o, k => if L ≤ o then -1 else if qtqB f b e W o (qrun qcW W L o - o) = true then k else qamo f b e W L m (qrun qcW W L o + 1) (k + 1)
def qam (f : Nat → Int32) (n b : Int) (i : Nat) : Int := if qkd f n b = 1 then qamo f b (qnx f n b) (qsb i) (lenS.getD i 0 : Int) 61 0 0 else -1
def qamI (f : Nat → Int32) (b e : Int) (i : Nat) (o k : Int) : Prop := qamo f b e (qsb i) (lenS.getD i 0 : Int) (61 - k).toNat o k = qamo f b e (qsb i) (lenS.getD i 0 : Int) 61 0 0
def qiq (f : Nat → Int32) (b : Int) (W : Nat → Int32) (L o s : Int) : Prop := qrn qcW W L o (o + s) ∧ ∀ j : Int, 0 ≤ j → j < s → qtb f (b + j) = qtb W (o + j)
section WRD
variable {f W : Nat → Int32} {n b e L o s s' k k' t : Int} {i m : Nat}
theorem amI_0 (h1 : o = 0) (h2 : k = 0) : qamI f b e i o k := by
  subst h1 h2
  exact rfl
theorem iq_0 (h : s = 0) : qiq f b W L o s := ⟨rn_0 (by omega), fun j a c => by omega⟩
theorem iq_s {s' x y c d : Int} (h : qiq f b W L o s) (hc : qtb f x = c) (hx : x = b + s) (hw : qtb W y = d) (hy : y = o + s) (he : c = d) (hl : c ≠ 32) (hL : o + s < L) (es : s' = s + 1) : qiq f b W L o s' := by
  subst hx hy es
  refine ⟨rn_s h.1 (cW_t (by omega)) hL (by omega), fun j a q => ?_⟩
  by_cases hj : j = s
  · subst hj
    omega
  · exact h.2 j a (by omega)
theorem run_ge {C : Int → Bool} {p q : Int} (h : qrn C f n p q) : q ≤ qrun C f n p := by
  obtain ⟨⟨h1, h2⟩, h3⟩ := run_sp C f n p
  by_cases h4 : q ≤ qrun C f n p
  · exact h4
  · have h5 := h.2 (qrun C f n p) h1 (by omega)
    rcases h3 with h3 | h3
    · omega
    · rw [h5.1] at h3
      cases h3
theorem am_y (h : qiq f b W L o s) (h0 : 0 ≤ s) (h1 : b + s = e) (h2 : L ≤ o + s ∨ qtb W (o + s) = 32) (h3 : o < L) (hm : 0 < m) : qamo f b e W L m o k = k := by
  obtain ⟨m, rfl⟩ : ∃ z, m = z + 1 := ⟨m - 1, by omega⟩
  have e1 : qrun qcW W L o = o + s := rn_e h.1 (h2.imp id cW_f)
  have e2 : qtqB f b e W o (qrun qcW W L o - o) = true := by
    rw [e1]
    refine tqB_iff.mpr ⟨by omega, fun j hj => h.2 j (by omega) (by omega)⟩
  show (if L ≤ o then -1 else if qtqB f b e W o (qrun qcW W L o - o) = true then k else qamo f b e W L m (qrun qcW W L o + 1) (k + 1)) = k
  rw [if_neg (by omega), if_pos e2]
theorem am_n (h : qiq f b W L o s) (h0 : 0 ≤ s) (h3 : o < L) (hs : b + s ≤ e) (h1 : b + s ≠ e ∨ (o + s < L ∧ qtb W (o + s) ≠ 32)) (h2 : L ≤ o + s ∨ e ≤ b + s ∨ qtb W (o + s) ≠ qtb f (b + s)) : qtqB f b e W o (qrun qcW W L o - o) = false := by
  cases ht : qtqB f b e W o (qrun qcW W L o - o) with
  | false => rfl
  | true =>
    exfalso
    obtain ⟨t1, t2⟩ := tqB_iff.mp ht
    have r1 := run_ge h.1
    have r2 := run_le (C := qcW) (f := W) (n := L) (p := o) (by omega)
    obtain ⟨-, r3⟩ := run_sp qcW W L o
    have fin : qrun qcW W L o = o + s → False := by
      intro q
      rw [q] at r3
      rcases h1 with h1 | h1
      · omega
      · rcases r3 with r3 | r3
        · omega
        · rw [cW_t h1.2] at r3
          cases r3
    by_cases q : qrun qcW W L o = o + s
    · exact fin q
    · rcases h2 with h2 | h2 | h2
      · omega
      · omega
      · have h5 := t2 s.toNat (by omega)
        have h6 : (s.toNat : Int) = s := by omega
        rw [h6] at h5
        exact h2 h5.symm
theorem amI_s (h : qamI f b e i o k) (h0 : 0 ≤ k ∧ k < 61) (h3 : o < (lenS.getD i 0 : Int)) (ht : qtqB f b e (qsb i) o (qrun qcW (qsb i) (lenS.getD i 0 : Int) o - o) = false) (hr : qrn qcW (qsb i) (lenS.getD i 0 : Int) o t) (he : (lenS.getD i 0 : Int) ≤ t ∨ qtb (qsb i) t = 32) (eo : s = t + 1) (ek : k' = k + 1) : qamI f b e i s k' := by
  subst eo ek
  have e1 : qrun qcW (qsb i) (lenS.getD i 0 : Int) o = t := rn_e hr (he.imp id cW_f)
  have e2 : (61 - k).toNat = (61 - (k + 1)).toNat + 1 := by omega
  unfold qamI at h ⊢
  rw [← h, e2]
  show _ = (if (lenS.getD i 0 : Int) ≤ o then -1 else if qtqB f b e (qsb i) o (qrun qcW (qsb i) (lenS.getD i 0 : Int) o - o) = true then k else qamo f b e (qsb i) (lenS.getD i 0 : Int) (61 - (k + 1)).toNat (qrun qcW (qsb i) (lenS.getD i 0 : Int) o + 1) (k + 1))
  rw [if_neg (by omega), ht, if_neg (by decide), e1]
theorem am_x (h : L ≤ o) : qamo f b e W L m o k = -1 := by
  cases m with
  | zero => rfl
  | succ m => exact if_pos h
theorem am_no {r : Int} (hk : qkd f n b ≠ 1) (hr : r = -1) : r = qam f n b i := by
  unfold qam
  rw [if_neg hk]
  exact hr
theorem am_end {r : Int} (hk : qkd f n b = 1) (he : e = qnx f n b) (h : qamI f b e i o k) (ho : (lenS.getD i 0 : Int) ≤ o) (hr : r = -1) : r = qam f n b i := by
  subst he
  unfold qam
  rw [if_pos hk, ← h, am_x ho]
  exact hr
theorem am_hit {r : Int} (hk : qkd f n b = 1) (he : e = qnx f n b) (h : qamI f b e i o k) (hq : qiq f b (qsb i) (lenS.getD i 0 : Int) o s) (h0 : 0 ≤ s) (h1 : b + s = e) (h2 : (lenS.getD i 0 : Int) ≤ o + s ∨ qtb (qsb i) (o + s) = 32) (h3 : o < (lenS.getD i 0 : Int)) (hm : k < 61) (hr : r = k) : r = qam f n b i := by
  subst he
  unfold qam
  rw [if_pos hk, ← h, am_y hq h0 h1 h2 h3 (by omega)]
  exact hr
theorem tok_l {H v : Int} (h : qTok f n H k b e v) (hk : k = 1) {j : Int} (h1 : b ≤ j) (h2 : j < e) : 97 ≤ qtb f j ∧ qtb f j ≤ 122 := by
  obtain ⟨a1, a2, -, a4, a5⟩ := h
  have hb : ¬ n ≤ b := by
    intro q
    unfold qkd at a1
    rw [if_pos q] at a1
    omega
  have hc : qcL (qtb f b) = true := by
    cases q : qcL (qtb f b) with
    | true => rfl
    | false =>
      unfold qkd at a1
      rw [if_neg hb, q, if_neg (by decide)] at a1
      split at a1
      · omega
      · split at a1 <;> omega
  have e1 : qnx f n b = qrun qcL f n b := by
    unfold qnx
    rw [if_neg hb, if_pos hc]
  rw [a2, e1] at h2
  exact cL_i ((run_sp qcL f n b).1.2 j h1 h2).1
end WRD
/-! steps of a reader -/
section STP
variable {f : Nat → Int32} {n H k b e v F P F' P' b' K lo hi w r : Int} {i : Nat}
theorem fl_y (h : F = 0) (e1 : F' = K) (e2 : P' = b) (e3 : b' = b) : ((F', P', b') : Int × Int × Int) = r_fl K (F, P, b) := by
  subst h e1 e2 e3
  rfl
theorem fl_n (h : F ≠ 0) (e1 : F' = F) (e2 : P' = P) (e3 : b' = b) : ((F', P', b') : Int × Int × Int) = r_fl K (F, P, b) := by
  subst e1 e2 e3
  exact (if_neg h).symm
theorem ad_i (hT : qTok f n H k b e v) (hr : qrun qcB f n e = b') (e1 : F' = F) (e2 : P' = P) : ((F', P', b') : Int × Int × Int) = r_ad f n (F, P, b) := by
  obtain ⟨-, a2, -⟩ := hT
  subst a2 hr e1 e2
  rfl
theorem nm_ok (hT : qTok f n H k b e v) (h0 : F = 0) (hk : k = 2) (hv : lo ≤ v ∧ v ≤ hi) (hH : hi < H) (hr : qrun qcB f n e = b') (e1 : F' = F) (e2 : P' = P) : ((F', P', b') : Int × Int × Int) = r_nm f n lo hi (F, P, b) := by
  have hT2 := hT
  obtain ⟨a1, a2, a3, -⟩ := hT
  have a4 := a3 hk
  have hd : lo ≤ qdv f n b ∧ qdv f n b ≤ hi := by omega
  have hk2 : qkd f n b = 2 := by omega
  refine (ad_i hT2 hr e1 e2).trans ?_
  unfold r_nm
  show _ = (if F = 0 then (if qkd f n b = 2 then (if lo ≤ qdv f n b ∧ qdv f n b ≤ hi then r_ad f n (F, P, b) else r_fl 2 (F, P, b)) else r_fl 1 (F, P, b)) else (F, P, b))
  rw [if_pos h0, if_pos hk2, if_pos hd]
theorem nm_2 (hT : qTok f n H k b e v) (h0 : F = 0) (hk : k = 2) (hv : v < lo ∨ hi < v) (hl : lo ≤ H) (e1 : F' = 2) (e2 : P' = b) (e3 : b' = b) : ((F', P', b') : Int × Int × Int) = r_nm f n lo hi (F, P, b) := by
  obtain ⟨a1, a2, a3, -⟩ := hT
  have a4 := a3 hk
  have hd : ¬ (lo ≤ qdv f n b ∧ qdv f n b ≤ hi) := by omega
  have hk2 : qkd f n b = 2 := by omega
  refine (fl_y (K := 2) h0 e1 e2 e3 (P := P)).trans ?_
  unfold r_nm
  show _ = (if F = 0 then (if qkd f n b = 2 then (if lo ≤ qdv f n b ∧ qdv f n b ≤ hi then r_ad f n (F, P, b) else r_fl 2 (F, P, b)) else r_fl 1 (F, P, b)) else (F, P, b))
  rw [if_pos h0, if_pos hk2, if_neg hd]
theorem nm_1 (hT : qTok f n H k b e v) (h0 : F = 0) (hk : k ≠ 2) (e1 : F' = 1) (e2 : P' = b) (e3 : b' = b) : ((F', P', b') : Int × Int × Int) = r_nm f n lo hi (F, P, b) := by
  obtain ⟨a1, -⟩ := hT
  have hk2 : ¬ qkd f n b = 2 := by omega
  refine (fl_y (K := 1) h0 e1 e2 e3 (P := P)).trans ?_
  unfold r_nm
  show _ = (if F = 0 then (if qkd f n b = 2 then (if lo ≤ qdv f n b ∧ qdv f n b ≤ hi then r_ad f n (F, P, b) else r_fl 2 (F, P, b)) else r_fl 1 (F, P, b)) else (F, P, b))
  rw [if_pos h0, if_neg hk2]
theorem nm_f (h0 : F ≠ 0) (e1 : F' = F) (e2 : P' = P) (e3 : b' = b) : ((F', P', b') : Int × Int × Int) = r_nm f n lo hi (F, P, b) := by
  subst e1 e2 e3
  unfold r_nm
  exact (if_neg h0).symm
theorem nv_ok (hT : qTok f n H k b e v) (h0 : F = 0) (hk : k = 2) (hv : lo ≤ v ∧ v ≤ hi) (hH : hi < H) (er : r = v) : r = r_nv f n lo hi (F, P, b) := by
  obtain ⟨a1, a2, a3, -⟩ := hT
  have a4 := a3 hk
  unfold r_nv
  show r = (if F = 0 ∧ qkd f n b = 2 ∧ lo ≤ qdv f n b ∧ qdv f n b ≤ hi then qdv f n b else 0)
  rw [if_pos ⟨h0, by omega, by omega, by omega⟩]
  omega
theorem nv_no (hT : qTok f n H k b e v) (h : F ≠ 0 ∨ k ≠ 2 ∨ v < lo ∨ hi < v) (hH : hi < H ∧ lo ≤ H) (er : r = 0) : r = r_nv f n lo hi (F, P, b) := by
  obtain ⟨a1, a2, a3, -⟩ := hT
  unfold r_nv
  show r = (if F = 0 ∧ qkd f n b = 2 ∧ lo ≤ qdv f n b ∧ qdv f n b ≤ hi then qdv f n b else 0)
  rw [if_neg]
  · exact er
  · rintro ⟨q1, q2, q3, q4⟩
    have a4 := a3 (by omega)
    omega
theorem ch_ok (hT : qTok f n H k b e v) (h0 : F = 0) (hw : 0 ≤ w) (hr : qrun qcB f n e = b') (e1 : F' = F) (e2 : P' = P) : ((F', P', b') : Int × Int × Int) = r_ch f n w (F, P, b) := by
  refine (ad_i hT hr e1 e2).trans ?_
  unfold r_ch
  show _ = (if F = 0 then (if 0 ≤ w then r_ad f n (F, P, b) else r_fl 1 (F, P, b)) else (F, P, b))
  rw [if_pos h0, if_pos hw]
theorem ch_1 (h0 : F = 0) (hw : w < 0) (e1 : F' = 1) (e2 : P' = b) (e3 : b' = b) : ((F', P', b') : Int × Int × Int) = r_ch f n w (F, P, b) := by
  refine (fl_y (K := 1) h0 e1 e2 e3 (P := P)).trans ?_
  unfold r_ch
  show _ = (if F = 0 then (if 0 ≤ w then r_ad f n (F, P, b) else r_fl 1 (F, P, b)) else (F, P, b))
  rw [if_pos h0, if_neg (by omega)]
theorem ch_f (h0 : F ≠ 0) (e1 : F' = F) (e2 : P' = P) (e3 : b' = b) : ((F', P', b') : Int × Int × Int) = r_ch f n w (F, P, b) := by
  subst e1 e2 e3
  unfold r_ch
  exact (if_neg h0).symm
theorem tk_ok (hT : qTok f n H k b e v) (h0 : F = 0) (hw : 0 ≤ w) (hr : qrun qcB f n e = b') (e1 : F' = F) (e2 : P' = P) : ((F', P', b') : Int × Int × Int) = r_tk f n w (F, P, b) := by
  refine (ad_i hT hr e1 e2).trans ?_
  unfold r_tk
  exact (if_pos ⟨h0, hw⟩).symm
theorem tk_no (h : F ≠ 0 ∨ w < 0) (e1 : F' = F) (e2 : P' = P) (e3 : b' = b) : ((F', P', b') : Int × Int × Int) = r_tk f n w (F, P, b) := by
  subst e1 e2 e3
  unfold r_tk
  exact (if_neg (fun q => by have q1 : F' = 0 := q.1; have q2 := q.2; omega)).symm
end STP
theorem mn_q {v x y : Int32} (e : v = if y < x then y else x) : v.toInt = min x.toInt y.toInt := by
  by_cases h : y < x
  · rw [if_pos h] at e
    have := Int32.lt_iff_toInt_lt.mp h
    rw [e]
    omega
  · rw [if_neg h] at e
    have := Int.not_lt.mp (fun q => h (Int32.lt_iff_toInt_lt.mpr q))
    rw [e]
    omega
theorem ne_x {f W : Nat → Int32} {b o s x y c d : Int} (hc : qtb f x = c) (hx : x = b + s) (hw : qtb W y = d) (hy : y = o + s) (he : c ≠ d) : ¬ qtb W (o + s) = qtb f (b + s) := by
  subst hx hy
  omega
theorem nb_x {W : Nat → Int32} {o s y d : Int} (hw : qtb W y = d) (hy : y = o + s) (he : d ≠ 32) : qtb W (o + s) ≠ 32 := by
  subst hy
  omega
theorem yb_x {W : Nat → Int32} {o s y d : Int} (hw : qtb W y = d) (hy : y = o + s) (he : d = 32) : qtb W (o + s) = 32 := by
  subst hy
  omega
theorem fl_c {K F P b F' P' b' : Int} (h : ((F', P', b') : Int × Int × Int) = r_fl K (F, P, b)) : (F = 0 ∧ F' = K ∧ P' = b ∧ b' = b) ∨ (F ≠ 0 ∧ F' = F ∧ P' = P ∧ b' = b) := by
  unfold r_fl at h
  by_cases c : F = 0
  · have h2 : ((F', P', b') : Int × Int × Int) = (K, b, b) := h.trans (if_pos c)
    injection h2 with a1 a2
    injection a2 with a2 a3
    exact Or.inl ⟨c, a1, a2, a3⟩
  · have h2 : ((F', P', b') : Int × Int × Int) = (F, P, b) := h.trans (if_neg c)
    injection h2 with a1 a2
    injection a2 with a2 a3
    exact Or.inr ⟨c, a1, a2, a3⟩
theorem nv_b {f : Nat → Int32} {n lo hi : Int} {s : Int × Int × Int} (h : 0 ≤ lo ∧ 0 ≤ hi) : 0 ≤ r_nv f n lo hi s ∧ r_nv f n lo hi s ≤ hi := by
  unfold r_nv
  split
  · omega
  · omega
def r_chi (f : Nat → Int32) (n : Int) (i : Nat) (s : Int × Int × Int) : Int × Int × Int := r_ch f n (qam f n s.2.2 i) s
def r_cl (f : Nat → Int32) (n : Int) (s : Int × Int × Int) : Int × Int × Int := if s.1 = 0 then (if qkd f n s.2.2 = 3 then r_ad f n s else r_fl 1 s) else s
section CLO
variable {f : Nat → Int32} {n H k b e v F P F' P' b' : Int}
theorem cl_ok (hT : qTok f n H k b e v) (h0 : F = 0) (hk : k = 3) (hr : qrun qcB f n e = b') (e1 : F' = F) (e2 : P' = P) : ((F', P', b') : Int × Int × Int) = r_cl f n (F, P, b) := by
  refine (ad_i hT hr e1 e2).trans ?_
  have hk2 : qkd f n b = 3 := by have := hT.1; omega
  unfold r_cl
  show _ = (if F = 0 then (if qkd f n b = 3 then r_ad f n (F, P, b) else r_fl 1 (F, P, b)) else (F, P, b))
  rw [if_pos h0, if_pos hk2]
theorem cl_1 (hT : qTok f n H k b e v) (h0 : F = 0) (hk : k ≠ 3) (e1 : F' = 1) (e2 : P' = b) (e3 : b' = b) : ((F', P', b') : Int × Int × Int) = r_cl f n (F, P, b) := by
  refine (fl_y (K := 1) h0 e1 e2 e3 (P := P)).trans ?_
  have hk2 : ¬ qkd f n b = 3 := by have := hT.1; omega
  unfold r_cl
  show _ = (if F = 0 then (if qkd f n b = 3 then r_ad f n (F, P, b) else r_fl 1 (F, P, b)) else (F, P, b))
  rw [if_pos h0, if_neg hk2]
theorem cl_f (h0 : F ≠ 0) (e1 : F' = F) (e2 : P' = P) (e3 : b' = b) : ((F', P', b') : Int × Int × Int) = r_cl f n (F, P, b) := by
  subst e1 e2 e3
  unfold r_cl
  exact (if_neg h0).symm
end CLO
