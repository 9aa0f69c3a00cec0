/-! debts as they came: who owes, to whom, of which kind, due on which day, come on which -/
abbrev D5 := Int × Int × Int × Int × Int
def rw5 (f0 f1 f2 f3 f4 : Nat → Int32) (o : Nat) (d : D5) : Prop := (f0 o).toInt = d.1 ∧ (f1 o).toInt = d.2.1 ∧ (f2 o).toInt = d.2.2.1 ∧ (f3 o).toInt = d.2.2.2.1 ∧ (f4 o).toInt = d.2.2.2.2
def rB (f0 f1 f2 f3 f4 : Nat → Int32) : Nat → List D5 → Prop
  | _, [] => True
  | o, d :: L => rw5 f0 f1 f2 f3 f4 o d ∧ rB f0 f1 f2 f3 f4 (o + 1) L
def kpB (a b p : Int) (d : D5) : Bool := !(decide (d.1 = a) && (decide (d.2.1 = b) && decide (d.2.2.1 ≤ p)))
def ofB (a : Int) (d : D5) : Bool := decide (d.1 = a)
def cnt (q : D5 → Bool) : List D5 → Int
  | [] => 0
  | d :: L => cnt q L + (if q d then 1 else 0)
def okD (d : D5) : Prop := (0 ≤ d.1 ∧ d.1 ≤ 15) ∧ (0 ≤ d.2.1 ∧ d.2.1 ≤ 15) ∧ (0 ≤ d.2.2.1 ∧ d.2.2.1 ≤ 3)
def okB (L : List D5) : Prop := ∀ d, d ∈ L → okD d
def ksB (ks : Nat → Int32) (L : List D5) : Prop := ∀ q : Nat, q < 256 → (0 ≤ (ks q).toInt ∧ (ks q).toInt ≤ 15) ∧ ∀ k : Nat, (ks q).toInt.toNat.testBit k = true ↔ ∃ d, d ∈ L ∧ d.1 = ((q / 16 : Nat) : Int) ∧ d.2.1 = ((q % 16 : Nat) : Int) ∧ d.2.2.1 = (k : Int)
def dB (sz : Int) (f0 f1 f2 f3 f4 op ks : Nat → Int32) (L : List D5) : Prop := sz = (L.length : Int) ∧ rB f0 f1 f2 f3 f4 0 L ∧ (∀ h : Nat, h < 16 → (op h).toInt = cnt (ofB (h : Int)) L) ∧ ksB ks L ∧ okB L
section DBT
variable {f0 f1 f2 f3 f4 g0 g1 g2 g3 g4 op op' ks ks' : Nat → Int32} {o : Nat} {L P Q : List D5} {a b p i i' l l' n n' sz sz' : Int} {d : D5} {q : D5 → Bool}
theorem rB_app : ∀ (P : List D5) (o : Nat), rB f0 f1 f2 f3 f4 o (P ++ Q) ↔ rB f0 f1 f2 f3 f4 o P ∧ rB f0 f1 f2 f3 f4 (o + P.length) Q := by
  intro P
  induction P with
  | nil => intro o; exact ⟨fun h => ⟨trivial, h⟩, fun h => h.2⟩
  | cons d P ih =>
    intro o
    have e : o + (d :: P).length = o + 1 + P.length := by rw [List.length_cons]; omega
    rw [e]
    constructor
    · rintro ⟨h1, h2⟩
      have h3 := (ih (o + 1)).mp h2
      exact ⟨⟨h1, h3.1⟩, h3.2⟩
    · rintro ⟨⟨h1, h2⟩, h3⟩
      exact ⟨h1, (ih (o + 1)).mpr ⟨h2, h3⟩⟩
theorem rB_c : ∀ (L : List D5) (o : Nat), (∀ j : Nat, o ≤ j → j < o + L.length → g0 j = f0 j ∧ g1 j = f1 j ∧ g2 j = f2 j ∧ g3 j = f3 j ∧ g4 j = f4 j) → rB f0 f1 f2 f3 f4 o L → rB g0 g1 g2 g3 g4 o L := by
  intro L
  induction L with
  | nil => intro o _ _; trivial
  | cons d L ih =>
    intro o h H
    rw [List.length_cons] at h
    obtain ⟨⟨q0, q1, q2, q3, q4⟩, H2⟩ := H
    obtain ⟨e0, e1, e2, e3, e4⟩ := h o (Nat.le_refl _) (by omega)
    exact ⟨⟨by rw [e0]; exact q0, by rw [e1]; exact q1, by rw [e2]; exact q2, by rw [e3]; exact q3, by rw [e4]; exact q4⟩, ih (o + 1) (fun j j1 j2 => h j (by omega) (by omega)) H2⟩
theorem cnt_app : ∀ P : List D5, cnt q (P ++ Q) = cnt q P + cnt q Q := by
  intro P
  induction P with
  | nil => show cnt q Q = 0 + cnt q Q; omega
  | cons d P ih => show cnt q (P ++ Q) + _ = cnt q P + _ + cnt q Q; omega
theorem cnt_b : ∀ L : List D5, 0 ≤ cnt q L ∧ cnt q L ≤ (L.length : Int) := by
  intro L
  induction L with
  | nil => exact ⟨Int.le_refl _, Int.le_refl _⟩
  | cons d L ih =>
    have e : cnt q (d :: L) = cnt q L + (if q d then 1 else 0) := rfl
    rw [e, List.length_cons]
    split <;> omega
theorem kp_t (h : d.1 ≠ a ∨ d.2.1 ≠ b ∨ p < d.2.2.1) : kpB a b p d = true := by
  unfold kpB
  rcases h with h | h | h
  · rw [decide_eq_false h]; rfl
  · rw [decide_eq_false h, Bool.false_and, Bool.and_false]; rfl
  · rw [decide_eq_false (show ¬ d.2.2.1 ≤ p by omega), Bool.and_false, Bool.and_false]; rfl
theorem kp_f (h : d.1 = a ∧ d.2.1 = b ∧ d.2.2.1 ≤ p) : kpB a b p d = false := by
  unfold kpB
  rw [decide_eq_true h.1, decide_eq_true h.2.1, decide_eq_true h.2.2]; rfl
theorem kpB_i : kpB a b p d = true ↔ (d.1 ≠ a ∨ d.2.1 ≠ b ∨ p < d.2.2.1) := by
  constructor
  · intro h
    by_cases z : d.1 ≠ a ∨ d.2.1 ≠ b ∨ p < d.2.2.1
    · exact z
    · rw [kp_f (by omega)] at h; cases h
  · exact kp_t
/-- paid debts are taken out -/
def stI (a b p : Int) (L : List D5) (f0 f1 f2 f3 f4 : Nat → Int32) (i l : Int) : Prop := ∃ P Q : List D5, L = P ++ Q ∧ (P.length : Int) = i ∧ ((P.filter (kpB a b p)).length : Int) = l ∧ rB f0 f1 f2 f3 f4 0 (P.filter (kpB a b p)) ∧ rB f0 f1 f2 f3 f4 i.toNat Q
theorem st_0 (H : rB f0 f1 f2 f3 f4 0 L) (hi : i = 0) (hl : l = 0) : stI a b p L f0 f1 f2 f3 f4 i l := by
  subst hi; subst hl
  exact ⟨[], L, rfl, rfl, rfl, trivial, H⟩
theorem st_q {P Q : List D5} (eL : L = P ++ Q) (hP : (P.length : Int) = i) (hi : i < (L.length : Int)) : ∃ d Q', Q = d :: Q' ∧ L = (P ++ [d]) ++ Q' ∧ ((P ++ [d]).length : Int) = i + 1 := by
  cases Q with
  | nil => rw [eL, List.append_nil] at hi; omega
  | cons d Q' => exact ⟨d, Q', rfl, by rw [eL, List.append_assoc]; rfl, by rw [List.length_append]; show ((P.length + 1 : Nat) : Int) = i + 1; omega⟩
theorem st_k (R : stI a b p L f0 f1 f2 f3 f4 i l) (hi : i < (L.length : Int)) (hk : (f0 i.toNat).toInt ≠ a ∨ (f1 i.toNat).toInt ≠ b ∨ p < (f2 i.toNat).toInt) (h0 : g0 = upd f0 l.toNat (f0 i.toNat)) (h1 : g1 = upd f1 l.toNat (f1 i.toNat)) (h2 : g2 = upd f2 l.toNat (f2 i.toNat)) (h3 : g3 = upd f3 l.toNat (f3 i.toNat)) (h4 : g4 = upd f4 l.toNat (f4 i.toNat)) (ei : i' = i + 1) (el : l' = l + 1) : stI a b p L g0 g1 g2 g3 g4 i' l' := by
  subst h0; subst h1; subst h2; subst h3; subst h4; subst ei; subst el
  obtain ⟨P, Q, eL, hP, hl, H1, H2⟩ := R
  obtain ⟨d, Q', rfl, eL2, hP2⟩ := st_q eL hP hi
  obtain ⟨hd, H3⟩ := H2
  have hlP := List.length_filter_le (kpB a b p) P
  have k9 : kpB a b p d = true := kp_t (by rw [← hd.1, ← hd.2.1, ← hd.2.2.1]; exact hk)
  have e9 : (P ++ [d]).filter (kpB a b p) = P.filter (kpB a b p) ++ [d] := by rw [List.filter_append, List.filter_cons_of_pos k9]; rfl
  have O : ∀ (f : Nat → Int32) (v : Int32) (j : Nat), j ≠ l.toNat → upd f l.toNat v j = f j := fun f v j hj => upd_n hj
  refine ⟨P ++ [d], Q', eL2, hP2, ?_, ?_, ?_⟩
  · rw [e9, List.length_append]
    show (((P.filter (kpB a b p)).length + 1 : Nat) : Int) = l + 1
    omega
  · rw [e9, rB_app]
    refine ⟨rB_c _ _ (fun j j1 j2 => ⟨O _ _ _ (by omega), O _ _ _ (by omega), O _ _ _ (by omega), O _ _ _ (by omega), O _ _ _ (by omega)⟩) H1, ?_, trivial⟩
    have e : 0 + (P.filter (kpB a b p)).length = l.toNat := by omega
    rw [e]
    unfold rw5
    rw [upd_h rfl, upd_h rfl, upd_h rfl, upd_h rfl, upd_h rfl]
    exact hd
  · rw [show (i + 1).toNat = i.toNat + 1 by omega]
    exact rB_c _ _ (fun j j1 j2 => ⟨O _ _ _ (by omega), O _ _ _ (by omega), O _ _ _ (by omega), O _ _ _ (by omega), O _ _ _ (by omega)⟩) H3
theorem st_d (R : stI a b p L f0 f1 f2 f3 f4 i l) (hi : i < (L.length : Int)) (hk : (f0 i.toNat).toInt = a ∧ (f1 i.toNat).toInt = b ∧ (f2 i.toNat).toInt ≤ p) (ei : i' = i + 1) (el : l' = l) : stI a b p L f0 f1 f2 f3 f4 i' l' := by
  subst ei; subst el
  obtain ⟨P, Q, eL, hP, hl, H1, H2⟩ := R
  obtain ⟨d, Q', rfl, eL2, hP2⟩ := st_q eL hP hi
  obtain ⟨hd, H3⟩ := H2
  have k9 : kpB a b p d = false := kp_f (by rw [← hd.1, ← hd.2.1, ← hd.2.2.1]; exact hk)
  have e9 : (P ++ [d]).filter (kpB a b p) = P.filter (kpB a b p) := by rw [List.filter_append, List.filter_cons_of_neg (by rw [k9]; decide)]; exact List.append_nil _
  exact ⟨P ++ [d], Q', eL2, hP2, by rw [e9]; exact hl, by rw [e9]; exact H1, by rw [show (i + 1).toNat = i.toNat + 1 by omega]; exact H3⟩
theorem st_e (R : stI a b p L f0 f1 f2 f3 f4 i l) (hi : (L.length : Int) ≤ i) : l = ((L.filter (kpB a b p)).length : Int) ∧ rB f0 f1 f2 f3 f4 0 (L.filter (kpB a b p)) := by
  obtain ⟨P, Q, eL, hP, hl, H1, H2⟩ := R
  have e : Q = [] := by
    cases Q with
    | nil => rfl
    | cons d Q' => rw [eL, List.length_append, List.length_cons] at hi; omega
  rw [e, List.append_nil] at eL
  rw [eL]
  exact ⟨hl.symm, H1⟩
theorem cn_f {h : Int} : ∀ L : List D5, cnt (ofB h) (L.filter (kpB a b p)) = cnt (ofB h) L - (if h = a then (L.length : Int) - ((L.filter (kpB a b p)).length : Int) else 0) := by
  intro L
  induction L with
  | nil => show (0 : Int) = 0 - _; split <;> rfl
  | cons d L ih =>
    have e : cnt (ofB h) (d :: L) = cnt (ofB h) L + (if ofB h d then 1 else 0) := rfl
    cases k9 : kpB a b p d with
    | true =>
      rw [List.filter_cons_of_pos k9]
      have e2 : cnt (ofB h) (d :: L.filter (kpB a b p)) = cnt (ofB h) (L.filter (kpB a b p)) + (if ofB h d then 1 else 0) := rfl
      rw [e, e2, ih, List.length_cons, List.length_cons]
      split <;> omega
    | false =>
      rw [List.filter_cons_of_neg (by rw [k9]; decide), e, ih, List.length_cons]
      have z : d.1 = a := by
        by_cases z : d.1 = a
        · exact z
        · rw [kp_t (Or.inl z)] at k9; cases k9
      by_cases y : h = a
      · rw [if_pos y, if_pos y, if_pos (show ofB h d = true from decide_eq_true (by omega))]
        omega
      · rw [if_neg y, if_neg y, if_neg (show ¬ ofB h d = true from by unfold ofB; rw [decide_eq_false (by omega)]; decide)]
        omega
theorem okB_f (H : okB L) : okB (L.filter q) := fun d h => H d (List.mem_filter.mp h).1
/-- a house's bits -/
theorem ks_at (H : ksB ks L) (ha : 0 ≤ a ∧ a ≤ 15) (hb : 0 ≤ b ∧ b ≤ 15) {x : Nat} (hx : (x : Int) = 16 * a + b) : (0 ≤ (ks x).toInt ∧ (ks x).toInt ≤ 15) ∧ ∀ k : Nat, (ks x).toInt.toNat.testBit k = true ↔ ∃ d, d ∈ L ∧ d.1 = a ∧ d.2.1 = b ∧ d.2.2.1 = (k : Int) := by
  have h := H x (by omega)
  rw [show ((x / 16 : Nat) : Int) = a by omega, show ((x % 16 : Nat) : Int) = b by omega] at h
  exact h
theorem ks_u {v : Int32} {L' : List D5} (H : ksB ks L) (ha : 0 ≤ a ∧ a ≤ 15) (hb : 0 ≤ b ∧ b ≤ 15) {x : Nat} (hx : (x : Int) = 16 * a + b) (hv : 0 ≤ v.toInt ∧ v.toInt ≤ 15) (hk : ∀ k : Nat, v.toInt.toNat.testBit k = true ↔ ∃ d, d ∈ L' ∧ d.1 = a ∧ d.2.1 = b ∧ d.2.2.1 = (k : Int)) (ho : ∀ d : D5, ¬ (d.1 = a ∧ d.2.1 = b) → (d ∈ L' ↔ d ∈ L)) : ksB (upd ks x v) L' := by
  intro y hy
  by_cases z : y = x
  · rw [upd_h z, show ((y / 16 : Nat) : Int) = a by omega, show ((y % 16 : Nat) : Int) = b by omega]
    exact ⟨hv, hk⟩
  · rw [upd_n z]
    have h := H y hy
    refine ⟨h.1, fun k => ?_⟩
    rw [h.2 k]
    constructor
    · rintro ⟨d, h1, h2, h3, h4⟩
      exact ⟨d, (ho d (by omega)).mpr h1, h2, h3, h4⟩
    · rintro ⟨d, h1, h2, h3, h4⟩
      exact ⟨d, (ho d (by omega)).mp h1, h2, h3, h4⟩
theorem st_m {sh m pv : Int32} (e1 : sh = (2 : Int32) <<< (pv &&& 31)) (e2 : m = sh - 1) (hp : 0 ≤ pv.toInt ∧ pv.toInt ≤ 3) : 0 ≤ m.toInt ∧ ∀ k : Nat, m.toInt.toNat.testBit k = decide ((k : Int) ≤ pv.toInt) := by
  have c : pv = 0 ∨ pv = 1 ∨ pv = 2 ∨ pv = 3 := by
    rcases (show pv.toInt = 0 ∨ pv.toInt = 1 ∨ pv.toInt = 2 ∨ pv.toInt = 3 by omega) with h | h | h | h
    · exact Or.inl (Int32.toInt_inj.mp (h.trans (by decide)))
    · exact Or.inr (Or.inl (Int32.toInt_inj.mp (h.trans (by decide))))
    · exact Or.inr (Or.inr (Or.inl (Int32.toInt_inj.mp (h.trans (by decide)))))
    · exact Or.inr (Or.inr (Or.inr (Int32.toInt_inj.mp (h.trans (by decide)))))
  have key : ∀ N : Nat, m.toInt.toNat = 2 ^ N - 1 → (pv.toInt + 1 = (N : Int)) → ∀ k : Nat, m.toInt.toNat.testBit k = decide ((k : Int) ≤ pv.toInt) := by
    intro N h1 h2 k
    rw [h1, Nat.testBit_two_pow_sub_one]
    by_cases z : k < N
    · rw [decide_eq_true z, decide_eq_true (show (k : Int) ≤ pv.toInt by omega)]
    · rw [decide_eq_false z, decide_eq_false (show ¬ (k : Int) ≤ pv.toInt by omega)]
  rcases c with rfl | rfl | rfl | rfl
  · have em : m = 1 := by rw [e2, e1]; decide
    exact ⟨by rw [em]; decide, key 1 (by rw [em]; decide) (by decide)⟩
  · have em : m = 3 := by rw [e2, e1]; decide
    exact ⟨by rw [em]; decide, key 2 (by rw [em]; decide) (by decide)⟩
  · have em : m = 7 := by rw [e2, e1]; decide
    exact ⟨by rw [em]; decide, key 3 (by rw [em]; decide) (by decide)⟩
  · have em : m = 15 := by rw [e2, e1]; decide
    exact ⟨by rw [em]; decide, key 4 (by rw [em]; decide) (by decide)⟩
theorem st_s {r m s pv : Int32} (e : s = r &&& m) (hr : 0 ≤ r.toInt ∧ r.toInt ≤ 15) (hm : 0 ≤ m.toInt ∧ ∀ k : Nat, m.toInt.toNat.testBit k = decide ((k : Int) ≤ pv.toInt)) : 0 ≤ s.toInt ∧ ∀ k : Nat, s.toInt.toNat.testBit k = true ↔ r.toInt.toNat.testBit k = true ∧ (k : Int) ≤ pv.toInt := by
  refine ⟨(ba_andl (l := 0) (h := 15) e hr (by decide)).1, fun k => ?_⟩
  rw [andv_nat e hr.1 hm.1, Nat.testBit_and, hm.2, Bool.and_eq_true, decide_eq_true_iff]
theorem st_c {s x w r : Int32} (e1 : x = s ^^^ (-1)) (e2 : w = r &&& x) (hr : 0 ≤ r.toInt ∧ r.toInt ≤ 15) (hs : 0 ≤ s.toInt) : (0 ≤ w.toInt ∧ w.toInt ≤ 15) ∧ ∀ k : Nat, w.toInt.toNat.testBit k = true ↔ r.toInt.toNat.testBit k = true ∧ ¬ s.toInt.toNat.testBit k = true := by
  refine ⟨ba_andl (l := 0) (h := 15) e2 hr (by decide), fun k => ?_⟩
  have m1 : (-1 : Int32).toBitVec.toNat = 2 ^ 32 - 1 := by decide
  have hx : x.toBitVec.toNat = s.toBitVec.toNat ^^^ (-1 : Int32).toBitVec.toNat := by rw [e1]; rfl
  rw [and_nat e2 hr.1, hx, m1, Nat.testBit_xor, Nat.testBit_two_pow_sub_one, tb_n hs, Bool.and_eq_true]
  by_cases z : k < 32
  · rw [decide_eq_true z]
    cases s.toInt.toNat.testBit k <;> simp
  · rw [big_f hr.1 (by omega)]
    simp
/-- nothing to pay -/
theorem st_n {r m s pv : Int32} {x : Nat} (H : dB sz f0 f1 f2 f3 f4 op ks L) (ha : 0 ≤ a ∧ a ≤ 15) (hb : 0 ≤ b ∧ b ≤ 15) (hx : (x : Int) = 16 * a + b) (er : r.toInt = (ks x).toInt) (e : s = r &&& m) (hm : 0 ≤ m.toInt ∧ ∀ k : Nat, m.toInt.toNat.testBit k = decide ((k : Int) ≤ pv.toInt)) (hp : pv.toInt = p) (hz : s.toInt = 0) : L.filter (kpB a b p) = L := by
  obtain ⟨_, _, _, h4, h5⟩ := H
  have h6 := ks_at h4 ha hb hx
  rw [← er] at h6
  have h7 := st_s (pv := pv) e h6.1 hm
  rw [List.filter_eq_self]
  intro d hd
  refine kp_t ?_
  by_cases z : d.1 = a ∧ d.2.1 = b ∧ d.2.2.1 ≤ p
  · exfalso
    have ok := h5 d hd
    have k1 := (h6.2 d.2.2.1.toNat).mpr ⟨d, hd, z.1, z.2.1, by have := ok.2.2; omega⟩
    have k2 := (h7.2 d.2.2.1.toNat).mpr ⟨k1, by have := ok.2.2; omega⟩
    rw [hz] at k2
    simp at k2
  · omega
theorem st_x {r m s pv kv x1 w pd ov o2 av : Int32} {x : Nat} (H : dB sz f0 f1 f2 f3 f4 op ks L) (R : stI a b p L g0 g1 g2 g3 g4 i l) (hi : sz ≤ i) (ha : 0 ≤ a ∧ a ≤ 15) (hb : 0 ≤ b ∧ b ≤ 15) (ea : av.toInt = a) (hx : (x : Int) = 16 * a + b) (er : r.toInt = (ks x).toInt) (e : s = r &&& m) (hm : 0 ≤ m.toInt ∧ ∀ k : Nat, m.toInt.toNat.testBit k = decide ((k : Int) ≤ pv.toInt)) (hp : pv.toInt = p) (ek : kv = ks x) (e1 : x1 = s ^^^ (-1)) (e2 : w = kv &&& x1) (ep : pd.toInt = sz - l) (eo : ov = op av.toNatClampNeg) (e3 : o2 = ov - pd) (hop : upd op av.toNatClampNeg o2 = op') (hks : upd ks x w = ks') (hz : sz ≤ 600) : pd.toInt = (L.length : Int) - ((L.filter (kpB a b p)).length : Int) ∧ dB l g0 g1 g2 g3 g4 op' ks' (L.filter (kpB a b p)) := by
  obtain ⟨h1, h2, h3, h4, h5⟩ := H
  obtain ⟨r1, r2⟩ := st_e R (by omega)
  have h6 := ks_at h4 ha hb hx
  have h6r := h6
  rw [← er] at h6r
  have h7 := st_s (pv := pv) e h6r.1 hm
  have h6k := h6
  rw [← ek] at h6k
  have h8 := st_c e1 e2 h6k.1 h7.1
  refine ⟨by omega, r1, r2, ?_, ?_, okB_f h5⟩
  · intro h hh
    have c1 := cn_f (a := a) (b := b) (p := p) (h := (h : Int)) L
    have c2 := h3 h hh
    have hc : av.toNatClampNeg = a.toNat := by rw [cl_nat (by omega), ea]
    rw [hc] at hop eo
    by_cases z : h = a.toNat
    · rw [← hop, upd_h z]
      rw [if_pos (by omega)] at c1
      have c3 : ov.toInt = cnt (ofB (h : Int)) L := by rw [eo, ← z]; exact c2
      have c4 := cnt_b (q := ofB (h : Int)) L
      have c5 := List.length_filter_le (kpB a b p) L
      have c6 := ba_sub (l1 := 0) (h1 := 600) (l2 := 0) (h2 := 600) e3 ⟨by omega, by omega⟩ ⟨by omega, by omega⟩ (by decide)
      omega
    · rw [← hop, upd_n z]
      rw [if_neg (by omega)] at c1
      omega
  · rw [← hks]
    refine ks_u h4 ha hb hx h8.1 (fun k => ?_) (fun d hd => ?_)
    · rw [h8.2 k, h7.2 k, h6k.2 k]
      constructor
      · rintro ⟨⟨d, d1, d2, d3, d4⟩, nq⟩
        refine ⟨d, List.mem_filter.mpr ⟨d1, kp_t ?_⟩, d2, d3, d4⟩
        have q9 : ¬ (k : Int) ≤ pv.toInt := fun q => nq ⟨by rw [h6r.2 k]; exact ⟨d, d1, d2, d3, d4⟩, q⟩
        omega
      · rintro ⟨d, d1, d2, d3, d4⟩
        have d5 := List.mem_filter.mp d1
        have d6 := kpB_i.mp d5.2
        exact ⟨⟨d, d5.1, d2, d3, d4⟩, fun q => by have := q.2; omega⟩
    · rw [List.mem_filter]
      exact ⟨fun q => q.1, fun q => ⟨q, kp_t (by omega)⟩⟩
/-- one comes -/
theorem ad_B {av bv kv v0 sh u ov o2 dv cv sv : Int32} {x : Nat} (H : dB sz f0 f1 f2 f3 f4 op ks L) (hs : sz ≤ 599) (es : sv.toInt = sz) (ha : 0 ≤ av.toInt ∧ av.toInt ≤ 15) (hb : 0 ≤ bv.toInt ∧ bv.toInt ≤ 15) (hk : 0 ≤ kv.toInt ∧ kv.toInt ≤ 3) (hx : (x : Int) = 16 * av.toInt + bv.toInt) (h0 : upd f0 sv.toNatClampNeg av = g0) (h1 : upd f1 sv.toNatClampNeg bv = g1) (h2 : upd f2 sv.toNatClampNeg kv = g2) (h3 : upd f3 sv.toNatClampNeg dv = g3) (h4 : upd f4 sv.toNatClampNeg cv = g4) (eo : ov = op av.toNatClampNeg) (e3 : o2 = ov + 1) (hop : upd op av.toNatClampNeg o2 = op') (ek : v0 = ks x) (e1 : sh = (1 : Int32) <<< (kv &&& 31)) (e2 : u = v0 ||| sh) (hks : upd ks x u = ks') (ez : sz' = sz + 1) : dB sz' g0 g1 g2 g3 g4 op' ks' (L ++ [(av.toInt, bv.toInt, kv.toInt, dv.toInt, cv.toInt)]) := by
  obtain ⟨z1, z2, z3, z4, z5⟩ := H
  have hc : sv.toNatClampNeg = L.length := by have := cl_to (x := sv) (by omega); omega
  rw [hc] at h0 h1 h2 h3 h4
  subst h0; subst h1; subst h2; subst h3; subst h4; subst ez
  have O : ∀ (f : Nat → Int32) (v : Int32) (j : Nat), j < 0 + L.length → upd f L.length v j = f j := fun f v j hj => upd_n (by omega)
  have h6 := ks_at z4 ha hb hx
  rw [← ek] at h6
  have h7 := ba_or 4 e2 (l1 := 0) (h1 := 15) (l2 := 0) (h2 := 15) h6.1 (by have := ba_shl 0 3 e1 hk; omega) (by decide)
  have h8 := (shl_nat e1 ⟨hk.1, by omega⟩).2
  refine ⟨by rw [List.length_append]; show sz + 1 = ((L.length + 1 : Nat) : Int); omega, ?_, fun h hh => ?_, ?_, fun d hd => ?_⟩
  · rw [rB_app]
    refine ⟨rB_c _ _ (fun j j1 j2 => ⟨O _ _ _ j2, O _ _ _ j2, O _ _ _ j2, O _ _ _ j2, O _ _ _ j2⟩) z2, ?_, trivial⟩
    rw [Nat.zero_add]
    unfold rw5
    rw [upd_h rfl, upd_h rfl, upd_h rfl, upd_h rfl, upd_h rfl]
    exact ⟨rfl, rfl, rfl, rfl, rfl⟩
  · rw [cnt_app]
    have c1 : cnt (ofB (h : Int)) [((av.toInt, bv.toInt, kv.toInt, dv.toInt, cv.toInt) : D5)] = 0 + (if ofB (h : Int) (av.toInt, bv.toInt, kv.toInt, dv.toInt, cv.toInt) then 1 else 0) := rfl
    have hc2 : av.toNatClampNeg = av.toInt.toNat := cl_nat ha.1
    rw [hc2] at hop eo
    have c2 := z3 h hh
    have c4 := cnt_b (q := ofB (h : Int)) L
    rw [c1, ← hop]
    by_cases z : h = av.toInt.toNat
    · rw [upd_h z, if_pos (show ofB (h : Int) (av.toInt, bv.toInt, kv.toInt, dv.toInt, cv.toInt) = true from decide_eq_true (by show av.toInt = (h : Int); omega))]
      have c3 : ov.toInt = cnt (ofB (h : Int)) L := by rw [eo, ← z]; exact c2
      have l1 : (1 : Int32).toInt = 1 := by decide
      have c6 := ba_add (l1 := 0) (h1 := 600) (l2 := 1) (h2 := 1) e3 ⟨by omega, by omega⟩ ⟨by omega, by omega⟩ (by decide)
      omega
    · rw [upd_n z, if_neg (show ¬ ofB (h : Int) (av.toInt, bv.toInt, kv.toInt, dv.toInt, cv.toInt) = true from by unfold ofB; rw [decide_eq_false (by show ¬ av.toInt = (h : Int); omega)]; decide)]
      omega
  · rw [← hks]
    refine ks_u z4 ha hb hx ⟨h7.1, by have := h7.2; omega⟩ (fun k => ?_) (fun d hd => ?_)
    · rw [or_bit e2 h6.1.1 h8, shl_bit e1 ⟨hk.1, by omega⟩, h6.2 k]
      constructor
      · rintro (⟨d, d1, d2⟩ | h)
        · exact ⟨d, List.mem_append_left _ d1, d2⟩
        · exact ⟨(av.toInt, bv.toInt, kv.toInt, dv.toInt, cv.toInt), List.mem_append_right _ (List.mem_singleton.mpr rfl), rfl, rfl, by show kv.toInt = (k : Int); omega⟩
      · rintro ⟨d, d1, d2⟩
        rcases List.mem_append.mp d1 with h | h
        · exact Or.inl ⟨d, h, d2⟩
        · have e := List.mem_singleton.mp h
          subst e
          have := d2.2.2
          exact Or.inr (by have h9 : kv.toInt = (k : Int) := this; omega)
    · constructor
      · intro h
        rcases List.mem_append.mp h with h | h
        · exact h
        · have e := List.mem_singleton.mp h
          subst e
          exact absurd ⟨rfl, rfl⟩ hd
      · exact fun h => List.mem_append_left _ h
  · rcases List.mem_append.mp hd with h | h
    · exact z5 d h
    · have e := List.mem_singleton.mp h
      subst e
      exact ⟨ha, hb, hk⟩
theorem cl_B (h1 : ∀ j : Nat, j < 16 → op j = 0) (h2 : ∀ j : Nat, j < 256 → ks j = 0) (hz : sz = 0) : dB sz f0 f1 f2 f3 f4 op ks [] := by
  refine ⟨hz, trivial, fun h hh => by rw [h1 h hh]; rfl, fun y hy => ?_, fun d hd => by cases hd⟩
  rw [h2 y hy]
  refine ⟨by decide, fun k => ?_⟩
  constructor
  · intro h
    have e : (0 : Int32).toInt.toNat = 0 := by decide
    rw [e] at h
    simp at h
  · rintro ⟨d, hd, _⟩
    cases hd
theorem cp_B (H : dB sz f0 f1 f2 f3 f4 op ks L) (e0 : ∀ j : Nat, (j : Int) < sz → g0 j = f0 j) (e1 : ∀ j : Nat, (j : Int) < sz → g1 j = f1 j) (e2 : ∀ j : Nat, (j : Int) < sz → g2 j = f2 j) (e3 : ∀ j : Nat, (j : Int) < sz → g3 j = f3 j) (e4 : ∀ j : Nat, (j : Int) < sz → g4 j = f4 j) (eo : ∀ j : Nat, j < 16 → op' j = op j) (ek : ∀ j : Nat, j < 256 → ks' j = ks j) (ez : sz' = sz) : dB sz' g0 g1 g2 g3 g4 op' ks' L := by
  obtain ⟨h1, h2, h3, h4, h5⟩ := H
  subst ez
  refine ⟨h1, rB_c _ _ (fun j j1 j2 => ⟨e0 j (by omega), e1 j (by omega), e2 j (by omega), e3 j (by omega), e4 j (by omega)⟩) h2, fun h hh => by rw [eo h hh]; exact h3 h hh, fun y hy => ?_, h5⟩
  rw [ek y hy]
  exact h4 y hy
/-! counting -/
def ctI (q : D5 → Bool) (L : List D5) (i n : Int) : Prop := ∃ P Q : List D5, L = P ++ Q ∧ (P.length : Int) = i ∧ n = cnt q P
theorem ct_0 (hi : i = 0) (hn : n = 0) : ctI q L i n := ⟨[], L, rfl, by rw [hi]; rfl, hn⟩
theorem ctt_s (R : ctI q L i n) (H : rB f0 f1 f2 f3 f4 0 L) (hi : i < (L.length : Int)) (hd : ∀ d : D5, rw5 f0 f1 f2 f3 f4 i.toNat d → n' = n + (if q d then 1 else 0)) (ei : i' = i + 1) : ctI q L i' n' := by
  obtain ⟨P, Q, eL, hP, hn⟩ := R
  obtain ⟨d, Q', rfl, eL2, hP2⟩ := st_q eL hP hi
  rw [eL, rB_app] at H
  have hr := H.2.1
  rw [show 0 + P.length = i.toNat by omega] at hr
  refine ⟨P ++ [d], Q', eL2, by omega, ?_⟩
  rw [hd d hr, cnt_app, hn]
  show _ = cnt q P + (0 + if q d then 1 else 0)
  omega
theorem ct_e (R : ctI q L i n) (hi : (L.length : Int) ≤ i) : n = cnt q L := by
  obtain ⟨P, Q, eL, hP, hn⟩ := R
  have e : Q = [] := by
    cases Q with
    | nil => rfl
    | cons d Q' => rw [eL, List.length_append, List.length_cons] at hi; omega
  rw [e, List.append_nil] at eL
  rw [eL]
  exact hn
/-- where the n-th of a's stands -/
def nth9 (a n : Int) (L : List D5) (r : Int) : Prop := (r = -1 ∧ (n < 0 ∨ cnt (ofB a) L ≤ n)) ∨ ∃ (P : List D5) (d : D5) (Q : List D5), L = P ++ d :: Q ∧ (P.length : Int) = r ∧ d.1 = a ∧ cnt (ofB a) P = n
theorem of_t (h : d.1 = a) : ofB a d = true := decide_eq_true h
theorem of_f (h : d.1 ≠ a) : ofB a d = false := decide_eq_false h
theorem nt_h {r : Int} (R : ctI (ofB a) L r n) (H : rB f0 f1 f2 f3 f4 0 L) (hi : r < (L.length : Int)) (hd : (f0 r.toNat).toInt = a) : nth9 a n L r := by
  obtain ⟨P, Q, eL, hP, hn⟩ := R
  obtain ⟨d, Q', rfl, eL2, hP2⟩ := st_q eL hP hi
  rw [eL, rB_app] at H
  have hr := H.2.1.1
  rw [show 0 + P.length = r.toNat by omega] at hr
  exact Or.inr ⟨P, d, Q', eL, hP, by omega, hn.symm⟩
theorem nt_u {r r' : Int} (h1 : nth9 a n L r) (h2 : nth9 a n L r') : r = r' := by
  have key : ∀ (P : List D5) (d : D5) (Q P2 : List D5) (d2 : D5) (Q2 : List D5), P ++ d :: Q = P2 ++ d2 :: Q2 → d.1 = a → d2.1 = a → cnt (ofB a) P = cnt (ofB a) P2 → P.length = P2.length := by
    intro P
    induction P with
    | nil =>
      intro d Q P2 d2 Q2 e k1 k2 k3
      cases P2 with
      | nil => rfl
      | cons d3 P3 =>
        have e1 : d = d3 := (List.cons.inj e).1
        have c1 : cnt (ofB a) (d3 :: P3) = cnt (ofB a) P3 + (if ofB a d3 then 1 else 0) := rfl
        have c2 := cnt_b (q := ofB a) P3
        rw [c1, if_pos (of_t (by rw [← e1]; exact k1))] at k3
        have c3 : cnt (ofB a) [] = 0 := rfl
        omega
    | cons d0 P ih =>
      intro d Q P2 d2 Q2 e k1 k2 k3
      cases P2 with
      | nil =>
        have e1 : d0 = d2 := (List.cons.inj e).1
        have c1 : cnt (ofB a) (d0 :: P) = cnt (ofB a) P + (if ofB a d0 then 1 else 0) := rfl
        have c2 := cnt_b (q := ofB a) P
        rw [c1, if_pos (of_t (by rw [e1]; exact k2))] at k3
        have c3 : cnt (ofB a) [] = 0 := rfl
        omega
      | cons d3 P3 =>
        obtain ⟨e1, e2⟩ := List.cons.inj e
        have c1 : cnt (ofB a) (d0 :: P) = cnt (ofB a) P + (if ofB a d0 then 1 else 0) := rfl
        have c2 : cnt (ofB a) (d3 :: P3) = cnt (ofB a) P3 + (if ofB a d3 then 1 else 0) := rfl
        rw [c1, c2, e1] at k3
        have := ih d Q P3 d2 Q2 e2 k1 k2 (by omega)
        rw [List.length_cons, List.length_cons, this]
  have no : ∀ (P : List D5) (d : D5) (Q : List D5), L = P ++ d :: Q → d.1 = a → cnt (ofB a) P = n → ¬ (n < 0 ∨ cnt (ofB a) L ≤ n) := by
    intro P d Q e k1 k2 h
    have c1 := cnt_b (q := ofB a) P
    have c2 := cnt_b (q := ofB a) Q
    have c3 : cnt (ofB a) (d :: Q) = cnt (ofB a) Q + (if ofB a d then 1 else 0) := rfl
    rw [e, cnt_app, c3, if_pos (of_t k1)] at h
    omega
  rcases h1 with ⟨r1, q1⟩ | ⟨P, d, Q, e, k0, k1, k2⟩
  · rcases h2 with ⟨r2, q2⟩ | ⟨P2, d2, Q2, e', k0', k1', k2'⟩
    · omega
    · exact absurd q1 (no _ _ _ e' k1' k2')
  · rcases h2 with ⟨r2, q2⟩ | ⟨P2, d2, Q2, e', k0', k1', k2'⟩
    · exact absurd q2 (no _ _ _ e k1 k2)
    · have := key P d Q P2 d2 Q2 (e.symm.trans e') k1 k1' (k2.trans k2'.symm)
      omega
end DBT
theorem mv_5 {f g : Nat → Int32} {x y v : Int32} (h : upd f x.toNatClampNeg v = g) (e : v = f y.toNatClampNeg) (hx : 0 ≤ x.toInt) (hy : 0 ≤ y.toInt) : g = upd f x.toInt.toNat (f y.toInt.toNat) := by rw [← h, e, cl_nat hx, cl_nat hy]
theorem ct_y {q : D5 → Bool} {f0 f1 f2 f3 f4 : Nat → Int32} {L : List D5} {i i' n n' : Int} (R : ctI q L i n) (H : rB f0 f1 f2 f3 f4 0 L) (hi : i < (L.length : Int)) (hk : ∀ d : D5, rw5 f0 f1 f2 f3 f4 i.toNat d → q d = true) (en : n' = n + 1) (ei : i' = i + 1) : ctI q L i' n' := ctt_s R H hi (fun d hd => by rw [if_pos (hk d hd)]; exact en) ei
theorem ct_n {q : D5 → Bool} {f0 f1 f2 f3 f4 : Nat → Int32} {L : List D5} {i i' n n' : Int} (R : ctI q L i n) (H : rB f0 f1 f2 f3 f4 0 L) (hi : i < (L.length : Int)) (hk : ∀ d : D5, rw5 f0 f1 f2 f3 f4 i.toNat d → q d = false) (en : n' = n) (ei : i' = i + 1) : ctI q L i' n' := ctt_s R H hi (fun d hd => by rw [hk d hd, if_neg Bool.false_ne_true, Int.add_zero]; exact en) ei
theorem ct_c {q : D5 → Bool} {L : List D5} {i i' n n' : Int} (R : ctI q L i n) (ei : i' = i) (en : n' = n) : ctI q L i' n' := by
  rw [ei, en]
  exact R
/-- overdue; overdue to one -/
def odB (t : Int) (d : D5) : Bool := decide (d.2.2.2.1 < t)
def otB (b t : Int) (d : D5) : Bool := decide (d.2.1 = b ∧ d.2.2.2.1 < t)
theorem cpz {f0 f1 f : Nat → Int32} {m : Int32} (h : va_cpy f0 f1 (0 : Int32).toNatClampNeg (0 : Int32).toNatClampNeg m.toNatClampNeg = f) (hm : 0 ≤ m.toInt) (j : Nat) (hj : (j : Int) < m.toInt) : f j = f0 j := cpy_n h j (by have := cl_to hm; omega)
theorem ke_i {ks : Nat → Int32} {v i : Int32} {z : Int} (e : v = ks i.toNatClampNeg) (h : i.toInt = z) (h0 : 0 ≤ z) : v.toInt = (ks z.toNat).toInt := by rw [e, cl_nat (by omega), h]

/-! debts in the reference's rows -/
def rM (w : Nat → Int32) : Nat → List D5 → Prop := rB (fun i => w (1880 + 5 * i)) (fun i => w (1881 + 5 * i)) (fun i => w (1882 + 5 * i)) (fun i => w (1883 + 5 * i)) (fun i => w (1884 + 5 * i))
def mB (w : Nat → Int32) (L : List D5) : Prop := (w 7).toInt = (L.length : Int) ∧ rM w 0 L
section DBM
variable {w w' v0 : Nat → Int32} {L P Q : List D5} {a b p i i' n n' k k' : Int} {d : D5} {q : D5 → Bool}
theorem rM_c {g : Nat → Int32} {o : Nat} (L : List D5) (h : ∀ j : Nat, 1880 + 5 * o ≤ j → j < 1880 + 5 * (o + L.length) → g j = w j) (H : rM w o L) : rM g o L := rB_c L o (fun j j1 j2 => ⟨h _ (by omega) (by omega), h _ (by omega) (by omega), h _ (by omega) (by omega), h _ (by omega) (by omega), h _ (by omega) (by omega)⟩) H
theorem rB_sh {f0 f1 f2 f3 f4 g0 g1 g2 g3 g4 : Nat → Int32} : ∀ (L : List D5) (o : Nat), (∀ j : Nat, o ≤ j → j < o + L.length → g0 j = f0 (j + 1) ∧ g1 j = f1 (j + 1) ∧ g2 j = f2 (j + 1) ∧ g3 j = f3 (j + 1) ∧ g4 j = f4 (j + 1)) → rB f0 f1 f2 f3 f4 (o + 1) L → rB g0 g1 g2 g3 g4 o L := by
  intro L
  induction L with
  | nil => intro o _ _; trivial
  | cons d L ih =>
    intro o h H
    rw [List.length_cons] at h
    obtain ⟨⟨q0, q1, q2, q3, q4⟩, H2⟩ := H
    obtain ⟨e0, e1, e2, e3, e4⟩ := h o (Nat.le_refl _) (by omega)
    exact ⟨⟨by rw [e0]; exact q0, by rw [e1]; exact q1, by rw [e2]; exact q2, by rw [e3]; exact q3, by rw [e4]; exact q4⟩, ih (o + 1) (fun j j1 j2 => h j (by omega) (by omega)) H2⟩
/-- a row is let go: those behind it move up -/
def shI (v0 w : Nat → Int32) (s k : Int) : Prop := ∀ j : Nat, ((1880 + s ≤ (j : Int) ∧ (j : Int) < 1880 + k) → w j = v0 (j + 5)) ∧ (((j : Int) < 1880 + s ∨ 1880 + k ≤ (j : Int)) → w j = v0 j)
theorem sh_0 (h : k = i) : shI w w i k := fun j => ⟨fun q => by omega, fun _ => rfl⟩
theorem sh_s {x y v : Int32} (R : shI v0 w i k) (hx : upd w x.toNatClampNeg v = w') (ev : v = w y.toNatClampNeg) (qx : x.toInt = 1880 + k) (qy : y.toInt = 1885 + k) (hk : 0 ≤ i ∧ i ≤ k) (ek : k' = k + 1) : shI v0 w' i k' := by
  subst ek
  have h1 := cl_to (x := x) (by omega)
  have h2 := cl_to (x := y) (by omega)
  intro j
  have hj := R j
  rw [← hx]
  by_cases z : j = x.toNatClampNeg
  · rw [upd_h z]
    refine ⟨fun _ => ?_, fun q => by omega⟩
    rw [ev, (R y.toNatClampNeg).2 (Or.inr (by omega)), show y.toNatClampNeg = j + 5 by omega]
  · rw [upd_n z]
    exact ⟨fun q => hj.1 (by omega), fun q => hj.2 (by omega)⟩
theorem sh_e {v : Int32} (R : shI v0 w (5 * i) k) (hk : 5 * ((v0 7).toInt - 1) ≤ k) (hi : 0 ≤ i) (hx : upd w 7 v = w') (ev : v.toInt = (v0 7).toInt - 1) (H : mB v0 (P ++ d :: Q)) (hP : (P.length : Int) = i) : mB w' (P ++ Q) := by
  obtain ⟨h1, h2⟩ := H
  rw [List.length_append, List.length_cons] at h1
  have e2 := (rB_app _ _).mp h2
  have e3 := e2.2.2
  have O : ∀ j : Nat, 1880 ≤ j → w' j = w j := fun j hj => by rw [← hx]; exact upd_n (by omega)
  refine ⟨?_, (rB_app _ _).mpr ⟨?_, ?_⟩⟩
  · rw [← hx, upd_h rfl, ev, h1, List.length_append]
    omega
  · exact rM_c P (fun j j1 j2 => by rw [O j (by omega)]; exact (R j).2 (Or.inl (by omega))) e2.1
  · refine rB_sh Q _ (fun j j1 j2 => ?_) e3
    have S : ∀ c : Nat, c < 5 → w' (1880 + c + 5 * j) = v0 (1880 + c + 5 * (j + 1)) := fun c hc => by
      rw [O _ (by omega), (R _).1 ⟨by omega, by omega⟩, show 1880 + c + 5 * j + 5 = 1880 + c + 5 * (j + 1) by omega]
    exact ⟨S 0 (by omega), S 1 (by omega), S 2 (by omega), S 3 (by omega), S 4 (by omega)⟩
/-- from the end on -/
def pyI (a b p : Int) (L : List D5) (w : Nat → Int32) (i n : Int) : Prop := ∃ P Q : List D5, L = P ++ Q ∧ (P.length : Int) = i + 1 ∧ mB w (P ++ Q.filter (kpB a b p)) ∧ n = (Q.length : Int) - ((Q.filter (kpB a b p)).length : Int)
theorem py_0 (H : mB w L) (hi : i = (w 7).toInt - 1) (hn : n = 0) : pyI a b p L w i n := ⟨L, [], (List.append_nil L).symm, by rw [hi, H.1]; omega, by rw [show ([] : List D5).filter (kpB a b p) = [] from rfl, List.append_nil]; exact H, hn⟩
theorem py_q {P : List D5} (hP : (P.length : Int) = i + 1) (hi : 0 ≤ i) : ∃ P' d, P = P' ++ [d] ∧ (P'.length : Int) = i := by
  have hn : P ≠ [] := fun e => by rw [e] at hP; have : ((([] : List D5).length : Nat) : Int) = 0 := rfl; omega
  refine ⟨P.dropLast, P.getLast hn, (List.dropLast_concat_getLast hn).symm, ?_⟩
  rw [List.length_dropLast]
  omega
theorem py_r {P Q : List D5} (H : mB w ((P ++ [d]) ++ Q)) (hP : (P.length : Int) = i) : (w (1880 + 5 * i.toNat)).toInt = d.1 ∧ (w (1881 + 5 * i.toNat)).toInt = d.2.1 ∧ (w (1882 + 5 * i.toNat)).toInt = d.2.2.1 := by
  have h := H.2
  rw [List.append_assoc] at h
  have h2 := ((rB_app _ _).mp h).2.1
  rw [show 0 + P.length = i.toNat by omega] at h2
  exact ⟨h2.1, h2.2.1, h2.2.2.1⟩
theorem py_k (R : pyI a b p L w i n) (hi : 0 ≤ i) (hk : (w (1880 + 5 * i.toNat)).toInt ≠ a ∨ (w (1881 + 5 * i.toNat)).toInt ≠ b ∨ p < (w (1882 + 5 * i.toNat)).toInt) (ei : i' = i - 1) (en : n' = n) : pyI a b p L w i' n' := by
  subst ei; subst en
  obtain ⟨P, Q, eL, hP, H, hn⟩ := R
  obtain ⟨P', d, rfl, hP'⟩ := py_q hP hi
  have hr := py_r H hP'
  have k9 : kpB a b p d = true := kp_t (by omega)
  have e9 : (d :: Q).filter (kpB a b p) = d :: Q.filter (kpB a b p) := List.filter_cons_of_pos k9
  refine ⟨P', d :: Q, by rw [eL, List.append_assoc]; rfl, by omega, ?_, ?_⟩
  · rw [e9]
    have e := List.append_assoc P' [d] (Q.filter (kpB a b p))
    rw [e] at H
    exact H
  · rw [e9, List.length_cons, List.length_cons]
    omega
theorem py_d (R : pyI a b p L w i n) (hi : 0 ≤ i) (hk : (w (1880 + 5 * i.toNat)).toInt = a ∧ (w (1881 + 5 * i.toNat)).toInt = b ∧ (w (1882 + 5 * i.toNat)).toInt ≤ p) (hd : ∀ (P : List D5) (d : D5) (Q : List D5), mB w (P ++ d :: Q) → (P.length : Int) = i → mB w' (P ++ Q)) (ei : i' = i - 1) (en : n' = n + 1) : pyI a b p L w' i' n' := by
  subst ei; subst en
  obtain ⟨P, Q, eL, hP, H, hn⟩ := R
  obtain ⟨P', d, rfl, hP'⟩ := py_q hP hi
  have hr := py_r H hP'
  have k9 : kpB a b p d = false := kp_f (by omega)
  have e9 : (d :: Q).filter (kpB a b p) = Q.filter (kpB a b p) := List.filter_cons_of_neg (by rw [k9]; decide)
  have e := List.append_assoc P' [d] (Q.filter (kpB a b p))
  rw [e] at H
  refine ⟨P', d :: Q, by rw [eL, List.append_assoc]; rfl, by omega, ?_, ?_⟩
  · rw [e9]
    exact hd P' d _ H hP'
  · rw [e9, List.length_cons]
    omega
theorem py_e (R : pyI a b p L w i n) (hi : i < 0) : n = (L.length : Int) - ((L.filter (kpB a b p)).length : Int) ∧ mB w (L.filter (kpB a b p)) := by
  obtain ⟨P, Q, eL, hP, H, hn⟩ := R
  have e : P = [] := List.eq_nil_of_length_eq_zero (by omega)
  rw [e, List.nil_append] at eL
  rw [e, List.nil_append] at H
  rw [eL]
  exact ⟨hn, H⟩
/-- one that is owed already -/
def hasB (a b k : Int) (L : List D5) : Prop := ∃ d, d ∈ L ∧ d.1 = a ∧ d.2.1 = b ∧ d.2.2.1 = k
def noI (a b k : Int) (L : List D5) (i : Int) : Prop := ∃ P Q : List D5, L = P ++ Q ∧ (P.length : Int) = i ∧ ¬ hasB a b k P
theorem no_0 (hi : i = 0) : noI a b k L i := ⟨[], L, rfl, by rw [hi]; rfl, fun ⟨_, h, _⟩ => by cases h⟩
theorem no_s (R : noI a b k L i) (H : mB w L) (hi : i < (L.length : Int)) (hk : (w (1880 + 5 * i.toNat)).toInt ≠ a ∨ (w (1881 + 5 * i.toNat)).toInt ≠ b ∨ (w (1882 + 5 * i.toNat)).toInt ≠ k) (ei : i' = i + 1) : noI a b k L i' := by
  subst ei
  obtain ⟨P, Q, eL, hP, hn⟩ := R
  obtain ⟨d, Q', rfl, eL2, hP2⟩ := st_q eL hP hi
  rw [eL2] at H
  have hr := py_r H hP
  refine ⟨P ++ [d], Q', eL2, hP2, ?_⟩
  rintro ⟨c, c1, c2, c3, c4⟩
  rcases List.mem_append.mp c1 with h | h
  · exact hn ⟨c, h, c2, c3, c4⟩
  · have e := List.mem_singleton.mp h
    subst e
    omega
theorem no_h (H : mB w L) (h0 : 0 ≤ i) (hi : i < (L.length : Int)) (hk : (w (1880 + 5 * i.toNat)).toInt = a ∧ (w (1881 + 5 * i.toNat)).toInt = b ∧ (w (1882 + 5 * i.toNat)).toInt = k) : hasB a b k L := by
  have hlt : i.toNat < L.length := by omega
  have e : L = L.take i.toNat ++ L.drop i.toNat := (List.take_append_drop _ _).symm
  obtain ⟨d, Q', eQ, eL2, hP2⟩ := st_q (i := i) e (by rw [List.length_take]; omega) hi
  have H2 := H
  rw [eL2] at H2
  have hr := py_r (i := i) H2 (by rw [List.length_take]; omega)
  refine ⟨d, ?_, by omega, by omega, by omega⟩
  rw [eL2]
  exact List.mem_append_left _ (List.mem_append_right _ (List.mem_singleton.mpr rfl))
theorem no_e (R : noI a b k L i) (hi : (L.length : Int) ≤ i) : ¬ hasB a b k L := by
  obtain ⟨P, Q, eL, hP, hn⟩ := R
  have e : Q = [] := by
    cases Q with
    | nil => rfl
    | cons d Q' => rw [eL, List.length_append, List.length_cons] at hi; omega
  rw [e, List.append_nil] at eL
  rw [eL]
  exact hn
/-- one comes -/
theorem co_m {x0 x1 x2 x3 x4 v5 a0 a1 a2 a3 a4 : Int32} {w1 w2 w3 w4 w5 : Nat → Int32} (H : mB w L) (h0 : upd w x0.toNatClampNeg a0 = w1) (h1 : upd w1 x1.toNatClampNeg a1 = w2) (h2 : upd w2 x2.toNatClampNeg a2 = w3) (h3 : upd w3 x3.toNatClampNeg a3 = w4) (h4 : upd w4 x4.toNatClampNeg a4 = w5) (h5 : upd w5 7 v5 = w') (q0 : x0.toInt = 1880 + 5 * (w 7).toInt) (q1 : x1.toInt = x0.toInt + 1) (q2 : x2.toInt = x0.toInt + 2) (q3 : x3.toInt = x0.toInt + 3) (q4 : x4.toInt = x0.toInt + 4) (q5 : v5.toInt = (w 7).toInt + 1) : mB w' (L ++ [(a0.toInt, a1.toInt, a2.toInt, a3.toInt, a4.toInt)]) := by
  obtain ⟨z1, z2⟩ := H
  have c0 := cl_to (x := x0) (by omega)
  have c1 := cl_to (x := x1) (by omega)
  have c2 := cl_to (x := x2) (by omega)
  have c3 := cl_to (x := x3) (by omega)
  have c4 := cl_to (x := x4) (by omega)
  rw [show x0.toNatClampNeg = 1880 + 5 * L.length by omega] at h0
  rw [show x1.toNatClampNeg = 1881 + 5 * L.length by omega] at h1
  rw [show x2.toNatClampNeg = 1882 + 5 * L.length by omega] at h2
  rw [show x3.toNatClampNeg = 1883 + 5 * L.length by omega] at h3
  rw [show x4.toNatClampNeg = 1884 + 5 * L.length by omega] at h4
  have O : ∀ j : Nat, j ≠ 7 → j < 1880 + 5 * L.length → w' j = w j := fun j j1 j2 => by
    rw [← h5, upd_n j1, ← h4, upd_n (by omega), ← h3, upd_n (by omega), ← h2, upd_n (by omega), ← h1, upd_n (by omega), ← h0, upd_n (by omega)]
  refine ⟨?_, (rB_app _ _).mpr ⟨rM_c L (fun j j1 j2 => O j (by omega) (by omega)) z2, ⟨?_, ?_, ?_, ?_, ?_⟩, trivial⟩⟩
  · rw [← h5, upd_h rfl, q5, z1, List.length_append]
    show (L.length : Int) + 1 = ((L.length + 1 : Nat) : Int)
    omega
  · show (w' (1880 + 5 * (0 + L.length))).toInt = a0.toInt
    rw [Nat.zero_add, ← h5, upd_n (by omega), ← h4, upd_n (by omega), ← h3, upd_n (by omega), ← h2, upd_n (by omega), ← h1, upd_n (by omega), ← h0, upd_h rfl]
  · show (w' (1881 + 5 * (0 + L.length))).toInt = a1.toInt
    rw [Nat.zero_add, ← h5, upd_n (by omega), ← h4, upd_n (by omega), ← h3, upd_n (by omega), ← h2, upd_n (by omega), ← h1, upd_h rfl]
  · show (w' (1882 + 5 * (0 + L.length))).toInt = a2.toInt
    rw [Nat.zero_add, ← h5, upd_n (by omega), ← h4, upd_n (by omega), ← h3, upd_n (by omega), ← h2, upd_h rfl]
  · show (w' (1883 + 5 * (0 + L.length))).toInt = a3.toInt
    rw [Nat.zero_add, ← h5, upd_n (by omega), ← h4, upd_n (by omega), ← h3, upd_h rfl]
  · show (w' (1884 + 5 * (0 + L.length))).toInt = a4.toInt
    rw [Nat.zero_add, ← h5, upd_n (by omega), ← h4, upd_h rfl]
theorem mB_c {g : Nat → Int32} (H : mB w L) (h7 : g 7 = w 7) (h : ∀ j : Nat, 1880 ≤ j → j < 6680 → g j = w j) (hl : L.length ≤ 960) : mB g L := ⟨by rw [h7]; exact H.1, rM_c L (fun j j1 j2 => h j (by omega) (by omega)) H.2⟩
theorem pl_h {r : Int} (R : ctI (ofB a) L r n) (H : mB w L) (hi : r < (L.length : Int)) (hd : (w (1880 + 5 * r.toNat)).toInt = a) : nth9 a n L r := nt_h R H.2 hi hd
end DBM
