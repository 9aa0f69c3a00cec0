/-! bits of a set, orders of a set, and the least minutes -/
def cb : Nat → Nat → Nat
  | 0, _ => 0
  | n + 1, x => cb n x + (if x.testBit n then 1 else 0)
theorem cb_le (n x : Nat) : cb n x ≤ n := by
  induction n with
  | zero => exact Nat.le_refl _
  | succ n ih =>
    unfold cb
    split <;> omega
theorem cb_mono (n x : Nat) : cb n x ≤ cb (n + 1) x := by
  show cb n x ≤ cb n x + _
  omega
theorem cb_or_eq (n x k : Nat) (h : x.testBit k = false) : cb n (x ||| 2 ^ k) = cb n x + (if k < n then 1 else 0) := by
  induction n with
  | zero => rfl
  | succ n ih =>
    have e : (x ||| 2 ^ k).testBit n = (x.testBit n || decide (k = n)) := by rw [Nat.testBit_or, Nat.testBit_two_pow]
    unfold cb
    rw [e, ih]
    by_cases q : k = n
    · subst q
      rw [h, if_neg (Nat.lt_irrefl k), if_pos (Nat.lt_succ_self k)]
      simp
    · have e2 : (x.testBit n || decide (k = n)) = x.testBit n := by simp [q]
      rw [e2]
      by_cases q2 : k < n
      · rw [if_pos q2, if_pos (show k < n + 1 by omega)]
        omega
      · rw [if_neg q2, if_neg (show ¬ k < n + 1 by omega)]
        omega
theorem or_id {x k : Nat} (h : x.testBit k = true) : x ||| 2 ^ k = x := by
  apply Nat.eq_of_testBit_eq
  intro i
  rw [Nat.testBit_or, Nat.testBit_two_pow]
  by_cases q : k = i
  · subst q; rw [h]; rfl
  · simp [q]
theorem cb_or_le (n x k : Nat) : cb n (x ||| 2 ^ k) ≤ cb n x + 1 := by
  cases h : x.testBit k with
  | true => rw [or_id h]; omega
  | false =>
    rw [cb_or_eq n x k h]
    split <;> omega
theorem cl_nat {x : Int32} (h : 0 ≤ x.toInt) : x.toNatClampNeg = x.toInt.toNat := by
  have := cl_to h
  omega
theorem tb_n {x : Int32} (h : 0 ≤ x.toInt) : x.toBitVec.toNat = x.toInt.toNat := by
  have := tn_of h
  omega
theorem or_nat {v a b : Int32} (e : v = a ||| b) (ha : 0 ≤ a.toInt) (hb : 0 ≤ b.toInt) : v.toInt.toNat = a.toInt.toNat ||| b.toInt.toNat := by
  have h := or_ge (l1 := 0) (h1 := a.toInt) (l2 := 0) (h2 := b.toInt) e ⟨ha, Int.le_refl _⟩ ⟨hb, Int.le_refl _⟩ (by decide)
  have h2' : v.toBitVec.toNat = a.toBitVec.toNat ||| b.toBitVec.toNat := by rw [e]; rfl
  rw [tb_n ha, tb_n hb, tb_n (by omega)] at h2'
  exact h2'
theorem shl_nat {v k : Int32} (e : v = (1 : Int32) <<< (k &&& 31)) (hk : 0 ≤ k.toInt ∧ k.toInt ≤ 30) : v.toInt.toNat = 2 ^ k.toInt.toNat ∧ 0 ≤ v.toInt := by
  obtain ⟨n, h1, h2, h3⟩ := ix_nI hk (by decide)
  have hn : k.toInt.toNat = n := by omega
  have h4 : v.toBitVec.toNat = 2 ^ n := by rw [e, h1, sh_one n (by omega)]
  have p3 : 2 ^ n ≤ 2 ^ 30 := Nat.pow_le_pow_right (by decide) (by omega)
  have h5 := tn_to h4 (by omega)
  rw [hn]
  omega
def bq (x k : Int32) : Int := if x.toInt.toNat.testBit k.toInt.toNat then 1 else 0
theorem sl31 : ∀ n, n < 32 → ((nI n &&& 31).toBitVec.smod 32).toNat = n := by decide +kernel
theorem bq_h {a k v1 v2 : Int32} (e1 : v1 = a >>> (k &&& 31)) (e2 : v2 = v1 &&& 1) (ba : 0 ≤ a.toInt) (bk : 0 ≤ k.toInt ∧ k.toInt ≤ 30) : v2.toInt = bq a k := by
  obtain ⟨n, h1, h2, h3⟩ := ix_nI (x := a) (l := 0) (h := a.toInt) ⟨ba, Int.le_refl _⟩ (by decide)
  obtain ⟨j, g1, g2, g3⟩ := ix_nI bk (by decide)
  have q1 : v1 = nI (n / 2 ^ j) := by rw [e1, h1, g1, pk_shrN (by omega) (nI j &&& 31) j (sl31 j (by omega))]
  have d1 : n / 2 ^ j ≤ n := Nat.div_le_self _ _
  have q2 : v1.toInt = ((n / 2 ^ j : Nat) : Int) := by rw [q1, nI_toInt (by omega)]
  have h0 : 0 ≤ v1.toInt := by rw [q2]; exact Int.natCast_nonneg _
  have q3 : v2.toBitVec.toNat = v1.toBitVec.toNat &&& 1 := by rw [e2]; rfl
  rw [Nat.and_one_is_mod, tb_n h0, q2, Int.toNat_natCast] at q3
  have q4 := tn_to q3 (by omega)
  rw [q4]
  unfold bq
  rw [Nat.testBit_eq_decide_div_mod_eq, show a.toInt.toNat = n by omega, show k.toInt.toNat = j by omega]
  have d2 : n / 2 ^ j % 2 < 2 := Nat.mod_lt _ (by decide)
  generalize n / 2 ^ j % 2 = t at d2
  by_cases q : t = 1
  · subst q; rfl
  · have : t = 0 := by omega
    subst this; rfl
theorem bq_t {x k : Int32} (h : bq x k = 1) : x.toInt.toNat.testBit k.toInt.toNat = true := by
  unfold bq at h
  split at h
  · next q => exact q
  · cases h
theorem bq_f {x k : Int32} (h : bq x k = 0) : x.toInt.toNat.testBit k.toInt.toNat = false := by
  unfold bq at h
  split at h
  · cases h
  · next q => simpa using q
theorem h_1 {a k v1 v2 : Int32} (e1 : v1 = a >>> (k &&& 31)) (e2 : v2 = v1 &&& 1) (ba : 0 ≤ a.toInt) (bk : 0 ≤ k.toInt ∧ k.toInt ≤ 30) (c : v2 = 1) : bq a k = 1 := by rw [← bq_h e1 e2 ba bk, c]; decide
theorem h_0 {a k v1 v2 : Int32} (e1 : v1 = a >>> (k &&& 31)) (e2 : v2 = v1 &&& 1) (ba : 0 ≤ a.toInt) (bk : 0 ≤ k.toInt ∧ k.toInt ≤ 30) (c : ¬ v2 = 1) : bq a k = 0 := by
  have h := bq_h e1 e2 ba bk
  have h2 : bq a k = 0 ∨ bq a k = 1 := by unfold bq; split <;> simp
  rcases h2 with h2 | h2
  · exact h2
  · exact absurd (Int32.toInt_inj.mp (h.trans (h2.trans (by decide)))) c
/-- a bit taken away -/
def clr (S l : Nat) : Nat := S &&& (S ^^^ 2 ^ l)
theorem clr_bit (S l i : Nat) : (clr S l).testBit i = (S.testBit i && !decide (l = i)) := by
  unfold clr
  rw [Nat.testBit_and, Nat.testBit_xor, Nat.testBit_two_pow]
  cases S.testBit i <;> cases decide (l = i) <;> rfl
theorem clr_le (S l : Nat) : clr S l ≤ S := Nat.and_le_left
theorem clr_lt {S l : Nat} (h : S.testBit l = true) : clr S l < S := by
  rcases Nat.lt_or_eq_of_le (clr_le S l) with q | q
  · exact q
  · have := clr_bit S l l
    rw [q, h] at this
    simp at this
def sub (S M : Nat) : Prop := ∀ i, S.testBit i = true → M.testBit i = true
theorem not_nat {b m : Int32} (e : m = b ^^^ -1) (i : Nat) (hi : i < 32) : m.toBitVec.toNat.testBit i = !b.toBitVec.toNat.testBit i := by
  have h : m.toBitVec.toNat = b.toBitVec.toNat ^^^ (2 ^ 32 - 1) := by rw [e]; rfl
  rw [h, Nat.testBit_xor, Nat.testBit_two_pow_sub_one]
  simp [hi]
theorem and_nat {v a m : Int32} (e : v = a &&& m) (ha : 0 ≤ a.toInt) (i : Nat) : v.toInt.toNat.testBit i = (a.toInt.toNat.testBit i && m.toBitVec.toNat.testBit i) := by
  have hv := ba_andl (l := 0) (h := a.toInt) e ⟨ha, Int.le_refl _⟩ (by decide)
  have h : v.toBitVec.toNat = a.toBitVec.toNat &&& m.toBitVec.toNat := by rw [e]; rfl
  rw [tb_n ha, tb_n hv.1] at h
  rw [h, Nat.testBit_and]
theorem big_f {a : Int32} (ha : 0 ≤ a.toInt) {i : Nat} (hi : 31 ≤ i) : a.toInt.toNat.testBit i = false := by
  apply Nat.testBit_lt_two_pow
  have := (btop a).2
  have h2 : 2 ^ 31 ≤ 2 ^ i := Nat.pow_le_pow_right (by decide) hi
  omega
theorem clr_nat {v a b m k : Int32} (e : v = a &&& m) (em : m = b ^^^ -1) (eb : b = (1 : Int32) <<< (k &&& 31)) (ha : 0 ≤ a.toInt) (hk : 0 ≤ k.toInt ∧ k.toInt ≤ 30) : v.toInt.toNat = clr a.toInt.toNat k.toInt.toNat := by
  apply Nat.eq_of_testBit_eq
  intro i
  rw [clr_bit, and_nat e ha]
  by_cases hi : i < 31
  · obtain ⟨q1, q2⟩ := shl_nat eb hk
    rw [not_nat em i (by omega), tb_n q2, q1, Nat.testBit_two_pow]
  · rw [big_f ha (by omega)]
    rfl
theorem sub_1 {v a b m : Int32} (e : v = a &&& m) (em : m = b ^^^ -1) (ha : 0 ≤ a.toInt) (hb : 0 ≤ b.toInt) (c : v = 0) : sub a.toInt.toNat b.toInt.toNat := by
  intro i hi
  have h1 := and_nat e ha i
  have h0 : v.toInt.toNat = 0 := by rw [c]; decide
  rw [h0, Nat.zero_testBit, hi, Bool.true_and] at h1
  have h31 : i < 31 := by
    rcases Nat.lt_or_ge i 31 with q | q
    · exact q
    · rw [big_f ha q] at hi; cases hi
  rw [not_nat em i (by omega), tb_n hb] at h1
  cases q : b.toInt.toNat.testBit i with
  | true => rfl
  | false => rw [q] at h1; cases h1
theorem sub_0 {v a b m : Int32} (e : v = a &&& m) (em : m = b ^^^ -1) (ha : 0 ≤ a.toInt) (hb : 0 ≤ b.toInt) (c : ¬ v = 0) : ¬ sub a.toInt.toNat b.toInt.toNat := by
  intro h
  apply c
  have hv := ba_andl (l := 0) (h := a.toInt) e ⟨ha, Int.le_refl _⟩ (by decide)
  have h0 : v.toInt.toNat = 0 := by
    apply Nat.eq_of_testBit_eq
    intro i
    rw [and_nat e ha, Nat.zero_testBit]
    by_cases hi : i < 31
    · rw [not_nat em i (by omega), tb_n hb]
      cases q : a.toInt.toNat.testBit i with
      | true => rw [h i q]; rfl
      | false => rfl
    · rw [big_f ha (by omega)]; rfl
  exact Int32.toInt_inj.mp (by have h00 : (0 : Int32).toInt = 0 := (by decide); omega)
/-! the least minutes by set and last house -/
def vv (f : Nat → Int32) (S l : Nat) : Int := (f (10 * S + l)).toInt
def dpA (sn : Int → Int → Int → Int) (hs : Nat → Int) (n : Nat) (f : Nat → Int32) (S l q0 : Nat) : Prop :=
  (vv f S l = -1 ∨ ∃ q, q < n ∧ (clr S l).testBit q = true ∧ vv f (clr S l) q ≠ -1 ∧ sn (hs q) (vv f (clr S l) q) (hs l) = vv f S l) ∧
  ∀ q, q < q0 → (clr S l).testBit q = true → vv f (clr S l) q ≠ -1 → sn (hs q) (vv f (clr S l) q) (hs l) ≠ -1 → vv f S l ≠ -1 ∧ vv f S l ≤ sn (hs q) (vv f (clr S l) q) (hs l)
def dpC (sn : Int → Int → Int → Int) (hs : Nat → Int) (p m : Int) (M n : Nat) (f : Nat → Int32) (S l : Nat) : Prop :=
  (S.testBit l = true ∧ sub S M → (clr S l = 0 → vv f S l = sn p m (hs l)) ∧ (clr S l ≠ 0 → dpA sn hs n f S l n)) ∧ (¬ (S.testBit l = true ∧ sub S M) → vv f S l = -1)
def dpI (sn : Int → Int → Int → Int) (hs : Nat → Int) (p m : Int) (M n : Nat) (f : Nat → Int32) (S l : Nat) : Prop := ∀ S' l', 1 ≤ S' → l' < n → (S' < S ∨ (S' = S ∧ l' < l)) → dpC sn hs p m M n f S' l'
section DP
variable {sn : Int → Int → Int → Int} {hs : Nat → Int} {p m : Int} {M n : Nat} {f g : Nat → Int32} {S l q k : Nat} {v : Int32}
theorem vv_up {S' l' : Nat} (e : upd f k v = g) (hk : k = 10 * S + l) (h : 10 * S' + l' ≠ 10 * S + l) : vv g S' l' = vv f S' l' := by
  unfold vv
  rw [← e, pk_un (by omega)]
theorem vv_at (e : upd f k v = g) (hk : k = 10 * S + l) : vv g S l = v.toInt := by
  unfold vv
  rw [← e, hk, pk_us]
theorem dp_0 (h : S ≤ 1) (hl : l = 0) : dpI sn hs p m M n f S l := fun S' l' h1 h2 h3 => by omega
theorem dp_eq {S' l' : Nat} (h : dpI sn hs p m M n f S l) (e1 : S' = S) (e2 : l' = l) : dpI sn hs p m M n f S' l' := by
  subst e1
  subst e2
  exact h
theorem dp_fr (e : upd f k v = g) (hk : k = 10 * S + l) (hn : n ≤ 10) (hl : l < n) (h : dpI sn hs p m M n f S l) : dpI sn hs p m M n g S l := by
  intro S' l' h1 h2 h3
  have hc := h S' l' h1 h2 h3
  have e0 : vv g S' l' = vv f S' l' := vv_up e hk (by omega)
  have e1 : S'.testBit l' = true → ∀ q, q < n → vv g (clr S' l') q = vv f (clr S' l') q := fun ht q hq => vv_up e hk (by have := clr_lt ht; omega)
  refine ⟨fun ht => ?_, fun ht => ?_⟩
  · obtain ⟨a, b⟩ := hc.1 ht
    refine ⟨fun z => by rw [e0]; exact a z, fun z => ?_⟩
    have A := b z
    refine ⟨?_, ?_⟩
    · rcases A.1 with A1 | ⟨q, q1, q2, q3, q4⟩
      · exact Or.inl (by rw [e0]; exact A1)
      · exact Or.inr ⟨q, q1, q2, by rw [e1 ht.1 q q1]; exact q3, by rw [e1 ht.1 q q1, e0]; exact q4⟩
    · intro q q1 q2 q3 q4
      rw [e1 ht.1 q q1] at q3 q4 ⊢
      rw [e0]
      exact A.2 q q1 q2 q3 q4
  · rw [e0]; exact hc.2 ht
theorem dp_next {l2 : Nat} (h : dpI sn hs p m M n f S l) (e : l2 = l + 1) (hc : dpC sn hs p m M n f S l) : dpI sn hs p m M n f S l2 := by
  intro S' l' h1 h2 h3
  by_cases q : S' < S ∨ (S' = S ∧ l' < l)
  · exact h S' l' h1 h2 q
  · have e1 : S' = S := by omega
    have e2 : l' = l := by omega
    subst e1
    subst e2
    exact hc
theorem dp_skip {l2 : Nat} (h : dpI sn hs p m M n f S l) (e : l2 = l + 1) (hv : vv f S l = -1) (hc : ¬ (S.testBit l = true ∧ sub S M)) : dpI sn hs p m M n f S l2 := dp_next h e ⟨fun t => absurd t hc, fun _ => hv⟩
theorem dp_one {l2 : Nat} (h : dpI sn hs p m M n f S l) (e : l2 = l + 1) (hv : vv f S l = sn p m (hs l)) (hz : clr S l = 0) (ht : S.testBit l = true ∧ sub S M) : dpI sn hs p m M n f S l2 := dp_next h e ⟨fun _ => ⟨fun _ => hv, fun w => absurd hz w⟩, fun w => absurd ht w⟩
theorem dp_end {l2 q0 : Nat} (h : dpI sn hs p m M n f S l) (e : l2 = l + 1) (hA : dpA sn hs n f S l q0) (hq : n ≤ q0) (hz : clr S l ≠ 0) (ht : S.testBit l = true ∧ sub S M) : dpI sn hs p m M n f S l2 := dp_next h e ⟨fun _ => ⟨fun w => absurd w hz, fun _ => ⟨hA.1, fun q h1 => hA.2 q (by omega)⟩⟩, fun w => absurd ht w⟩
theorem dp_row {S2 l0 : Nat} (h : dpI sn hs p m M n f S l) (hl : n ≤ l) (e : S2 = S + 1) (e0 : l0 = 0) : dpI sn hs p m M n f S2 l0 := fun S' l' h1 h2 h3 => h S' l' h1 h2 (by omega)
theorem dpA_0 (hv : vv f S l = -1) (hq : q = 0) : dpA sn hs n f S l q := ⟨Or.inl hv, fun q' h => by omega⟩
theorem dpA_skip {q2 : Nat} (h : dpA sn hs n f S l q) (e : q2 = q + 1) (c : ¬ (clr S l).testBit q = true ∨ vv f (clr S l) q = -1 ∨ sn (hs q) (vv f (clr S l) q) (hs l) = -1 ∨ (vv f S l ≠ -1 ∧ vv f S l ≤ sn (hs q) (vv f (clr S l) q) (hs l))) : dpA sn hs n f S l q2 := by
  refine ⟨h.1, fun q' h1 h2 h3 h4 => ?_⟩
  rcases (show q' < q ∨ q' = q by omega) with z | z
  · exact h.2 q' z h2 h3 h4
  · subst z
    rcases c with c | c | c | c
    · exact absurd h2 c
    · exact absurd c h3
    · exact absurd c h4
    · exact c
theorem dpA_upd {q2 : Nat} (h : dpA sn hs n f S l q) (e : q2 = q + 1) (eg : upd f k v = g) (hk : k = 10 * S + l) (hn : n ≤ 10) (hl : l < n) (ht : S.testBit l = true) (hq : q < n) (hb : (clr S l).testBit q = true) (hr : vv f (clr S l) q ≠ -1) (hv : v.toInt = sn (hs q) (vv f (clr S l) q) (hs l)) (h1 : v.toInt ≠ -1) (hc : vv f S l = -1 ∨ v.toInt < vv f S l) : dpA sn hs n g S l q2 := by
  have e0 := vv_at eg hk
  have e1 : ∀ q, q < n → vv g (clr S l) q = vv f (clr S l) q := fun q hq => vv_up eg hk (by have := clr_lt ht; omega)
  refine ⟨Or.inr ⟨q, hq, hb, by rw [e1 q hq]; exact hr, by rw [e1 q hq, e0, hv]⟩, fun q' g1 g2 g3 g4 => ?_⟩
  rw [e1 q' (by omega)] at g3 g4 ⊢
  rw [e0]
  rcases (show q' < q ∨ q' = q by omega) with z | z
  · have := h.2 q' z g2 g3 g4
    omega
  · subst z
    omega
end DP
def rn (sn : Int → Int → Int → Int) (hs : Nat → Int) : Int → Int → List Nat → Int
  | _, m, [] => m
  | p, m, l :: L => if sn p m (hs l) = -1 then -1 else rn sn hs (hs l) (sn p m (hs l)) L
def lst (hs : Nat → Int) : Int → List Nat → Int
  | p, [] => p
  | _, l :: L => lst hs (hs l) L
def isO (S : Nat) (L : List Nat) : Prop := L.Nodup ∧ ∀ i, i ∈ L ↔ S.testBit i = true
def snR (sn : Int → Int → Int → Int) : Prop := ∀ p m h, 0 ≤ m → sn p m h = -1 ∨ 0 ≤ sn p m h
def snM (sn : Int → Int → Int → Int) : Prop := ∀ p m m' h, 0 ≤ m → m ≤ m' → sn p m' h ≠ -1 → sn p m h ≠ -1 ∧ sn p m h ≤ sn p m' h
section ORD
variable {sn : Int → Int → Int → Int} {hs : Nat → Int} {p m : Int} {M n N : Nat} {f : Nat → Int32} {S l : Nat} {L : List Nat}
theorem rn_app (hr : snR sn) (L : List Nat) (l : Nat) : ∀ p m, 0 ≤ m → rn sn hs p m (L ++ [l]) = if rn sn hs p m L = -1 then -1 else sn (lst hs p L) (rn sn hs p m L) (hs l) := by
  induction L with
  | nil =>
    intro p m h0
    show (if sn p m (hs l) = -1 then -1 else sn p m (hs l)) = if m = -1 then -1 else sn p m (hs l)
    rw [if_neg (show ¬ m = -1 by omega)]
    split
    · next q => exact q.symm
    · rfl
  | cons a L ih =>
    intro p m h0
    show (if sn p m (hs a) = -1 then -1 else rn sn hs (hs a) (sn p m (hs a)) (L ++ [l])) = if (if sn p m (hs a) = -1 then -1 else rn sn hs (hs a) (sn p m (hs a)) L) = -1 then -1 else sn (lst hs (hs a) L) (if sn p m (hs a) = -1 then -1 else rn sn hs (hs a) (sn p m (hs a)) L) (hs l)
    by_cases q : sn p m (hs a) = -1
    · rw [if_pos q, if_pos q, if_pos rfl]
    · rw [if_neg q, if_neg q]
      exact ih _ _ (by have := hr p m (hs a) h0; omega)
theorem lst_app (L : List Nat) (l : Nat) : ∀ p, lst hs p (L ++ [l]) = hs l := by
  induction L with
  | nil => intro p; rfl
  | cons a L ih => intro p; exact ih _
theorem isO_cons (h : isO S (l :: L)) : S.testBit l = true ∧ isO (clr S l) L := by
  have hl : S.testBit l = true := (h.2 l).mp (List.mem_cons_self ..)
  obtain ⟨h1, h2⟩ := List.nodup_cons.mp h.1
  refine ⟨hl, h2, fun i => ?_⟩
  rw [clr_bit]
  constructor
  · intro hi
    have h3 := (h.2 i).mp (List.mem_cons_of_mem _ hi)
    have h4 : ¬ l = i := fun q => h1 (q ▸ hi)
    simp [h3, h4]
  · intro hi
    simp at hi
    have h3 := (h.2 i).mpr hi.1
    rcases List.mem_cons.mp h3 with q | q
    · exact absurd q.symm hi.2
    · exact q
theorem isO_mk (hl : S.testBit l = true) (h : isO (clr S l) L) : isO S (l :: L) := by
  have h0 : (clr S l).testBit l = false := by rw [clr_bit]; simp
  refine ⟨List.nodup_cons.mpr ⟨fun q => ?_, h.1⟩, fun i => ?_⟩
  · have := (h.2 l).mp q
    rw [h0] at this
    cases this
  · constructor
    · intro hi
      rcases List.mem_cons.mp hi with q | q
      · rw [q]; exact hl
      · have := (h.2 i).mp q
        rw [clr_bit] at this
        simp at this
        exact this.1
    · intro hi
      by_cases q : i = l
      · rw [q]; exact List.mem_cons_self ..
      · refine List.mem_cons_of_mem _ ((h.2 i).mpr ?_)
        rw [clr_bit, hi]
        simp
        exact fun w => q w.symm
theorem isO_perm {L' : List Nat} (e : ∀ i, i ∈ L' ↔ i ∈ L) (hd : L'.Nodup) (h : isO S L) : isO S L' := ⟨hd, fun i => (e i).trans (h.2 i)⟩
theorem nd_app {L : List Nat} {l : Nat} : (L ++ [l]).Nodup ↔ (l :: L).Nodup := by
  constructor
  · intro h
    have h2 := List.nodup_append.mp h
    exact List.nodup_cons.mpr ⟨fun q => h2.2.2 l q l (by simp) rfl, h2.1⟩
  · intro h
    have h2 := List.nodup_cons.mp h
    refine List.nodup_append.mpr ⟨h2.2, by simp, fun a ha b hb e => ?_⟩
    rw [List.mem_singleton] at hb
    subst hb
    subst e
    exact h2.1 ha
theorem isO_app : isO S (L ++ [l]) ↔ isO S (l :: L) := by
  have e : ∀ i, i ∈ L ++ [l] ↔ i ∈ l :: L := fun i => by simp [or_comm]
  exact ⟨fun h => isO_perm (fun i => (e i).symm) (nd_app.mp h.1) h, fun h => isO_perm e (nd_app.mpr h.1) h⟩
theorem isO_0 (h : isO 0 L) : L = [] := by
  cases L with
  | nil => rfl
  | cons a L =>
    have := (h.2 a).mp (List.mem_cons_self ..)
    simp at this
theorem isO_nil : isO 0 [] := ⟨List.nodup_nil, fun i => by simp⟩
theorem sub_clr (h : sub S M) : sub (clr S l) M := fun i hi => by
  rw [clr_bit] at hi
  simp at hi
  exact h i hi.1
theorem ne0_bit {q : Nat} (h : S.testBit q = true) : 1 ≤ S := by
  rcases Nat.eq_zero_or_pos S with z | z
  · rw [z] at h; simp at h
  · exact z
theorem dp_sound (hr : snR sn) (hm0 : 0 ≤ m) (H : ∀ S l, 1 ≤ S → S < N → l < n → dpC sn hs p m M n f S l) : ∀ S, 1 ≤ S → S < N → ∀ l, l < n → vv f S l ≠ -1 → ∃ L, isO S (L ++ [l]) ∧ rn sn hs p m (L ++ [l]) = vv f S l := by
  intro S
  induction S using Nat.strongRecOn with
  | ind S ih =>
    intro h1 hN l hl hv
    have hc := H S l h1 hN hl
    have ht : S.testBit l = true ∧ sub S M := Classical.byContradiction (fun q => hv (hc.2 q))
    obtain ⟨c1, c2⟩ := hc.1 ht
    by_cases z : clr S l = 0
    · refine ⟨[], isO_mk ht.1 (by rw [z]; exact isO_nil), ?_⟩
      have e := c1 z
      show (if sn p m (hs l) = -1 then -1 else sn p m (hs l)) = vv f S l
      rw [if_neg (by rw [← e]; exact hv), e]
    · obtain ⟨A, -⟩ := c2 z
      rcases A with A | ⟨q, q1, q2, q3, q4⟩
      · exact absurd A hv
      · obtain ⟨L, g1, g2⟩ := ih (clr S l) (clr_lt ht.1) (ne0_bit q2) (by have := clr_lt ht.1; omega) q q1 q3
        refine ⟨L ++ [q], isO_app.mpr (isO_mk ht.1 g1), ?_⟩
        rw [rn_app hr (L ++ [q]) l p m hm0, g2, if_neg q3, lst_app]
        exact q4
theorem dp_comp (hr : snR sn) (hM : snM sn) (hm0 : 0 ≤ m) (hf : ∀ j, -1 ≤ (f j).toInt) (hb : ∀ S, S < N → ∀ i, S.testBit i = true → i < n) (H : ∀ S l, 1 ≤ S → S < N → l < n → dpC sn hs p m M n f S l) : ∀ S, 1 ≤ S → S < N → sub S M → ∀ l L, isO S (L ++ [l]) → rn sn hs p m (L ++ [l]) ≠ -1 → vv f S l ≠ -1 ∧ vv f S l ≤ rn sn hs p m (L ++ [l]) := by
  intro S
  induction S using Nat.strongRecOn with
  | ind S ih =>
    intro h1 hN hs1 l L hO hne
    obtain ⟨hl, hO2⟩ := isO_cons (isO_app.mp hO)
    have hln := hb S hN l hl
    obtain ⟨c1, c2⟩ := (H S l h1 hN hln).1 ⟨hl, hs1⟩
    rw [rn_app hr L l p m hm0] at hne ⊢
    rcases List.eq_nil_or_concat L with e | ⟨L', q, e0⟩
    · subst e
      have z : clr S l = 0 := by
        apply Nat.eq_of_testBit_eq
        intro i
        rw [Nat.zero_testBit]
        cases h : (clr S l).testBit i with
        | false => rfl
        | true => have := (hO2.2 i).mpr h; cases this
      have e2 : rn sn hs p m [] = m := rfl
      have e3 : lst hs p [] = p := rfl
      rw [e2, if_neg (show ¬ m = -1 by omega), e3] at hne ⊢
      rw [c1 z]
      exact ⟨hne, Int.le_refl _⟩
    · have e : L = L' ++ [q] := by rw [e0]; simp
      rw [e] at hO2 hne ⊢
      have hq : (clr S l).testBit q = true := (hO2.2 q).mp (by simp)
      have hqn : q < n := hb S hN q (by rw [clr_bit] at hq; simp at hq; exact hq.1)
      have z : clr S l ≠ 0 := fun w => by rw [w] at hq; simp at hq
      have hx : rn sn hs p m (L' ++ [q]) ≠ -1 := fun w => hne (by rw [w, if_pos rfl])
      rw [if_neg hx, lst_app] at hne ⊢
      obtain ⟨i1, i2⟩ := ih (clr S l) (clr_lt hl) (ne0_bit hq) (by have := clr_lt hl; omega) (sub_clr hs1) q L' hO2 hx
      have h0 : 0 ≤ vv f (clr S l) q := by
        have := hf (10 * clr S l + q)
        unfold vv at i1 ⊢
        omega
      obtain ⟨m1, m2⟩ := hM (hs q) _ _ (hs l) h0 i2 hne
      obtain ⟨d1, d2⟩ := (c2 z).2 q hqn hq i1 m1
      exact ⟨d1, Int.le_trans d2 m2⟩
end ORD
/-- the least of a set's minutes -/
def mnO (f : Nat → Int32) (S n : Nat) (r : Int) : Prop := (r = -1 ∧ ∀ l, l < n → vv f S l = -1) ∨ (r ≠ -1 ∧ (∃ l, l < n ∧ vv f S l = r) ∧ ∀ l, l < n → vv f S l = -1 ∨ r ≤ vv f S l)
theorem mn_0 {f : Nat → Int32} {S n : Nat} {r : Int} (h : n = 0) (e : r = -1) : mnO f S n r := Or.inl ⟨e, fun l hl => by omega⟩
theorem mn_s {f : Nat → Int32} {S n n2 : Nat} {r r2 : Int} (h : mnO f S n r) (e : n2 = n + 1) (c : (r2 = r ∧ (vv f S n = -1 ∨ (r ≠ -1 ∧ r ≤ vv f S n))) ∨ (r2 = vv f S n ∧ vv f S n ≠ -1 ∧ (r = -1 ∨ vv f S n < r))) : mnO f S n2 r2 := by
  subst e
  rcases c with ⟨c1, c2⟩ | ⟨c1, c2, c3⟩
  · subst c1
    rcases h with h | h
    · refine Or.inl ⟨h.1, fun l hl => ?_⟩
      rcases (show l < n ∨ l = n by omega) with z | z
      · exact h.2 l z
      · subst z
        rcases c2 with c2 | c2
        · exact c2
        · exact absurd h.1 c2.1
    · obtain ⟨h1, ⟨l0, h2, h3⟩, h4⟩ := h
      refine Or.inr ⟨h1, ⟨l0, by omega, h3⟩, fun l hl => ?_⟩
      rcases (show l < n ∨ l = n by omega) with z | z
      · exact h4 l z
      · subst z
        rcases c2 with c2 | c2
        · exact Or.inl c2
        · exact Or.inr c2.2
  · subst c1
    refine Or.inr ⟨c2, ⟨n, Nat.lt_succ_self n, rfl⟩, fun l hl => ?_⟩
    rcases (show l < n ∨ l = n by omega) with z | z
    · rcases h with h | h
      · exact Or.inl (h.2 l z)
      · rcases h.2.2 l z with w | w
        · exact Or.inl w
        · right
          have := h.1
          omega
    · subst z
      exact Or.inr (Int.le_refl _)
/-- v is the least minute at which a set can be over -/
def FM (sn : Int → Int → Int → Int) (hs : Nat → Int) (p m : Int) (S : Nat) (v : Int) : Prop := (∃ L, isO S L ∧ rn sn hs p m L = v) ∧ ∀ L, isO S L → rn sn hs p m L ≠ -1 → v ≤ rn sn hs p m L
def gd (sn : Int → Int → Int → Int) (hs : Nat → Int) (p m : Int) (S : Nat) (b : Int) (l : Nat) : Prop := sn p m (hs l) ≠ -1 ∧ ∃ L, isO (clr S l) L ∧ rn sn hs (hs l) (sn p m (hs l)) L = b
section ROW
variable {sn : Int → Int → Int → Int} {hs : Nat → Int} {p m b r : Int} {M n N : Nat} {f : Nat → Int32} {S l : Nat}
theorem ne_bit (h : S ≠ 0) : ∃ i, S.testBit i = true := Nat.exists_testBit_of_ne_zero h
theorem isO_ne {L : List Nat} (h : isO S L) (hS : 1 ≤ S) : ∃ L' l, L = L' ++ [l] := by
  rcases List.eq_nil_or_concat L with e | ⟨L', q, e⟩
  · obtain ⟨i, hi⟩ := ne_bit (S := S) (by omega)
    have := (h.2 i).mpr hi
    rw [e] at this
    cases this
  · exact ⟨L', q, by rw [e]; simp⟩
theorem fm_of (hr : snR sn) (hM : snM sn) (hm0 : 0 ≤ m) (hf : ∀ j, -1 ≤ (f j).toInt) (hb : ∀ S, S < N → ∀ i, S.testBit i = true → i < n) (H : ∀ S l, 1 ≤ S → S < N → l < n → dpC sn hs p m M n f S l) (h1 : 1 ≤ S) (hN : S < N) (hs1 : sub S M) (hO : mnO f S n r) (hne : r ≠ -1) : FM sn hs p m S r := by
  rcases hO with hO | ⟨-, ⟨l, hl, e⟩, h3⟩
  · exact absurd hO.1 hne
  · constructor
    · obtain ⟨L, g1, g2⟩ := dp_sound hr hm0 H S h1 hN l hl (by rw [e]; exact hne)
      exact ⟨L ++ [l], g1, by rw [g2, e]⟩
    · intro L g1 g2
      obtain ⟨L', q, e2⟩ := isO_ne g1 h1
      subst e2
      obtain ⟨k1, k2⟩ := dp_comp hr hM hm0 hf hb H S h1 hN hs1 q L' g1 g2
      have hq := hb S hN q ((g1.2 q).mp (by simp))
      rcases h3 q hq with w | w
      · exact absurd w k1
      · exact Int.le_trans w k2
theorem fm_no (hr : snR sn) (hM : snM sn) (hm0 : 0 ≤ m) (hf : ∀ j, -1 ≤ (f j).toInt) (hb : ∀ S, S < N → ∀ i, S.testBit i = true → i < n) (H : ∀ S l, 1 ≤ S → S < N → l < n → dpC sn hs p m M n f S l) (h1 : 1 ≤ S) (hN : S < N) (hs1 : sub S M) (hO : mnO f S n (-1)) {L : List Nat} (g1 : isO S L) : rn sn hs p m L = -1 := by
  apply Classical.byContradiction
  intro g2
  rcases hO with hO | hO
  · obtain ⟨L', q, e2⟩ := isO_ne g1 h1
    subst e2
    obtain ⟨k1, k2⟩ := dp_comp hr hM hm0 hf hb H S h1 hN hs1 q L' g1 g2
    exact k1 (hO.2 q (hb S hN q ((g1.2 q).mp (by simp))))
  · exact hO.1 rfl
theorem fm_first (h : FM sn hs p m S b) (hS : S ≠ 0) (hb : b ≠ -1) : ∃ l, S.testBit l = true ∧ gd sn hs p m S b l := by
  obtain ⟨⟨L, g1, g2⟩, -⟩ := h
  cases L with
  | nil =>
    obtain ⟨i, hi⟩ := ne_bit hS
    have := (g1.2 i).mpr hi
    cases this
  | cons l L =>
    obtain ⟨k1, k2⟩ := isO_cons g1
    have g3 : (if sn p m (hs l) = -1 then -1 else rn sn hs (hs l) (sn p m (hs l)) L) = b := g2
    by_cases q : sn p m (hs l) = -1
    · rw [if_pos q] at g3
      exact absurd g3.symm hb
    · rw [if_neg q] at g3
      exact ⟨l, k1, q, L, k2, g3⟩
theorem fm_step (h : FM sn hs p m S b) (hl : S.testBit l = true) (hg : gd sn hs p m S b l) : FM sn hs (hs l) (sn p m (hs l)) (clr S l) b := by
  refine ⟨hg.2, fun L g1 g2 => ?_⟩
  have e : rn sn hs p m (l :: L) = rn sn hs (hs l) (sn p m (hs l)) L := by
    show (if sn p m (hs l) = -1 then -1 else rn sn hs (hs l) (sn p m (hs l)) L) = _
    rw [if_neg hg.1]
  have := h.2 (l :: L) (isO_mk hl g1)
  rw [e] at this
  exact this g2
theorem gd_0 (hz : clr S l = 0) (hv : sn p m (hs l) ≠ -1) : gd sn hs p m S b l ↔ sn p m (hs l) = b := by
  constructor
  · intro h
    obtain ⟨L, g1, g2⟩ := h.2
    rw [hz] at g1
    rw [isO_0 g1] at g2
    exact g2
  · intro h
    exact ⟨hv, [], by rw [hz]; exact isO_nil, h⟩
theorem gd_1 (hr : snR sn) (hM : snM sn) (hf : ∀ j, -1 ≤ (f j).toInt) (hb : ∀ S, S < N → ∀ i, S.testBit i = true → i < n) (hm0 : 0 ≤ m) (hl : S.testBit l = true) (hv : sn p m (hs l) ≠ -1) (H : ∀ S' l', 1 ≤ S' → S' < N → l' < n → dpC sn hs (hs l) (sn p m (hs l)) (clr S l) n f S' l') (hz : clr S l ≠ 0) (hN : clr S l < N) (hO : mnO f (clr S l) n r) (hF : FM sn hs p m S b) (hb1 : b ≠ -1) : gd sn hs p m S b l ↔ r = b := by
  have h0 : 0 ≤ sn p m (hs l) := by have := hr p m (hs l) hm0; omega
  have hsb : sub (clr S l) (clr S l) := fun i h => h
  constructor
  · intro hg
    obtain ⟨L, g1, g2⟩ := hg.2
    by_cases q : r = -1
    · rw [q] at hO
      have := fm_no hr hM h0 hf hb H (by omega) hN hsb hO g1
      exact absurd (g2.symm.trans this) hb1
    · obtain ⟨⟨L2, k1, k2⟩, k3⟩ := fm_of hr hM h0 hf hb H (by omega) hN hsb hO q
      have a1 := k3 L g1 (by rw [g2]; exact hb1)
      have e : rn sn hs p m (l :: L2) = r := by
        show (if sn p m (hs l) = -1 then -1 else rn sn hs (hs l) (sn p m (hs l)) L2) = r
        rw [if_neg hv, k2]
      have a2 := hF.2 (l :: L2) (isO_mk hl k1) (by rw [e]; exact q)
      omega
  · intro e
    subst e
    obtain ⟨⟨L2, k1, k2⟩, -⟩ := fm_of hr hM h0 hf hb H (by omega) hN hsb hO hb1
    exact ⟨hv, L2, k1, k2⟩
end ROW
/-! when a house is seen -/
def hE (f : Nat → Int32) (h : Int) (k : Nat) : Int := (f (10 + k + 9 * h.toNat)).toInt
def mnF (f : Nat → Int32) (a b : Int) : Int := ((hE f a 0 - hE f b 0).natAbs : Int) + ((hE f a 1 - hE f b 1).natAbs : Int)
def snF (f fb : Nat → Int32) (d p m h : Int) : Int :=
  if (fb h.toNat).toInt = 0 then (if 180 < m + mnF f p h then -1 else m + mnF f p h)
  else if ¬ d % 7 = hE f h 3 then -1
  else if hE f h 5 < max (m + mnF f p h) (hE f h 4) + 15 then -1
  else if 180 < max (m + mnF f p h) (hE f h 4) + 15 then -1 else max (m + mnF f p h) (hE f h 4) + 15
def hsF (fh : Nat → Int32) (l : Nat) : Int := (fh l).toInt
theorem mnF_0 (f : Nat → Int32) (a b : Int) : 0 ≤ mnF f a b := by
  unfold mnF
  omega
theorem snF_R (f fb : Nat → Int32) (d : Int) : snR (snF f fb d) := by
  intro p m h h0
  have hp := mnF_0 f p h
  unfold snF
  repeat' split
  all_goals omega
theorem snF_M (f fb : Nat → Int32) (d : Int) : snM (snF f fb d) := by
  intro p m m' h h0 hm hne
  have hp := mnF_0 f p h
  unfold snF at hne ⊢
  by_cases c0 : (fb h.toNat).toInt = 0
  · rw [if_pos c0] at hne
    rw [if_pos c0, if_pos c0]
    by_cases c1 : 180 < m' + mnF f p h
    · rw [if_pos c1] at hne; exact absurd rfl hne
    · rw [if_neg c1, if_neg (show ¬ 180 < m + mnF f p h by omega)]
      omega
  · rw [if_neg c0] at hne
    rw [if_neg c0, if_neg c0]
    by_cases c1 : ¬ d % 7 = hE f h 3
    · rw [if_pos c1] at hne; exact absurd rfl hne
    · rw [if_neg c1] at hne
      rw [if_neg c1, if_neg c1]
      by_cases c2 : hE f h 5 < max (m' + mnF f p h) (hE f h 4) + 15
      · rw [if_pos c2] at hne; exact absurd rfl hne
      · rw [if_neg c2] at hne
        rw [if_neg c2, if_neg (show ¬ hE f h 5 < max (m + mnF f p h) (hE f h 4) + 15 by omega)]
        by_cases c3 : 180 < max (m' + mnF f p h) (hE f h 4) + 15
        · rw [if_pos c3] at hne; exact absurd rfl hne
        · rw [if_neg c3, if_neg (show ¬ 180 < max (m + mnF f p h) (hE f h 4) + 15 by omega)]
          omega
theorem rem_q {v a b : Int32} (e : v = a - a / b * b) (ha : 0 ≤ a.toInt) (hb : b = nI 7) : v.toInt = a.toInt % 7 := by
  obtain ⟨n, h1, h2, h3⟩ := ix_nI (x := a) (l := 0) (h := a.toInt) ⟨ha, Int.le_refl _⟩ (by decide)
  rw [h1, hb, pk_rem (by omega) (by decide) (by decide)] at e
  have h4 : n % 7 < 7 := Nat.mod_lt _ (by decide)
  rw [e, nI_toInt (by omega)]
  omega
theorem mx_q {v x y : Int32} (e : v = if x < y then y else x) : v.toInt = max x.toInt y.toInt := by
  split at e
  · next c => have := Int32.lt_iff_toInt_lt.mp c; rw [e]; omega
  · next c => have := Int.not_lt.mp (fun q => c (Int32.lt_iff_toInt_lt.mpr q)); rw [e]; omega
theorem ld_n {v x : Int32} {f : Nat → Int32} (e : v = f x.toNatClampNeg) (h : 0 ≤ x.toInt) : (f x.toInt.toNat).toInt = v.toInt := by rw [e, cl_nat h]
theorem vv_ld {w : Int32} {f : Nat → Int32} {k S l : Nat} (e : w = f k) (hk : k = 10 * S + l) : vv f S l = w.toInt := by
  unfold vv
  rw [e, hk]
theorem nz_of {x : Int32} (h : x.toInt.toNat = 0) (h0 : 0 ≤ x.toInt) : x = 0 := Int32.toInt_inj.mp (by have h00 : (0 : Int32).toInt = 0 := (by decide); omega)
theorem dp_w {sn : Int → Int → Int → Int} {hs : Nat → Int} {p m : Int} {M n N S l l0 : Nat} {f : Nat → Int32} (h : dpI sn hs p m M n f S l) (hS : N ≤ S) (e : l0 = 0) : dpI sn hs p m M n f N l0 := fun S' l' h1 h2 h3 => h S' l' h1 h2 (by omega)
theorem dp_all {sn : Int → Int → Int → Int} {hs : Nat → Int} {p m : Int} {M n N : Nat} {f : Nat → Int32} (h : dpI sn hs p m M n f N 0) : ∀ S l, 1 ≤ S → S < N → l < n → dpC sn hs p m M n f S l := fun S l h1 h2 h3 => h S l h1 h3 (Or.inl h2)
theorem lt_bit (n : Nat) : ∀ S, S < 2 ^ n → ∀ i, S.testBit i = true → i < n := by
  intro S hS i hi
  have h1 := Nat.ge_two_pow_of_testBit hi
  rcases Nat.lt_or_ge i n with q | q
  · exact q
  · have := Nat.pow_le_pow_right (show 0 < 2 by decide) q
    omega
theorem sub_all {S M n : Nat} (hS : S < 2 ^ n) (hM : M = 2 ^ n - 1) : sub S M := by
  intro i hi
  rw [hM, Nat.testBit_two_pow_sub_one]
  exact decide_eq_true (lt_bit n S hS i hi)
theorem cb_clr {S l n : Nat} (h : S.testBit l = true) (hl : l < n) : cb n S = cb n (clr S l) + 1 := by
  have h0 : (clr S l).testBit l = false := by rw [clr_bit]; simp
  have e : clr S l ||| 2 ^ l = S := by
    apply Nat.eq_of_testBit_eq
    intro i
    rw [Nat.testBit_or, clr_bit, Nat.testBit_two_pow]
    by_cases q : l = i
    · subst q; rw [h]; simp
    · simp [q]
  have := cb_or_eq n (clr S l) l h0
  rw [e, if_pos hl] at this
  exact this
theorem cb_10 {x : Nat} (h : x < 1024) : cb 16 x ≤ 10 := by
  have hb : ∀ i, 10 ≤ i → x.testBit i = false := fun i hi => Nat.testBit_lt_two_pow (by have := Nat.pow_le_pow_right (show 0 < 2 by decide) hi; omega)
  have e : cb 16 x = cb 10 x := by
    show cb 10 x + _ + _ + _ + _ + _ + _ = cb 10 x
    rw [hb 10 (by decide), hb 11 (by decide), hb 12 (by decide), hb 13 (by decide), hb 14 (by decide), hb 15 (by decide)]
    rfl
  rw [e]
  exact cb_le 10 x
/-- the house that goes next, as far as it was looked for -/
def nxt (sn : Int → Int → Int → Int) (hs : Nat → Int) (p m : Int) (S : Nat) (b : Int) (n l : Nat) (x w : Int) : Prop := (x = -1 ∧ ∀ l', l' < l → S.testBit l' = true → ¬ gd sn hs p m S b l') ∨ (0 ≤ x ∧ x < (n : Int) ∧ S.testBit x.toNat = true ∧ gd sn hs p m S b x.toNat ∧ w = sn p m (hs x.toNat))
section NXT
variable {sn : Int → Int → Int → Int} {hs : Nat → Int} {p m b w w2 x x2 : Int} {S n l l2 : Nat}
theorem nx_0 (hx : x = -1) (hl : l = 0) : nxt sn hs p m S b n l x w := Or.inl ⟨hx, fun l' h => by omega⟩
theorem nx_no (h : nxt sn hs p m S b n l x w) (hx : x = -1) (e : l2 = l + 1) (c : S.testBit l = true → ¬ gd sn hs p m S b l) : nxt sn hs p m S b n l2 x w := by
  rcases h with h | h
  · refine Or.inl ⟨hx, fun l' h1 h2 => ?_⟩
    rcases (show l' < l ∨ l' = l by omega) with z | z
    · exact h.2 l' z h2
    · subst z; exact c h2
  · omega
theorem nx_yes (e : x = (l : Int)) (hl : l < n) (ht : S.testBit l = true) (hg : gd sn hs p m S b l) (hw : w = sn p m (hs l)) : nxt sn hs p m S b n l2 x w := by
  refine Or.inr ⟨by omega, by omega, ?_⟩
  rw [show x.toNat = l by omega]
  exact ⟨ht, hg, hw⟩
theorem nx_end (h : nxt sn hs p m S b n l x w) (c : n ≤ l ∨ x ≠ -1) (hF : FM sn hs p m S b) (hb : b ≠ -1) (hS : S ≠ 0) (hn : ∀ i, S.testBit i = true → i < n) : 0 ≤ x ∧ x < (n : Int) ∧ S.testBit x.toNat = true ∧ FM sn hs (hs x.toNat) w (clr S x.toNat) b := by
  rcases h with h | h
  · exfalso
    obtain ⟨l0, g1, g2⟩ := fm_first hF hS hb
    have := hn l0 g1
    exact h.2 l0 (by omega) g1 g2
  · refine ⟨h.1, h.2.1, h.2.2.1, ?_⟩
    rw [h.2.2.2.2]
    exact fm_step hF h.2.2.1 h.2.2.2.1
end NXT
/-! chains -/
def itr (fp : Nat → Int32) : Nat → Nat → Nat
  | 0, x => x
  | c + 1, x => (fp (itr fp c x)).toInt.toNat
def PQ (fp fq : Nat → Int32) (e : Int) : Prop := ∀ j : Nat, (j : Int) < e → (fp j).toInt = -1 ∨ (0 ≤ (fp j).toInt ∧ (fp j).toInt < (j : Int) ∧ cb 16 (fq (fp j).toInt.toNat).toInt.toNat + 1 ≤ cb 16 (fq j).toInt.toNat)
def ct (f : Nat → Int32) : Nat → Nat
  | 0 => 0
  | n + 1 => ct f n + (if (f n).toInt = 0 then 0 else 1)
theorem ct_le (f : Nat → Int32) (n : Nat) : ct f n ≤ n := by
  induction n with
  | zero => exact Nat.le_refl _
  | succ n ih =>
    unfold ct
    split <;> omega
theorem ct_lt {f : Nat → Int32} {k : Nat} (h : (f k).toInt = 0) : ∀ n, k < n → ct f n < n := by
  intro n
  induction n with
  | zero => intro h; omega
  | succ n ih =>
    intro hk
    unfold ct
    rcases (show k < n ∨ k = n by omega) with z | z
    · have := ih z
      split <;> omega
    · subst z
      rw [if_pos h]
      have := ct_le f k
      omega
theorem ct_up {f g : Nat → Int32} {k : Nat} {v : Int32} (e : upd f k v = g) (h : (f k).toInt = 0) (hv : v.toInt ≠ 0) : ∀ n, ct g n = ct f n + (if k < n then 1 else 0) := by
  intro n
  induction n with
  | zero => rfl
  | succ n ih =>
    unfold ct
    rw [ih]
    by_cases q : n = k
    · subst q
      have e1 : (g n).toInt = v.toInt := by rw [← e, pk_us]
      rw [e1, h, if_neg hv, if_pos rfl, if_neg (Nat.lt_irrefl n), if_pos (Nat.lt_succ_self n)]
    · have e1 : g n = f n := by rw [← e, pk_un q]
      rw [e1]
      by_cases q2 : k < n
      · rw [if_pos q2, if_pos (show k < n + 1 by omega)]; omega
      · rw [if_neg q2, if_neg (show ¬ k < n + 1 by omega)]; omega
theorem ct_z {f : Nat → Int32} (h : ∀ j, j < 65536 → (f j).toInt = 0) : ∀ n, n ≤ 65536 → ct f n = 0 := by
  intro n
  induction n with
  | zero => intro _; rfl
  | succ n ih =>
    intro hn
    unfold ct
    rw [ih (by omega), if_pos (h n (by omega))]
theorem dpA_eq {sn : Int → Int → Int → Int} {hs : Nat → Int} {n S l q q2 : Nat} {f : Nat → Int32} (h : dpA sn hs n f S l q) (e : q2 = q) : dpA sn hs n f S l q2 := by
  subst e
  exact h
theorem mn_eq {f : Nat → Int32} {S n n2 : Nat} {r : Int} (h : mnO f S n r) (e : n2 = n) : mnO f S n2 r := by
  subst e
  exact h
theorem nx_eq {sn : Int → Int → Int → Int} {hs : Nat → Int} {p m b w x : Int} {S n l l2 : Nat} (h : nxt sn hs p m S b n l x w) (e : l2 = l) : nxt sn hs p m S b n l2 x w := by
  subst e
  exact h
theorem cb_t {x n : Nat} (h : x.testBit n = true) : cb (n + 1) x = cb n x + 1 := by
  show cb n x + (if x.testBit n then 1 else 0) = _
  rw [h]
  rfl
theorem cb_le2 (x : Nat) {a b : Nat} (h : a ≤ b) : cb a x ≤ cb b x := by
  induction b with
  | zero => rw [Nat.le_zero.mp h]; exact Nat.le_refl _
  | succ b ih =>
    rcases (show a ≤ b ∨ a = b + 1 by omega) with z | z
    · exact Nat.le_trans (ih z) (cb_mono b x)
    · rw [z]; exact Nat.le_refl _
theorem cb_orI {v a b k : Int32} (e : v = a ||| b) (eb : b = (1 : Int32) <<< (k &&& 31)) (ha : 0 ≤ a.toInt) (hk : 0 ≤ k.toInt ∧ k.toInt ≤ 15) : (cb 16 v.toInt.toNat : Int) ≤ (cb 16 a.toInt.toNat : Int) + 1 := by
  obtain ⟨q1, q2⟩ := shl_nat eb (by omega)
  rw [or_nat e ha q2, q1]
  have := cb_or_le 16 a.toInt.toNat k.toInt.toNat
  omega
theorem cb_orE {v a b k : Int32} (e : v = a ||| b) (eb : b = (1 : Int32) <<< (k &&& 31)) (ha : 0 ≤ a.toInt) (hk : 0 ≤ k.toInt ∧ k.toInt ≤ 15) (h : bq a k = 0) : cb 16 v.toInt.toNat = cb 16 a.toInt.toNat + 1 := by
  obtain ⟨q1, q2⟩ := shl_nat eb (by omega)
  rw [or_nat e ha q2, q1, cb_or_eq 16 _ _ (bq_f h), if_pos (by omega)]
theorem it_0 {f : Nat → Int32} {c x : Nat} (hc : c = 0) : x = itr f c x := by
  subst hc
  rfl
theorem it_s {f : Nat → Int32} {c c2 x k : Nat} {v : Int} (h : k = itr f c x) (e : c2 = c + 1) (hv : (f k).toInt = v) : v.toNat = itr f c2 x := by
  subst e
  show v.toNat = (f (itr f c x)).toInt.toNat
  rw [← h, hv]
theorem it_pos {f : Nat → Int32} {k x : Nat} {C n : Int} (hk : k = itr f (C - n).toNat x) (hE : (f (itr f C.toNat x)).toInt = -1) (hv : (f k).toInt ≠ -1) (h0 : 0 ≤ n) : 1 ≤ n := by
  rcases (show n = 0 ∨ 1 ≤ n by omega) with z | z
  · exfalso
    apply hv
    rw [hk, show (C - n).toNat = C.toNat by omega]
    exact hE
  · exact z
theorem pq_at {fp fq : Nat → Int32} {e : Int} {k v : Int32} (h : PQ fp fq e) (hk : 0 ≤ k.toInt ∧ k.toInt < e) (ev : v = fp k.toNatClampNeg) (hv : v.toInt ≠ -1) : 0 ≤ v.toInt ∧ v.toInt < k.toInt ∧ (cb 16 (fq v.toInt.toNat).toInt.toNat : Int) + 1 ≤ (cb 16 (fq k.toInt.toNat).toInt.toNat : Int) := by
  have e1 := ld_n ev hk.1
  have h1 := h k.toInt.toNat (by omega)
  rw [e1] at h1
  rcases h1 with h1 | h1
  · exact absurd h1 hv
  · omega
theorem pq_1 {fp fq : Nat → Int32} {e : Int} (h : (fp 0).toInt = -1) (he : e = 1) : PQ fp fq e := fun j hj => by
  rw [show j = 0 by omega]
  exact Or.inl h
theorem pq_s {fp fq gp gq : Nat → Int32} {e e2 : Int} {k k2 : Nat} {b s : Int32} (h : PQ fp fq e) (hp : upd fp k b = gp) (hq : upd fq k2 s = gq) (hk : (k : Int) = e) (hk2 : (k2 : Int) = e) (hb : 0 ≤ b.toInt ∧ b.toInt < e) (hc : cb 16 (fq b.toInt.toNat).toInt.toNat + 1 ≤ cb 16 s.toInt.toNat) (he : e2 = e + 1) : PQ gp gq e2 := by
  intro j hj
  rcases (show (j : Int) < e ∨ j = k by omega) with z | z
  · have e1 : gp j = fp j := by rw [← hp, pk_un (by omega)]
    have e2 : gq j = fq j := by rw [← hq, pk_un (by omega)]
    rw [e1, e2]
    rcases h j z with w | ⟨w1, w2, w3⟩
    · exact Or.inl w
    · have e3 : gq (fp j).toInt.toNat = fq (fp j).toInt.toNat := by rw [← hq, pk_un (by omega)]
      exact Or.inr ⟨w1, w2, by rw [e3]; exact w3⟩
  · subst z
    have e1 : gp j = b := by rw [← hp, pk_us]
    have e2 : gq j = s := by rw [← hq, show j = k2 by omega, pk_us]
    have e3 : gq b.toInt.toNat = fq b.toInt.toNat := by rw [← hq, pk_un (by omega)]
    rw [e1, e2, e3]
    exact Or.inr ⟨hb.1, by omega, hc⟩
theorem pq_eq {fp fq : Nat → Int32} {e e2 : Int} (h : PQ fp fq e) (he : e2 = e) : PQ fp fq e2 := by
  subst he
  exact h
theorem ct_one {f g : Nat → Int32} {k : Nat} {v : Int32} (e : upd f k v = g) (hz : ∀ j, j < 65536 → (f j).toInt = 0) (hk : k < 65536) (hv : v.toInt ≠ 0) : ct g 65536 = 1 := by
  rw [ct_up e (hz k hk) hv 65536, ct_z hz 65536 (Nat.le_refl _), if_pos hk]
theorem ct_s {f g : Nat → Int32} {k : Nat} {v : Int32} {e e2 : Int} (h : (ct f 65536 : Int) = e) (eg : upd f k v = g) (hz : (f k).toInt = 0) (hk : k < 65536) (hv : v.toInt ≠ 0) (he : e2 = e + 1) : (ct g 65536 : Int) = e2 := by
  rw [ct_up eg hz hv 65536, if_pos hk]
  omega
theorem z_atN {g g0 : Nat → Int32} {i : Int} {n : Nat} (H : cpR g g0 (fun _ => 0) 0 0 0 i) (hi : (n : Int) ≤ i) : ∀ j, j < n → (g j).toInt = 0 := fun j hj => by
  have := H.1 j (Nat.zero_le _) (by omega)
  rw [Nat.zero_add] at this
  rw [this]
  rfl

