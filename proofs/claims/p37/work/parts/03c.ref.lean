/-! the reference's world: bounds by place, and what its lines and tests hold -/
def UBw (j : Nat) : Int := if j < 10 then (if j = 0 then 16 else if j = 1 then 24 else if j = 2 then 180 else if j = 3 then 350 else if j = 6 then 399 else if j = 7 then 600 else if j = 8 then 600 else 2147483647)
  else if j < 154 then (if (j - 10) % 9 = 8 then 65535 else if (j - 10) % 9 < 2 then 99 else if (j - 10) % 9 = 3 then 6 else if (j - 10) % 9 = 4 then 180 else if (j - 10) % 9 = 5 then 180 else 2147483647)
  else if j < 274 then (if 3 ≤ (j - 154) % 5 then 180 else 2147483647)
  else if j < 814 then (if 1 ≤ (j - 274) % 3 then 350 else 2147483647)
  else if j < 1864 then (if (j - 814) % 3 = 1 then 5 else 2147483647)
  else if j < 1880 then 65535
  else if j < 6680 then (if (j - 1880) % 5 < 2 then 15 else 2147483647)
  else if j < 9080 then (if (j - 6680) % 4 < 2 then 15 else 2147483647)
  else 2147483647
def LBw (j : Nat) : Int := if UBw j = 2147483647 then -2147483648 else if 10 ≤ j ∧ j < 154 ∧ (j - 10) % 9 = 3 then -1 else 0
def W7 (f : Nat → Int32) : Prop := (f 7).toInt ≤ (f 8).toInt
def WQ (f : Nat → Int32) : Prop := (∀ l : Nat, (l : Int) < (f 1).toInt → (f (157 + 5 * l)).toInt + (f (158 + 5 * l)).toInt ≤ (f 2).toInt) ∧ ∀ t : Nat, (t : Int) < (f 2).toInt → (f (275 + 3 * t)).toInt + (f (276 + 3 * t)).toInt ≤ (f 3).toInt
def RBw (f : Nat → Int32) : Prop := ∀ j, LBw j ≤ (f j).toInt ∧ (f j).toInt ≤ UBw j
def RVw (f : Nat → Int32) : Prop := RBw f ∧ W7 f
def RWw (f : Nat → Int32) : Prop := RVw f ∧ WQ f
def RIw (f : Nat → Int32) : Prop := ∀ k : Nat, k < 3 → RWw (fun j => f (9080 * k + j))
theorem rdk {LB UB : Nat → Int} {v : Int32} {f : Nat → Int32} {k : Nat} {lo hi : Int} (e : v = f k) (hf : ∀ j, LB j ≤ (f j).toInt ∧ (f j).toInt ≤ UB j) (s : lo ≤ LB k ∧ UB k ≤ hi) : lo ≤ v.toInt ∧ v.toInt ≤ hi := by
  have := hf k
  rw [e]
  omega
theorem cl_to {x : Int32} (h : 0 ≤ x.toInt) : (x.toNatClampNeg : Int) = x.toInt := by
  obtain ⟨k, e1, e2, e3⟩ := ix_nI (x := x) (l := 0) (h := x.toInt) ⟨by omega, Int.le_refl _⟩ (by decide)
  rw [← e2, e1, nI_clamp e3]
theorem pl_ix {idx x : Int32} {c a n : Nat} {x0 : Int} (q : idx.toInt = c + a * (x.toInt - x0)) (bx : x0 ≤ x.toInt ∧ x.toInt ≤ x0 + n - 1) : ∃ i : Nat, i < n ∧ idx.toNatClampNeg = c + a * i := by
  refine ⟨(x.toInt - x0).toNat, by omega, ?_⟩
  have h1 : ((x.toInt - x0).toNat : Int) = x.toInt - x0 := by omega
  have h2 : idx.toInt = ((c + a * (x.toInt - x0).toNat : Nat) : Int) := by rw [q, ← h1]; simp
  have h3 := cl_to (x := idx) (by omega)
  omega
theorem rdw {LB UB : Nat → Int} {v idx x : Int32} {f : Nat → Int32} {c a n : Nat} {x0 lo hi : Int} (e : v = f idx.toNatClampNeg) (hf : ∀ j, LB j ≤ (f j).toInt ∧ (f j).toInt ≤ UB j) (L : ∀ i : Nat, i < n → lo ≤ LB (c + a * i) ∧ UB (c + a * i) ≤ hi) (q : idx.toInt = c + a * (x.toInt - x0)) (bx : x0 ≤ x.toInt ∧ x.toInt ≤ x0 + n - 1) : lo ≤ v.toInt ∧ v.toInt ≤ hi := by
  obtain ⟨i, h1, h2⟩ := pl_ix q bx
  have h3 := L i h1
  have h4 := hf (c + a * i)
  rw [e, h2]
  omega
theorem upk {LB UB : Nat → Int} {f : Nat → Int32} {k : Nat} {v : Int32} {l h : Int} (hf : ∀ j, LB j ≤ (f j).toInt ∧ (f j).toInt ≤ UB j) (bv : l ≤ v.toInt ∧ v.toInt ≤ h) (s : LB k ≤ l ∧ h ≤ UB k) : ∀ j, LB j ≤ (upd f k v j).toInt ∧ (upd f k v j).toInt ≤ UB j := by
  intro j
  unfold upd
  split
  · next e => subst e; omega
  · exact hf j
theorem upw {LB UB : Nat → Int} {f : Nat → Int32} {idx x v : Int32} {c a n : Nat} {x0 l h : Int} (hf : ∀ j, LB j ≤ (f j).toInt ∧ (f j).toInt ≤ UB j) (L : ∀ i : Nat, i < n → LB (c + a * i) ≤ l ∧ h ≤ UB (c + a * i)) (q : idx.toInt = c + a * (x.toInt - x0)) (bx : x0 ≤ x.toInt ∧ x.toInt ≤ x0 + n - 1) (bv : l ≤ v.toInt ∧ v.toInt ≤ h) : ∀ j, LB j ≤ (upd f idx.toNatClampNeg v j).toInt ∧ (upd f idx.toNatClampNeg v j).toInt ≤ UB j := by
  obtain ⟨i, h1, h2⟩ := pl_ix q bx
  rw [h2]
  exact upk hf bv (L i h1)
theorem pin_eq {f : Nat → Int32} {k p : Nat} {v : Int32} (h : p = k) : (upd f k v p).toInt = v.toInt := by rw [h, pk_us]
theorem pin_ne {f : Nat → Int32} {k p : Nat} {v : Int32} (h : p ≠ k) : (upd f k v p).toInt = (f p).toInt := by rw [pk_un h]
theorem ix_not {x : Int32} {l h : Int} {p : Nat} (b : l ≤ x.toInt ∧ x.toInt ≤ h) (s : 0 ≤ l ∧ ((p : Int) < l ∨ h < (p : Int))) : p ≠ x.toNatClampNeg := by
  have h3 := cl_to (x := x) (by omega)
  omega
theorem ix_out {x : Int32} {l h : Int} (b : l ≤ x.toInt ∧ x.toInt ≤ h) (s : 0 ≤ l ∧ (8 < l ∨ h < 7)) : x.toNatClampNeg ≠ 7 ∧ x.toNatClampNeg ≠ 8 := by
  have h3 := cl_to (x := x) (by omega)
  omega
theorem RV_up {f : Nat → Int32} {k : Nat} {v : Int32} (hf : RVw f) (hb : RBw (upd f k v)) (h : k ≠ 7 ∧ k ≠ 8) : RVw (upd f k v) := ⟨hb, by
  unfold W7
  rw [pk_un (Ne.symm h.1), pk_un (Ne.symm h.2)]
  exact hf.2⟩
def qf (k : Nat) : Prop := k = 0 ∨ (4 ≤ k ∧ k < 154) ∨ 814 ≤ k
theorem qf_ix {x : Int32} {l h : Int} (b : l ≤ x.toInt ∧ x.toInt ≤ h) (s : 0 ≤ l ∧ ((l = 0 ∧ h = 0) ∨ (4 ≤ l ∧ h < 154) ∨ 814 ≤ l)) : qf x.toNatClampNeg := by
  have h3 := cl_to (x := x) (by omega)
  unfold qf
  omega
theorem RB_1 {f : Nat → Int32} (h : RBw f) : 0 ≤ (f 1).toInt ∧ (f 1).toInt ≤ 24 := h 1
theorem RB_2 {f : Nat → Int32} (h : RBw f) : 0 ≤ (f 2).toInt ∧ (f 2).toInt ≤ 180 := h 2
theorem RB_3 {f : Nat → Int32} (h : RBw f) : 0 ≤ (f 3).toInt ∧ (f 3).toInt ≤ 350 := h 3
theorem WQ_cong {f g : Nat → Int32} (hb : RBw f) (h : WQ f) (e : ∀ j, j = 1 ∨ j = 2 ∨ j = 3 ∨ (154 ≤ j ∧ j < 814) → g j = f j) : WQ g := by
  have h1 := RB_1 hb
  have h2 := RB_2 hb
  unfold WQ
  rw [e 1 (by omega), e 2 (by omega), e 3 (by omega)]
  refine ⟨fun l hl => ?_, fun t ht => ?_⟩
  · rw [e _ (by omega), e _ (by omega)]
    exact h.1 l hl
  · rw [e _ (by omega), e _ (by omega)]
    exact h.2 t ht
theorem WQ_up {f : Nat → Int32} {k : Nat} {v : Int32} (hb : RBw f) (h : WQ f) (q : qf k) : WQ (upd f k v) := by
  unfold qf at q
  exact WQ_cong hb h (fun j hj => pk_un (by omega))
theorem in_y {v lo hi : Int64} {x a b : Int} (h : lo.toInt ≤ v.toInt ∧ v.toInt ≤ hi.toInt) (ex : v.toInt = x) (ea : lo.toInt = a) (eb : hi.toInt = b) : a ≤ x ∧ x ≤ b := by omega
theorem in_n {v lo hi : Int64} {x a b : Int} (h : v.toInt < lo.toInt ∨ hi.toInt < v.toInt) (ex : v.toInt = x) (ea : lo.toInt = a) (eb : hi.toInt = b) : x < a ∨ b < x := by omega
theorem or_ge {v a b : Int32} {l1 h1 l2 h2 : Int} (e : v = a ||| b) (ha : l1 ≤ a.toInt ∧ a.toInt ≤ h1) (hb : l2 ≤ b.toInt ∧ b.toInt ≤ h2) (s : 0 ≤ l1 ∧ 0 ≤ l2) : a.toInt ≤ v.toInt ∧ b.toInt ≤ v.toInt := by
  have q1 := tn_of (x := a) (by omega)
  have q2 := tn_of (x := b) (by omega)
  have t1 := (btop a).2
  have t2 := (btop b).2
  have h2' : v.toBitVec.toNat = a.toBitVec.toNat ||| b.toBitVec.toNat := by rw [e]; rfl
  have h3 : v.toBitVec.toNat < 2 ^ 31 := by rw [h2']; exact Nat.or_lt_two_pow (by omega) (by omega)
  have h4 := tn_to (x := v) rfl (by omega)
  have h5 : a.toBitVec.toNat ≤ v.toBitVec.toNat := by rw [h2']; exact Nat.left_le_or
  have h6 : b.toBitVec.toNat ≤ v.toBitVec.toNat := by rw [h2']; exact Nat.right_le_or
  omega
theorem ba_shrk {v a b : Int32} {l h H : Int} (k : Nat) (e : v = a >>> (b &&& 31)) (ha : l ≤ a.toInt ∧ a.toInt ≤ h) (s : 0 ≤ l) (hb : ((b &&& 31).toBitVec.smod 32).toNat = k) (q : h / 2 ^ k ≤ H) : 0 ≤ v.toInt ∧ v.toInt ≤ H := by
  obtain ⟨n, h1, h2, h3⟩ := ix_nI ha s
  rw [h1, pk_shrN (by omega) (b &&& 31) k hb] at e
  have h5 : n / 2 ^ k ≤ n := Nat.div_le_self _ _
  rw [e, nI_toInt (by omega)]
  have p : ((2 ^ k : Nat) : Int) = 2 ^ k := by rw [Int.natCast_pow]; rfl
  have h6 : (n : Int) / (2 ^ k) ≤ h / 2 ^ k := by
    rw [← p]
    exact Int.ediv_le_ediv (by have := Nat.two_pow_pos k; omega) (by omega)
  have h7 : ((n / 2 ^ k : Nat) : Int) = (n : Int) / (2 ^ k) := by rw [Int.natCast_ediv, p]
  have h8 : (0 : Int) ≤ (n : Int) / (2 ^ k) := by rw [← h7]; exact Int.natCast_nonneg _
  rw [h7]
  exact ⟨h8, Int.le_trans h6 q⟩
theorem la_add {v : Int64} {x y : Int32} (e : v = x.toInt64 + y.toInt64) : v.toInt = x.toInt + y.toInt := by
  have h1 := btop x
  have h2 := btop y
  rw [e, Int64.toInt_add, Int32.toInt_toInt64, Int32.toInt_toInt64, Int.bmod_eq_of_le (by omega) (by omega)]
theorem mab_q {v x : Int32} {l h : Int} (e : v = if 0 ≤ x then x else 0 - x) (b : l ≤ x.toInt ∧ x.toInt ≤ h) (s : -2147483648 < l) : v.toInt = (x.toInt.natAbs : Int) := by
  have h0 : (0 : Int32).toInt = 0 := by decide
  split at e
  · next c =>
    have := Int32.le_iff_toInt_le.mp c
    rw [e]
    omega
  · next c =>
    have := Int.not_le.mp (fun q => c (Int32.le_iff_toInt_le.mpr q))
    have h2 := (btop x).2
    rw [e, Int32.toInt_sub, h0, bm_id (by omega) (by omega)]
    omega
theorem mab {v x : Int32} {l h H : Int} (e : v = if 0 ≤ x then x else 0 - x) (b : l ≤ x.toInt ∧ x.toInt ≤ h) (s : -2147483648 < l ∧ h ≤ H ∧ -l ≤ H) : 0 ≤ v.toInt ∧ v.toInt ≤ H := by
  have := mab_q e b s.1
  omega
/-! is(w): what it says -/
def isP (ft : Nat → Int32) (fl tk a fr : Int) (i : Nat) : Prop := fl = 0 ∧ tk = 1 ∧ a - fr = (lenS.getD i 0 : Int) ∧ ∀ k : Nat, k < lenS.getD i 0 → ft (fr.toNat + k) = (bytS.getD i []).getD k 0
noncomputable def isI (ft : Nat → Int32) (fl tk a fr : Int) (i : Nat) : Int := @ite Int (isP ft fl tk a fr i) (Classical.propDecidable _) 1 0
theorem isI_1 {ft : Nat → Int32} {fl tk a fr : Int} {i : Nat} (h : isP ft fl tk a fr i) : isI ft fl tk a fr i = 1 := if_pos h
theorem isI_0 {ft : Nat → Int32} {fl tk a fr : Int} {i : Nat} (h : ¬ isP ft fl tk a fr i) : isI ft fl tk a fr i = 0 := if_neg h
def isJ (ft : Nat → Int32) (fl tk a fr : Int) (i : Nat) (b k : Int) : Prop := (b = 1 ∧ fl = 0 ∧ tk = 1 ∧ a - fr = (lenS.getD i 0 : Int) ∧ ∀ j : Nat, (j : Int) < k → ft (fr.toNat + j) = (bytS.getD i []).getD j 0) ∨ (b = 0 ∧ ¬ isP ft fl tk a fr i)
section ISJ
variable {ft : Nat → Int32} {fl tk a fr b k : Int} {i : Nat}
theorem isJ_s1 (h : fl = 0 ∧ tk = 1 ∧ a - fr = (lenS.getD i 0 : Int)) : isJ ft fl tk a fr i 1 0 := Or.inl ⟨rfl, h.1, h.2.1, h.2.2, fun j hj => by omega⟩
theorem isJ_s0 (h : ¬ (fl = 0 ∧ tk = 1 ∧ a - fr = (lenS.getD i 0 : Int))) : isJ ft fl tk a fr i 0 0 := Or.inr ⟨rfl, fun q => h ⟨q.1, q.2.1, q.2.2.1⟩⟩
theorem isJ_st (h : isJ ft fl tk a fr i b k) (hb : b = 1) (h0 : 0 ≤ k) (q : ft (fr.toNat + k.toNat) = (bytS.getD i []).getD k.toNat 0) : isJ ft fl tk a fr i 1 (k + 1) := by
  rcases h with h | h
  · refine Or.inl ⟨rfl, h.2.1, h.2.2.1, h.2.2.2.1, fun j hj => ?_⟩
    rcases (show (j : Int) < k ∨ j = k.toNat by omega) with h9 | h9
    · exact h.2.2.2.2 j h9
    · rw [h9]; exact q
  · omega
theorem isJ_no (h : isJ ft fl tk a fr i b k) (hb : b = 1) (h0 : 0 ≤ k) (h1 : k < (lenS.getD i 0 : Int)) (q : ¬ ft (fr.toNat + k.toNat) = (bytS.getD i []).getD k.toNat 0) : isJ ft fl tk a fr i 0 (k + 1) := by
  refine Or.inr ⟨rfl, fun w => q (w.2.2.2 k.toNat (by omega))⟩
theorem isJ_ix (h : isJ ft fl tk a fr i b k) (hb : b = 1) (h1 : k < (lenS.getD i 0 : Int)) : fr + k < a := by
  rcases h with h | h
  · have := h.2.2.2.1; omega
  · omega
theorem isJ_e (h : isJ ft fl tk a fr i b k) (hk : (lenS.getD i 0 : Int) ≤ k ∨ b = 0) : (b = 1 ∧ isI ft fl tk a fr i = 1 ∧ fl = 0 ∧ tk = 1 ∧ a - fr = (lenS.getD i 0 : Int)) ∨ (b = 0 ∧ isI ft fl tk a fr i = 0) := by
  rcases h with h | h
  · have h1 := h.1
    exact Or.inl ⟨h1, isI_1 ⟨h.2.1, h.2.2.1, h.2.2.2.1, fun j hj => h.2.2.2.2 j (by omega)⟩, h.2.1, h.2.2.1, h.2.2.2.1⟩
  · exact Or.inr ⟨h.1, isI_0 h.2⟩
end ISJ
theorem cl_add {x y z : Int32} {l1 h1 l2 h2 : Int} (q : z.toInt = x.toInt + y.toInt) (bx : l1 ≤ x.toInt ∧ x.toInt ≤ h1) (b : l2 ≤ y.toInt ∧ y.toInt ≤ h2) (s : 0 ≤ l1 ∧ 0 ≤ l2) : z.toNatClampNeg = x.toInt.toNat + y.toInt.toNat := by
  have h3 := cl_to (x := z) (by omega)
  omega
/-! rows that are copied -/
def cpR (g g0 h : Nat → Int32) (c d lo : Nat) (i : Int) : Prop := (∀ j : Nat, lo ≤ j → (j : Int) < i → g (c + j) = h (d + j)) ∧ ∀ j : Nat, (j < c + lo ∨ (c : Int) + i ≤ (j : Int)) → g j = g0 j
theorem cp_0 {g h : Nat → Int32} {c d lo : Nat} {i : Int} (hi : i = (lo : Int)) : cpR g g h c d lo i := ⟨fun j h1 h2 => by omega, fun _ _ => rfl⟩
theorem cp_s {g g0 h g' : Nat → Int32} {c d lo : Nat} {i i' : Int} {k1 k2 : Nat} {v : Int32} (H : cpR g g0 h c d lo i) (hg : upd g k1 v = g') (ev : v = h k2) (h1 : (k1 : Int) = c + i) (h2 : (k2 : Int) = d + i) (h0 : (lo : Int) ≤ i) (hi : i' = i + 1) : cpR g' g0 h c d lo i' := by
  subst hg
  refine ⟨fun j a b => ?_, fun j a => ?_⟩
  · by_cases q : (j : Int) = i
    · rw [show c + j = k1 by omega, pk_us, ev, show d + j = k2 by omega]
    · rw [pk_un (by omega)]
      exact H.1 j a (by omega)
  · rw [pk_un (by omega)]
    exact H.2 j (by omega)
theorem ub_big {j : Nat} (h : 9080 ≤ j) : UBw j = 2147483647 := by
  unfold UBw
  repeat rw [if_neg (by omega)]
theorem RB_cong {f g : Nat → Int32} (e : ∀ j, j < 9080 → g j = f j) (h : RBw f) : RBw g := by
  intro j
  by_cases q : j < 9080
  · rw [e j q]; exact h j
  · have h1 := ub_big (j := j) (by omega)
    have h2 : LBw j = -2147483648 := by unfold LBw; rw [if_pos h1]
    rw [h1, h2]
    exact btop _
theorem RW_cong {f g : Nat → Int32} (e : ∀ j, j < 9080 → g j = f j) (h : RWw f) : RWw g := by
  refine ⟨⟨RB_cong e h.1.1, ?_⟩, WQ_cong h.1.1 h.2 (fun j hj => e j (by omega))⟩
  unfold W7
  rw [e 7 (by decide), e 8 (by decide)]
  exact h.1.2
theorem RW_back {g g0 h : Nat → Int32} {d : Nat} {i : Int} (H : cpR g g0 h 0 d 0 i) (hi : 9080 ≤ i) (hh : RWw (fun j => h (d + j))) : RWw g := RW_cong (fun j hj => by have := H.1 j (Nat.zero_le _) (by omega); rw [Nat.zero_add] at this; exact this) hh
theorem RW_same {g g0 h : Nat → Int32} {i : Int} (H : cpR g g0 h 0 0 0 i) (hi : 9080 ≤ i) (hh : RWw h) : RWw g := RW_cong (fun j hj => by have := H.1 j (Nat.zero_le _) (by omega); rw [Nat.zero_add] at this; exact this) hh
theorem cp_eq {g g0 h : Nat → Int32} {i : Int} (H : cpR g g0 h 0 0 0 i) (hi : 9080 ≤ i) : ∀ j, j < 9080 → g j = h j := fun j hj => by
  have := H.1 j (Nat.zero_le _) (by omega)
  rw [Nat.zero_add] at this
  exact this
theorem RI_keep {g g0 h : Nat → Int32} {k : Nat} {i : Int} (H : cpR g g0 h (9080 * k) 0 0 i) (h1 : i = 9080) (hh : RWw h) (h0 : RIw g0) : RIw g := by
  intro k' hk'
  by_cases q : k' = k
  · subst q
    exact RW_cong (fun j hj => by have := H.1 j (Nat.zero_le _) (by omega); rw [Nat.zero_add] at this; exact this) hh
  · refine RW_cong (fun j hj => ?_) (h0 k' hk')
    exact H.2 _ (by omega)
theorem RI_at {f : Nat → Int32} (h : RIw f) (k : Nat) (hk : k < 3) : RWw (fun j => f (9080 * k + j)) := h k hk
theorem RW_mix {g g1 f m : Nat → Int32} {d : Nat} {i i' : Int} (H1 : cpR g1 f m 0 d 154 i) (h1 : i = 1864) (H2 : cpR g g1 m 0 d 1 i') (h2 : i' = 4) (hf : RWw f) (hm : RWw (fun j => m (d + j))) : RWw g := by
  have e1 : ∀ j : Nat, 1 ≤ j → j < 4 → g j = m (d + j) := fun j a b => by
    have := H2.1 j a (by omega)
    rw [Nat.zero_add] at this
    exact this
  have e2 : ∀ j : Nat, 154 ≤ j → j < 1864 → g j = m (d + j) := fun j a b => by
    have q := H2.2 j (by omega)
    have := H1.1 j a (by omega)
    rw [Nat.zero_add] at this
    rw [q, this]
  have e3 : ∀ j : Nat, (j = 0 ∨ (4 ≤ j ∧ j < 154) ∨ 1864 ≤ j) → g j = f j := fun j a => by
    rw [H2.2 j (by omega), H1.2 j (by omega)]
  refine ⟨⟨fun j => ?_, ?_⟩, WQ_cong hm.1.1 hm.2 (fun j hj => ?_)⟩
  · rcases (show (1 ≤ j ∧ j < 4) ∨ (154 ≤ j ∧ j < 1864) ∨ (j = 0 ∨ (4 ≤ j ∧ j < 154) ∨ 1864 ≤ j) by omega) with a | a | a
    · rw [e1 j a.1 a.2]; exact hm.1.1 j
    · rw [e2 j a.1 a.2]; exact hm.1.1 j
    · rw [e3 j a]; exact hf.1.1 j
  · unfold W7
    rw [e3 7 (by omega), e3 8 (by omega)]
    exact hf.1.2
  · rcases (show (1 ≤ j ∧ j < 4) ∨ (154 ≤ j ∧ j < 1864) by omega) with a | a
    · exact e1 j a.1 a.2
    · exact e2 j a.1 a.2
theorem el_at {idx x : Int32} {c a : Nat} (q : idx.toInt = c + a * x.toInt) (h0 : 0 ≤ x.toInt) : idx.toNatClampNeg = c + a * x.toInt.toNat := by
  have h1 : (x.toInt.toNat : Int) = x.toInt := by omega
  have h2 : idx.toInt = ((c + a * x.toInt.toNat : Nat) : Int) := by rw [q, ← h1]; simp
  have h3 := cl_to (x := idx) (by omega)
  omega
theorem UB_deb {j : Nat} (h1 : 1880 ≤ j) (h2 : j < 6680) : UBw j = if (j - 1880) % 5 < 2 then 15 else 2147483647 := by
  unfold UBw
  rw [if_neg (by omega), if_neg (by omega), if_neg (by omega), if_neg (by omega), if_neg (by omega), if_neg (by omega), if_pos h2]
theorem ub_5 : ∀ i, i < 4795 → LBw (1880 + i) = LBw (1885 + i) ∧ UBw (1880 + i) = UBw (1885 + i) := by
  intro i hi
  have e : (1885 + i - 1880) % 5 = (1880 + i - 1880) % 5 := by omega
  have h1 : UBw (1880 + i) = UBw (1885 + i) := by rw [UB_deb (by omega) (by omega), UB_deb (j := 1885 + i) (by omega) (by omega), e]
  refine ⟨?_, h1⟩
  unfold LBw
  rw [h1]
  split
  · rfl
  · rw [if_neg (by omega), if_neg (by omega)]
theorem up_5 {f : Nat → Int32} {x i2 v : Int32} {l h : Int} (hf : RBw f) (e : v = f i2.toNatClampNeg) (q : i2.toInt = x.toInt + 5) (b : l ≤ x.toInt ∧ x.toInt ≤ h) (s : 1880 ≤ l ∧ h < 6675) : ∀ j, LBw j ≤ (upd f x.toNatClampNeg v j).toInt ∧ (upd f x.toNatClampNeg v j).toInt ≤ UBw j := by
  intro j
  unfold upd
  split
  · next w =>
    have h1 := cl_to (x := x) (by omega)
    have h2 := cl_to (x := i2) (by omega)
    have h3 := ub_5 (j - 1880) (by omega)
    have h4 := hf i2.toNatClampNeg
    rw [show 1880 + (j - 1880) = j by omega, show 1885 + (j - 1880) = i2.toNatClampNeg by omega] at h3
    rw [e]
    omega
  · exact hf j
theorem b01 {x : Int32} (b : 0 ≤ x.toInt ∧ x.toInt ≤ 1) : x = 0 ∨ x = 1 := by
  have h : x.toInt = 0 ∨ x.toInt = 1 := by omega
  rcases h with h | h
  · exact Or.inl (Int32.toInt_inj.mp h)
  · exact Or.inr (Int32.toInt_inj.mp h)
/-! the places that a test leaves as they were -/
def frm (n : Nat) (f g : Nat → Int32) : Prop := ∀ j : Nat, j < n → j ≠ 2 → j ≠ 3 → g j = f j
theorem frm_r {n : Nat} {f : Nat → Int32} : frm n f f := fun _ _ _ _ => rfl
theorem frm_t {n : Nat} {f g h : Nat → Int32} (a : frm n f g) (b : frm n g h) : frm n f h := fun j h1 h2 h3 => (b j h1 h2 h3).trans (a j h1 h2 h3)
theorem frm_u {n : Nat} {f g h : Nat → Int32} {k : Nat} {v : Int32} (a : frm n f g) (e : upd g k v = h) (q : n ≤ k ∨ k = 2 ∨ k = 3) : frm n f h := fun j h1 h2 h3 => by
  rw [← e, pk_un (by omega)]
  exact a j h1 h2 h3
theorem ix_frm {x : Int32} {l h : Int} (b : l ≤ x.toInt ∧ x.toInt ≤ h) (s : 274 ≤ l ∨ (l = 2 ∧ h = 2) ∨ (l = 3 ∧ h = 3)) : 274 ≤ x.toNatClampNeg ∨ x.toNatClampNeg = 2 ∨ x.toNatClampNeg = 3 := by
  have := cl_to (x := x) (by omega)
  omega
/-! see -/
def seeI (ft : Nat → Int32) (sz k : Int) : Int := if k < sz then (ft k.toNat &&& 255).toInt else -1
theorem see_1 {ft : Nat → Int32} {sz : Int} {k v u : Int32} (h : k.toInt < sz) (h0 : 0 ≤ k.toInt) (ev : v = ft k.toNatClampNeg) (eu : u = v &&& 255) : u.toInt = seeI ft sz k.toInt := by
  have := cl_to (x := k) h0
  unfold seeI
  rw [if_pos h, eu, ev, show k.toInt.toNat = k.toNatClampNeg by omega]
theorem see_0 {ft : Nat → Int32} {sz k : Int} (h : sz ≤ k) : (-1 : Int32).toInt = seeI ft sz k := by
  unfold seeI
  rw [if_neg (by omega)]
  decide
theorem isJ_1 {ft : Nat → Int32} {fl tk a fr : Int} {i : Nat} {b : Int32} (hb : b.toInt = 1) (h : fl = 0 ∧ tk = 1 ∧ a - fr = (lenS.getD i 0 : Int)) : isJ ft fl tk a fr i b.toInt 0 := by rw [hb]; exact isJ_s1 h
theorem isJ_0 {ft : Nat → Int32} {fl tk a fr : Int} {i : Nat} {b : Int32} (hb : b.toInt = 0) (h : ¬ (fl = 0 ∧ tk = 1 ∧ a - fr = (lenS.getD i 0 : Int))) : isJ ft fl tk a fr i b.toInt 0 := by rw [hb]; exact isJ_s0 h
theorem isJ_k {ft : Nat → Int32} {fl tk a fr b k k' : Int} {i : Nat} (h : isJ ft fl tk a fr i b k) (e : k' = k) : isJ ft fl tk a fr i b k' := by rw [e]; exact h
theorem isJ_y {ft : Nat → Int32} {fl tk a : Int} {i : Nat} {b : Int} {b' fr k ix v r : Int32} {l1 h1 l2 h2 : Int} (h : isJ ft fl tk a fr.toInt i b k.toInt) (hb : b = 1) (h0 : b'.toInt = 1) (ev : v = ft ix.toNatClampNeg) (q : ix.toInt = fr.toInt + k.toInt) (bx : l1 ≤ fr.toInt ∧ fr.toInt ≤ h1) (bk : l2 ≤ k.toInt ∧ k.toInt ≤ h2) (s : 0 ≤ l1 ∧ 0 ≤ l2) (er : r = (bytS.getD i []).getD k.toInt.toNat 0) (c : v = r) : isJ ft fl tk a fr.toInt i b'.toInt (k.toInt + 1) := by
  rw [h0]
  refine isJ_st h hb (by omega) ?_
  rw [← cl_add q bx bk s, ← ev, c, er]
theorem isJ_n {ft : Nat → Int32} {fl tk a : Int} {i : Nat} {b : Int} {b' fr k ix v r : Int32} {l1 h1 l2 h2 : Int} (h : isJ ft fl tk a fr.toInt i b k.toInt) (hb : b = 1) (h0 : b'.toInt = 0) (ev : v = ft ix.toNatClampNeg) (q : ix.toInt = fr.toInt + k.toInt) (bx : l1 ≤ fr.toInt ∧ fr.toInt ≤ h1) (bk : l2 ≤ k.toInt ∧ k.toInt ≤ h2) (s : 0 ≤ l1 ∧ 0 ≤ l2) (er : r = (bytS.getD i []).getD k.toInt.toNat 0) (hk : k.toInt < (lenS.getD i 0 : Int)) (c : ¬ v = r) : isJ ft fl tk a fr.toInt i b'.toInt (k.toInt + 1) := by
  rw [h0]
  refine isJ_no h hb (by omega) hk ?_
  rw [← cl_add q bx bk s, ← ev, ← er]
  exact c
/-! lines and tests as they are read -/
theorem WQ_s3 {f : Nat → Int32} {v : Int32} {k : Nat} (hk : k = 3) (hb : RBw f) (h : WQ f) (hv : (f 3).toInt ≤ v.toInt) : WQ (upd f k v) := by
  subst hk
  have h1 := RB_1 hb
  have h2 := RB_2 hb
  unfold WQ
  rw [pk_un (show (1 : Nat) ≠ 3 by decide), pk_un (show (2 : Nat) ≠ 3 by decide), pk_us]
  refine ⟨fun l hl => ?_, fun t ht => ?_⟩
  · rw [pk_un (by omega), pk_un (by omega)]
    exact h.1 l hl
  · rw [pk_un (by omega), pk_un (by omega)]
    have := h.2 t ht
    omega
theorem WQ_t {f : Nat → Int32} {v : Int32} {k : Nat} (hb : RBw f) (h : WQ f) (h1 : 274 + 3 * (f 2).toInt ≤ (k : Int)) : WQ (upd f k v) := by
  have q1 := RB_1 hb
  have q2 := RB_2 hb
  unfold WQ
  rw [pk_un (show (1 : Nat) ≠ k by omega), pk_un (show (2 : Nat) ≠ k by omega), pk_un (show (3 : Nat) ≠ k by omega)]
  refine ⟨fun l hl => ?_, fun t ht => ?_⟩
  · rw [pk_un (by omega), pk_un (by omega)]
    exact h.1 l hl
  · rw [pk_un (by omega), pk_un (by omega)]
    exact h.2 t ht
theorem WQ_l {f : Nat → Int32} {v : Int32} {k : Nat} (hb : RBw f) (h : WQ f) (h1 : 154 + 5 * (f 1).toInt ≤ (k : Int)) (h2 : k < 274) : WQ (upd f k v) := by
  have q1 := RB_1 hb
  have q2 := RB_2 hb
  unfold WQ
  rw [pk_un (show (1 : Nat) ≠ k by omega), pk_un (show (2 : Nat) ≠ k by omega), pk_un (show (3 : Nat) ≠ k by omega)]
  refine ⟨fun l hl => ?_, fun t ht => ?_⟩
  · rw [pk_un (by omega), pk_un (by omega)]
    exact h.1 l hl
  · rw [pk_un (by omega), pk_un (by omega)]
    exact h.2 t ht
theorem WQ_s2 {f : Nat → Int32} {v : Int32} {k : Nat} (hk : k = 2) (hb : RBw f) (h : WQ f) (hv : v.toInt = (f 2).toInt + 1) (e : (f (275 + 3 * (f 2).toInt.toNat)).toInt + (f (276 + 3 * (f 2).toInt.toNat)).toInt ≤ (f 3).toInt) : WQ (upd f k v) := by
  subst hk
  have q1 := RB_1 hb
  have q2 := RB_2 hb
  unfold WQ
  rw [pk_un (show (1 : Nat) ≠ 2 by decide), pk_us, pk_un (show (3 : Nat) ≠ 2 by decide)]
  refine ⟨fun l hl => ?_, fun t ht => ?_⟩
  · rw [pk_un (by omega), pk_un (by omega)]
    have := h.1 l hl
    omega
  · rw [pk_un (by omega), pk_un (by omega)]
    rcases (show (t : Int) < (f 2).toInt ∨ t = (f 2).toInt.toNat by omega) with a | a
    · exact h.2 t a
    · rw [a]; exact e
theorem WQ_s1 {f : Nat → Int32} {v : Int32} {k : Nat} (hk : k = 1) (hb : RBw f) (h : WQ f) (hv : v.toInt = (f 1).toInt + 1) (e : (f (157 + 5 * (f 1).toInt.toNat)).toInt + (f (158 + 5 * (f 1).toInt.toNat)).toInt ≤ (f 2).toInt) : WQ (upd f k v) := by
  subst hk
  have q1 := RB_1 hb
  have q2 := RB_2 hb
  unfold WQ
  rw [pk_us, pk_un (show (2 : Nat) ≠ 1 by decide), pk_un (show (3 : Nat) ≠ 1 by decide)]
  refine ⟨fun l hl => ?_, fun t ht => ?_⟩
  · rw [pk_un (by omega), pk_un (by omega)]
    rcases (show (l : Int) < (f 1).toInt ∨ l = (f 1).toInt.toNat by omega) with a | a
    · exact h.1 l a
    · rw [a]; exact e
  · rw [pk_un (by omega), pk_un (by omega)]
    exact h.2 t ht
theorem upd_i {f g : Nat → Int32} {v : Int32} {k j : Nat} (e : upd f k v = g) (h : j = k) : (g j).toInt = v.toInt := by rw [← e, h, pk_us]
theorem upd_o {f g : Nat → Int32} {v : Int32} {k j : Nat} (e : upd f k v = g) (h : j ≠ k) : (g j).toInt = (f j).toInt := by rw [← e, pk_un h]
theorem frm_i {f g : Nat → Int32} {n j : Nat} (e : frm n f g) (h : j < n ∧ j ≠ 2 ∧ j ≠ 3) : (g j).toInt = (f j).toInt := by rw [e j h.1 h.2.1 h.2.2]
theorem lb_le0 (j : Nat) : LBw j ≤ 0 ∧ 0 ≤ UBw j := by
  have h : 0 ≤ UBw j := by
    unfold UBw
    repeat' split
    all_goals decide
  refine ⟨?_, h⟩
  unfold LBw
  repeat' split
  all_goals decide
theorem RW_z : RWw (fun _ => 0) := by
  have h0 : (0 : Int32).toInt = 0 := by decide
  refine ⟨⟨fun j => ?_, Int.le_refl _⟩, fun l hl => ?_, fun t ht => ?_⟩
  · show LBw j ≤ (0 : Int32).toInt ∧ (0 : Int32).toInt ≤ UBw j
    rw [h0]
    exact lb_le0 j
  · have hl : (l : Int) < (0 : Int32).toInt := hl
    omega
  · have ht : (t : Int) < (0 : Int32).toInt := ht
    omega
theorem RW_zero {g g0 : Nat → Int32} {i : Int} (H : cpR g g0 (fun _ => 0) 0 0 0 i) (hi : 9080 ≤ i) : RWw g := RW_cong (cp_eq H hi) RW_z
theorem z_at {g g0 : Nat → Int32} {i : Int} (H : cpR g g0 (fun _ => 0) 0 0 0 i) (hi : 9080 ≤ i) (j : Nat) (hj : j < 9080) : (g j).toInt = 0 := by rw [cp_eq H hi j hj]; decide
set_option maxRecDepth 100000 in
theorem pl_0 : ∀ i : Nat, i < 16 → 0 ≤ LBw (10 + 9 * i) ∧ UBw (10 + 9 * i) ≤ 99 := by decide +kernel
set_option maxRecDepth 100000 in
theorem pl_1 : ∀ i : Nat, i < 16 → 0 ≤ LBw (11 + 9 * i) ∧ UBw (11 + 9 * i) ≤ 99 := by decide +kernel
set_option maxRecDepth 100000 in
theorem pl_2 : ∀ i : Nat, i < 16 → -1 ≤ LBw (13 + 9 * i) ∧ UBw (13 + 9 * i) ≤ 6 := by decide +kernel
set_option maxRecDepth 100000 in
theorem pl_3 : ∀ i : Nat, i < 16 → 0 ≤ LBw (14 + 9 * i) ∧ UBw (14 + 9 * i) ≤ 180 := by decide +kernel
set_option maxRecDepth 100000 in
theorem pl_4 : ∀ i : Nat, i < 16 → 0 ≤ LBw (15 + 9 * i) ∧ UBw (15 + 9 * i) ≤ 180 := by decide +kernel
set_option maxRecDepth 100000 in
theorem pl_5 : ∀ i : Nat, i < 16 → 0 ≤ LBw (18 + 9 * i) ∧ UBw (18 + 9 * i) ≤ 65535 := by decide +kernel
set_option maxRecDepth 100000 in
theorem pl_6 : ∀ i : Nat, i < 960 → 0 ≤ LBw (1880 + 5 * i) ∧ UBw (1880 + 5 * i) ≤ 15 := by decide +kernel
set_option maxRecDepth 100000 in
theorem pl_7 : ∀ i : Nat, i < 960 → 0 ≤ LBw (1881 + 5 * i) ∧ UBw (1881 + 5 * i) ≤ 15 := by decide +kernel
set_option maxRecDepth 100000 in
theorem pl_8 : ∀ i : Nat, i < 16 → 0 ≤ LBw (1864 + 1 * i) ∧ UBw (1864 + 1 * i) ≤ 65535 := by decide +kernel
set_option maxRecDepth 100000 in
theorem pl_9 : ∀ i : Nat, i < 16 → LBw (1864 + 1 * i) ≤ 0 ∧ 65535 ≤ UBw (1864 + 1 * i) := by decide +kernel
set_option maxRecDepth 100000 in
theorem pl_10 : ∀ i : Nat, i < 600 → 0 ≤ LBw (1885 + 5 * i) ∧ UBw (1885 + 5 * i) ≤ 15 := by decide +kernel
set_option maxRecDepth 100000 in
theorem pl_11 : ∀ i : Nat, i < 600 → LBw (1880 + 5 * i) ≤ 0 ∧ 15 ≤ UBw (1880 + 5 * i) := by decide +kernel
set_option maxRecDepth 100000 in
theorem pl_12 : ∀ i : Nat, i < 350 → 0 ≤ LBw (815 + 3 * i) ∧ UBw (815 + 3 * i) ≤ 5 := by decide +kernel
set_option maxRecDepth 100000 in
theorem pl_13 : ∀ i : Nat, i < 180 → 0 ≤ LBw (275 + 3 * i) ∧ UBw (275 + 3 * i) ≤ 350 := by decide +kernel
set_option maxRecDepth 100000 in
theorem pl_14 : ∀ i : Nat, i < 180 → 0 ≤ LBw (276 + 3 * i) ∧ UBw (276 + 3 * i) ≤ 350 := by decide +kernel
set_option maxRecDepth 100000 in
theorem pl_15 : ∀ i : Nat, i < 2 → 0 ≤ LBw (158 + 5 * i) ∧ UBw (158 + 5 * i) ≤ 180 := by decide +kernel
set_option maxRecDepth 100000 in
theorem pl_16 : ∀ i : Nat, i < 2 → 0 ≤ LBw (157 + 5 * i) ∧ UBw (157 + 5 * i) ≤ 180 := by decide +kernel
set_option maxRecDepth 100000 in
theorem pl_17 : ∀ i : Nat, i < 3 → 0 ≤ LBw (158 + 5 * i) ∧ UBw (158 + 5 * i) ≤ 180 := by decide +kernel
set_option maxRecDepth 100000 in
theorem pl_18 : ∀ i : Nat, i < 3 → 0 ≤ LBw (157 + 5 * i) ∧ UBw (157 + 5 * i) ≤ 180 := by decide +kernel
set_option maxRecDepth 100000 in
theorem pl_19 : ∀ i : Nat, i < 4 → 0 ≤ LBw (158 + 5 * i) ∧ UBw (158 + 5 * i) ≤ 180 := by decide +kernel
set_option maxRecDepth 100000 in
theorem pl_20 : ∀ i : Nat, i < 4 → 0 ≤ LBw (157 + 5 * i) ∧ UBw (157 + 5 * i) ≤ 180 := by decide +kernel
set_option maxRecDepth 100000 in
theorem pl_21 : ∀ i : Nat, i < 5 → 0 ≤ LBw (158 + 5 * i) ∧ UBw (158 + 5 * i) ≤ 180 := by decide +kernel
set_option maxRecDepth 100000 in
theorem pl_22 : ∀ i : Nat, i < 5 → 0 ≤ LBw (157 + 5 * i) ∧ UBw (157 + 5 * i) ≤ 180 := by decide +kernel
set_option maxRecDepth 100000 in
theorem pl_23 : ∀ i : Nat, i < 6 → 0 ≤ LBw (158 + 5 * i) ∧ UBw (158 + 5 * i) ≤ 180 := by decide +kernel
set_option maxRecDepth 100000 in
theorem pl_24 : ∀ i : Nat, i < 6 → 0 ≤ LBw (157 + 5 * i) ∧ UBw (157 + 5 * i) ≤ 180 := by decide +kernel
set_option maxRecDepth 100000 in
theorem pl_25 : ∀ i : Nat, i < 7 → 0 ≤ LBw (158 + 5 * i) ∧ UBw (158 + 5 * i) ≤ 180 := by decide +kernel
set_option maxRecDepth 100000 in
theorem pl_26 : ∀ i : Nat, i < 7 → 0 ≤ LBw (157 + 5 * i) ∧ UBw (157 + 5 * i) ≤ 180 := by decide +kernel
set_option maxRecDepth 100000 in
theorem pl_27 : ∀ i : Nat, i < 8 → 0 ≤ LBw (158 + 5 * i) ∧ UBw (158 + 5 * i) ≤ 180 := by decide +kernel
set_option maxRecDepth 100000 in
theorem pl_28 : ∀ i : Nat, i < 8 → 0 ≤ LBw (157 + 5 * i) ∧ UBw (157 + 5 * i) ≤ 180 := by decide +kernel
set_option maxRecDepth 100000 in
theorem pl_29 : ∀ i : Nat, i < 9 → 0 ≤ LBw (158 + 5 * i) ∧ UBw (158 + 5 * i) ≤ 180 := by decide +kernel
set_option maxRecDepth 100000 in
theorem pl_30 : ∀ i : Nat, i < 9 → 0 ≤ LBw (157 + 5 * i) ∧ UBw (157 + 5 * i) ≤ 180 := by decide +kernel
set_option maxRecDepth 100000 in
theorem pl_31 : ∀ i : Nat, i < 10 → 0 ≤ LBw (158 + 5 * i) ∧ UBw (158 + 5 * i) ≤ 180 := by decide +kernel
set_option maxRecDepth 100000 in
theorem pl_32 : ∀ i : Nat, i < 10 → 0 ≤ LBw (157 + 5 * i) ∧ UBw (157 + 5 * i) ≤ 180 := by decide +kernel
set_option maxRecDepth 100000 in
theorem pl_33 : ∀ i : Nat, i < 24 → 0 ≤ LBw (158 + 5 * i) ∧ UBw (158 + 5 * i) ≤ 180 := by decide +kernel
set_option maxRecDepth 100000 in
theorem pl_34 : ∀ i : Nat, i < 24 → 0 ≤ LBw (157 + 5 * i) ∧ UBw (157 + 5 * i) ≤ 180 := by decide +kernel
set_option maxRecDepth 100000 in
theorem pl_35 : ∀ i : Nat, i < 600 → LBw (1881 + 5 * i) ≤ 0 ∧ 15 ≤ UBw (1881 + 5 * i) := by decide +kernel
set_option maxRecDepth 100000 in
theorem pl_36 : ∀ i : Nat, i < 600 → LBw (1882 + 5 * i) ≤ -2147483648 ∧ 2147483647 ≤ UBw (1882 + 5 * i) := by decide +kernel
set_option maxRecDepth 100000 in
theorem pl_37 : ∀ i : Nat, i < 600 → LBw (1883 + 5 * i) ≤ -2147483648 ∧ 2147483647 ≤ UBw (1883 + 5 * i) := by decide +kernel
set_option maxRecDepth 100000 in
theorem pl_38 : ∀ i : Nat, i < 600 → LBw (1884 + 5 * i) ≤ -2147483648 ∧ 2147483647 ≤ UBw (1884 + 5 * i) := by decide +kernel
set_option maxRecDepth 100000 in
theorem pl_39 : ∀ i : Nat, i < 600 → LBw (6680 + 4 * i) ≤ 0 ∧ 15 ≤ UBw (6680 + 4 * i) := by decide +kernel
set_option maxRecDepth 100000 in
theorem pl_40 : ∀ i : Nat, i < 600 → LBw (6681 + 4 * i) ≤ 0 ∧ 15 ≤ UBw (6681 + 4 * i) := by decide +kernel
set_option maxRecDepth 100000 in
theorem pl_41 : ∀ i : Nat, i < 600 → LBw (6682 + 4 * i) ≤ -2147483648 ∧ 2147483647 ≤ UBw (6682 + 4 * i) := by decide +kernel
set_option maxRecDepth 100000 in
theorem pl_42 : ∀ i : Nat, i < 600 → LBw (6683 + 4 * i) ≤ 0 ∧ 399 ≤ UBw (6683 + 4 * i) := by decide +kernel
set_option maxRecDepth 100000 in
theorem pl_43 : ∀ i : Nat, i < 2 → 0 ≤ LBw (1864 + 1 * i) ∧ UBw (1864 + 1 * i) ≤ 65535 := by decide +kernel
set_option maxRecDepth 100000 in
theorem pl_44 : ∀ i : Nat, i < 3 → 0 ≤ LBw (1864 + 1 * i) ∧ UBw (1864 + 1 * i) ≤ 65535 := by decide +kernel
set_option maxRecDepth 100000 in
theorem pl_45 : ∀ i : Nat, i < 4 → 0 ≤ LBw (1864 + 1 * i) ∧ UBw (1864 + 1 * i) ≤ 65535 := by decide +kernel
set_option maxRecDepth 100000 in
theorem pl_46 : ∀ i : Nat, i < 5 → 0 ≤ LBw (1864 + 1 * i) ∧ UBw (1864 + 1 * i) ≤ 65535 := by decide +kernel
set_option maxRecDepth 100000 in
theorem pl_47 : ∀ i : Nat, i < 6 → 0 ≤ LBw (1864 + 1 * i) ∧ UBw (1864 + 1 * i) ≤ 65535 := by decide +kernel
set_option maxRecDepth 100000 in
theorem pl_48 : ∀ i : Nat, i < 7 → 0 ≤ LBw (1864 + 1 * i) ∧ UBw (1864 + 1 * i) ≤ 65535 := by decide +kernel
set_option maxRecDepth 100000 in
theorem pl_49 : ∀ i : Nat, i < 8 → 0 ≤ LBw (1864 + 1 * i) ∧ UBw (1864 + 1 * i) ≤ 65535 := by decide +kernel
set_option maxRecDepth 100000 in
theorem pl_50 : ∀ i : Nat, i < 10 → 0 ≤ LBw (1864 + 1 * i) ∧ UBw (1864 + 1 * i) ≤ 65535 := by decide +kernel
set_option maxRecDepth 100000 in
theorem pl_51 : ∀ i : Nat, i < 11 → 0 ≤ LBw (1864 + 1 * i) ∧ UBw (1864 + 1 * i) ≤ 65535 := by decide +kernel
set_option maxRecDepth 100000 in
theorem pl_52 : ∀ i : Nat, i < 2 → 0 ≤ LBw (6680 + 4 * i) ∧ UBw (6680 + 4 * i) ≤ 15 := by decide +kernel
set_option maxRecDepth 100000 in
theorem pl_53 : ∀ i : Nat, i < 2 → 0 ≤ LBw (6681 + 4 * i) ∧ UBw (6681 + 4 * i) ≤ 15 := by decide +kernel
set_option maxRecDepth 100000 in
theorem pl_54 : ∀ i : Nat, i < 3 → 0 ≤ LBw (6680 + 4 * i) ∧ UBw (6680 + 4 * i) ≤ 15 := by decide +kernel
set_option maxRecDepth 100000 in
theorem pl_55 : ∀ i : Nat, i < 3 → 0 ≤ LBw (6681 + 4 * i) ∧ UBw (6681 + 4 * i) ≤ 15 := by decide +kernel
set_option maxRecDepth 100000 in
theorem pl_56 : ∀ i : Nat, i < 4 → 0 ≤ LBw (6680 + 4 * i) ∧ UBw (6680 + 4 * i) ≤ 15 := by decide +kernel
set_option maxRecDepth 100000 in
theorem pl_57 : ∀ i : Nat, i < 4 → 0 ≤ LBw (6681 + 4 * i) ∧ UBw (6681 + 4 * i) ≤ 15 := by decide +kernel
set_option maxRecDepth 100000 in
theorem pl_58 : ∀ i : Nat, i < 5 → 0 ≤ LBw (6680 + 4 * i) ∧ UBw (6680 + 4 * i) ≤ 15 := by decide +kernel
set_option maxRecDepth 100000 in
theorem pl_59 : ∀ i : Nat, i < 5 → 0 ≤ LBw (6681 + 4 * i) ∧ UBw (6681 + 4 * i) ≤ 15 := by decide +kernel
set_option maxRecDepth 100000 in
theorem pl_60 : ∀ i : Nat, i < 6 → 0 ≤ LBw (6680 + 4 * i) ∧ UBw (6680 + 4 * i) ≤ 15 := by decide +kernel
set_option maxRecDepth 100000 in
theorem pl_61 : ∀ i : Nat, i < 6 → 0 ≤ LBw (6681 + 4 * i) ∧ UBw (6681 + 4 * i) ≤ 15 := by decide +kernel
set_option maxRecDepth 100000 in
theorem pl_62 : ∀ i : Nat, i < 7 → 0 ≤ LBw (6680 + 4 * i) ∧ UBw (6680 + 4 * i) ≤ 15 := by decide +kernel
set_option maxRecDepth 100000 in
theorem pl_63 : ∀ i : Nat, i < 7 → 0 ≤ LBw (6681 + 4 * i) ∧ UBw (6681 + 4 * i) ≤ 15 := by decide +kernel
set_option maxRecDepth 100000 in
theorem pl_64 : ∀ i : Nat, i < 9 → 0 ≤ LBw (6680 + 4 * i) ∧ UBw (6680 + 4 * i) ≤ 15 := by decide +kernel
set_option maxRecDepth 100000 in
theorem pl_65 : ∀ i : Nat, i < 9 → 0 ≤ LBw (6681 + 4 * i) ∧ UBw (6681 + 4 * i) ≤ 15 := by decide +kernel
set_option maxRecDepth 100000 in
theorem pl_66 : ∀ i : Nat, i < 10 → 0 ≤ LBw (6680 + 4 * i) ∧ UBw (6680 + 4 * i) ≤ 15 := by decide +kernel
set_option maxRecDepth 100000 in
theorem pl_67 : ∀ i : Nat, i < 10 → 0 ≤ LBw (6681 + 4 * i) ∧ UBw (6681 + 4 * i) ≤ 15 := by decide +kernel
set_option maxRecDepth 100000 in
theorem pl_68 : ∀ i : Nat, i < 11 → 0 ≤ LBw (6680 + 4 * i) ∧ UBw (6680 + 4 * i) ≤ 15 := by decide +kernel
set_option maxRecDepth 100000 in
theorem pl_69 : ∀ i : Nat, i < 11 → 0 ≤ LBw (6681 + 4 * i) ∧ UBw (6681 + 4 * i) ≤ 15 := by decide +kernel
set_option maxRecDepth 100000 in
theorem pl_70 : ∀ i : Nat, i < 600 → 0 ≤ LBw (6680 + 4 * i) ∧ UBw (6680 + 4 * i) ≤ 15 := by decide +kernel
set_option maxRecDepth 100000 in
theorem pl_71 : ∀ i : Nat, i < 600 → 0 ≤ LBw (6681 + 4 * i) ∧ UBw (6681 + 4 * i) ≤ 15 := by decide +kernel
set_option maxRecDepth 100000 in
theorem pl_72 : ∀ i : Nat, i < 2 → 0 ≤ LBw (6680 + 1 * i) ∧ UBw (6680 + 1 * i) ≤ 15 := by decide +kernel
set_option maxRecDepth 100000 in
theorem pl_73 : ∀ i : Nat, i < 2 → 0 ≤ LBw (0 + 1 * i) ∧ UBw (0 + 1 * i) ≤ 24 := by decide +kernel
set_option maxRecDepth 100000 in
theorem pl_74 : ∀ i : Nat, i < 3 → 0 ≤ LBw (0 + 1 * i) ∧ UBw (0 + 1 * i) ≤ 180 := by decide +kernel
set_option maxRecDepth 100000 in
theorem pl_75 : ∀ i : Nat, i < 4 → 0 ≤ LBw (0 + 1 * i) ∧ UBw (0 + 1 * i) ≤ 350 := by decide +kernel
set_option maxRecDepth 100000 in
theorem pl_76 : ∀ i : Nat, i < 2 → LBw (1864 + 1 * i) ≤ 0 ∧ 65535 ≤ UBw (1864 + 1 * i) := by decide +kernel
set_option maxRecDepth 100000 in
theorem pl_77 : ∀ i : Nat, i < 3 → LBw (1864 + 1 * i) ≤ 0 ∧ 65535 ≤ UBw (1864 + 1 * i) := by decide +kernel
set_option maxRecDepth 100000 in
theorem pl_78 : ∀ i : Nat, i < 4 → LBw (1864 + 1 * i) ≤ 0 ∧ 65535 ≤ UBw (1864 + 1 * i) := by decide +kernel
set_option maxRecDepth 100000 in
theorem pl_79 : ∀ i : Nat, i < 5 → LBw (1864 + 1 * i) ≤ 0 ∧ 65535 ≤ UBw (1864 + 1 * i) := by decide +kernel
set_option maxRecDepth 100000 in
theorem pl_80 : ∀ i : Nat, i < 6 → LBw (1864 + 1 * i) ≤ 0 ∧ 65535 ≤ UBw (1864 + 1 * i) := by decide +kernel
set_option maxRecDepth 100000 in
theorem pl_81 : ∀ i : Nat, i < 7 → LBw (1864 + 1 * i) ≤ 0 ∧ 65535 ≤ UBw (1864 + 1 * i) := by decide +kernel
set_option maxRecDepth 100000 in
theorem pl_82 : ∀ i : Nat, i < 8 → LBw (1864 + 1 * i) ≤ 0 ∧ 65535 ≤ UBw (1864 + 1 * i) := by decide +kernel
set_option maxRecDepth 100000 in
theorem pl_83 : ∀ i : Nat, i < 9 → LBw (1864 + 1 * i) ≤ 0 ∧ 65535 ≤ UBw (1864 + 1 * i) := by decide +kernel
set_option maxRecDepth 100000 in
theorem pl_84 : ∀ i : Nat, i < 10 → LBw (1864 + 1 * i) ≤ 0 ∧ 65535 ≤ UBw (1864 + 1 * i) := by decide +kernel
set_option maxRecDepth 100000 in
theorem pl_85 : ∀ i : Nat, i < 350 → LBw (814 + 3 * i) ≤ 0 ∧ 4 ≤ UBw (814 + 3 * i) := by decide +kernel
set_option maxRecDepth 100000 in
theorem pl_86 : ∀ i : Nat, i < 350 → LBw (815 + 3 * i) ≤ 0 ∧ 5 ≤ UBw (815 + 3 * i) := by decide +kernel
set_option maxRecDepth 100000 in
theorem pl_87 : ∀ i : Nat, i < 350 → LBw (816 + 3 * i) ≤ 0 ∧ 999 ≤ UBw (816 + 3 * i) := by decide +kernel
set_option maxRecDepth 100000 in
theorem pl_88 : ∀ i : Nat, i < 175 → LBw (274 + 3 * i) ≤ -1 ∧ 2 ≤ UBw (274 + 3 * i) := by decide +kernel
set_option maxRecDepth 100000 in
theorem pl_89 : ∀ i : Nat, i < 175 → LBw (275 + 3 * i) ≤ 0 ∧ 350 ≤ UBw (275 + 3 * i) := by decide +kernel
set_option maxRecDepth 100000 in
theorem pl_90 : ∀ i : Nat, i < 175 → LBw (276 + 3 * i) ≤ 0 ∧ 350 ≤ UBw (276 + 3 * i) := by decide +kernel
set_option maxRecDepth 100000 in
theorem pl_91 : ∀ i : Nat, i < 24 → LBw (154 + 5 * i) ≤ -1 ∧ 3 ≤ UBw (154 + 5 * i) := by decide +kernel
set_option maxRecDepth 100000 in
theorem pl_92 : ∀ i : Nat, i < 24 → LBw (155 + 5 * i) ≤ -1 ∧ 3 ≤ UBw (155 + 5 * i) := by decide +kernel
set_option maxRecDepth 100000 in
theorem pl_93 : ∀ i : Nat, i < 24 → LBw (156 + 5 * i) ≤ 0 ∧ 99 ≤ UBw (156 + 5 * i) := by decide +kernel
set_option maxRecDepth 100000 in
theorem pl_94 : ∀ i : Nat, i < 24 → LBw (157 + 5 * i) ≤ 0 ∧ 180 ≤ UBw (157 + 5 * i) := by decide +kernel
set_option maxRecDepth 100000 in
theorem pl_95 : ∀ i : Nat, i < 24 → LBw (158 + 5 * i) ≤ 0 ∧ 180 ≤ UBw (158 + 5 * i) := by decide +kernel
set_option maxRecDepth 100000 in
theorem pl_96 : ∀ i : Nat, i < 16 → LBw (10 + 9 * i) ≤ 0 ∧ 99 ≤ UBw (10 + 9 * i) := by decide +kernel
set_option maxRecDepth 100000 in
theorem pl_97 : ∀ i : Nat, i < 16 → LBw (11 + 9 * i) ≤ 0 ∧ 99 ≤ UBw (11 + 9 * i) := by decide +kernel
set_option maxRecDepth 100000 in
theorem pl_98 : ∀ i : Nat, i < 16 → LBw (12 + 9 * i) ≤ 0 ∧ 9 ≤ UBw (12 + 9 * i) := by decide +kernel
set_option maxRecDepth 100000 in
theorem pl_99 : ∀ i : Nat, i < 16 → LBw (13 + 9 * i) ≤ -1 ∧ 6 ≤ UBw (13 + 9 * i) := by decide +kernel
set_option maxRecDepth 100000 in
theorem pl_100 : ∀ i : Nat, i < 16 → LBw (14 + 9 * i) ≤ 0 ∧ 180 ≤ UBw (14 + 9 * i) := by decide +kernel
set_option maxRecDepth 100000 in
theorem pl_101 : ∀ i : Nat, i < 16 → LBw (15 + 9 * i) ≤ 0 ∧ 180 ≤ UBw (15 + 9 * i) := by decide +kernel
set_option maxRecDepth 100000 in
theorem pl_102 : ∀ i : Nat, i < 16 → LBw (16 + 9 * i) ≤ 0 ∧ 399 ≤ UBw (16 + 9 * i) := by decide +kernel
set_option maxRecDepth 100000 in
theorem pl_103 : ∀ i : Nat, i < 16 → LBw (17 + 9 * i) ≤ 0 ∧ 99 ≤ UBw (17 + 9 * i) := by decide +kernel
set_option maxRecDepth 100000 in
theorem pl_104 : ∀ i : Nat, i < 16 → LBw (18 + 9 * i) ≤ 0 ∧ 0 ≤ UBw (18 + 9 * i) := by decide +kernel
set_option maxRecDepth 100000 in
theorem pl_105 : ∀ i : Nat, i < 16 → LBw (18 + 9 * i) ≤ 0 ∧ 65535 ≤ UBw (18 + 9 * i) := by decide +kernel
set_option maxRecDepth 100000 in
theorem pl_106 : ∀ i : Nat, i < 11 → LBw (1864 + 1 * i) ≤ 0 ∧ 65535 ≤ UBw (1864 + 1 * i) := by decide +kernel
