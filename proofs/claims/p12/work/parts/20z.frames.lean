/-! rows that stay but at some places -/
def wfr (f g : Nat → Int32) : Prop := ∀ j : Nat, (j < 7 ∨ (9 < j ∧ j < 1864)) → g j = f j
theorem wfr_r {f : Nat → Int32} : wfr f f := fun _ _ => rfl
theorem wfr_t {f g h : Nat → Int32} (a : wfr f g) (b : wfr g h) : wfr f h := fun j q => (b j q).trans (a j q)
theorem wfr_u {f g h : Nat → Int32} {k : Nat} {v : Int32} (a : wfr f g) (e : upd g k v = h) (q : 1864 ≤ k ∨ (7 ≤ k ∧ k ≤ 9)) : wfr f h := fun j hj => by
  rw [← e]
  unfold upd
  rw [if_neg (by omega)]
  exact a j hj
theorem ix_wfr {x : Int32} {l h : Int} (b : l ≤ x.toInt ∧ x.toInt ≤ h) (s : 1864 ≤ l ∨ (7 ≤ l ∧ h ≤ 9)) : 1864 ≤ x.toNatClampNeg ∨ (7 ≤ x.toNatClampNeg ∧ x.toNatClampNeg ≤ 9) := by
  have := cl_to (x := x) (by omega)
  omega
theorem wfr_i {f g : Nat → Int32} (e : wfr f g) (j : Nat) (h : j < 7 ∨ (9 < j ∧ j < 1864)) : (g j).toInt = (f j).toInt := by rw [e j h]
def rfr (f g : Nat → Int32) : Prop := ∀ j : Nat, ((6 ≤ j ∧ j < 10) ∨ 1864 ≤ j) → g j = f j
theorem rfr_r {f : Nat → Int32} : rfr f f := fun _ _ => rfl
theorem rfr_t {f g h : Nat → Int32} (a : rfr f g) (b : rfr g h) : rfr f h := fun j q => (b j q).trans (a j q)
theorem rfr_u {f g h : Nat → Int32} {k : Nat} {v : Int32} (a : rfr f g) (e : upd g k v = h) (q : k ≤ 5 ∨ (10 ≤ k ∧ k ≤ 1863)) : rfr f h := fun j hj => by
  rw [← e]
  unfold upd
  rw [if_neg (by omega)]
  exact a j hj
theorem ix_rfr {x : Int32} {l h : Int} (b : l ≤ x.toInt ∧ x.toInt ≤ h) (s : 0 ≤ l ∧ (h ≤ 5 ∨ (10 ≤ l ∧ h ≤ 1863))) : x.toNatClampNeg ≤ 5 ∨ (10 ≤ x.toNatClampNeg ∧ x.toNatClampNeg ≤ 1863) := by
  have := cl_to (x := x) (by omega)
  omega
theorem rfr_i {f g : Nat → Int32} (e : rfr f g) (j : Nat) (h : (6 ≤ j ∧ j < 10) ∨ 1864 ≤ j) : (g j).toInt = (f j).toInt := by rw [e j h]
theorem cp_i {g g0 h : Nat → Int32} {d : Nat} {i : Int} (H : cpR g g0 h 0 d 0 i) (hi : 9080 ≤ i) (j : Nat) (hj : j < 9080) : (g j).toInt = (h (d + j)).toInt := by
  have := H.1 j (Nat.zero_le _) (by omega)
  rw [Nat.zero_add] at this
  rw [this]
theorem cp_k {g g0 h : Nat → Int32} {c : Nat} {i : Int} (H : cpR g g0 h c 0 0 i) (hi : 9080 ≤ i) (j : Nat) (hj : j < 9080) : (g (c + j)).toInt = (h j).toInt := by
  have := H.1 j (Nat.zero_le _) (by omega)
  rw [Nat.zero_add] at this
  rw [this]
theorem cp_o {g g0 h : Nat → Int32} {c d lo : Nat} {i : Int} (H : cpR g g0 h c d lo i) (hi : i ≤ 9080) (j : Nat) (hj : j < c + lo ∨ c + 9080 ≤ j) : (g j).toInt = (g0 j).toInt := by
  have := H.2 j (by omega)
  rw [this]
def sgd (j : Nat) : Prop := j = 0 ∨ (4 ≤ j ∧ j ≤ 6) ∨ j = 8 ∨ (10 ≤ j ∧ j < 154) ∨ (1864 ≤ j ∧ j < 1880) ∨ (6680 ≤ j ∧ j < 9080)
def tgd (g h : Nat → Int32) : Prop := ∀ j : Nat, sgd j → h j = g j
theorem tgd_r {g : Nat → Int32} : tgd g g := fun _ _ => rfl
theorem tgd_t {f g h : Nat → Int32} (a : tgd f g) (b : tgd g h) : tgd f h := fun j q => (b j q).trans (a j q)
theorem tgd_u {f g h : Nat → Int32} {k : Nat} {v : Int32} (a : tgd f g) (e : upd g k v = h) (q : (1 ≤ k ∧ k ≤ 3) ∨ k = 7 ∨ k = 9 ∨ (154 ≤ k ∧ k < 1864) ∨ (1880 ≤ k ∧ k < 6680)) : tgd f h := fun j hj => by
  unfold sgd at hj
  rw [← e]
  unfold upd
  rw [if_neg (by omega)]
  exact a j hj
theorem ix_tgd {x : Int32} {l h : Int} (b : l ≤ x.toInt ∧ x.toInt ≤ h) (s : (1 ≤ l ∧ h ≤ 3) ∨ (7 ≤ l ∧ h ≤ 7) ∨ (9 ≤ l ∧ h ≤ 9) ∨ (154 ≤ l ∧ h < 1864) ∨ (1880 ≤ l ∧ h < 6680)) : (1 ≤ x.toNatClampNeg ∧ x.toNatClampNeg ≤ 3) ∨ x.toNatClampNeg = 7 ∨ x.toNatClampNeg = 9 ∨ (154 ≤ x.toNatClampNeg ∧ x.toNatClampNeg < 1864) ∨ (1880 ≤ x.toNatClampNeg ∧ x.toNatClampNeg < 6680) := by
  have := cl_to (x := x) (by omega)
  omega
def cfr (f g : Nat → Int32) : Prop := ∀ j : Nat, ((1 ≤ j ∧ j ≤ 3) ∨ (154 ≤ j ∧ j < 1864)) → g j = f j
theorem cfr_r {g : Nat → Int32} : cfr g g := fun _ _ => rfl
theorem cfr_t {f g h : Nat → Int32} (a : cfr f g) (b : cfr g h) : cfr f h := fun j q => (b j q).trans (a j q)
theorem cfr_u {f g h : Nat → Int32} {k : Nat} {v : Int32} (a : cfr f g) (e : upd g k v = h) (q : k = 0 ∨ (4 ≤ k ∧ k < 154) ∨ 1864 ≤ k) : cfr f h := fun j hj => by
  rw [← e]
  unfold upd
  rw [if_neg (by omega)]
  exact a j hj
theorem ix_cfr {x : Int32} {l h : Int} (b : l ≤ x.toInt ∧ x.toInt ≤ h) (s : (l = 0 ∧ h = 0) ∨ (4 ≤ l ∧ h < 154) ∨ 1864 ≤ l) : x.toNatClampNeg = 0 ∨ (4 ≤ x.toNatClampNeg ∧ x.toNatClampNeg < 154) ∨ 1864 ≤ x.toNatClampNeg := by
  have := cl_to (x := x) (by omega)
  omega
