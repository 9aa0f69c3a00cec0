/-! the slots' numbers -/
section NUM
variable {g g0 g' src mov : Nat → Int64} {c cj ck : Nat} {i i' n : Int}
def zL (g g0 : Nat → Int64) (c : Nat) (i : Int) : Prop := (∀ j : Nat, (j : Int) < i → g (c + j) = 0) ∧ ∀ j : Nat, (j < c ∨ c + 60 ≤ j) → g j = g0 j
theorem updL_h {v : Int64} {h q : Nat} (e : h = q) : vp_updL g q v h = v := by
  unfold vp_updL
  exact if_pos e
theorem updL_n {v : Int64} {h q : Nat} (e : h ≠ q) : vp_updL g q v h = g h := by
  unfold vp_updL
  exact if_neg e
theorem zl_0 (h : i ≤ 0) : zL g g c i := ⟨fun j hj => by omega, fun _ _ => rfl⟩
theorem zl_s {x : Int32} (H : zL g g0 c i) (e : vp_updL g x.toNatClampNeg 0 = g') (q : x.toInt = (c : Int) + i) (h0 : 0 ≤ i ∧ i < 60) (hi : i' = i + 1) : zL g' g0 c i' := by
  have n1 := cl_to (x := x) (by omega)
  refine ⟨fun j hj => ?_, fun j hj => ?_⟩
  · by_cases z : (j : Int) = i
    · rw [← e, updL_h (by omega)]
    · rw [← e, updL_n (by omega)]
      exact H.1 j (by omega)
  · rw [← e, updL_n (by omega)]
    exact H.2 j hj
theorem zl_e (H : zL g g0 c i) (h : 60 ≤ i) : zL g g0 c 60 := ⟨fun j hj => H.1 j (by omega), H.2⟩
theorem updl_m {x a : Int32} {v w : Int64} (h : vp_updL g x.toNatClampNeg v = g') (q : x.toInt = (c : Int) + a.toInt) (ha : 0 ≤ a.toInt) (e : v = w) : g' = vp_updL g (c + a.toInt.toNat) w := by
  have n1 := cl_to (x := x) (by omega)
  rw [← h, e, show x.toNatClampNeg = c + a.toInt.toNat by omega]
def mL (g src : Nat → Int64) (c : Nat) (i : Int) : Prop := ∀ j : Nat, (j : Int) < i → g j = src (c + j)
theorem ml_0 (h : i ≤ 0) : mL g src c i := fun j hj => by omega
theorem ml_s {x y : Int32} {v : Int64} (H : mL g src c i) (e : vp_updL g x.toNatClampNeg v = g') (ev : v = src y.toNatClampNeg) (q1 : x.toInt = i) (q2 : y.toInt = (c : Int) + i) (h0 : 0 ≤ i) (hi : i' = i + 1) : mL g' src c i' := by
  have n1 := cl_to (x := x) (by omega)
  have n2 := cl_to (x := y) (by omega)
  intro j hj
  by_cases z : (j : Int) = i
  · rw [← e, updL_h (by omega), ev, show y.toNatClampNeg = c + j by omega]
  · rw [← e, updL_n (by omega)]
    exact H j (by omega)
def nL (g g0 src : Nat → Int64) (c : Nat) (i : Int) : Prop := (∀ j : Nat, (j : Int) < i → g (c + j) = src j) ∧ ∀ j : Nat, ((j : Int) < c ∨ (c : Int) + i ≤ j) → g j = g0 j
theorem nl_0 (h : i ≤ 0) : nL g g src c i := ⟨fun j hj => by omega, fun _ _ => rfl⟩
theorem nl_s {x y : Int32} {v : Int64} (H : nL g g0 src c i) (e : vp_updL g x.toNatClampNeg v = g') (ev : v = src y.toNatClampNeg) (q1 : x.toInt = (c : Int) + i) (q2 : y.toInt = i) (h0 : 0 ≤ i) (hi : i' = i + 1) : nL g' g0 src c i' := by
  have n1 := cl_to (x := x) (by omega)
  have n2 := cl_to (x := y) (by omega)
  refine ⟨fun j hj => ?_, fun j hj => ?_⟩
  · by_cases z : (j : Int) = i
    · rw [← e, updL_h (by omega), ev, show y.toNatClampNeg = j by omega]
    · rw [← e, updL_n (by omega)]
      exact H.1 j (by omega)
  · rw [← e, updL_n (by omega)]
    exact H.2 j (by omega)
def pL (g g0 : Nat → Int64) (cj ck : Nat) (n : Int) : Prop := (∀ j : Nat, (j : Int) < n → g (ck + j) = g0 (cj + j)) ∧ ∀ j : Nat, ((j : Int) < ck ∨ (ck : Int) + n ≤ j) → g j = g0 j
theorem pl_e {i2 : Int} (M : mL mov g0 cj i) (N : nL g g0 mov ck i2) (h1 : n ≤ i) (h2 : i2 = n) : pL g g0 cj ck n := by
  subst h2
  exact ⟨fun j hj => (N.1 j hj).trans (M j (by omega)), N.2⟩
theorem cpl_v {f0 f1 f : Nat → Int64} {x y m : Int32} (h : va_cpy f0 f1 x.toNatClampNeg y.toNatClampNeg m.toNatClampNeg = f) (h1 : 0 ≤ x.toInt) (h2 : 0 ≤ y.toInt) (h3 : 0 ≤ m.toInt) : f = va_cpy f0 f1 x.toInt.toNat y.toInt.toNat m.toInt.toNat := by
  rw [← h, cl_nat h1, cl_nat h2, cl_nat h3]
theorem sx_8 (x : Int64) : (x <<< (56 : Int64)) >>> (56 : Int64) = (x.toInt32.toInt8.toInt32).toInt64 := by
  apply Int64.toBitVec_inj.mp
  rw [Int64.toBitVec_shiftRight, Int64.toBitVec_shiftLeft, Int32.toBitVec_toInt64, Int8.toBitVec_toInt32, Int32.toBitVec_toInt8, Int64.toBitVec_toInt32]
  have e : (56 : Int64).toBitVec.smod 64 = 56#64 := by decide
  rw [e]
  generalize x.toBitVec = b
  apply BitVec.eq_of_getLsbD_eq
  intro i hi
  have L : ((b <<< 56#64).sshiftRight' 56#64).getLsbD i = if i < 8 then b.getLsbD i else b.getLsbD 7 := by
    show ((b <<< 56).sshiftRight 56).getLsbD i = _
    rw [BitVec.getLsbD_sshiftRight, BitVec.msb_eq_getLsbD_last, BitVec.getLsbD_shiftLeft, BitVec.getLsbD_shiftLeft]
    by_cases h : i < 8
    · rw [if_pos h, if_pos (by omega), show 56 + i - 56 = i by omega, decide_eq_false (show ¬ 64 ≤ i by omega), decide_eq_true (show 56 + i < 64 by omega), decide_eq_false (show ¬ 56 + i < 56 by omega)]
      rfl
    · rw [if_neg h, if_neg (by omega)]
      simp
      omega
  have R : (BitVec.signExtend 64 (BitVec.signExtend 32 (BitVec.signExtend 8 (BitVec.signExtend 32 b)))).getLsbD i = if i < 8 then b.getLsbD i else b.getLsbD 7 := by
    rw [BitVec.getLsbD_signExtend, BitVec.getLsbD_signExtend, BitVec.getLsbD_signExtend, BitVec.getLsbD_signExtend, BitVec.msb_eq_getLsbD_last, BitVec.msb_eq_getLsbD_last, BitVec.msb_eq_getLsbD_last, BitVec.getLsbD_signExtend, BitVec.getLsbD_signExtend, BitVec.getLsbD_signExtend]
    by_cases h : i < 8
    · simp [h, show i < 32 by omega, show i < 64 by omega]
    · by_cases h2 : i < 32
      · simp [h, h2, show i < 64 by omega]
      · simp [h, h2, show i < 64 by omega, BitVec.msb_eq_getLsbD_last, BitVec.getLsbD_signExtend, BitVec.getElem_signExtend]
  rw [L, R]
theorem sx_16 (x : Int64) : (x <<< (48 : Int64)) >>> (48 : Int64) = (x.toInt32.toInt16.toInt32).toInt64 := by
  apply Int64.toBitVec_inj.mp
  rw [Int64.toBitVec_shiftRight, Int64.toBitVec_shiftLeft, Int32.toBitVec_toInt64, Int16.toBitVec_toInt32, Int32.toBitVec_toInt16, Int64.toBitVec_toInt32]
  have e : (48 : Int64).toBitVec.smod 64 = 48#64 := by decide
  rw [e]
  generalize x.toBitVec = b
  apply BitVec.eq_of_getLsbD_eq
  intro i hi
  have L : ((b <<< 48#64).sshiftRight' 48#64).getLsbD i = if i < 16 then b.getLsbD i else b.getLsbD 15 := by
    show ((b <<< 48).sshiftRight 48).getLsbD i = _
    rw [BitVec.getLsbD_sshiftRight, BitVec.msb_eq_getLsbD_last, BitVec.getLsbD_shiftLeft, BitVec.getLsbD_shiftLeft]
    by_cases h : i < 16
    · rw [if_pos h, if_pos (by omega), show 48 + i - 48 = i by omega, decide_eq_false (show ¬ 64 ≤ i by omega), decide_eq_true (show 48 + i < 64 by omega), decide_eq_false (show ¬ 48 + i < 48 by omega)]
      rfl
    · rw [if_neg h, if_neg (by omega)]
      simp
      omega
  have R : (BitVec.signExtend 64 (BitVec.signExtend 32 (BitVec.signExtend 16 (BitVec.signExtend 32 b)))).getLsbD i = if i < 16 then b.getLsbD i else b.getLsbD 15 := by
    rw [BitVec.getLsbD_signExtend, BitVec.getLsbD_signExtend, BitVec.getLsbD_signExtend, BitVec.getLsbD_signExtend, BitVec.msb_eq_getLsbD_last, BitVec.msb_eq_getLsbD_last, BitVec.msb_eq_getLsbD_last, BitVec.getLsbD_signExtend, BitVec.getLsbD_signExtend, BitVec.getLsbD_signExtend]
    by_cases h : i < 16
    · simp [h, show i < 32 by omega, show i < 64 by omega]
    · by_cases h2 : i < 32
      · simp [h, h2, show i < 64 by omega]
      · simp [h, h2, show i < 64 by omega, BitVec.msb_eq_getLsbD_last, BitVec.getLsbD_signExtend, BitVec.getElem_signExtend]
  rw [L, R]
theorem sx_32 (x : Int64) : (x <<< (32 : Int64)) >>> (32 : Int64) = x.toInt32.toInt64 := by
  apply Int64.toBitVec_inj.mp
  rw [Int64.toBitVec_shiftRight, Int64.toBitVec_shiftLeft, Int32.toBitVec_toInt64, Int64.toBitVec_toInt32]
  have e : (32 : Int64).toBitVec.smod 64 = 32#64 := by decide
  rw [e]
  generalize x.toBitVec = b
  apply BitVec.eq_of_getLsbD_eq
  intro i hi
  have L : ((b <<< 32#64).sshiftRight' 32#64).getLsbD i = if i < 32 then b.getLsbD i else b.getLsbD 31 := by
    show ((b <<< 32).sshiftRight 32).getLsbD i = _
    rw [BitVec.getLsbD_sshiftRight, BitVec.msb_eq_getLsbD_last, BitVec.getLsbD_shiftLeft, BitVec.getLsbD_shiftLeft]
    by_cases h : i < 32
    · rw [if_pos h, if_pos (by omega), show 32 + i - 32 = i by omega, decide_eq_false (show ¬ 64 ≤ i by omega), decide_eq_true (show 32 + i < 64 by omega), decide_eq_false (show ¬ 32 + i < 32 by omega)]
      rfl
    · rw [if_neg h, if_neg (by omega)]
      simp
      omega
  have R : (BitVec.signExtend 64 (BitVec.signExtend 32 b)).getLsbD i = if i < 32 then b.getLsbD i else b.getLsbD 31 := by
    rw [BitVec.getLsbD_signExtend, BitVec.getLsbD_signExtend]
    by_cases h : i < 32
    · simp [h, show i < 64 by omega]
    · simp [h, show i < 64 by omega, BitVec.msb_eq_getLsbD_last, BitVec.getLsbD_signExtend, BitVec.getElem_signExtend]
  rw [L, R]
theorem qcut_m {s b w : Int32} {x v1 v2 : Int64} (e1 : s = 8 <<< (w &&& 31)) (e2 : b = 64 - s) (e3 : v1 = x <<< (b.toInt64 &&& 63)) (e4 : v2 = v1 >>> (b.toInt64 &&& 63)) (hw : 0 ≤ w.toInt ∧ w.toInt ≤ 3) : v2 = qcut w x := by
  subst e1 e2 e3 e4
  rcases s_4 hw with h | h | h | h
  · subst h
    exact (sx_8 x).trans (if_pos rfl).symm
  · subst h
    exact (sx_16 x).trans ((if_neg (by decide)).trans (if_pos rfl)).symm
  · subst h
    exact (sx_32 x).trans ((if_neg (by decide)).trans ((if_neg (by decide)).trans (if_pos rfl))).symm
  · subst h
    show (x <<< (((64 : Int32) - 8 <<< ((3 : Int32) &&& 31)).toInt64 &&& 63)) >>> (((64 : Int32) - 8 <<< ((3 : Int32) &&& 31)).toInt64 &&& 63) = _
    have e : (((64 : Int32) - 8 <<< ((3 : Int32) &&& 31)).toInt64 &&& 63) = (0 : Int64) := by decide
    rw [e]
    have q : qcut 3 x = x := (if_neg (by decide)).trans ((if_neg (by decide)).trans (if_neg (by decide)))
    rw [q]
    apply Int64.toBitVec_inj.mp
    rw [Int64.toBitVec_shiftRight, Int64.toBitVec_shiftLeft]
    have e2 : (0 : Int64).toBitVec.smod 64 = 0#64 := by decide
    rw [e2]
    show (x.toBitVec <<< 0).sshiftRight 0 = x.toBitVec
    simp
/-- the numbers of a slot on both sides -/
def NT (nb nm : Nat → Int64) (c : Nat) : Prop := ∀ i : Nat, i < 60 → nb i = nm (c + i)
theorem nt_row {nb nm nm' : Nat → Int64} (h : ∀ j : Nat, j < 60 → nb j = 0) (Z : zL nm' nm c 60) : NT nb nm' c := fun i hi => (h i hi).trans (Z.1 i (by omega)).symm
theorem nt_rowO {nb nm nm' : Nat → Int64} {d : Nat} (T : NT nb nm d) (Z : zL nm' nm c 60) (h : d + 60 ≤ c ∨ c + 60 ≤ d) : NT nb nm' d := fun i hi => (T i hi).trans (Z.2 (d + i) (by omega)).symm
theorem nt_wr {nb nb' nm nm' : Nat → Int64} {a : Nat} {v w : Int64} (T : NT nb nm c) (e1 : nb' = vp_updL nb a v) (e2 : nm' = vp_updL nm (c + a) w) (e : v = w) : NT nb' nm' c := fun i hi => by
  subst e
  rw [e1, e2]
  by_cases z : i = a
  · rw [updL_h z, updL_h (by omega)]
  · rw [updL_n z, updL_n (by omega)]
    exact T i hi
theorem nt_wrO {nb nm nm' : Nat → Int64} {a d : Nat} {w : Int64} (T : NT nb nm d) (e2 : nm' = vp_updL nm (c + a) w) (ha : a < 60) (h : d + 60 ≤ c ∨ c + 60 ≤ d) : NT nb nm' d := fun i hi => by
  rw [e2, updL_n (by omega)]
  exact T i hi
theorem nt_pa {nj nk nk' nm nm' : Nat → Int64} {x y m : Nat} {n : Int} (Tj : NT nj nm cj) (Tk : NT nk nm ck) (e : nk' = va_cpy nj nk x y m) (P : pL nm' nm (cj + x) (ck + y) n) (hn : (m : Int) = n) (h1 : x + m ≤ 60) (h2 : y + m ≤ 60) : NT nk' nm' ck := fun i hi => by
  rw [e]
  unfold va_cpy
  by_cases z : y ≤ i ∧ i < y + m
  · rw [if_pos z, Tj (x + (i - y)) (by omega), show ck + i = ck + y + (i - y) by omega, P.1 (i - y) (by omega), Nat.add_assoc]
  · rw [if_neg z, Tk i hi, P.2 (ck + i) (by omega)]
theorem nt_paO {nb nm nm' : Nat → Int64} {x y m d : Nat} {n : Int} (T : NT nb nm d) (P : pL nm' nm (cj + x) (ck + y) n) (hn : (m : Int) = n) (h2 : y + m ≤ 60) (h : d + 60 ≤ ck ∨ ck + 60 ≤ d) : NT nb nm' d := fun i hi => by
  rw [T i hi, P.2 (d + i) (by omega)]
end NUM
/-- a whole image, copied -/
def cpE (g g0 h : Nat → Int32) (c d : Nat) : Prop := (∀ j : Nat, j < 9080 → g (c + j) = h (d + j)) ∧ ∀ j : Nat, (j < c ∨ c + 9080 ≤ j) → g j = g0 j
theorem cpe_i {g g0 h : Nat → Int32} {c d : Nat} {i : Int} (H : cpR g g0 h c d 0 i) (hi : i = 9080) : cpE g g0 h c d := by
  subst hi
  exact ⟨fun j hj => H.1 j (Nat.zero_le _) (by omega), fun j hj => H.2 j (by omega)⟩
