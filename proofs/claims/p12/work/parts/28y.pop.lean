/-! how many bits a number of sixteen bits has: the five steps in Nat, a table by a loop -/
theorem nI_bv {n : Nat} (h : n < 2147483648) : (nI n).toBitVec.toNat = n := by
  have h1 := tn_of (x := nI n) (by rw [nI_toInt h]; omega)
  rw [nI_toInt h] at h1
  omega
theorem nI_bo {x : Int32} {n : Nat} (h : x.toBitVec.toNat = n) (hn : n < 2147483648) : x = nI n := Int32.toInt_inj.mp (by rw [tn_to h hn, nI_toInt hn])
theorem us_N {m : Nat} (hm : m < 2147483648) {k : Int32} {j : Nat} (hj : (k.toUInt32 &&& Int32.toUInt32 31).toNat = j) (hj2 : j < 32) : us_ (nI m) k = nI (m >>> j) := by
  apply nI_bo
  · show ((nI m).toUInt32 >>> (k.toUInt32 &&& Int32.toUInt32 31)).toBitVec.toNat = m >>> j
    show ((nI m).toUInt32 >>> (k.toUInt32 &&& Int32.toUInt32 31)).toNat = m >>> j
    rw [UInt32.toNat_shiftRight, hj, Nat.mod_eq_of_lt hj2]
    show (nI m).toBitVec.toNat >>> j = m >>> j
    rw [nI_bv hm]
  · exact Nat.lt_of_le_of_lt (Nat.shiftRight_le m j) hm
theorem and_N {a b : Nat} (ha : a < 2147483648) (hb : b < 2147483648) : nI a &&& nI b = nI (a &&& b) := by
  apply nI_bo
  · show (nI a).toBitVec.toNat &&& (nI b).toBitVec.toNat = _
    rw [nI_bv ha, nI_bv hb]
  · exact Nat.lt_of_le_of_lt Nat.and_le_left ha
theorem add_N {a b : Nat} (h : a + b < 2147483648) : nI a + nI b = nI (a + b) := by
  apply Int32.toInt_inj.mp
  have q := ba_add (l1 := (a : Int)) (h1 := a) (l2 := (b : Int)) (h2 := b) (v := nI a + nI b) (a := nI a) (b := nI b) rfl (by rw [nI_toInt (by omega)]; omega) (by rw [nI_toInt (by omega)]; omega) (by omega)
  rw [q, nI_toInt (by omega), nI_toInt (by omega), nI_toInt h]
  omega
theorem sub_N {a b : Nat} (h : b ≤ a) (ha : a < 2147483648) : nI a - nI b = nI (a - b) := by
  apply Int32.toInt_inj.mp
  have q := ba_sub (l1 := (a : Int)) (h1 := a) (l2 := (b : Int)) (h2 := b) (v := nI a - nI b) (a := nI a) (b := nI b) rfl (by rw [nI_toInt (by omega)]; omega) (by rw [nI_toInt (by omega)]; omega) (by omega)
  rw [q, nI_toInt (by omega), nI_toInt (by omega), nI_toInt (by omega)]
  omega
def pN1 (n : Nat) : Nat := n - ((n >>> 1) &&& 1431655765)
def pN2 (n : Nat) : Nat := (n &&& 858993459) + ((n >>> 2) &&& 858993459)
def pN3 (n : Nat) : Nat := (n + (n >>> 4)) &&& 252645135
def pN4 (n : Nat) : Nat := n + (n >>> 8)
def pN5 (n : Nat) : Nat := n + (n >>> 16)
theorem bcf_N {n : Nat} (h : n < 65536) : bcf (nI n) = nI (pN5 (pN4 (pN3 (pN2 (pN1 n)))) &&& 63) := by
  have s1 : n >>> 1 ≤ n := Nat.shiftRight_le n 1
  have a1 : (n >>> 1) &&& 1431655765 ≤ n >>> 1 := Nat.and_le_left
  have e1 : bc1 (nI n) = nI (pN1 n) := by
    unfold bc1 pN1
    rw [us_N (by omega) (j := 1) (by decide) (by decide)]
    show nI n - (nI (n >>> 1) &&& nI 1431655765) = _
    rw [and_N (by omega) (by decide), sub_N (by omega) (by omega)]
  have b1 : pN1 n ≤ n := Nat.sub_le _ _
  generalize pN1 n = m at e1 b1
  have a2 : m &&& 858993459 ≤ 858993459 := Nat.and_le_right
  have a3 : (m >>> 2) &&& 858993459 ≤ 858993459 := Nat.and_le_right
  have s2 : m >>> 2 ≤ m := Nat.shiftRight_le m 2
  have e2 : bc2 (nI m) = nI (pN2 m) := by
    unfold bc2 pN2
    rw [us_N (by omega) (j := 2) (by decide) (by decide)]
    show (nI m &&& nI 858993459) + (nI (m >>> 2) &&& nI 858993459) = _
    rw [and_N (by omega) (by decide), and_N (by omega) (by decide), add_N (by omega)]
  have b2 : pN2 m ≤ 131070 := by
    have c1 : m &&& 858993459 ≤ m := Nat.and_le_left
    have c2 : (m >>> 2) &&& 858993459 ≤ m >>> 2 := Nat.and_le_left
    unfold pN2
    omega
  generalize pN2 m = k at e2 b2
  have s3 : k >>> 4 ≤ k := Nat.shiftRight_le k 4
  have e3 : bc3 (nI k) = nI (pN3 k) := by
    unfold bc3 pN3
    rw [us_N (by omega) (j := 4) (by decide) (by decide), add_N (by omega)]
    show nI (k + k >>> 4) &&& nI 252645135 = _
    rw [and_N (by omega) (by decide)]
  have b3 : pN3 k ≤ 262140 := by
    have c1 : (k + k >>> 4) &&& 252645135 ≤ k + k >>> 4 := Nat.and_le_left
    unfold pN3
    omega
  generalize pN3 k = q at e3 b3
  have s4 : q >>> 8 ≤ q := Nat.shiftRight_le q 8
  have e4 : bc4 (nI q) = nI (pN4 q) := by
    unfold bc4 pN4
    rw [us_N (by omega) (j := 8) (by decide) (by decide), add_N (by omega)]
  have b4 : pN4 q ≤ 524280 := by
    unfold pN4
    omega
  generalize pN4 q = r at e4 b4
  have s5 : r >>> 16 ≤ r := Nat.shiftRight_le r 16
  have e5 : bc5 (nI r) = nI (pN5 r) := by
    unfold bc5 pN5
    rw [us_N (by omega) (j := 16) (by decide) (by decide), add_N (by omega)]
  have b5 : pN5 r ≤ 1048560 := by
    unfold pN5
    omega
  unfold bcf
  rw [e1, e2, e3, e4, e5]
  show nI (pN5 r) &&& nI 63 = _
  rw [and_N (by omega) (by decide)]
theorem bcf_le {n : Nat} (h : n < 65536) : pN5 (pN4 (pN3 (pN2 (pN1 n)))) &&& 63 ≤ 63 := Nat.and_le_right
noncomputable def lpB (P : Nat → Bool) (n : Nat) : Bool := Nat.rec (motive := fun _ => Bool) true (fun b r => Bool.rec (motive := fun _ => Bool) false r (P b)) n
theorem lpB_i {P : Nat → Bool} : ∀ n, lpB P n = true → ∀ k, k < n → P k = true := by
  intro n
  induction n with
  | zero => intro _ k hk; omega
  | succ n ih =>
    intro h k hk
    have e : lpB P (n + 1) = Bool.rec (motive := fun _ => Bool) false (lpB P n) (P n) := rfl
    rw [e] at h
    cases hP : P n with
    | false => rw [hP] at h; cases h
    | true =>
      rw [hP] at h
      by_cases q : k = n
      · rw [q]; exact hP
      · exact ih h k (by omega)
def pM (n : Nat) : Nat := (fun m => (fun k => (fun q => (fun r => Nat.land (Nat.add r (Nat.shiftRight r 16)) 63) (Nat.add q (Nat.shiftRight q 8))) (Nat.land (Nat.add k (Nat.shiftRight k 4)) 252645135)) (Nat.add (Nat.land m 858993459) (Nat.land (Nat.shiftRight m 2) 858993459))) (Nat.sub n (Nat.land (Nat.shiftRight n 1) 1431655765))
theorem pM_N (n : Nat) : pN5 (pN4 (pN3 (pN2 (pN1 n)))) &&& 63 = pM n := rfl
def pMq (n : Nat) : Bool := Nat.beq (pM n) (Nat.add (pM (Nat.shiftRight n 1)) (Nat.land n 1))
theorem pM_tab : lpB (fun a => lpB (fun b => pMq (Nat.add (Nat.mul 256 a) b)) 256) 256 = true := by decide +kernel
theorem pM_h {n : Nat} (h : n < 65536) : pM n = pM (n >>> 1) + (n &&& 1) := by
  have h1 := lpB_i 256 (lpB_i 256 pM_tab (n / 256) (by omega)) (n % 256) (by omega)
  have e : Nat.add (Nat.mul 256 (n / 256)) (n % 256) = n := Nat.div_add_mod n 256
  have h2 : pMq (Nat.add (Nat.mul 256 (n / 256)) (n % 256)) = true := h1
  rw [e] at h2
  exact Nat.eq_of_beq_eq_true h2
theorem cb_s (k n : Nat) : cb (k + 1) n = cb k (n >>> 1) + (if n.testBit 0 then 1 else 0) := by
  induction k with
  | zero => rfl
  | succ k ih =>
    have e1 : cb (k + 1 + 1) n = cb (k + 1) n + (if n.testBit (k + 1) then 1 else 0) := rfl
    have e2 : cb (k + 1) (n >>> 1) = cb k (n >>> 1) + (if (n >>> 1).testBit k then 1 else 0) := rfl
    rw [e1, e2, ih, Nat.testBit_shiftRight, Nat.add_comm 1 k]
    omega
theorem and1_t (n : Nat) : n &&& 1 = (if n.testBit 0 then 1 else 0) := by
  rw [Nat.and_one_is_mod, Nat.testBit_zero]
  rcases Nat.mod_two_eq_zero_or_one n with h | h
  · rw [h]; rfl
  · rw [h]; rfl
theorem pM_cb : ∀ k, k ≤ 16 → ∀ n, n < 2 ^ k → pM n = cb k n := by
  intro k
  induction k with
  | zero =>
    intro _ n hn
    have e : n = 0 := by omega
    subst e
    rfl
  | succ k ih =>
    intro hk n hn
    have p : 2 ^ (k + 1) ≤ 2 ^ 16 := Nat.pow_le_pow_right (by decide) hk
    have p2 : 2 ^ (k + 1) = 2 * 2 ^ k := by rw [Nat.pow_succ, Nat.mul_comm]
    have d : n >>> 1 = n / 2 := Nat.shiftRight_succ n 0
    rw [pM_h (by omega), cb_s, and1_t, ih (by omega) (n >>> 1) (by omega)]
theorem bcc_tab (n : Nat) (h : n < 65536) : (bcf (nI n)).toInt = (cb 16 n : Int) := by
  have q := bcf_le h
  rw [bcf_N h, nI_toInt (by omega), pM_N, pM_cb 16 (Nat.le_refl _) n h]
