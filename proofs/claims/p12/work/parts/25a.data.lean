/-! the town's data on the reference's side -/
theorem tdt_r {f : Nat → Int32} : tdt f f := fun _ _ => rfl
theorem tdt_t {f g h : Nat → Int32} (a : tdt f g) (b : tdt g h) : tdt f h := fun j q => (b j q).trans (a j q)
theorem tdt_u {f g h : Nat → Int32} {k : Nat} {v : Int32} (a : tdt f g) (e : upd g k v = h) (q : k ≤ 3 ∨ 154 ≤ k) : tdt f h := fun j hj => by
  unfold rgd at hj
  rw [← e, upd_n (show j ≠ k by omega)]
  exact a j hj
theorem ix_tdt {x : Int32} {l h : Int} (b : l ≤ x.toInt ∧ x.toInt ≤ h) (s : 0 ≤ l ∧ (h ≤ 3 ∨ 154 ≤ l)) : x.toNatClampNeg ≤ 3 ∨ 154 ≤ x.toNatClampNeg := by
  have := cl_to (x := x) (by omega)
  omega
theorem ov_eq {f : Nat → Int32} {n lo hi : Int} {i j : Nat} {s : Int × Int × Int} (h1 : bytS.getD i [] = bytS.getD j []) (h2 : lenS.getD i 0 = lenS.getD j 0) : r_ov f n i lo hi s = r_ov f n j lo hi s := by
  unfold r_ov
  rw [am_eq h1 h2]
theorem ofI {v : Int32} {z : Int} (h : v.toInt = z) : v = Int32.ofInt z := by rw [← h, Int32.ofInt_toInt]
theorem hd_tie {f f0 f1 f2 f3 f4 f5 f6 f7 f8 f9 : Nat → Int32} {i0 i1 i2 i3 i4 i5 i6 i7 i8 v0 v1 v2 v3 v4 v5 v6 v7 v8 : Int32} {n : Int} {s : Int × Int × Int} {h : Nat} (e0 : upd f0 i0.toNatClampNeg v0 = f1) (e1 : upd f1 i1.toNatClampNeg v1 = f2) (e2 : upd f2 i2.toNatClampNeg v2 = f3) (e3 : upd f3 i3.toNatClampNeg v3 = f4) (e4 : upd f4 i4.toNatClampNeg v4 = f5) (e5 : upd f5 i5.toNatClampNeg v5 = f6) (e6 : upd f6 i6.toNatClampNeg v6 = f7) (e7 : upd f7 i7.toNatClampNeg v7 = f8) (e8 : upd f8 i8.toNatClampNeg v8 = f9)
    (k0 : i0.toInt = 10 + 9 * (h : Int)) (k1 : i1.toInt = 11 + 9 * (h : Int)) (k2 : i2.toInt = 12 + 9 * (h : Int)) (k3 : i3.toInt = 13 + 9 * (h : Int)) (k4 : i4.toInt = 14 + 9 * (h : Int)) (k5 : i5.toInt = 15 + 9 * (h : Int)) (k6 : i6.toInt = 16 + 9 * (h : Int)) (k7 : i7.toInt = 17 + 9 * (h : Int)) (k8 : i8.toInt = 18 + 9 * (h : Int))
    (w0 : v0.toInt = r_hv f n s 0) (w1 : v1.toInt = r_hv f n s 1) (w2 : v2.toInt = r_hv f n s 2) (w3 : v3.toInt = r_hv f n s 3) (w4 : v4.toInt = r_hv f n s 4) (w5 : v5.toInt = r_hv f n s 5) (w6 : v6.toInt = r_hv f n s 6) (w7 : v7.toInt = r_hv f n s 7) (w8 : v8.toInt = r_hv f n s 8) : ∀ j : Nat, f9 j = r_hd f n h s f0 j := by
  intro j
  have n0 := cl_to (x := i0) (by omega)
  have n1 := cl_to (x := i1) (by omega)
  have n2 := cl_to (x := i2) (by omega)
  have n3 := cl_to (x := i3) (by omega)
  have n4 := cl_to (x := i4) (by omega)
  have n5 := cl_to (x := i5) (by omega)
  have n6 := cl_to (x := i6) (by omega)
  have n7 := cl_to (x := i7) (by omega)
  have n8 := cl_to (x := i8) (by omega)
  rw [← e8, ← e7, ← e6, ← e5, ← e4, ← e3, ← e2, ← e1, ← e0]
  by_cases q : 10 + 9 * h ≤ j ∧ j < 19 + 9 * h
  · have T : ∀ k : Nat, k < 9 → j = 10 + 9 * h + k → r_hd f n h s f0 j = Int32.ofInt (r_hv f n s k) := fun k hk e => by rw [e]; exact hd_in hk
    rcases (show j = 10 + 9 * h + 0 ∨ j = 10 + 9 * h + 1 ∨ j = 10 + 9 * h + 2 ∨ j = 10 + 9 * h + 3 ∨ j = 10 + 9 * h + 4 ∨ j = 10 + 9 * h + 5 ∨ j = 10 + 9 * h + 6 ∨ j = 10 + 9 * h + 7 ∨ j = 10 + 9 * h + 8 by omega) with z | z | z | z | z | z | z | z | z
    · rw [T 0 (by decide) z, ← ofI w0, upd_n (by omega), upd_n (by omega), upd_n (by omega), upd_n (by omega), upd_n (by omega), upd_n (by omega), upd_n (by omega), upd_n (by omega), upd_h (by omega)]
    · rw [T 1 (by decide) z, ← ofI w1, upd_n (by omega), upd_n (by omega), upd_n (by omega), upd_n (by omega), upd_n (by omega), upd_n (by omega), upd_n (by omega), upd_h (by omega)]
    · rw [T 2 (by decide) z, ← ofI w2, upd_n (by omega), upd_n (by omega), upd_n (by omega), upd_n (by omega), upd_n (by omega), upd_n (by omega), upd_h (by omega)]
    · rw [T 3 (by decide) z, ← ofI w3, upd_n (by omega), upd_n (by omega), upd_n (by omega), upd_n (by omega), upd_n (by omega), upd_h (by omega)]
    · rw [T 4 (by decide) z, ← ofI w4, upd_n (by omega), upd_n (by omega), upd_n (by omega), upd_n (by omega), upd_h (by omega)]
    · rw [T 5 (by decide) z, ← ofI w5, upd_n (by omega), upd_n (by omega), upd_n (by omega), upd_h (by omega)]
    · rw [T 6 (by decide) z, ← ofI w6, upd_n (by omega), upd_n (by omega), upd_h (by omega)]
    · rw [T 7 (by decide) z, ← ofI w7, upd_n (by omega), upd_h (by omega)]
    · rw [T 8 (by decide) z, ← ofI w8, upd_h (by omega)]
  · rw [hd_out (by omega), upd_n (by omega), upd_n (by omega), upd_n (by omega), upd_n (by omega), upd_n (by omega), upd_n (by omega), upd_n (by omega), upd_n (by omega), upd_n (by omega)]
/-- a store elsewhere behind it -/
theorem tie_u {D g h : Nat → Int32} {k : Nat} {v : Int32} (a : ∀ j : Nat, g j = D j) (e : upd g k v = h) (q : k ≤ 3 ∨ 154 ≤ k) : tdt D h := fun j hj => by
  unfold rgd at hj
  rw [← e, upd_n (show j ≠ k by omega)]
  exact a j
theorem kno_c {o f1 f2 : Nat → Int32} {ia ib a b va vb sa sb la lb : Int32} {A B : Int} (h1 : upd o ia.toNatClampNeg va = f1) (h2 : upd f1 ib.toNatClampNeg vb = f2) (ea : va = la ||| sb) (eb : vb = lb ||| sa) (ela : la = o ia.toNatClampNeg) (elb : lb = f1 ib.toNatClampNeg) (esb : sb = 1 <<< (b &&& 31)) (esa : sa = 1 <<< (a &&& 31)) (ha : 0 ≤ a.toInt) (hb : 0 ≤ b.toInt) (qa : ia.toInt = 18 + 9 * a.toInt) (qb : ib.toInt = 18 + 9 * b.toInt) (hA : a.toInt = A) (hB : b.toInt = B) : f2 = kno o (18 + 9 * A.toNat) (18 + 9 * B.toNat) A B := by
  subst hA hB
  have q1 : ia.toNatClampNeg = 18 + 9 * a.toInt.toNat := by have := cl_to (x := ia) (by omega); omega
  have q2 : ib.toNatClampNeg = 18 + 9 * b.toInt.toNat := by have := cl_to (x := ib) (by omega); omega
  have b1 : qbit a.toInt = sa := by rw [esa]; unfold qbit; rw [Int32.ofInt_toInt]
  have b2 : qbit b.toInt = sb := by rw [esb]; unfold qbit; rw [Int32.ofInt_toInt]
  unfold kno
  rw [b1, b2, ← q1, ← q2, ← ela, ← ea, h1, ← elb, ← eb, h2]
theorem kno_g {D g : Nat → Int32} {p q : Nat} {a c : Int} (H : tdt D g) : tdt (kno D p q a c) (kno g p q a c) := by
  intro j hj
  have e := H j hj
  unfold kno upd
  by_cases h2 : j = q
  · rw [if_pos h2, if_pos h2]
    by_cases h3 : q = p
    · rw [if_pos h3, if_pos h3, ← h3, ← h2, e]
    · rw [if_neg h3, if_neg h3, ← h2, e]
  · rw [if_neg h2, if_neg h2]
    by_cases h3 : j = p
    · rw [if_pos h3, if_pos h3, ← h3, e]
    · rw [if_neg h3, if_neg h3, e]
theorem ld_c {f D g : Nat → Int32} {n : Int} {q : (Int × Int × Int) × Int × Int} (H : tdt D g) : tdt (r_ld f n q D) (r_ld f n q g) := by
  unfold r_ld
  split
  · intro j hj
    unfold r_hd
    split
    · rfl
    · exact H j hj
  · split
    · exact kno_g H
    · split
      · intro j hj
        unfold upd
        split
        · rfl
        · exact H j hj
      · split
        · intro j hj
          unfold upd
          split
          · rfl
          · exact H j hj
        · exact H
section RDM
variable {f D R : Nat → Int32} {n F P b hs ls : Int} {m : Nat}
theorem rdd_m (hI : r_rdd f n m ((F, P, b), hs, ls) D = R) (h : F = 0) (hk : qkd f n b ≠ 0) (hm : 0 < m) : r_rdd f n (m - 1) (r_ln f n ((F, P, b), hs, ls)) (r_ld f n ((F, P, b), hs, ls) D) = R := by
  obtain ⟨m, rfl⟩ : ∃ z, m = z + 1 := ⟨m - 1, by omega⟩
  rw [← hI]
  exact (if_neg (fun q => q.elim (fun q => q h) (fun q => hk q))).symm
theorem rdd_z (hI : r_rdd f n m ((F, P, b), hs, ls) D = R) (h : F ≠ 0 ∨ qkd f n b = 0) : D = R := by
  rw [← hI]
  cases m with
  | zero => rfl
  | succ m => exact (if_pos h).symm
end RDM
theorem tdt_0 {g g0 g1 : Nat → Int32} {i : Int} {k : Nat} (H : cpR g g0 (fun _ => 0) 0 0 0 i) (hi : 9080 ≤ i) (e : upd g k 3 = g1) (hk : k = 5) : tdt (upd (fun _ => 0) 5 3) g1 := by
  intro j hj
  unfold rgd at hj
  subst hk
  rw [← e]
  unfold upd
  split
  · rfl
  · rw [cp_eq H hi j (by omega)]
/-- whom each house knows, at first -/
def kcp (g g0 : Nat → Int32) (i : Int) : Prop := (∀ j : Nat, (j < 1864 ∨ 1880 ≤ j) → g j = g0 j) ∧ ∀ h : Nat, (h : Int) < i → g (1864 + h) = g0 (18 + 9 * h)
theorem kcp_0 {g : Nat → Int32} {i : Int} (h : i ≤ 0) : kcp g g i := ⟨fun _ _ => rfl, fun h9 q => by omega⟩
theorem kcp_s {g g0 g1 : Nat → Int32} {i i' : Int} {k : Nat} {v : Int32} (H : kcp g g0 i) (e : upd g k v = g1) (hk : (k : Int) = 1864 + i) (h0 : 0 ≤ i ∧ i < 16) (hv : v.toInt = (g (18 + 9 * i.toNat)).toInt) (hi : i' = i + 1) : kcp g1 g0 i' := by
  refine ⟨fun j hj => ?_, fun h hh => ?_⟩
  · rw [← e, upd_n (by omega)]
    exact H.1 j hj
  · by_cases z : (h : Int) = i
    · rw [← e, upd_h (by omega), Int32.toInt_inj.mp hv, H.1 _ (by omega), show i.toNat = h by omega]
    · rw [← e, upd_n (by omega)]
      exact H.2 h (by omega)
section LDM
variable {f D g h : Nat → Int32} {n F P b hs ls : Int} {s : Int × Int × Int}
theorem ld_o (hw : 4 ≤ qam f n b 0) (T : tdt D g) : tdt (r_ld f n ((F, P, b), hs, ls) D) g := by
  have e : r_ld f n ((F, P, b), hs, ls) D = D := (if_neg (show ¬ qam f n b 0 = 0 by omega)).trans ((if_neg (show ¬ qam f n b 0 = 1 by omega)).trans ((if_neg (show ¬ qam f n b 0 = 2 by omega)).trans (if_neg (show ¬ qam f n b 0 = 3 by omega))))
  rw [e]
  exact T
theorem ld_h (hw : qam f n b 0 = 0) (e : s = r_ad f n (F, P, b)) (T : tdt (r_hd f n hs.toNat s D) g) : tdt (r_ld f n ((F, P, b), hs, ls) D) g := by
  have e2 : r_ld f n ((F, P, b), hs, ls) D = r_hd f n hs.toNat (r_ad f n (F, P, b)) D := if_pos hw
  rw [e2, ← e]
  exact T
theorem ld_k (hw : qam f n b 0 = 1) (e : s = r_ad f n (F, P, b)) (T : tdt (r_kd f n hs s D) g) : tdt (r_ld f n ((F, P, b), hs, ls) D) g := by
  have e2 : r_ld f n ((F, P, b), hs, ls) D = r_kd f n hs (r_ad f n (F, P, b)) D := (if_neg (show ¬ qam f n b 0 = 0 by omega)).trans (if_pos hw)
  rw [e2, ← e]
  exact T
theorem ld_nw {v : Int32} {k : Nat} (hw : qam f n b 0 = 2) (e : s = r_ad f n (F, P, b)) (ev : v.toInt = r_nv f n 0 99 s) (h1 : upd D k v = g) (hk : k = 4) : tdt (r_ld f n ((F, P, b), hs, ls) D) g := by
  have e2 : r_ld f n ((F, P, b), hs, ls) D = upd D 4 (Int32.ofInt (r_nv f n 0 99 (r_ad f n (F, P, b)))) := (if_neg (show ¬ qam f n b 0 = 0 by omega)).trans ((if_neg (show ¬ qam f n b 0 = 1 by omega)).trans (if_pos hw))
  rw [e2, ← e, ← ofI ev, ← h1, hk]
  exact tdt_r
theorem ld_i {v : Int32} {k : Nat} (hw : qam f n b 0 = 3) (e : s = r_ad f n (F, P, b)) (ev : v.toInt = r_nv f n 1 9 s) (h1 : upd D k v = g) (hk : k = 5) : tdt (r_ld f n ((F, P, b), hs, ls) D) g := by
  have e2 : r_ld f n ((F, P, b), hs, ls) D = upd D 5 (Int32.ofInt (r_nv f n 1 9 (r_ad f n (F, P, b)))) := (if_neg (show ¬ qam f n b 0 = 0 by omega)).trans ((if_neg (show ¬ qam f n b 0 = 1 by omega)).trans ((if_neg (show ¬ qam f n b 0 = 2 by omega)).trans (if_pos hw)))
  rw [e2, ← e, ← ofI ev, ← h1, hk]
  exact tdt_r
end LDM
theorem tdt_w {f g g0 g1 : Nat → Int32} {i j : Int} (H : cpR g g0 f 0 0 0 i) (K : kcp g1 g j) (hi : 9080 ≤ i) : tdt f g1 := fun q hq => by
  unfold rgd at hq
  rw [K.1 q (by omega), cp_eq H hi q (by omega)]
theorem tdt_k {g g1 : Nat → Int32} {j : Int} (K : kcp g1 g j) (hj : 16 ≤ j) : ∀ h : Nat, h < 16 → g1 (1864 + h) = g1 (18 + 9 * h) := fun h hh => by rw [K.2 h (by omega), K.1 (18 + 9 * h) (by omega)]
theorem tn_z {f0 z0 f1 f w w0 w1 : Nat → Int32} {i i2 j : Int} {k : Nat} (Z : cpR f0 z0 (fun _ => 0) 0 0 0 i) (hi : 9080 ≤ i) (e : upd f0 k 3 = f1) (hk : k = 5) (R : rfr f1 f) (C : cpR w w0 f 0 0 0 i2) (hi2 : 9080 ≤ i2) (K : kcp w1 w j) : ∀ q : Nat, 6680 ≤ q → q < 9080 → w1 q = 0 := fun q h1 h2 => by
  rw [K.1 q (by omega), cp_eq C hi2 q h2, R q (by omega), ← e, upd_n (by omega), cp_eq Z hi q h2]
