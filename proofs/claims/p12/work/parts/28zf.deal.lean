/-! what a deed pays and makes -/
noncomputable def ndD (C : List LN) (B : List D5) (a b on i : Int) : List D5 := if i < 0 then B else match C[i.toNat]? with
  | none => B
  | some x => @ite (List D5) (hasB b a x.2.1 B) (Classical.propDecidable _) B (B ++ [(b, a, x.2.1, min 399 (on + x.2.2.1), on)])
noncomputable def dlI (C : List LN) (B : List D5) (b p on r1 r2 kn : Int) : Int := lnr p (fct r1 r2 (cnt (ofB b) B) on kn) C 0
noncomputable def dlB (C : List LN) (B : List D5) (a b p on r1 r2 kn : Int) : List D5 := ndD C (B.filter (kpB a b p)) a b on (dlI C (B.filter (kpB a b p)) b p on r1 r2 kn)
section DEA
variable {C : List LN} {B L : List D5} {a b p on i ln us sz r1 r2 kn k : Int} {x : LN} {pa kd wi st sp ts op ks f0 f1 f2 f3 f4 g0 g1 g2 g3 g4 op' ks' : Nat → Int32}
theorem nd_0 (h : i < 0) : ndD C B a b on i = B := if_pos h
theorem nd_o (h : 0 ≤ i) (hx : C[i.toNat]? = some x) (ho : hasB b a x.2.1 B) : ndD C B a b on i = B := by
  unfold ndD
  rw [if_neg (by omega), hx]
  exact @if_pos _ (Classical.propDecidable _) ho _ _ _
theorem nd_a (h : 0 ≤ i) (hx : C[i.toNat]? = some x) (ho : ¬ hasB b a x.2.1 B) : ndD C B a b on i = B ++ [(b, a, x.2.1, min 399 (on + x.2.2.1), on)] := by
  unfold ndD
  rw [if_neg (by omega), hx]
  exact @if_neg _ (Classical.propDecidable _) ho _ _ _
theorem li_x {fa : Nat → Int} (h : 0 ≤ lnr p fa C 0) : ∃ x, C[(lnr p fa C 0).toNat]? = some x := by
  have h2 := lnr_b (p := p) (fa := fa) C 0 (Int.le_refl 0)
  exact ⟨C[(lnr p fa C 0).toNat]'(by omega), List.getElem?_eq_getElem (by omega)⟩
/-- the class's rows: owed already -/
theorem io_x {r v1 v2 kv : Int32} (H : dB sz f0 f1 f2 f3 f4 op ks L) (ha : 0 ≤ a ∧ a ≤ 15) (hb : 0 ≤ b ∧ b ≤ 15) (er : r.toInt = (ks (16 * a + b).toNat).toInt) (e1 : v1 = r >>> (kv &&& 31)) (e2 : v2 = v1 &&& 1) (hk : 0 ≤ kv.toInt ∧ kv.toInt ≤ 3) : v2.toInt = 1 ↔ hasB a b kv.toInt L := by
  have h := ks_at H.2.2.2.1 ha hb (x := (16 * a + b).toNat) (by omega)
  rw [← er] at h
  have h2 := bq_h e1 e2 h.1.1 ⟨hk.1, by omega⟩
  have h3 := h.2 kv.toInt.toNat
  rw [show ((kv.toInt.toNat : Nat) : Int) = kv.toInt by omega] at h3
  rw [h2]
  unfold hasB bq
  rw [← h3]
  split
  · next q => exact ⟨fun _ => q, fun _ => rfl⟩
  · next q => exact ⟨fun z => absurd z (by decide), fun z => absurd z q⟩
theorem io_y {r v1 v2 kv : Int32} (ha : 0 ≤ a ∧ a ≤ 15) (hb : 0 ≤ b ∧ b ≤ 15) (er : r.toInt = (ks (16 * a + b).toNat).toInt) (e1 : v1 = r >>> (kv &&& 31)) (e2 : v2 = v1 &&& 1) (hk : 0 ≤ kv.toInt ∧ kv.toInt ≤ 3) (c : v2.toInt = 1) (L : List D5) (H : dB sz f0 f1 f2 f3 f4 op ks L) : hasB a b kv.toInt L := (io_x H ha hb er e1 e2 hk).mp c
theorem io_n {r v1 v2 kv : Int32} (ha : 0 ≤ a ∧ a ≤ 15) (hb : 0 ≤ b ∧ b ≤ 15) (er : r.toInt = (ks (16 * a + b).toNat).toInt) (e1 : v1 = r >>> (kv &&& 31)) (e2 : v2 = v1 &&& 1) (hk : 0 ≤ kv.toInt ∧ kv.toInt ≤ 3) (c : v2.toInt ≠ 1) (L : List D5) (H : dB sz f0 f1 f2 f3 f4 op ks L) : ¬ hasB a b kv.toInt L := fun z => c ((io_x H ha hb er e1 e2 hk).mpr z)
/-- the line that is taken -/
theorem dl_i {iv ov bv : Int32} {m t : Int} (H : dB sz f0 f1 f2 f3 f4 op ks B) (hl : iv.toInt = lnr p (fct m t ov.toInt on kn) C 0) (eo : ov = op bv.toNatClampNeg) (hb : 0 ≤ bv.toInt ∧ bv.toInt ≤ 15) : iv.toInt = dlI C B bv.toInt p on m t kn := by
  have h := H.2.2.1 bv.toInt.toNat (by omega)
  rw [show ((bv.toInt.toNat : Nat) : Int) = bv.toInt by omega, ← cl_nat hb.1, ← eo] at h
  unfold dlI
  rw [← h]
  exact hl
theorem kd_C {l : Nat} (H : cdC ln us pa kd wi st sp ts C) (hx : C[l]? = some x) : (kd l).toInt = x.2.1 ∧ (wi l).toInt = x.2.2.1 ∧ okL x := ⟨(H.2 l x hx).2.2.1, (H.2 l x hx).2.2.2.1, (H.2 l x hx).1⟩
theorem dl_0 {q : List D5 → Prop} (h : i < 0) (e : i = dlI C (L.filter (kpB a b p)) b p on r1 r2 kn) (H : q (L.filter (kpB a b p))) : q (dlB C L a b p on r1 r2 kn) := by
  unfold dlB
  rw [← e, nd_0 h]
  exact H
theorem dl_o {q : List D5 → Prop} (h : 0 ≤ i) (e : i = dlI C (L.filter (kpB a b p)) b p on r1 r2 kn) (hk : ∀ x : LN, C[i.toNat]? = some x → hasB b a x.2.1 (L.filter (kpB a b p))) (H : q (L.filter (kpB a b p))) : q (dlB C L a b p on r1 r2 kn) := by
  have e2 := e
  unfold dlI at e2
  rw [e2] at h
  obtain ⟨x, hx⟩ := li_x h
  rw [← e2] at hx h
  unfold dlB
  rw [← e, nd_o h hx (hk x hx)]
  exact H
theorem dl_a {q : List D5 → Prop} {kv dv : Int} (h : 0 ≤ i) (e : i = dlI C (L.filter (kpB a b p)) b p on r1 r2 kn) (hn : ∀ x : LN, C[i.toNat]? = some x → ¬ hasB b a x.2.1 (L.filter (kpB a b p)) ∧ kv = x.2.1 ∧ dv = min 399 (on + x.2.2.1)) (H : q (L.filter (kpB a b p) ++ [(b, a, kv, dv, on)])) : q (dlB C L a b p on r1 r2 kn) := by
  have e2 := e
  unfold dlI at e2
  rw [e2] at h
  obtain ⟨x, hx⟩ := li_x h
  rw [← e2] at hx h
  obtain ⟨n1, n2, n3⟩ := hn x hx
  unfold dlB
  rw [← e, nd_a h hx n1, ← n2, ← n3]
  exact H
/-- the line itself -/
theorem dl_k {kv : Int} (h : 0 ≤ i) (hx : ∃ x : LN, C[i.toNat]? = some x ∧ kv = x.2.1) : ∀ x : LN, C[i.toNat]? = some x → kv = x.2.1 := by
  obtain ⟨y, h1, h2⟩ := hx
  intro x q
  rw [h1] at q
  rw [h2, Option.some.inj q]
end DEA
