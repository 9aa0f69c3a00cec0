/-! the data of both sides behind a call of the law -/
section TIE2
variable {g h w w' v v' : Nat → Int32} {A B P k1 k2 : Int} {c d : Nat}
theorem da_x (T : tgd g h) (hh : (h 0).toInt ≤ 16) (e1 : gda g A B P = k1) (e2 : gda h A B P = k2) (n : k1 ≠ k2) : False := n (e1.symm.trans ((gda_cg T hh).trans e2))
theorem me_x (T : tgd g h) (hh : (h 0).toInt ≤ 16) (e1 : gme g A B = k1) (e2 : gme h A B = k2) (n : k1 ≠ k2) : False := n (e1.symm.trans ((gme_c2 T hh).trans e2))
theorem kp_i (T : tgd g w) (H : cpE v' v w c 0) : tgd g (fun j => v' (c + j)) := fun j hj => by
  have h1 := H.1 j (by unfold sgd at hj; omega)
  rw [Nat.zero_add] at h1
  exact h1.trans (T j hj)
theorem kp_o (T : tgd g (fun j => v (d + j))) (H : cpE v' v w c 0) (q : d + 9080 ≤ c ∨ c + 9080 ≤ d) : tgd g (fun j => v' (d + j)) := fun j hj => by
  have h1 := H.2 (d + j) (by unfold sgd at hj; omega)
  exact h1.trans (T j hj)
theorem bk_i (T : tgd g (fun j => v (d + j))) (H : cpE w' w v 0 d) : tgd g w' := fun j hj => by
  have h1 := H.1 j (by unfold sgd at hj; omega)
  rw [Nat.zero_add] at h1
  exact h1.trans (T j hj)
theorem bs_i (T : tgd g w) (H : ∀ j : Nat, j < 9080 → w' j = w j) : tgd g w' := fun j hj => (H j (by unfold sgd at hj; omega)).trans (T j hj)
theorem gdn_c {nb nm : Nat → Int64} {z : Int} (N : NT nb nm c) (hz : z ≤ 60) : ∀ (m i : Nat) (g h : Nat → Int32), tgd g h → (h 0).toInt ≤ 16 → tgd (gdn nb z m i g) (gdn (fun q => nm (c + q)) z m i h) ∧ gdc nb z m i g = gdc (fun q => nm (c + q)) z m i h := by
  intro m
  induction m with
  | zero => exact fun i g h T _ => ⟨T, rfl⟩
  | succ m ih =>
    intro i g h T hh
    by_cases q : (i : Int) + 2 < z
    · have f1 : gdn nb z (m + 1) i g = gdn nb z m (i + 3) (gst g (nb i).toInt (nb (i + 1)).toInt (nb (i + 2)).toInt) := if_pos q
      have f2 : gdc nb z (m + 1) i g = gsn g (nb i).toInt (nb (i + 1)).toInt (nb (i + 2)).toInt + gdc nb z m (i + 3) (gst g (nb i).toInt (nb (i + 1)).toInt (nb (i + 2)).toInt) := if_pos q
      have f3 : gdn (fun q => nm (c + q)) z (m + 1) i h = gdn (fun q => nm (c + q)) z m (i + 3) (gst h (nm (c + i)).toInt (nm (c + (i + 1))).toInt (nm (c + (i + 2))).toInt) := if_pos q
      have f4 : gdc (fun q => nm (c + q)) z (m + 1) i h = gsn h (nm (c + i)).toInt (nm (c + (i + 1))).toInt (nm (c + (i + 2))).toInt + gdc (fun q => nm (c + q)) z m (i + 3) (gst h (nm (c + i)).toInt (nm (c + (i + 1))).toInt (nm (c + (i + 2))).toInt) := if_pos q
      have n0 := N i (by omega)
      have n1 := N (i + 1) (by omega)
      have n2 := N (i + 2) (by omega)
      obtain ⟨c1, c2⟩ := gst_c (A := (nm (c + i)).toInt) (B := (nm (c + (i + 1))).toInt) (P := (nm (c + (i + 2))).toInt) T hh
      obtain ⟨k1, k2⟩ := ih (i + 3) _ _ c1 (by rw [gst_0 hh]; exact hh)
      rw [f1, f2, f3, f4, n0, n1, n2]
      exact ⟨k1, by rw [c2, k2]⟩
    · have f1 : gdn nb z (m + 1) i g = g := if_neg q
      have f2 : gdc nb z (m + 1) i g = 0 := if_neg q
      have f3 : gdn (fun q => nm (c + q)) z (m + 1) i h = h := if_neg q
      have f4 : gdc (fun q => nm (c + q)) z (m + 1) i h = 0 := if_neg q
      rw [f1, f2, f3, f4]
      exact ⟨T, rfl⟩
end TIE2
theorem sdt_0 : sdt (upd (fun _ => 0) 5 3) 0 0 3 0 0 (fun _ => 0) (fun _ => 0) (fun _ => 0) (fun _ => 0) (fun _ => 0) (fun _ => 0) (fun _ => 0) (fun _ => 0) (fun _ => 0) (fun _ => 0) (fun _ => 0) (fun _ => 0) (fun _ => 0) (fun _ => 0) := by
  have z0 : Int32.toInt 0 = 0 := by decide
  exact ⟨⟨rfl, rfl, rfl, rfl, rfl⟩, ⟨fun h hh => by omega, fun h _ _ => ⟨rfl, upd_n (by omega)⟩⟩, fun h _ => (show upd (fun _ => 0) 5 3 (1864 + h) = (0 : Int32) from upd_n (by omega)).symm, fun i hi => by omega⟩
theorem nt_0 {c : Nat} : NT (fun _ => 0) (fun _ => 0) c := fun _ _ => rfl

/-! debts, code and what is paid, of both sides behind a call of the law -/
def kW (w : Nat → Int32) : Prop := (w 1).toInt ≤ 24 ∧ (w 2).toInt ≤ 180 ∧ (w 3).toInt ≤ 350 ∧ (w 7).toInt ≤ 600
section TIE3
variable {g h w w' v v' : Nat → Int32} {X : DX} {a b p r r' n q : Int} {c d : Nat} {C : List LN}
theorem kw_R (h : RWw w) : kW w := by
  have h1 := h.1.1 1
  have h2 := h.1.1 2
  have h3 := h.1.1 3
  have h7 := h.1.1 7
  have u1 : UBw 1 = 24 := by decide
  have u2 : UBw 2 = 180 := by decide
  have u3 : UBw 3 = 350 := by decide
  have u7 : UBw 7 = 600 := by decide
  exact ⟨by omega, by omega, by omega, by omega⟩
theorem mx_c (H : mxt X w) (k : kW w) (e : ∀ j : Nat, j < 9080 → j ≠ 6 → w' j = w j) : mxt X w' := ⟨mB_c H.1 (e 7 (by decide) (by decide)) (fun j j1 j2 => e j (by omega) (by omega)) (mB_le H.1 k.2.2.2), cm_c H.2.1 k.1 k.2.1 k.2.2.1 (fun j hj => e j (by omega) (by omega)), (e 9 (by decide) (by decide)).trans H.2.2⟩
theorem mx_6 (H : mxt X w) (k : kW w) (e : ∀ j : Nat, j ≠ 6 → w' j = w j) : mxt X w' := mx_c H k (fun j _ hj => e j hj)
theorem mx_kp (M : mxt X w) (k : kW w) (H : cpE v' v w c 0) : mxt X (fun j => v' (c + j)) := mx_c M k (fun j hj _ => by
  have h1 := H.1 j hj
  rw [Nat.zero_add] at h1
  exact h1)
theorem mx_o (M : mxt X (fun j => v (d + j))) (k : kW (fun j => v (d + j))) (H : cpE v' v w c 0) (q : d + 9080 ≤ c ∨ c + 9080 ≤ d) : mxt X (fun j => v' (d + j)) := mx_c M k (fun j hj _ => H.2 (d + j) (by omega))
theorem mx_bk (M : mxt X (fun j => v (d + j))) (k : kW (fun j => v (d + j))) (H : cpE w' w v 0 d) : mxt X w' := mx_c M k (fun j hj _ => by
  have h1 := H.1 j hj
  rw [Nat.zero_add] at h1
  exact h1)
theorem mx_tn (e : (w 7).toInt = 0 ∧ w 9 = 0) (c9 : cdM w C) : mxt (([], C, 0) : DX) w := ⟨⟨e.1, trivial⟩, c9, e.2⟩
theorem gdX_k (T : tgd g w) (hh : (w 0).toInt ≤ 16) (k : gok g a b p) : gdX g X a b p = gdX w X a b p := by
  obtain ⟨q1, q2, q3, q4, _⟩ := k.1
  have e0 := congrArg Int32.toInt (T 0 (by unfold sgd; omega))
  exact gdX_c T ⟨q1, by omega⟩ ⟨q3, by omega⟩
theorem de_u (T : tgd g w) (M : mxt X w) (_ : (w 0).toInt ≤ 16) (h : deR g X a r) (h' : (r' = -2 ∧ ¬ (0 ≤ a ∧ a < (w 0).toInt)) ∨ ((0 ≤ a ∧ a < (w 0).toInt) ∧ ∀ L, mB w L → r' = cnt (ofB a) L)) : r = r' := by
  have e := congrArg Int32.toInt (T 0 (by unfold sgd; omega))
  rcases h with ⟨h1, h2⟩ | ⟨h1, h2⟩
  · rcases h' with ⟨k1, k2⟩ | ⟨k1, k2⟩
    · rw [h1, k1]
    · exfalso; omega
  · rcases h' with ⟨k1, k2⟩ | ⟨k1, k2⟩
    · exfalso; omega
    · rw [h2, k2 _ M.1]
theorem sl_u (T : tgd g w) (M : mxt X w) (_ : (w 0).toInt ≤ 16) (h : slR g X a r) (h' : (r' = -2 ∧ ¬ (0 ≤ a ∧ a < (w 0).toInt)) ∨ ((0 ≤ a ∧ a < (w 0).toInt) ∧ ∀ L, mB w L → r' = cnt (otB a (w 6).toInt) L)) : r = r' := by
  have e := congrArg Int32.toInt (T 0 (by unfold sgd; omega))
  have e6 := congrArg Int32.toInt (T 6 (by unfold sgd; omega))
  rcases h with ⟨h1, h2⟩ | ⟨h1, h2⟩
  · rcases h' with ⟨k1, k2⟩ | ⟨k1, k2⟩
    · rw [h1, k1]
    · exfalso; omega
  · rcases h' with ⟨k1, k2⟩ | ⟨k1, k2⟩
    · exfalso; omega
    · rw [h2, k2 _ M.1, e6]
theorem dt_u (T : tgd g w) (M : mxt X w) (_ : (w 0).toInt ≤ 16) (h : dtR g X a n q r) (h' : (r' = -1 ∧ ¬ (0 ≤ a ∧ a < (w 0).toInt)) ∨ ((0 ≤ a ∧ a < (w 0).toInt) ∧ ∀ L, mB w L → dbR a n q L r')) : r = r' := by
  have e := congrArg Int32.toInt (T 0 (by unfold sgd; omega))
  rcases h with ⟨h1, h2⟩ | ⟨h1, h2⟩
  · rcases h' with ⟨k1, k2⟩ | ⟨k1, k2⟩
    · rw [h1, k1]
    · exfalso; omega
  · rcases h' with ⟨k1, k2⟩ | ⟨k1, k2⟩
    · exfalso; omega
    · exact db_u h2 (k2 _ M.1)
theorem fi_u (T : tgd g w) (M : mxt X w) (hh : (w 0).toInt ≤ 16) (h : fiR g X r) (h' : ∀ L, mB w L → r' = (fsF (fun q : Nat => cnt (otB (q : Int) (w 6).toInt) L) (fun q : Nat => (w (12 + 9 * q)).toInt) (w 0).toInt.toNat).1) : r = r' := by
  have e := congrArg Int32.toInt (T 0 (by unfold sgd; omega))
  have e6 := congrArg Int32.toInt (T 6 (by unfold sgd; omega))
  unfold fiR at h
  rw [h, h' _ M.1, e, e6]
  exact congrArg Prod.fst (fs_c _ (fun k hk => ⟨rfl, (congrArg Int32.toInt (T (12 + 9 * k) (by unfold sgd; omega))).symm⟩))
theorem ow_u (T : tgd g w) (M : mxt X w) (hh : (w 0).toInt ≤ 16) (h : owR g X a b p r) (h' : (r' = -2 ∧ ¬ (gtw w a b ∧ 0 ≤ p ∧ p ≤ 3)) ∨ ((gtw w a b ∧ 0 ≤ p ∧ p ≤ 3) ∧ ∀ C L, cdM w C → mB w L → r' = owN C L a b (dlI C L b p (w 6).toInt (w (12 + 9 * a.toNat)).toInt (w (12 + 9 * b.toNat)).toInt (gk w a b)))) : r = r' := by
  have e := congrArg Int32.toInt (T 0 (by unfold sgd; omega))
  have e6 := T 6 (by unfold sgd; omega)
  rcases h with ⟨h1, h2⟩ | ⟨h1, h2⟩
  · rcases h' with ⟨k1, k2⟩ | ⟨k1, k2⟩
    · rw [h1, k1]
    · exact absurd (show gtw g a b ∧ 0 ≤ p ∧ p ≤ 3 by unfold gtw; rw [← e]; exact k1) h2
  · rcases h' with ⟨k1, k2⟩ | ⟨k1, k2⟩
    · exact absurd (show gtw w a b ∧ 0 ≤ p ∧ p ≤ 3 by unfold gtw; rw [e]; exact h1) k2
    · obtain ⟨⟨q1, q2, q3, q4, _⟩, _⟩ := k1
      rw [h2, k2 _ _ M.2.1 M.1, gk_c T ⟨q1, by omega⟩, e6, T (12 + 9 * a.toNat) (by unfold sgd; omega), T (12 + 9 * b.toNat) (by unfold sgd; omega)]
theorem co_u {ts ta fl fk : Int} (T : tgd g w) (M : mxt X w) (ht : ts = ta) (hf : fl = fk) (h : r = couG g X ts fl q) (h' : ∀ L, mB w L → r' = couR (w 0).toInt (w 1).toInt (w 6).toInt (w 7).toInt (cnt (odB (w 6).toInt) L) (w 8).toInt (w 9).toInt ta (w 5).toInt (w 4).toInt fk q) : r = r' := by
  rw [h, h' _ M.1]
  unfold couG
  rw [T 0 (by unfold sgd; omega), T 6 (by unfold sgd; omega), T 8 (by unfold sgd; omega), T 5 (by unfold sgd; omega), T 4 (by unfold sgd; omega), M.1.1, M.2.1.1, M.2.2, ht, hf]
theorem sR_f {fl wi sz : Int32} {mn wd : Int} (h : sR fl wi sz mn wd) : fl.toInt = fl1 mn := by
  rcases h with h | h
  · rw [fl1_0 h.2]; exact h.1
  · rw [fl1_1 (by omega)]; exact h.1
end TIE3

theorem BM_k {y : Nat → ClassId} {wm : va_W} {ob : Nat} {ob_taped : Int32} {fob_many : Nat → Int32} {fob_width : Nat → Int32} {fob_hasImage : Nat → Int32} {fob_tape : Nat → Int32} {ob_faultKind : Int32} {ob_faultPlace : Int32} {fob_world : Nat → Int32} {fob_images : Nat → Int32} {fob_numbers : Nat → Int64} (h : BM y ob ob_taped fob_many fob_width fob_hasImage fob_tape ob_faultKind ob_faultPlace fob_world fob_images fob_numbers wm) : kW fob_world ∧ kW (fun j => fob_images (0 + j)) ∧ kW (fun j => fob_images (9080 + j)) ∧ kW (fun j => fob_images (18160 + j)) := by
  obtain ⟨ad, iv, rv, lw, tx, hu, rfl⟩ := h
  exact ⟨kw_R (hu.1), kw_R ((hu.2.1) 0 (by decide)), kw_R ((hu.2.1) 1 (by decide)), kw_R ((hu.2.1) 2 (by decide))⟩
