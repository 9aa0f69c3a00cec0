/-! an instruction is read off its own bytes -/
def agr : List UInt8 → List Nat → Bool
  | _, [] => true
  | b :: bs, n :: ns => Nat.beq b.toNat n && agr bs ns
  | [], _ :: _ => false
noncomputable def drp (n : Nat) : List UInt8 → List UInt8 := Nat.rec (motive := fun _ => List UInt8 → List UInt8) (fun l => l) (fun _ ih l => ih l.tail) n
theorem drp_eq (n : Nat) : ∀ l : List UInt8, drp n l = l.drop n := by
  induction n with
  | zero => exact fun l => rfl
  | succ n ih =>
    intro l
    show drp n l.tail = _
    rw [ih]
    cases l with
    | nil => rw [List.tail_nil, List.drop_nil, List.drop_nil]
    | cons a l => rfl
noncomputable def agd (c : ByteArray) (pc : Nat) (l : List Nat) : Bool := agr (drp pc c.data.toList) l
theorem agr_get : ∀ {L : List UInt8} {l : List Nat}, agr L l = true → ∀ j n, l[j]? = some n → ∃ h : j < L.length, (L[j]).toNat = n
  | _, [], _, j, n, hj => by rw [List.getElem?_nil] at hj; cases hj
  | [], _ :: _, h, _, _, _ => by cases h
  | b :: bs, m :: ns, h, j, n, hj => by
    have h1 : (Nat.beq b.toNat m && agr bs ns) = true := h
    rw [Bool.and_eq_true] at h1
    cases j with
    | zero =>
      have e : m = n := by
        rw [List.getElem?_cons_zero] at hj
        exact Option.some.inj hj
      exact ⟨Nat.zero_lt_succ _, (Nat.eq_of_beq_eq_true h1.1).trans e⟩
    | succ j =>
      rw [List.getElem?_cons_succ] at hj
      obtain ⟨h3, h4⟩ := agr_get h1.2 j n hj
      exact ⟨Nat.succ_lt_succ h3, h4⟩
theorem u1_of {c : ByteArray} {pc n : Nat} {l : List Nat} (j : Nat) (h : agd c pc l = true) (hj : l[j]? = some n) : (Jvm.ClassFile.Reader.u1 : Jvm.ClassFile.Reader Jvm.ClassFile.DecodeError Nat) c (pc + j) = Except.ok (n, pc + j + 1) := by
  unfold agd at h
  rw [drp_eq] at h
  obtain ⟨h1, h2⟩ := agr_get h j n hj
  have e : c.size = c.data.toList.length := rfl
  have h5 := h1
  rw [List.length_drop] at h5
  have h3 : pc + j < c.size := by omega
  have h4 : (c[pc + j]).toNat = n := by
    rw [← h2, List.getElem_drop]
    rfl
  show (dite (pc + j < c.size) (fun h => (do set (pc + j + 1); pure (c[pc + j]).toNat : Jvm.ClassFile.Reader Jvm.ClassFile.DecodeError Nat)) (fun _ => throw (Jvm.ClassFile.HasTruncated.truncated (pc + j)))) c (pc + j) = _
  rw [dif_pos h3]
  show Except.ok ((c[pc + j]).toNat, pc + j + 1) = _
  rw [h4]
theorem bd_ok {α β : Type} {r : Jvm.ClassFile.Reader Jvm.ClassFile.DecodeError α} {f : α → Jvm.ClassFile.Reader Jvm.ClassFile.DecodeError β} {c : ByteArray} {p q : Nat} {a : α} (h : r c p = Except.ok (a, q)) : (r >>= f) c p = f a c q := by
  have e : (r >>= f) c p = Except.bind (r c p) (fun x => f x.1 c x.2) := rfl
  rw [e, h]
  rfl
theorem dec_ok {c : ByteArray} {pc p len : Nat} {i : Jvm.ClassFile.Instr} (h : Jvm.ClassFile.Decoder.instr pc c pc = Except.ok (i, p)) (hp : p = pc + len) : decode c pc = Except.ok (i, len) := by
  have e : decode c pc = Except.bind (Jvm.ClassFile.Decoder.instr pc c pc) (fun x => Except.ok (x.1, x.2 - pc)) := rfl
  rw [e, h, hp]
  show Except.ok (i, pc + len - pc) = _
  rw [Nat.add_sub_cancel_left]
theorem u1_0 {c : ByteArray} {pc n : Nat} {l : List Nat} (h : agd c pc (n :: l) = true) : (Jvm.ClassFile.Reader.u1 : Jvm.ClassFile.Reader Jvm.ClassFile.DecodeError Nat) c pc = Except.ok (n, pc + 1) := u1_of 0 h rfl
theorem u1_1 {c : ByteArray} {pc n m : Nat} {l : List Nat} (h : agd c pc (n :: m :: l) = true) : (Jvm.ClassFile.Reader.u1 : Jvm.ClassFile.Reader Jvm.ClassFile.DecodeError Nat) c (pc + 1) = Except.ok (m, pc + 2) := u1_of 1 h rfl
theorem u1_2 {c : ByteArray} {pc n m k : Nat} {l : List Nat} (h : agd c pc (n :: m :: k :: l) = true) : (Jvm.ClassFile.Reader.u1 : Jvm.ClassFile.Reader Jvm.ClassFile.DecodeError Nat) c (pc + 2) = Except.ok (k, pc + 3) := u1_of 2 h rfl
theorem s1_1 {c : ByteArray} {pc n m : Nat} {l : List Nat} (h : agd c pc (n :: m :: l) = true) : (Jvm.ClassFile.Reader.s1 : Jvm.ClassFile.Reader Jvm.ClassFile.DecodeError Int) c (pc + 1) = Except.ok (Jvm.ClassFile.Reader.signed 8 m, pc + 2) := by
  show (Jvm.ClassFile.Reader.u1 >>= fun a => pure (Jvm.ClassFile.Reader.signed 8 a) : Jvm.ClassFile.Reader Jvm.ClassFile.DecodeError Int) c (pc + 1) = _
  rw [bd_ok (u1_1 h)]
  rfl
theorem s1_2 {c : ByteArray} {pc n m k : Nat} {l : List Nat} (h : agd c pc (n :: m :: k :: l) = true) : (Jvm.ClassFile.Reader.s1 : Jvm.ClassFile.Reader Jvm.ClassFile.DecodeError Int) c (pc + 2) = Except.ok (Jvm.ClassFile.Reader.signed 8 k, pc + 3) := by
  show (Jvm.ClassFile.Reader.u1 >>= fun a => pure (Jvm.ClassFile.Reader.signed 8 a) : Jvm.ClassFile.Reader Jvm.ClassFile.DecodeError Int) c (pc + 2) = _
  rw [bd_ok (u1_2 h)]
  rfl
theorem u2_1 {c : ByteArray} {pc n m k : Nat} {l : List Nat} (h : agd c pc (n :: m :: k :: l) = true) : (Jvm.ClassFile.Reader.u2 : Jvm.ClassFile.Reader Jvm.ClassFile.DecodeError Nat) c (pc + 1) = Except.ok (m * 256 + k, pc + 3) := by
  show (Jvm.ClassFile.Reader.u1 >>= fun a => Jvm.ClassFile.Reader.u1 >>= fun b => pure (a * 256 + b) : Jvm.ClassFile.Reader Jvm.ClassFile.DecodeError Nat) c (pc + 1) = _
  rw [bd_ok (u1_1 h), bd_ok (u1_2 h)]
  rfl
theorem s2_1 {c : ByteArray} {pc n m k : Nat} {l : List Nat} (h : agd c pc (n :: m :: k :: l) = true) : (Jvm.ClassFile.Reader.s2 : Jvm.ClassFile.Reader Jvm.ClassFile.DecodeError Int) c (pc + 1) = Except.ok (Jvm.ClassFile.Reader.signed 16 (m * 256 + k), pc + 3) := by
  show (Jvm.ClassFile.Reader.u2 >>= fun a => pure (Jvm.ClassFile.Reader.signed 16 a) : Jvm.ClassFile.Reader Jvm.ClassFile.DecodeError Int) c (pc + 1) = _
  rw [bd_ok (u2_1 h)]
  rfl
set_option maxRecDepth 100000 in
theorem dk_2 {c : ByteArray} {pc : Nat} (h : agd c pc [2] = true) : decode c pc = .ok (.iconst (-1), 1) := by
  refine dec_ok ?_ rfl
  unfold Jvm.ClassFile.Decoder.instr
  refine Eq.trans (bd_ok (u1_0 h)) ?_
  rfl
set_option maxRecDepth 100000 in
theorem dk_3 {c : ByteArray} {pc : Nat} (h : agd c pc [3] = true) : decode c pc = .ok (.iconst 0, 1) := by
  refine dec_ok ?_ rfl
  unfold Jvm.ClassFile.Decoder.instr
  refine Eq.trans (bd_ok (u1_0 h)) ?_
  rfl
set_option maxRecDepth 100000 in
theorem dk_4 {c : ByteArray} {pc : Nat} (h : agd c pc [4] = true) : decode c pc = .ok (.iconst 1, 1) := by
  refine dec_ok ?_ rfl
  unfold Jvm.ClassFile.Decoder.instr
  refine Eq.trans (bd_ok (u1_0 h)) ?_
  rfl
set_option maxRecDepth 100000 in
theorem dk_5 {c : ByteArray} {pc : Nat} (h : agd c pc [5] = true) : decode c pc = .ok (.iconst 2, 1) := by
  refine dec_ok ?_ rfl
  unfold Jvm.ClassFile.Decoder.instr
  refine Eq.trans (bd_ok (u1_0 h)) ?_
  rfl
set_option maxRecDepth 100000 in
theorem dk_6 {c : ByteArray} {pc : Nat} (h : agd c pc [6] = true) : decode c pc = .ok (.iconst 3, 1) := by
  refine dec_ok ?_ rfl
  unfold Jvm.ClassFile.Decoder.instr
  refine Eq.trans (bd_ok (u1_0 h)) ?_
  rfl
set_option maxRecDepth 100000 in
theorem dk_7 {c : ByteArray} {pc : Nat} (h : agd c pc [7] = true) : decode c pc = .ok (.iconst 4, 1) := by
  refine dec_ok ?_ rfl
  unfold Jvm.ClassFile.Decoder.instr
  refine Eq.trans (bd_ok (u1_0 h)) ?_
  rfl
set_option maxRecDepth 100000 in
theorem dk_8 {c : ByteArray} {pc : Nat} (h : agd c pc [8] = true) : decode c pc = .ok (.iconst 5, 1) := by
  refine dec_ok ?_ rfl
  unfold Jvm.ClassFile.Decoder.instr
  refine Eq.trans (bd_ok (u1_0 h)) ?_
  rfl
set_option maxRecDepth 100000 in
theorem dk_9 {c : ByteArray} {pc : Nat} (h : agd c pc [9] = true) : decode c pc = .ok (.lconst 0, 1) := by
  refine dec_ok ?_ rfl
  unfold Jvm.ClassFile.Decoder.instr
  refine Eq.trans (bd_ok (u1_0 h)) ?_
  rfl
set_option maxRecDepth 100000 in
theorem dk_10 {c : ByteArray} {pc : Nat} (h : agd c pc [10] = true) : decode c pc = .ok (.lconst 1, 1) := by
  refine dec_ok ?_ rfl
  unfold Jvm.ClassFile.Decoder.instr
  refine Eq.trans (bd_ok (u1_0 h)) ?_
  rfl
set_option maxRecDepth 100000 in
theorem dk_16 {c : ByteArray} {pc a : Nat} {k : Int} (h : agd c pc [16, a] = true) (hk : Jvm.ClassFile.Reader.signed 8 a = k) : decode c pc = .ok (.bipush k, 2) := by
  subst hk
  refine dec_ok ?_ rfl
  unfold Jvm.ClassFile.Decoder.instr
  refine Eq.trans (bd_ok (u1_0 h)) ?_
  show (Jvm.ClassFile.Reader.s1 >>= fun a => pure (.bipush a) : Jvm.ClassFile.Reader Jvm.ClassFile.DecodeError Jvm.ClassFile.Instr) c (pc + 1) = _
  rw [bd_ok (s1_1 h)]
  rfl
set_option maxRecDepth 100000 in
theorem dk_17 {c : ByteArray} {pc a b : Nat} {k : Int} (h : agd c pc [17, a, b] = true) (hk : Jvm.ClassFile.Reader.signed 16 (a * 256 + b) = k) : decode c pc = .ok (.sipush k, 3) := by
  subst hk
  refine dec_ok ?_ rfl
  unfold Jvm.ClassFile.Decoder.instr
  refine Eq.trans (bd_ok (u1_0 h)) ?_
  show (Jvm.ClassFile.Reader.s2 >>= fun a => pure (.sipush a) : Jvm.ClassFile.Reader Jvm.ClassFile.DecodeError Jvm.ClassFile.Instr) c (pc + 1) = _
  rw [bd_ok (s2_1 h)]
  rfl
set_option maxRecDepth 100000 in
theorem dk_18 {c : ByteArray} {pc a : Nat} (h : agd c pc [18, a] = true) : decode c pc = .ok (.ldc a, 2) := by
  refine dec_ok ?_ rfl
  unfold Jvm.ClassFile.Decoder.instr
  refine Eq.trans (bd_ok (u1_0 h)) ?_
  show (Jvm.ClassFile.Reader.u1 >>= fun a => pure (.ldc a) : Jvm.ClassFile.Reader Jvm.ClassFile.DecodeError Jvm.ClassFile.Instr) c (pc + 1) = _
  rw [bd_ok (u1_1 h)]
  rfl
set_option maxRecDepth 100000 in
theorem dk_19 {c : ByteArray} {pc a b k : Nat} (h : agd c pc [19, a, b] = true) (hk : a * 256 + b = k) : decode c pc = .ok (.ldc_w k, 3) := by
  subst hk
  refine dec_ok ?_ rfl
  unfold Jvm.ClassFile.Decoder.instr
  refine Eq.trans (bd_ok (u1_0 h)) ?_
  show (Jvm.ClassFile.Reader.u2 >>= fun a => pure (.ldc_w a) : Jvm.ClassFile.Reader Jvm.ClassFile.DecodeError Jvm.ClassFile.Instr) c (pc + 1) = _
  rw [bd_ok (u2_1 h)]
  rfl
set_option maxRecDepth 100000 in
theorem dk_20 {c : ByteArray} {pc a b k : Nat} (h : agd c pc [20, a, b] = true) (hk : a * 256 + b = k) : decode c pc = .ok (.ldc2_w k, 3) := by
  subst hk
  refine dec_ok ?_ rfl
  unfold Jvm.ClassFile.Decoder.instr
  refine Eq.trans (bd_ok (u1_0 h)) ?_
  show (Jvm.ClassFile.Reader.u2 >>= fun a => pure (.ldc2_w a) : Jvm.ClassFile.Reader Jvm.ClassFile.DecodeError Jvm.ClassFile.Instr) c (pc + 1) = _
  rw [bd_ok (u2_1 h)]
  rfl
set_option maxRecDepth 100000 in
theorem dk_21 {c : ByteArray} {pc a : Nat} (h : agd c pc [21, a] = true) : decode c pc = .ok (.iload a, 2) := by
  refine dec_ok ?_ rfl
  unfold Jvm.ClassFile.Decoder.instr
  refine Eq.trans (bd_ok (u1_0 h)) ?_
  show (Jvm.ClassFile.Reader.u1 >>= fun a => pure (.iload a) : Jvm.ClassFile.Reader Jvm.ClassFile.DecodeError Jvm.ClassFile.Instr) c (pc + 1) = _
  rw [bd_ok (u1_1 h)]
  rfl
set_option maxRecDepth 100000 in
theorem dk_22 {c : ByteArray} {pc a : Nat} (h : agd c pc [22, a] = true) : decode c pc = .ok (.lload a, 2) := by
  refine dec_ok ?_ rfl
  unfold Jvm.ClassFile.Decoder.instr
  refine Eq.trans (bd_ok (u1_0 h)) ?_
  show (Jvm.ClassFile.Reader.u1 >>= fun a => pure (.lload a) : Jvm.ClassFile.Reader Jvm.ClassFile.DecodeError Jvm.ClassFile.Instr) c (pc + 1) = _
  rw [bd_ok (u1_1 h)]
  rfl
set_option maxRecDepth 100000 in
theorem dk_25 {c : ByteArray} {pc a : Nat} (h : agd c pc [25, a] = true) : decode c pc = .ok (.aload a, 2) := by
  refine dec_ok ?_ rfl
  unfold Jvm.ClassFile.Decoder.instr
  refine Eq.trans (bd_ok (u1_0 h)) ?_
  show (Jvm.ClassFile.Reader.u1 >>= fun a => pure (.aload a) : Jvm.ClassFile.Reader Jvm.ClassFile.DecodeError Jvm.ClassFile.Instr) c (pc + 1) = _
  rw [bd_ok (u1_1 h)]
  rfl
set_option maxRecDepth 100000 in
theorem dk_26 {c : ByteArray} {pc : Nat} (h : agd c pc [26] = true) : decode c pc = .ok (.iload_n 0, 1) := by
  refine dec_ok ?_ rfl
  unfold Jvm.ClassFile.Decoder.instr
  refine Eq.trans (bd_ok (u1_0 h)) ?_
  rfl
set_option maxRecDepth 100000 in
theorem dk_27 {c : ByteArray} {pc : Nat} (h : agd c pc [27] = true) : decode c pc = .ok (.iload_n 1, 1) := by
  refine dec_ok ?_ rfl
  unfold Jvm.ClassFile.Decoder.instr
  refine Eq.trans (bd_ok (u1_0 h)) ?_
  rfl
set_option maxRecDepth 100000 in
theorem dk_28 {c : ByteArray} {pc : Nat} (h : agd c pc [28] = true) : decode c pc = .ok (.iload_n 2, 1) := by
  refine dec_ok ?_ rfl
  unfold Jvm.ClassFile.Decoder.instr
  refine Eq.trans (bd_ok (u1_0 h)) ?_
  rfl
set_option maxRecDepth 100000 in
theorem dk_29 {c : ByteArray} {pc : Nat} (h : agd c pc [29] = true) : decode c pc = .ok (.iload_n 3, 1) := by
  refine dec_ok ?_ rfl
  unfold Jvm.ClassFile.Decoder.instr
  refine Eq.trans (bd_ok (u1_0 h)) ?_
  rfl
set_option maxRecDepth 100000 in
theorem dk_30 {c : ByteArray} {pc : Nat} (h : agd c pc [30] = true) : decode c pc = .ok (.lload_n 0, 1) := by
  refine dec_ok ?_ rfl
  unfold Jvm.ClassFile.Decoder.instr
  refine Eq.trans (bd_ok (u1_0 h)) ?_
  rfl
set_option maxRecDepth 100000 in
theorem dk_31 {c : ByteArray} {pc : Nat} (h : agd c pc [31] = true) : decode c pc = .ok (.lload_n 1, 1) := by
  refine dec_ok ?_ rfl
  unfold Jvm.ClassFile.Decoder.instr
  refine Eq.trans (bd_ok (u1_0 h)) ?_
  rfl
set_option maxRecDepth 100000 in
theorem dk_32 {c : ByteArray} {pc : Nat} (h : agd c pc [32] = true) : decode c pc = .ok (.lload_n 2, 1) := by
  refine dec_ok ?_ rfl
  unfold Jvm.ClassFile.Decoder.instr
  refine Eq.trans (bd_ok (u1_0 h)) ?_
  rfl
set_option maxRecDepth 100000 in
theorem dk_33 {c : ByteArray} {pc : Nat} (h : agd c pc [33] = true) : decode c pc = .ok (.lload_n 3, 1) := by
  refine dec_ok ?_ rfl
  unfold Jvm.ClassFile.Decoder.instr
  refine Eq.trans (bd_ok (u1_0 h)) ?_
  rfl
set_option maxRecDepth 100000 in
theorem dk_42 {c : ByteArray} {pc : Nat} (h : agd c pc [42] = true) : decode c pc = .ok (.aload_n 0, 1) := by
  refine dec_ok ?_ rfl
  unfold Jvm.ClassFile.Decoder.instr
  refine Eq.trans (bd_ok (u1_0 h)) ?_
  rfl
set_option maxRecDepth 100000 in
theorem dk_43 {c : ByteArray} {pc : Nat} (h : agd c pc [43] = true) : decode c pc = .ok (.aload_n 1, 1) := by
  refine dec_ok ?_ rfl
  unfold Jvm.ClassFile.Decoder.instr
  refine Eq.trans (bd_ok (u1_0 h)) ?_
  rfl
set_option maxRecDepth 100000 in
theorem dk_44 {c : ByteArray} {pc : Nat} (h : agd c pc [44] = true) : decode c pc = .ok (.aload_n 2, 1) := by
  refine dec_ok ?_ rfl
  unfold Jvm.ClassFile.Decoder.instr
  refine Eq.trans (bd_ok (u1_0 h)) ?_
  rfl
set_option maxRecDepth 100000 in
theorem dk_45 {c : ByteArray} {pc : Nat} (h : agd c pc [45] = true) : decode c pc = .ok (.aload_n 3, 1) := by
  refine dec_ok ?_ rfl
  unfold Jvm.ClassFile.Decoder.instr
  refine Eq.trans (bd_ok (u1_0 h)) ?_
  rfl
set_option maxRecDepth 100000 in
theorem dk_46 {c : ByteArray} {pc : Nat} (h : agd c pc [46] = true) : decode c pc = .ok (.iaload, 1) := by
  refine dec_ok ?_ rfl
  unfold Jvm.ClassFile.Decoder.instr
  refine Eq.trans (bd_ok (u1_0 h)) ?_
  rfl
set_option maxRecDepth 100000 in
theorem dk_47 {c : ByteArray} {pc : Nat} (h : agd c pc [47] = true) : decode c pc = .ok (.laload, 1) := by
  refine dec_ok ?_ rfl
  unfold Jvm.ClassFile.Decoder.instr
  refine Eq.trans (bd_ok (u1_0 h)) ?_
  rfl
set_option maxRecDepth 100000 in
theorem dk_50 {c : ByteArray} {pc : Nat} (h : agd c pc [50] = true) : decode c pc = .ok (.aaload, 1) := by
  refine dec_ok ?_ rfl
  unfold Jvm.ClassFile.Decoder.instr
  refine Eq.trans (bd_ok (u1_0 h)) ?_
  rfl
set_option maxRecDepth 100000 in
theorem dk_51 {c : ByteArray} {pc : Nat} (h : agd c pc [51] = true) : decode c pc = .ok (.baload, 1) := by
  refine dec_ok ?_ rfl
  unfold Jvm.ClassFile.Decoder.instr
  refine Eq.trans (bd_ok (u1_0 h)) ?_
  rfl
set_option maxRecDepth 100000 in
theorem dk_54 {c : ByteArray} {pc a : Nat} (h : agd c pc [54, a] = true) : decode c pc = .ok (.istore a, 2) := by
  refine dec_ok ?_ rfl
  unfold Jvm.ClassFile.Decoder.instr
  refine Eq.trans (bd_ok (u1_0 h)) ?_
  show (Jvm.ClassFile.Reader.u1 >>= fun a => pure (.istore a) : Jvm.ClassFile.Reader Jvm.ClassFile.DecodeError Jvm.ClassFile.Instr) c (pc + 1) = _
  rw [bd_ok (u1_1 h)]
  rfl
set_option maxRecDepth 100000 in
theorem dk_55 {c : ByteArray} {pc a : Nat} (h : agd c pc [55, a] = true) : decode c pc = .ok (.lstore a, 2) := by
  refine dec_ok ?_ rfl
  unfold Jvm.ClassFile.Decoder.instr
  refine Eq.trans (bd_ok (u1_0 h)) ?_
  show (Jvm.ClassFile.Reader.u1 >>= fun a => pure (.lstore a) : Jvm.ClassFile.Reader Jvm.ClassFile.DecodeError Jvm.ClassFile.Instr) c (pc + 1) = _
  rw [bd_ok (u1_1 h)]
  rfl
set_option maxRecDepth 100000 in
theorem dk_58 {c : ByteArray} {pc a : Nat} (h : agd c pc [58, a] = true) : decode c pc = .ok (.astore a, 2) := by
  refine dec_ok ?_ rfl
  unfold Jvm.ClassFile.Decoder.instr
  refine Eq.trans (bd_ok (u1_0 h)) ?_
  show (Jvm.ClassFile.Reader.u1 >>= fun a => pure (.astore a) : Jvm.ClassFile.Reader Jvm.ClassFile.DecodeError Jvm.ClassFile.Instr) c (pc + 1) = _
  rw [bd_ok (u1_1 h)]
  rfl
set_option maxRecDepth 100000 in
theorem dk_59 {c : ByteArray} {pc : Nat} (h : agd c pc [59] = true) : decode c pc = .ok (.istore_n 0, 1) := by
  refine dec_ok ?_ rfl
  unfold Jvm.ClassFile.Decoder.instr
  refine Eq.trans (bd_ok (u1_0 h)) ?_
  rfl
set_option maxRecDepth 100000 in
theorem dk_60 {c : ByteArray} {pc : Nat} (h : agd c pc [60] = true) : decode c pc = .ok (.istore_n 1, 1) := by
  refine dec_ok ?_ rfl
  unfold Jvm.ClassFile.Decoder.instr
  refine Eq.trans (bd_ok (u1_0 h)) ?_
  rfl
set_option maxRecDepth 100000 in
theorem dk_61 {c : ByteArray} {pc : Nat} (h : agd c pc [61] = true) : decode c pc = .ok (.istore_n 2, 1) := by
  refine dec_ok ?_ rfl
  unfold Jvm.ClassFile.Decoder.instr
  refine Eq.trans (bd_ok (u1_0 h)) ?_
  rfl
set_option maxRecDepth 100000 in
theorem dk_62 {c : ByteArray} {pc : Nat} (h : agd c pc [62] = true) : decode c pc = .ok (.istore_n 3, 1) := by
  refine dec_ok ?_ rfl
  unfold Jvm.ClassFile.Decoder.instr
  refine Eq.trans (bd_ok (u1_0 h)) ?_
  rfl
set_option maxRecDepth 100000 in
theorem dk_66 {c : ByteArray} {pc : Nat} (h : agd c pc [66] = true) : decode c pc = .ok (.lstore_n 3, 1) := by
  refine dec_ok ?_ rfl
  unfold Jvm.ClassFile.Decoder.instr
  refine Eq.trans (bd_ok (u1_0 h)) ?_
  rfl
set_option maxRecDepth 100000 in
theorem dk_76 {c : ByteArray} {pc : Nat} (h : agd c pc [76] = true) : decode c pc = .ok (.astore_n 1, 1) := by
  refine dec_ok ?_ rfl
  unfold Jvm.ClassFile.Decoder.instr
  refine Eq.trans (bd_ok (u1_0 h)) ?_
  rfl
set_option maxRecDepth 100000 in
theorem dk_77 {c : ByteArray} {pc : Nat} (h : agd c pc [77] = true) : decode c pc = .ok (.astore_n 2, 1) := by
  refine dec_ok ?_ rfl
  unfold Jvm.ClassFile.Decoder.instr
  refine Eq.trans (bd_ok (u1_0 h)) ?_
  rfl
set_option maxRecDepth 100000 in
theorem dk_79 {c : ByteArray} {pc : Nat} (h : agd c pc [79] = true) : decode c pc = .ok (.iastore, 1) := by
  refine dec_ok ?_ rfl
  unfold Jvm.ClassFile.Decoder.instr
  refine Eq.trans (bd_ok (u1_0 h)) ?_
  rfl
set_option maxRecDepth 100000 in
theorem dk_80 {c : ByteArray} {pc : Nat} (h : agd c pc [80] = true) : decode c pc = .ok (.lastore, 1) := by
  refine dec_ok ?_ rfl
  unfold Jvm.ClassFile.Decoder.instr
  refine Eq.trans (bd_ok (u1_0 h)) ?_
  rfl
set_option maxRecDepth 100000 in
theorem dk_83 {c : ByteArray} {pc : Nat} (h : agd c pc [83] = true) : decode c pc = .ok (.aastore, 1) := by
  refine dec_ok ?_ rfl
  unfold Jvm.ClassFile.Decoder.instr
  refine Eq.trans (bd_ok (u1_0 h)) ?_
  rfl
set_option maxRecDepth 100000 in
theorem dk_84 {c : ByteArray} {pc : Nat} (h : agd c pc [84] = true) : decode c pc = .ok (.bastore, 1) := by
  refine dec_ok ?_ rfl
  unfold Jvm.ClassFile.Decoder.instr
  refine Eq.trans (bd_ok (u1_0 h)) ?_
  rfl
set_option maxRecDepth 100000 in
theorem dk_87 {c : ByteArray} {pc : Nat} (h : agd c pc [87] = true) : decode c pc = .ok (.pop, 1) := by
  refine dec_ok ?_ rfl
  unfold Jvm.ClassFile.Decoder.instr
  refine Eq.trans (bd_ok (u1_0 h)) ?_
  rfl
set_option maxRecDepth 100000 in
theorem dk_89 {c : ByteArray} {pc : Nat} (h : agd c pc [89] = true) : decode c pc = .ok (.dup, 1) := by
  refine dec_ok ?_ rfl
  unfold Jvm.ClassFile.Decoder.instr
  refine Eq.trans (bd_ok (u1_0 h)) ?_
  rfl
set_option maxRecDepth 100000 in
theorem dk_92 {c : ByteArray} {pc : Nat} (h : agd c pc [92] = true) : decode c pc = .ok (.dup2, 1) := by
  refine dec_ok ?_ rfl
  unfold Jvm.ClassFile.Decoder.instr
  refine Eq.trans (bd_ok (u1_0 h)) ?_
  rfl
set_option maxRecDepth 100000 in
theorem dk_96 {c : ByteArray} {pc : Nat} (h : agd c pc [96] = true) : decode c pc = .ok (.iadd, 1) := by
  refine dec_ok ?_ rfl
  unfold Jvm.ClassFile.Decoder.instr
  refine Eq.trans (bd_ok (u1_0 h)) ?_
  rfl
set_option maxRecDepth 100000 in
theorem dk_97 {c : ByteArray} {pc : Nat} (h : agd c pc [97] = true) : decode c pc = .ok (.ladd, 1) := by
  refine dec_ok ?_ rfl
  unfold Jvm.ClassFile.Decoder.instr
  refine Eq.trans (bd_ok (u1_0 h)) ?_
  rfl
set_option maxRecDepth 100000 in
theorem dk_100 {c : ByteArray} {pc : Nat} (h : agd c pc [100] = true) : decode c pc = .ok (.isub, 1) := by
  refine dec_ok ?_ rfl
  unfold Jvm.ClassFile.Decoder.instr
  refine Eq.trans (bd_ok (u1_0 h)) ?_
  rfl
set_option maxRecDepth 100000 in
theorem dk_101 {c : ByteArray} {pc : Nat} (h : agd c pc [101] = true) : decode c pc = .ok (.lsub, 1) := by
  refine dec_ok ?_ rfl
  unfold Jvm.ClassFile.Decoder.instr
  refine Eq.trans (bd_ok (u1_0 h)) ?_
  rfl
set_option maxRecDepth 100000 in
theorem dk_104 {c : ByteArray} {pc : Nat} (h : agd c pc [104] = true) : decode c pc = .ok (.imul, 1) := by
  refine dec_ok ?_ rfl
  unfold Jvm.ClassFile.Decoder.instr
  refine Eq.trans (bd_ok (u1_0 h)) ?_
  rfl
set_option maxRecDepth 100000 in
theorem dk_105 {c : ByteArray} {pc : Nat} (h : agd c pc [105] = true) : decode c pc = .ok (.lmul, 1) := by
  refine dec_ok ?_ rfl
  unfold Jvm.ClassFile.Decoder.instr
  refine Eq.trans (bd_ok (u1_0 h)) ?_
  rfl
set_option maxRecDepth 100000 in
theorem dk_108 {c : ByteArray} {pc : Nat} (h : agd c pc [108] = true) : decode c pc = .ok (.idiv, 1) := by
  refine dec_ok ?_ rfl
  unfold Jvm.ClassFile.Decoder.instr
  refine Eq.trans (bd_ok (u1_0 h)) ?_
  rfl
set_option maxRecDepth 100000 in
theorem dk_112 {c : ByteArray} {pc : Nat} (h : agd c pc [112] = true) : decode c pc = .ok (.irem, 1) := by
  refine dec_ok ?_ rfl
  unfold Jvm.ClassFile.Decoder.instr
  refine Eq.trans (bd_ok (u1_0 h)) ?_
  rfl
set_option maxRecDepth 100000 in
theorem dk_120 {c : ByteArray} {pc : Nat} (h : agd c pc [120] = true) : decode c pc = .ok (.ishl, 1) := by
  refine dec_ok ?_ rfl
  unfold Jvm.ClassFile.Decoder.instr
  refine Eq.trans (bd_ok (u1_0 h)) ?_
  rfl
set_option maxRecDepth 100000 in
theorem dk_121 {c : ByteArray} {pc : Nat} (h : agd c pc [121] = true) : decode c pc = .ok (.lshl, 1) := by
  refine dec_ok ?_ rfl
  unfold Jvm.ClassFile.Decoder.instr
  refine Eq.trans (bd_ok (u1_0 h)) ?_
  rfl
set_option maxRecDepth 100000 in
theorem dk_122 {c : ByteArray} {pc : Nat} (h : agd c pc [122] = true) : decode c pc = .ok (.ishr, 1) := by
  refine dec_ok ?_ rfl
  unfold Jvm.ClassFile.Decoder.instr
  refine Eq.trans (bd_ok (u1_0 h)) ?_
  rfl
set_option maxRecDepth 100000 in
theorem dk_123 {c : ByteArray} {pc : Nat} (h : agd c pc [123] = true) : decode c pc = .ok (.lshr, 1) := by
  refine dec_ok ?_ rfl
  unfold Jvm.ClassFile.Decoder.instr
  refine Eq.trans (bd_ok (u1_0 h)) ?_
  rfl
set_option maxRecDepth 100000 in
theorem dk_124 {c : ByteArray} {pc : Nat} (h : agd c pc [124] = true) : decode c pc = .ok (.iushr, 1) := by
  refine dec_ok ?_ rfl
  unfold Jvm.ClassFile.Decoder.instr
  refine Eq.trans (bd_ok (u1_0 h)) ?_
  rfl
set_option maxRecDepth 100000 in
theorem dk_126 {c : ByteArray} {pc : Nat} (h : agd c pc [126] = true) : decode c pc = .ok (.iand, 1) := by
  refine dec_ok ?_ rfl
  unfold Jvm.ClassFile.Decoder.instr
  refine Eq.trans (bd_ok (u1_0 h)) ?_
  rfl
set_option maxRecDepth 100000 in
theorem dk_127 {c : ByteArray} {pc : Nat} (h : agd c pc [127] = true) : decode c pc = .ok (.land, 1) := by
  refine dec_ok ?_ rfl
  unfold Jvm.ClassFile.Decoder.instr
  refine Eq.trans (bd_ok (u1_0 h)) ?_
  rfl
set_option maxRecDepth 100000 in
theorem dk_128 {c : ByteArray} {pc : Nat} (h : agd c pc [128] = true) : decode c pc = .ok (.ior, 1) := by
  refine dec_ok ?_ rfl
  unfold Jvm.ClassFile.Decoder.instr
  refine Eq.trans (bd_ok (u1_0 h)) ?_
  rfl
set_option maxRecDepth 100000 in
theorem dk_129 {c : ByteArray} {pc : Nat} (h : agd c pc [129] = true) : decode c pc = .ok (.lor, 1) := by
  refine dec_ok ?_ rfl
  unfold Jvm.ClassFile.Decoder.instr
  refine Eq.trans (bd_ok (u1_0 h)) ?_
  rfl
set_option maxRecDepth 100000 in
theorem dk_130 {c : ByteArray} {pc : Nat} (h : agd c pc [130] = true) : decode c pc = .ok (.ixor, 1) := by
  refine dec_ok ?_ rfl
  unfold Jvm.ClassFile.Decoder.instr
  refine Eq.trans (bd_ok (u1_0 h)) ?_
  rfl
set_option maxRecDepth 100000 in
theorem dk_132 {c : ByteArray} {pc a b : Nat} {k : Int} (h : agd c pc [132, a, b] = true) (hk : Jvm.ClassFile.Reader.signed 8 b = k) : decode c pc = .ok (.iinc a k, 3) := by
  subst hk
  refine dec_ok ?_ rfl
  unfold Jvm.ClassFile.Decoder.instr
  refine Eq.trans (bd_ok (u1_0 h)) ?_
  show (Jvm.ClassFile.Reader.u1 >>= fun a => Jvm.ClassFile.Reader.s1 >>= fun b => pure (.iinc a b) : Jvm.ClassFile.Reader Jvm.ClassFile.DecodeError Jvm.ClassFile.Instr) c (pc + 1) = _
  rw [bd_ok (u1_1 h), bd_ok (s1_2 h)]
  rfl
set_option maxRecDepth 100000 in
theorem dk_133 {c : ByteArray} {pc : Nat} (h : agd c pc [133] = true) : decode c pc = .ok (.i2l, 1) := by
  refine dec_ok ?_ rfl
  unfold Jvm.ClassFile.Decoder.instr
  refine Eq.trans (bd_ok (u1_0 h)) ?_
  rfl
set_option maxRecDepth 100000 in
theorem dk_136 {c : ByteArray} {pc : Nat} (h : agd c pc [136] = true) : decode c pc = .ok (.l2i, 1) := by
  refine dec_ok ?_ rfl
  unfold Jvm.ClassFile.Decoder.instr
  refine Eq.trans (bd_ok (u1_0 h)) ?_
  rfl
set_option maxRecDepth 100000 in
theorem dk_145 {c : ByteArray} {pc : Nat} (h : agd c pc [145] = true) : decode c pc = .ok (.i2b, 1) := by
  refine dec_ok ?_ rfl
  unfold Jvm.ClassFile.Decoder.instr
  refine Eq.trans (bd_ok (u1_0 h)) ?_
  rfl
set_option maxRecDepth 100000 in
theorem dk_146 {c : ByteArray} {pc : Nat} (h : agd c pc [146] = true) : decode c pc = .ok (.i2c, 1) := by
  refine dec_ok ?_ rfl
  unfold Jvm.ClassFile.Decoder.instr
  refine Eq.trans (bd_ok (u1_0 h)) ?_
  rfl
set_option maxRecDepth 100000 in
theorem dk_147 {c : ByteArray} {pc : Nat} (h : agd c pc [147] = true) : decode c pc = .ok (.i2s, 1) := by
  refine dec_ok ?_ rfl
  unfold Jvm.ClassFile.Decoder.instr
  refine Eq.trans (bd_ok (u1_0 h)) ?_
  rfl
set_option maxRecDepth 100000 in
theorem dk_148 {c : ByteArray} {pc : Nat} (h : agd c pc [148] = true) : decode c pc = .ok (.lcmp, 1) := by
  refine dec_ok ?_ rfl
  unfold Jvm.ClassFile.Decoder.instr
  refine Eq.trans (bd_ok (u1_0 h)) ?_
  rfl
set_option maxRecDepth 100000 in
theorem dk_153 {c : ByteArray} {pc a b : Nat} {k : Int} (h : agd c pc [153, a, b] = true) (hk : Jvm.ClassFile.Reader.signed 16 (a * 256 + b) = k) : decode c pc = .ok (.ifCond .eq k, 3) := by
  subst hk
  refine dec_ok ?_ rfl
  unfold Jvm.ClassFile.Decoder.instr
  refine Eq.trans (bd_ok (u1_0 h)) ?_
  show (Jvm.ClassFile.Reader.s2 >>= fun a => pure (.ifCond .eq a) : Jvm.ClassFile.Reader Jvm.ClassFile.DecodeError Jvm.ClassFile.Instr) c (pc + 1) = _
  rw [bd_ok (s2_1 h)]
  rfl
set_option maxRecDepth 100000 in
theorem dk_154 {c : ByteArray} {pc a b : Nat} {k : Int} (h : agd c pc [154, a, b] = true) (hk : Jvm.ClassFile.Reader.signed 16 (a * 256 + b) = k) : decode c pc = .ok (.ifCond .ne k, 3) := by
  subst hk
  refine dec_ok ?_ rfl
  unfold Jvm.ClassFile.Decoder.instr
  refine Eq.trans (bd_ok (u1_0 h)) ?_
  show (Jvm.ClassFile.Reader.s2 >>= fun a => pure (.ifCond .ne a) : Jvm.ClassFile.Reader Jvm.ClassFile.DecodeError Jvm.ClassFile.Instr) c (pc + 1) = _
  rw [bd_ok (s2_1 h)]
  rfl
set_option maxRecDepth 100000 in
theorem dk_155 {c : ByteArray} {pc a b : Nat} {k : Int} (h : agd c pc [155, a, b] = true) (hk : Jvm.ClassFile.Reader.signed 16 (a * 256 + b) = k) : decode c pc = .ok (.ifCond .lt k, 3) := by
  subst hk
  refine dec_ok ?_ rfl
  unfold Jvm.ClassFile.Decoder.instr
  refine Eq.trans (bd_ok (u1_0 h)) ?_
  show (Jvm.ClassFile.Reader.s2 >>= fun a => pure (.ifCond .lt a) : Jvm.ClassFile.Reader Jvm.ClassFile.DecodeError Jvm.ClassFile.Instr) c (pc + 1) = _
  rw [bd_ok (s2_1 h)]
  rfl
set_option maxRecDepth 100000 in
theorem dk_156 {c : ByteArray} {pc a b : Nat} {k : Int} (h : agd c pc [156, a, b] = true) (hk : Jvm.ClassFile.Reader.signed 16 (a * 256 + b) = k) : decode c pc = .ok (.ifCond .ge k, 3) := by
  subst hk
  refine dec_ok ?_ rfl
  unfold Jvm.ClassFile.Decoder.instr
  refine Eq.trans (bd_ok (u1_0 h)) ?_
  show (Jvm.ClassFile.Reader.s2 >>= fun a => pure (.ifCond .ge a) : Jvm.ClassFile.Reader Jvm.ClassFile.DecodeError Jvm.ClassFile.Instr) c (pc + 1) = _
  rw [bd_ok (s2_1 h)]
  rfl
set_option maxRecDepth 100000 in
theorem dk_157 {c : ByteArray} {pc a b : Nat} {k : Int} (h : agd c pc [157, a, b] = true) (hk : Jvm.ClassFile.Reader.signed 16 (a * 256 + b) = k) : decode c pc = .ok (.ifCond .gt k, 3) := by
  subst hk
  refine dec_ok ?_ rfl
  unfold Jvm.ClassFile.Decoder.instr
  refine Eq.trans (bd_ok (u1_0 h)) ?_
  show (Jvm.ClassFile.Reader.s2 >>= fun a => pure (.ifCond .gt a) : Jvm.ClassFile.Reader Jvm.ClassFile.DecodeError Jvm.ClassFile.Instr) c (pc + 1) = _
  rw [bd_ok (s2_1 h)]
  rfl
set_option maxRecDepth 100000 in
theorem dk_158 {c : ByteArray} {pc a b : Nat} {k : Int} (h : agd c pc [158, a, b] = true) (hk : Jvm.ClassFile.Reader.signed 16 (a * 256 + b) = k) : decode c pc = .ok (.ifCond .le k, 3) := by
  subst hk
  refine dec_ok ?_ rfl
  unfold Jvm.ClassFile.Decoder.instr
  refine Eq.trans (bd_ok (u1_0 h)) ?_
  show (Jvm.ClassFile.Reader.s2 >>= fun a => pure (.ifCond .le a) : Jvm.ClassFile.Reader Jvm.ClassFile.DecodeError Jvm.ClassFile.Instr) c (pc + 1) = _
  rw [bd_ok (s2_1 h)]
  rfl
set_option maxRecDepth 100000 in
theorem dk_159 {c : ByteArray} {pc a b : Nat} {k : Int} (h : agd c pc [159, a, b] = true) (hk : Jvm.ClassFile.Reader.signed 16 (a * 256 + b) = k) : decode c pc = .ok (.if_icmp .eq k, 3) := by
  subst hk
  refine dec_ok ?_ rfl
  unfold Jvm.ClassFile.Decoder.instr
  refine Eq.trans (bd_ok (u1_0 h)) ?_
  show (Jvm.ClassFile.Reader.s2 >>= fun a => pure (.if_icmp .eq a) : Jvm.ClassFile.Reader Jvm.ClassFile.DecodeError Jvm.ClassFile.Instr) c (pc + 1) = _
  rw [bd_ok (s2_1 h)]
  rfl
set_option maxRecDepth 100000 in
theorem dk_160 {c : ByteArray} {pc a b : Nat} {k : Int} (h : agd c pc [160, a, b] = true) (hk : Jvm.ClassFile.Reader.signed 16 (a * 256 + b) = k) : decode c pc = .ok (.if_icmp .ne k, 3) := by
  subst hk
  refine dec_ok ?_ rfl
  unfold Jvm.ClassFile.Decoder.instr
  refine Eq.trans (bd_ok (u1_0 h)) ?_
  show (Jvm.ClassFile.Reader.s2 >>= fun a => pure (.if_icmp .ne a) : Jvm.ClassFile.Reader Jvm.ClassFile.DecodeError Jvm.ClassFile.Instr) c (pc + 1) = _
  rw [bd_ok (s2_1 h)]
  rfl
set_option maxRecDepth 100000 in
theorem dk_161 {c : ByteArray} {pc a b : Nat} {k : Int} (h : agd c pc [161, a, b] = true) (hk : Jvm.ClassFile.Reader.signed 16 (a * 256 + b) = k) : decode c pc = .ok (.if_icmp .lt k, 3) := by
  subst hk
  refine dec_ok ?_ rfl
  unfold Jvm.ClassFile.Decoder.instr
  refine Eq.trans (bd_ok (u1_0 h)) ?_
  show (Jvm.ClassFile.Reader.s2 >>= fun a => pure (.if_icmp .lt a) : Jvm.ClassFile.Reader Jvm.ClassFile.DecodeError Jvm.ClassFile.Instr) c (pc + 1) = _
  rw [bd_ok (s2_1 h)]
  rfl
set_option maxRecDepth 100000 in
theorem dk_162 {c : ByteArray} {pc a b : Nat} {k : Int} (h : agd c pc [162, a, b] = true) (hk : Jvm.ClassFile.Reader.signed 16 (a * 256 + b) = k) : decode c pc = .ok (.if_icmp .ge k, 3) := by
  subst hk
  refine dec_ok ?_ rfl
  unfold Jvm.ClassFile.Decoder.instr
  refine Eq.trans (bd_ok (u1_0 h)) ?_
  show (Jvm.ClassFile.Reader.s2 >>= fun a => pure (.if_icmp .ge a) : Jvm.ClassFile.Reader Jvm.ClassFile.DecodeError Jvm.ClassFile.Instr) c (pc + 1) = _
  rw [bd_ok (s2_1 h)]
  rfl
set_option maxRecDepth 100000 in
theorem dk_163 {c : ByteArray} {pc a b : Nat} {k : Int} (h : agd c pc [163, a, b] = true) (hk : Jvm.ClassFile.Reader.signed 16 (a * 256 + b) = k) : decode c pc = .ok (.if_icmp .gt k, 3) := by
  subst hk
  refine dec_ok ?_ rfl
  unfold Jvm.ClassFile.Decoder.instr
  refine Eq.trans (bd_ok (u1_0 h)) ?_
  show (Jvm.ClassFile.Reader.s2 >>= fun a => pure (.if_icmp .gt a) : Jvm.ClassFile.Reader Jvm.ClassFile.DecodeError Jvm.ClassFile.Instr) c (pc + 1) = _
  rw [bd_ok (s2_1 h)]
  rfl
set_option maxRecDepth 100000 in
theorem dk_164 {c : ByteArray} {pc a b : Nat} {k : Int} (h : agd c pc [164, a, b] = true) (hk : Jvm.ClassFile.Reader.signed 16 (a * 256 + b) = k) : decode c pc = .ok (.if_icmp .le k, 3) := by
  subst hk
  refine dec_ok ?_ rfl
  unfold Jvm.ClassFile.Decoder.instr
  refine Eq.trans (bd_ok (u1_0 h)) ?_
  show (Jvm.ClassFile.Reader.s2 >>= fun a => pure (.if_icmp .le a) : Jvm.ClassFile.Reader Jvm.ClassFile.DecodeError Jvm.ClassFile.Instr) c (pc + 1) = _
  rw [bd_ok (s2_1 h)]
  rfl
set_option maxRecDepth 100000 in
theorem dk_167 {c : ByteArray} {pc a b : Nat} {k : Int} (h : agd c pc [167, a, b] = true) (hk : Jvm.ClassFile.Reader.signed 16 (a * 256 + b) = k) : decode c pc = .ok (.goto k, 3) := by
  subst hk
  refine dec_ok ?_ rfl
  unfold Jvm.ClassFile.Decoder.instr
  refine Eq.trans (bd_ok (u1_0 h)) ?_
  show (Jvm.ClassFile.Reader.s2 >>= fun a => pure (.goto a) : Jvm.ClassFile.Reader Jvm.ClassFile.DecodeError Jvm.ClassFile.Instr) c (pc + 1) = _
  rw [bd_ok (s2_1 h)]
  rfl
set_option maxRecDepth 100000 in
theorem dk_172 {c : ByteArray} {pc : Nat} (h : agd c pc [172] = true) : decode c pc = .ok (.ireturn, 1) := by
  refine dec_ok ?_ rfl
  unfold Jvm.ClassFile.Decoder.instr
  refine Eq.trans (bd_ok (u1_0 h)) ?_
  rfl
set_option maxRecDepth 100000 in
theorem dk_173 {c : ByteArray} {pc : Nat} (h : agd c pc [173] = true) : decode c pc = .ok (.lreturn, 1) := by
  refine dec_ok ?_ rfl
  unfold Jvm.ClassFile.Decoder.instr
  refine Eq.trans (bd_ok (u1_0 h)) ?_
  rfl
set_option maxRecDepth 100000 in
theorem dk_177 {c : ByteArray} {pc : Nat} (h : agd c pc [177] = true) : decode c pc = .ok (.return_, 1) := by
  refine dec_ok ?_ rfl
  unfold Jvm.ClassFile.Decoder.instr
  refine Eq.trans (bd_ok (u1_0 h)) ?_
  rfl
set_option maxRecDepth 100000 in
theorem dk_178 {c : ByteArray} {pc a b k : Nat} (h : agd c pc [178, a, b] = true) (hk : a * 256 + b = k) : decode c pc = .ok (.getstatic k, 3) := by
  subst hk
  refine dec_ok ?_ rfl
  unfold Jvm.ClassFile.Decoder.instr
  refine Eq.trans (bd_ok (u1_0 h)) ?_
  show (Jvm.ClassFile.Reader.u2 >>= fun a => pure (.getstatic a) : Jvm.ClassFile.Reader Jvm.ClassFile.DecodeError Jvm.ClassFile.Instr) c (pc + 1) = _
  rw [bd_ok (u2_1 h)]
  rfl
set_option maxRecDepth 100000 in
theorem dk_180 {c : ByteArray} {pc a b k : Nat} (h : agd c pc [180, a, b] = true) (hk : a * 256 + b = k) : decode c pc = .ok (.getfield k, 3) := by
  subst hk
  refine dec_ok ?_ rfl
  unfold Jvm.ClassFile.Decoder.instr
  refine Eq.trans (bd_ok (u1_0 h)) ?_
  show (Jvm.ClassFile.Reader.u2 >>= fun a => pure (.getfield a) : Jvm.ClassFile.Reader Jvm.ClassFile.DecodeError Jvm.ClassFile.Instr) c (pc + 1) = _
  rw [bd_ok (u2_1 h)]
  rfl
set_option maxRecDepth 100000 in
theorem dk_181 {c : ByteArray} {pc a b k : Nat} (h : agd c pc [181, a, b] = true) (hk : a * 256 + b = k) : decode c pc = .ok (.putfield k, 3) := by
  subst hk
  refine dec_ok ?_ rfl
  unfold Jvm.ClassFile.Decoder.instr
  refine Eq.trans (bd_ok (u1_0 h)) ?_
  show (Jvm.ClassFile.Reader.u2 >>= fun a => pure (.putfield a) : Jvm.ClassFile.Reader Jvm.ClassFile.DecodeError Jvm.ClassFile.Instr) c (pc + 1) = _
  rw [bd_ok (u2_1 h)]
  rfl
set_option maxRecDepth 100000 in
theorem dk_182 {c : ByteArray} {pc a b k : Nat} (h : agd c pc [182, a, b] = true) (hk : a * 256 + b = k) : decode c pc = .ok (.invokevirtual k, 3) := by
  subst hk
  refine dec_ok ?_ rfl
  unfold Jvm.ClassFile.Decoder.instr
  refine Eq.trans (bd_ok (u1_0 h)) ?_
  show (Jvm.ClassFile.Reader.u2 >>= fun a => pure (.invokevirtual a) : Jvm.ClassFile.Reader Jvm.ClassFile.DecodeError Jvm.ClassFile.Instr) c (pc + 1) = _
  rw [bd_ok (u2_1 h)]
  rfl
set_option maxRecDepth 100000 in
theorem dk_183 {c : ByteArray} {pc a b k : Nat} (h : agd c pc [183, a, b] = true) (hk : a * 256 + b = k) : decode c pc = .ok (.invokespecial k, 3) := by
  subst hk
  refine dec_ok ?_ rfl
  unfold Jvm.ClassFile.Decoder.instr
  refine Eq.trans (bd_ok (u1_0 h)) ?_
  show (Jvm.ClassFile.Reader.u2 >>= fun a => pure (.invokespecial a) : Jvm.ClassFile.Reader Jvm.ClassFile.DecodeError Jvm.ClassFile.Instr) c (pc + 1) = _
  rw [bd_ok (u2_1 h)]
  rfl
set_option maxRecDepth 100000 in
theorem dk_184 {c : ByteArray} {pc a b k : Nat} (h : agd c pc [184, a, b] = true) (hk : a * 256 + b = k) : decode c pc = .ok (.invokestatic k, 3) := by
  subst hk
  refine dec_ok ?_ rfl
  unfold Jvm.ClassFile.Decoder.instr
  refine Eq.trans (bd_ok (u1_0 h)) ?_
  show (Jvm.ClassFile.Reader.u2 >>= fun a => pure (.invokestatic a) : Jvm.ClassFile.Reader Jvm.ClassFile.DecodeError Jvm.ClassFile.Instr) c (pc + 1) = _
  rw [bd_ok (u2_1 h)]
  rfl
set_option maxRecDepth 100000 in
theorem dk_187 {c : ByteArray} {pc a b k : Nat} (h : agd c pc [187, a, b] = true) (hk : a * 256 + b = k) : decode c pc = .ok (.new k, 3) := by
  subst hk
  refine dec_ok ?_ rfl
  unfold Jvm.ClassFile.Decoder.instr
  refine Eq.trans (bd_ok (u1_0 h)) ?_
  show (Jvm.ClassFile.Reader.u2 >>= fun a => pure (.new a) : Jvm.ClassFile.Reader Jvm.ClassFile.DecodeError Jvm.ClassFile.Instr) c (pc + 1) = _
  rw [bd_ok (u2_1 h)]
  rfl
set_option maxRecDepth 100000 in
theorem dk_188_4 {c : ByteArray} {pc : Nat} (h : agd c pc [188, 4] = true) : decode c pc = .ok (.newarray .boolean, 2) := by
  refine dec_ok ?_ rfl
  unfold Jvm.ClassFile.Decoder.instr
  refine Eq.trans (bd_ok (u1_0 h)) ?_
  show Jvm.ClassFile.Decoder.newarray pc c (pc + 1) = _
  unfold Jvm.ClassFile.Decoder.newarray
  rw [bd_ok (u1_1 h)]
  rfl
set_option maxRecDepth 100000 in
theorem dk_188_8 {c : ByteArray} {pc : Nat} (h : agd c pc [188, 8] = true) : decode c pc = .ok (.newarray .byte, 2) := by
  refine dec_ok ?_ rfl
  unfold Jvm.ClassFile.Decoder.instr
  refine Eq.trans (bd_ok (u1_0 h)) ?_
  show Jvm.ClassFile.Decoder.newarray pc c (pc + 1) = _
  unfold Jvm.ClassFile.Decoder.newarray
  rw [bd_ok (u1_1 h)]
  rfl
set_option maxRecDepth 100000 in
theorem dk_188_10 {c : ByteArray} {pc : Nat} (h : agd c pc [188, 10] = true) : decode c pc = .ok (.newarray .int, 2) := by
  refine dec_ok ?_ rfl
  unfold Jvm.ClassFile.Decoder.instr
  refine Eq.trans (bd_ok (u1_0 h)) ?_
  show Jvm.ClassFile.Decoder.newarray pc c (pc + 1) = _
  unfold Jvm.ClassFile.Decoder.newarray
  rw [bd_ok (u1_1 h)]
  rfl
set_option maxRecDepth 100000 in
theorem dk_188_11 {c : ByteArray} {pc : Nat} (h : agd c pc [188, 11] = true) : decode c pc = .ok (.newarray .long, 2) := by
  refine dec_ok ?_ rfl
  unfold Jvm.ClassFile.Decoder.instr
  refine Eq.trans (bd_ok (u1_0 h)) ?_
  show Jvm.ClassFile.Decoder.newarray pc c (pc + 1) = _
  unfold Jvm.ClassFile.Decoder.newarray
  rw [bd_ok (u1_1 h)]
  rfl
set_option maxRecDepth 100000 in
theorem dk_189 {c : ByteArray} {pc a b k : Nat} (h : agd c pc [189, a, b] = true) (hk : a * 256 + b = k) : decode c pc = .ok (.anewarray k, 3) := by
  subst hk
  refine dec_ok ?_ rfl
  unfold Jvm.ClassFile.Decoder.instr
  refine Eq.trans (bd_ok (u1_0 h)) ?_
  show (Jvm.ClassFile.Reader.u2 >>= fun a => pure (.anewarray a) : Jvm.ClassFile.Reader Jvm.ClassFile.DecodeError Jvm.ClassFile.Instr) c (pc + 1) = _
  rw [bd_ok (u2_1 h)]
  rfl
set_option maxRecDepth 100000 in
theorem dk_190 {c : ByteArray} {pc : Nat} (h : agd c pc [190] = true) : decode c pc = .ok (.arraylength, 1) := by
  refine dec_ok ?_ rfl
  unfold Jvm.ClassFile.Decoder.instr
  refine Eq.trans (bd_ok (u1_0 h)) ?_
  rfl
set_option maxRecDepth 100000 in
theorem dk_191 {c : ByteArray} {pc : Nat} (h : agd c pc [191] = true) : decode c pc = .ok (.athrow, 1) := by
  refine dec_ok ?_ rfl
  unfold Jvm.ClassFile.Decoder.instr
  refine Eq.trans (bd_ok (u1_0 h)) ?_
  rfl
set_option maxRecDepth 100000 in
theorem dk_199 {c : ByteArray} {pc a b : Nat} {k : Int} (h : agd c pc [199, a, b] = true) (hk : Jvm.ClassFile.Reader.signed 16 (a * 256 + b) = k) : decode c pc = .ok (.ifnonnull k, 3) := by
  subst hk
  refine dec_ok ?_ rfl
  unfold Jvm.ClassFile.Decoder.instr
  refine Eq.trans (bd_ok (u1_0 h)) ?_
  show (Jvm.ClassFile.Reader.s2 >>= fun a => pure (.ifnonnull a) : Jvm.ClassFile.Reader Jvm.ClassFile.DecodeError Jvm.ClassFile.Instr) c (pc + 1) = _
  rw [bd_ok (s2_1 h)]
  rfl
