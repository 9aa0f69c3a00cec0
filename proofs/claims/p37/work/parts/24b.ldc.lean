section LDCW
variable {p : Program} {l : Launch} {e : Env} {R : Room} {s : State} {m : MethodId} {args : Array Value} {below : List Frame} {meth : Method} {c : Code} {H : Heap} {locs : List Loc} {cells slots : Nat} {Q : State → Prop} {cc : ByteArray} {pc : Nat} {ls : Array Slot} {rest : List Value}
/-- a String constant by the wide form of ldc -/
theorem va_ldcSw (hexec : p.tables.exec = Jvm.exec) (hb : c.code = cc) {own tx : String} {index q : Nat} (hown : s.vm.findClass own = some m.cls) (hZ : vk_R own index tx q s) (hdg : decode cc pc = .ok (.ldc_w index, 3))
    (k : W p l e R s m args below meth c H locs cells slots Q (F0 m (pc + 3) ls (.ref q :: rest))) : W p l e R s m args below meth c H locs cells slots Q (F0 m pc ls rest) := by
  intro T hT X
  obtain ⟨t, g1, g2⟩ := k T hT X
  refine ⟨t, ?_, g2⟩
  obtain ⟨kc, cf, ix, a0, e1, e2, e3, -, e5, e6⟩ := Cond.stringRef_spec hown hZ.1
  cases hZ.2.symm.trans e6
  obtain ⟨kw, w1, w2⟩ := X.warmed.alike.2.2 _ _ e1
  have w3 : kw.resolved[index]? = some (some (.string q)) := by
    rcases X.warmed.entry e1 w1 index with h | ⟨h, -⟩
    · exact h.trans e5
    · rw [e5] at h; cases h
  have hd2 : decode c.code (F0 m pc ls rest).pc = .ok (.ldc_w index, 3) := by rw [hb]; exact hdg
  jvm_step X.here [hexec, hd2, ldc_w.wp_string (e := e) (s := T) (f := F0 m pc ls rest) X.here.top w1 (by rw [w2]; exact e2) e3 w3]
  exact g1
end LDCW
