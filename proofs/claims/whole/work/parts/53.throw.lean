/-! A THROW: new, dup, ldc, invokespecial, athrow -/
set_option maxHeartbeats 1000000 in
theorem sv_throwW {p : Program} {l : Launch} {e : Env} {R : Room} {s : State} {m : MethodId} {args : Array Value} {below : List Frame} {meth : Method} {c : Code} {H : Heap} {cc : ByteArray} {pc : Nat} {ls : Array Slot}
    (hexec : p.tables.exec = Jvm.exec) (hb : c.code = cc) (htr : e.platform.stackTraces = false) {own E tx : String} {names : List String} {ix ib ic q : Nat} (hown : s.vm.findClass own = some m.cls) (hE : Bundle.fit E = true) (hnames : ∀ n ∈ names, Bundle.fit n = true)
    (hlink : (Cond.classLink own ix E).before args s = true) (hins : (Cond.instantiable E 6).before args s = true) (hini : (Cond.initialized E).before args s = true) (hat : ∀ a ∈ Bundle.ownAtoms own ic E names, a.before args s = true) (hZ : vk_R own ib tx q s)
    (hd0 : decode cc pc = .ok (.new ix, 3)) (hd3 : decode cc (pc + 3) = .ok (.dup, 1)) (hd4 : decode cc (pc + 3 + 1) = .ok (.ldc ib, 2)) (hd6 : decode cc (pc + 3 + 1 + 2) = .ok (.invokespecial ic, 3)) (hd9 : decode cc (pc + 3 + 1 + 2 + 3) = .ok (.athrow, 1))
    (hout : ∀ x ∈ c.exceptionTable.toList, covers x (pc + 3 + 1 + 2 + 3) = false) (hls : ls.size = c.maxLocals) (hlk : meth.locks = false) (hc : 1 ≤ R.cells) (hs : 6 ≤ R.slots) (hf : names.length + 3 < R.frames) (hl : 200 + 13 * (names.length + 1) ≤ R.locals) :
    W p l e R s m args below meth c H [] 0 0 (fun U => U.status = .running ∧ s.heap.size ≤ H.size ∧ Ended U below (.threw H.size) ∧ s.WarmedH U.vm ∧ s.sameButNew ({ U with vm := s.vm } : State) [] 1 6 ∧ ∃ ce : Cell, U.heap[H.size]? = some ce ∧ ce.vm = .none ∧ s.vm.findClass E = some ce.cls) (F0 m pc ls []) := by
  intro T0 hT0 X0
  have hsz : s.heap.size ≤ H.size := by rw [← hT0]; exact X0.same.2.1
  refine (?_ : W p l e R s m args below meth c H [] 0 0 _ (F0 m pc ls [])) T0 hT0 X0
  refine W.newc hexec hb hown hlink hins hini rfl hd0 (by omega) (by omega) (fun cC kC f1 f2 f3 f4 => ?_)
  refine lv_dup hexec hb hd3 rfl ?_
  refine va_ldcS hexec hb hown hZ hd4 ?_
  intro T hT X
  obtain ⟨U, st, h1, h2, h3, h4, ce, h5, h6⟩ := X.ctorThrowS hexec htr hown hE hnames hat (fun x hx => absurd hx List.not_mem_nil) f1 f2 (a := H.size) (by rw [hT]; simp [freshCell]) hsz (msg := .ref q) rfl (g := F0 m (pc + 3 + 1 + 2) ls [.ref q, .ref H.size, .ref H.size]) rfl hls rfl rfl rfl (by rw [hb]; exact hd6) (by rw [hb]; exact hd9) hout hf (by simp [JFrame.monitorRoom, Value.category]; omega) hlk
  exact ⟨U, st, h1, hsz, h2, h3, h4, ce, h5, h6.vm, h6.cls⟩
