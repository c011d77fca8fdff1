/-! A THROW: new, dup, ldc, invokespecial, athrow; the thrown class's own constructor hands its text on by any of its pool's entries -/
def sv_oa (own : String) (ic : Nat) (E F : String) (ix : Nat) (rx : ByteArray) (r : List String) : List Cond :=
  Bundle.throwableAtoms ++ (Bundle.throwableSAtoms ++ (Bundle.passSAtoms E F ix rx ++ (Bundle.chainSAtoms F r ++
  [.methodLink own ic (Bundle.initS E), .instantiable E 6, .selects E Bundle.tFill0 Bundle.tFill0, .selects E Bundle.tFill Bundle.tFill, .lays E Bundle.tN "cause" "Ljava/lang/Throwable;", .lays E Bundle.tN "stackTrace" Bundle.steD, .lays E Bundle.tN "suppressedExceptions" Bundle.listD, .lays E Bundle.tN "detailMessage" "Ljava/lang/String;",
   .isRef (.static Bundle.tN "UNASSIGNED_STACK" Bundle.steD), .isRef (.static Bundle.tN "SUPPRESSED_SENTINEL" Bundle.listD), .fieldLink Bundle.tN 198 Bundle.tN "backtrace" "Ljava/lang/Object;", .lays Bundle.tN Bundle.tN "backtrace" "Ljava/lang/Object;", .lays E Bundle.tN "backtrace" "Ljava/lang/Object;"])))
set_option maxHeartbeats 1000000 in
theorem sv_ctorX {p : Program} {l : Launch} {e : Env} {R : Room} {s : State} {m0 : MethodId} {args : Array Value} {below : List Frame} {meth : Method} {c : Code} {W : State} {locs : List Loc} {cells slots : Nat}
    (X : Stand p l e R s m0 args below meth c W locs cells slots) (hexec : p.tables.exec = Jvm.exec) (htr : e.platform.stackTraces = false) {own E F : String} {r : List String} {ic ix : Nat} {rx : ByteArray}
    (x0 : decode rx 0 = .ok (.aload_n 0, 1)) (x1 : decode rx 1 = .ok (.aload_n 1, 1)) (x2 : decode rx 2 = .ok (.invokespecial ix, 3)) (x5 : decode rx 5 = .ok (.return_, 1))
    (hown : s.vm.findClass own = some m0.cls) (hE : Bundle.fit E = true) (hF : Bundle.fit F = true) (hr : ∀ n ∈ r, Bundle.fit n = true) (h : ∀ a ∈ sv_oa own ic E F ix rx r, a.before args s = true)
    (hlocs : ∀ x ∈ locs, ∀ cell, s.heap[x.base]? = some cell → cell.vm.isStatics = false) {a : Addr} {cX : ClassId} {kX : Class} (hfX : s.vm.findClass E = some cX) (hkX : s.vm.classes[cX]? = some kX) (hcell : W.heap[a]? = some (freshCell cX kX)) (hnew : s.heap.size ≤ a)
    {msg : Value} (hmsg : msg.isRef = true) {g : JFrame} (hg : g.method = m0) (hsize : g.locals.size = c.maxLocals) (hlk : g.locked = none) (hen : g.entered = []) {rest : List Value} (hstack : g.stack = msg :: .ref a :: .ref a :: rest)
    (hd6 : decode c.code g.pc = .ok (.invokespecial ic, 3)) (hd9 : decode c.code (g.pc + 3) = .ok (.athrow, 1)) (hout : ∀ x ∈ c.exceptionTable.toList, covers x (g.pc + 3) = false)
    (hRf : r.length + 4 < R.frames) (hRl : 2 * g.monitorRoom + ((Value.ref a :: rest).map fun v => v.category).sum + (13 * (r.length + 2) + 42) ≤ R.locals) (hlocks : meth.locks = false) :
    ∃ U : State, Steps p.tables e below (W.setTop g) U ∧ U.status = .running ∧ Ended U below (.threw a) ∧ s.WarmedH U.vm ∧ s.sameButNew ({ U with vm := s.vm } : State) locs cells slots ∧ ∃ ce : Cell, U.heap[a]? = some ce ∧ ce.vm = .none ∧ s.vm.findClass E = some ce.cls := by
  have f1 : e.platform.frameOwnsMonitors = true := by rw [X.admits.platform]
  have f2 : e.platform.finalization = false := by rw [X.admits.platform]
  have hpl : e.platform.magicAccessors = ({} : Platform).magicAccessors := by rw [X.admits.platform]
  have ha : ∀ x, x ∈ sv_oa own ic E F ix rx r → x.holds args s none s [] = true := fun x hx => h x hx
  obtain ⟨T, Z0, L, -, Y⟩ := ThrowableC.of_atoms (args := args) f1 f2 hpl (fun x hx => h x (by simp [sv_oa, hx]))
  obtain ⟨Z, M, LZ, LM, hnZ⟩ := Init0T.ofS_atoms (args := args) hpl L Y (fun x hx => h x (by simp [sv_oa, hx]))
  obtain ⟨P1, L1, hP1, hS1⟩ := PassC.ofS_atoms (args := args) (s := s) hpl (X := E) (Y := F) (Bundle.fit_spec hE).1 (Bundle.fit_spec hF).2 x0 x1 x2 x5 (fun x hx => h x (by simp [sv_oa, hx]))
  obtain ⟨P2, Ps, hlen, L2, hL, hP2, hs2, hpass⟩ := Bundle.chainS (args := args) hpl hnZ r F hF hr (fun x hx => h x (by simp [sv_oa, hx]))
  have hP12 : P1.sup = P2.m := Option.some.inj (hS1.symm.trans hP2)
  have hf : s.vm.findClass E = some P1.m.cls := findClass_of_methodNamed hP1
  cases Option.some.inj (hfX.symm.trans hf)
  obtain ⟨c1, kX', hc1, hk, hord, -, -, hn6⟩ := Cond.instantiable_spec (ha (.instantiable E 6) (by simp [sv_oa]))
  cases Option.some.inj (hc1.symm.trans hf)
  cases Option.some.inj (hkX.symm.trans hk)
  have hsel : ∀ (y : MethodName) (q : MethodId), s.methodNamed? y = some q → y.cls ≠ "java/lang/invoke/MethodHandle" ∧ y.cls ≠ "java/lang/invoke/VarHandle" → (Cond.selects E y y).before args s = true → selectMethod e.platform s.vm P1.m.cls q = .method q := by
    intro y q hq hy hw
    obtain ⟨c2, r2, m2, q1, q2, q3, q4, -⟩ := Cond.selects_spec hw
    cases Option.some.inj (q1.symm.trans hf)
    cases Option.some.inj (q2.symm.trans (State.methodFound?_of_named hq hy))
    cases Option.some.inj (q3.symm.trans hq)
    rw [Launch.admits_selectMethod X.admits]; exact q4
  have hsel0 := hsel _ _ Y.fill0 (by decide) (h _ (by simp [sv_oa]))
  have hselF := hsel _ _ Y.fill (by decide) (h _ (by simp [sv_oa]))
  obtain ⟨cS0, hcS0, hiss⟩ := Y.statics
  obtain ⟨u0, hu0⟩ := Cond.staticRefV Y.unassigned L.unassignedStatic L.statics hcS0 hiss (ha (.isRef (.static Bundle.tN "UNASSIGNED_STACK" Bundle.steD)) (by simp [sv_oa]))
  obtain ⟨sen, hsen⟩ := Cond.staticRefV Y.sentinel L.sentinelStatic L.statics hcS0 hiss (ha (.isRef (.static Bundle.tN "SUPPRESSED_SENTINEL" Bundle.listD)) (by simp [sv_oa]))
  obtain ⟨ci, ii, fB, k1, k2, k3, k4, -, hnB, htB, hffB⟩ := Cond.ownField (t := .object "java/lang/Object") Y.found L.cls (by decide +kernel) (ha (.fieldLink Bundle.tN 198 Bundle.tN "backtrace" "Ljava/lang/Object;") (by simp [sv_oa])) (ha (.lays Bundle.tN Bundle.tN "backtrace" "Ljava/lang/Object;") (by simp [sv_oa])) e.platform hpl
  obtain ⟨cS, hcS', heS, -, hkeep⟩ := X.same.2.2.2.2.2 T.aS cS0 hcS0
  have hcS : W.heap[T.aS]? = some cS := hcS'
  have hnot : ∀ i, (⟨T.aS, i⟩ : Loc) ∉ locs := fun i hm => by
    have h9 := hlocs _ hm cS0 hcS0
    rw [hiss] at h9; cases h9
  have hkn : cS.vm ≠ .unknown := by
    rw [heS]; intro hu
    rw [show cS0.vm = .unknown from hu] at hiss
    cases hiss
  have hne : T.aS ≠ a := Nat.ne_of_lt (Nat.lt_of_lt_of_le (Array.getElem?_eq_some_iff.mp hcS0).1 hnew)
  obtain ⟨iM, hffM⟩ := Y.msg
  obtain ⟨tyC, dC, hdC, hdnC⟩ := Cond.laysAt hf hk Y.cause (ha (.lays E Bundle.tN "cause" "Ljava/lang/Throwable;") (by simp [sv_oa]))
  obtain ⟨tyS, dS, hdS, hdnS⟩ := Cond.laysAt hf hk Y.stack (ha (.lays E Bundle.tN "stackTrace" Bundle.steD) (by simp [sv_oa]))
  obtain ⟨tyP, dP, hdP, hdnP⟩ := Cond.laysAt hf hk Y.supp (ha (.lays E Bundle.tN "suppressedExceptions" Bundle.listD) (by simp [sv_oa]))
  obtain ⟨tyM, dM, hdM, hdnM⟩ := Cond.laysAt hf hk hffM (ha (.lays E Bundle.tN "detailMessage" "Ljava/lang/String;") (by simp [sv_oa]))
  obtain ⟨tyB, dB, hdB, hdnB⟩ := Cond.laysAt hf hk hffB (ha (.lays E Bundle.tN "backtrace" "Ljava/lang/Object;") (by simp [sv_oa]))
  have bC := Cond.laysApart hdB hdC hdnB hdnC (by rw [hnB, Y.causeName]; decide)
  have bS := Cond.laysApart hdB hdS hdnB hdnS (by rw [hnB, Y.stackName]; decide)
  have bP := Cond.laysApart hdB hdP hdnB hdnP (by rw [hnB, Y.suppName]; decide)
  have hskip : SkipFacts T e.platform s (fun u => u) u0 ((preparedCellV T.toThrowableT (freshCell P1.m.cls kX) a u0 sen).withEntry W.cur) :=
    ⟨{ ci198 := ci, i198 := ii, fBack := fB }, ⟨k1, k2, k3, k4⟩, by
      have h9 := fresh_default (c := P1.m.cls) tyB
      rw [htB] at h9
      simpa [preparedCellV, Cell.setSlot, Cell.withEntry, Array.getElem?_setIfInBounds, bC, bS, bP, bC.symm, bS.symm, bP.symm, defaultValue] using h9, fun _ _ => rfl⟩
  obtain ⟨tm, methC, cdC, kC, vm₁, hnC, -, -, -, -, -, -, -, hW₁, st1⟩ := Steps.initColdS (tb := p.tables) (e := e) (below := below) (s := s) (U := W) X.here hexec X.warmed hpl hown (t := Bundle.initS E) rfl rfl (Bundle.fit_spec hE).2
    (ha (.methodLink own ic (Bundle.initS E)) (by simp [sv_oa])) (h (.instanceMethod (Bundle.initS E)) (by simp [sv_oa, Bundle.passSAtoms])) (bytes := rx) (maxL := 2) (h (.code (Bundle.initS E) rx 2 none) (by simp [sv_oa, Bundle.passSAtoms])) (f := g) hg (a := a) (msg := msg) (rest := .ref a :: rest) hstack hd6
  cases Option.some.inj (hnC.symm.trans hP1)
  have X₁ := X.noted hW₁
  obtain ⟨vm₂, X₂, st2⟩ := X₁.ctorMessageOffV hexec (g := { g with stack := .ref a :: rest }) hg hsize T L Z LZ M LM (P1 :: P2 :: Ps)
    (fun P hP => by
      rcases List.mem_cons.mp hP with rfl | hP
      · exact L1
      · rcases List.mem_cons.mp hP with rfl | hP
        · exact L2
        · exact hL P hP) ⟨hP12, hs2, hpass⟩ (u0 := u0) (sen := sen) (self := a) hmsg (cell := freshCell P1.m.cls kX) (cellS := cS)
    hcell (fun _ => by simp) (by simp) rfl rfl hsel0 hselF hcS hne hkn (by rw [hkeep _ (hnot _)]; exact hu0) (by rw [hkeep _ (hnot _)]; exact hsen)
    (Takes.of_laid hk hord tyC (by rw [Y.causeType]; rfl)) (Takes.of_laid hk hord tyS (by rw [Y.stackType]; exact fits_refV_array _ u0)) (Takes.of_laid hk hord tyP (by rw [Y.suppType]; exact fits_refV_object _ sen))
    (Takes.of_laid hk hord tyM (by rw [Y.msgType]; exact fits_refV_object _ ⟨msg, hmsg⟩)) Y.objLocals hskip htr [] hd6
    (by simp only [List.length_cons, hlen]; omega) (by simp only [List.length_cons, hlen]; exact hRl)
  obtain ⟨hwalk, hrun, hend, hWU, hsame⟩ := X₂.athrowLeaves hexec (g := { g with stack := .ref a :: rest, pc := g.pc + 3 }) hg hlk hen hout (a := a) (rest := rest) rfl hd9
  have hlt : a < ((W.setVm vm₁).setVm vm₂).heap.size := (Array.getElem?_eq_some_iff.mp hcell).1
  have hU := heapAt_setCell_self (s := (W.setVm vm₁).setVm vm₂) (plainBareV T.toThrowableT (freshCell P1.m.cls kX) a u0 sen msg) hlt
  refine ⟨_, st1 _ (fun acts => ?_), hrun, hend, hWU, hsame.weaken (fun y hy hlt' => ?_) (Nat.le_refl _) (Nat.le_refl _), _, hU, rfl, hf⟩
  · rw [doInvoke_state]
    exact st2 _ hwalk
  · rcases List.mem_append.mp hy with h1 | h1
    · exact h1
    · have hb : y.base = a := by
        simp only [List.mem_cons, List.not_mem_nil, or_false] at h1
        rcases h1 with rfl | rfl | rfl | rfl | rfl <;> rfl
      rw [hb] at hlt'
      exact absurd hlt' (Nat.not_lt.mpr hnew)
set_option maxHeartbeats 1000000 in
theorem sv_throwW {p : Program} {l : Launch} {e : Env} {R : Room} {s : State} {m : MethodId} {args : Array Value} {below : List Frame} {meth : Method} {c : Code} {H : Heap} {cc : ByteArray} {pc : Nat} {ls : Array Slot}
    (hexec : p.tables.exec = Jvm.exec) (hb : c.code = cc) (htr : e.platform.stackTraces = false) {own E F tx : String} {r : List String} {ix ib ic q jx : Nat} {rx : ByteArray} (x0 : decode rx 0 = .ok (.aload_n 0, 1)) (x1 : decode rx 1 = .ok (.aload_n 1, 1)) (x2 : decode rx 2 = .ok (.invokespecial jx, 3)) (x5 : decode rx 5 = .ok (.return_, 1)) (hown : s.vm.findClass own = some m.cls) (hE : Bundle.fit E = true) (hF : Bundle.fit F = true) (hr : ∀ n ∈ r, Bundle.fit n = true)
    (hlink : (Cond.classLink own ix E).before args s = true) (hins : (Cond.instantiable E 6).before args s = true) (hini : (Cond.initialized E).before args s = true) (hat : ∀ a ∈ sv_oa own ic E F jx rx r, a.before args s = true) (hZ : vk_R own ib tx q s)
    (hd0 : decode cc pc = .ok (.new ix, 3)) (hd3 : decode cc (pc + 3) = .ok (.dup, 1)) (hd4 : decode cc (pc + 3 + 1) = .ok (.ldc ib, 2)) (hd6 : decode cc (pc + 3 + 1 + 2) = .ok (.invokespecial ic, 3)) (hd9 : decode cc (pc + 3 + 1 + 2 + 3) = .ok (.athrow, 1))
    (hout : ∀ x ∈ c.exceptionTable.toList, covers x (pc + 3 + 1 + 2 + 3) = false) (hls : ls.size = c.maxLocals) (hlk : meth.locks = false) (hc : 1 ≤ R.cells) (hs : 6 ≤ R.slots) (hf : r.length + 4 < R.frames) (hl : 200 + 13 * (r.length + 2) ≤ R.locals) :
    W p l e R s m args below meth c H [] 0 0 (fun U => U.status = .running ∧ s.heap.size ≤ H.size ∧ Ended U below (.threw H.size) ∧ s.WarmedH U.vm ∧ s.sameButNew ({ U with vm := s.vm } : State) [] 1 6 ∧ ∃ ce : Cell, U.heap[H.size]? = some ce ∧ ce.vm = .none ∧ s.vm.findClass E = some ce.cls) (F0 m pc ls []) := by
  intro T0 hT0 X0
  have hsz : s.heap.size ≤ H.size := by rw [← hT0]; exact X0.same.2.1
  refine (?_ : W p l e R s m args below meth c H [] 0 0 _ (F0 m pc ls [])) T0 hT0 X0
  refine W.newc hexec hb hown hlink hins hini rfl hd0 (by omega) (by omega) (fun cC kC f1 f2 f3 f4 => ?_)
  refine lv_dup hexec hb hd3 rfl ?_
  refine va_ldcS hexec hb hown hZ hd4 ?_
  intro T hT X
  obtain ⟨U, st, h1, h2, h3, h4, ce, h5, h6, h7⟩ := sv_ctorX X hexec htr x0 x1 x2 x5 hown hE hF hr hat (fun x hx => absurd hx List.not_mem_nil) f1 f2 (a := H.size) (by rw [hT]; simp [freshCell]) hsz (msg := .ref q) rfl (g := F0 m (pc + 3 + 1 + 2) ls [.ref q, .ref H.size, .ref H.size]) rfl hls rfl rfl rfl (by rw [hb]; exact hd6) (by rw [hb]; exact hd9) hout hf (by simp [JFrame.monitorRoom, Value.category]; omega) hlk
  exact ⟨U, st, h1, hsz, h2, h3, h4, ce, h5, h6, h7⟩
