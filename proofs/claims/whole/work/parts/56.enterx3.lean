theorem sv_Plt {D : va_G} {cl : List vw_C} {ws : va_W} {H : Heap} {k : Nat} {q : Nat × va_E} (hP : va_P D cl ws H) (hq : ws[k]? = some q) : q.1 < H.size := by
  have h := hP k q hq
  obtain ⟨a, x | x⟩ := q
  · exact (Array.getElem?_eq_some_iff.mp h).1
  · obtain ⟨r', hr', cellV, g1, -⟩ := h
    exact (Array.getElem?_eq_some_iff.mp g1).1
set_option maxHeartbeats 1000000 in
theorem sv_enter_x {l : Launch} {y : MethodName} {cc : ByteArray} {mL : Nat} {ret : Option FieldType} {rm : Room} {g : sv_G} {av : List Value} {ws : va_W} {E F : String} {r : List String} {ic jx : Nat} {rx : ByteArray} (x0 : decode rx 0 = .ok (.aload_n 0, 1)) (x1 : decode rx 1 = .ok (.aload_n 1, 1)) (x2 : decode rx 2 = .ok (.invokespecial jx, 3)) (x5 : decode rx 5 = .ok (.return_, 1)) (hy : plainName y.cls = true) (hfl : l.flags = pinnedFlags ++ [noTraceFlag]) (hE : Bundle.fit E = true) (hF : Bundle.fit F = true) (hnames : ∀ n ∈ r, Bundle.fit n = true)
    (hw1 : Cond.instantiable E 6 ∈ sv_tbl) (hw2 : Cond.initialized E ∈ sv_tbl) (hat : ∀ a ∈ sv_oa y.cls ic E F jx rx r, sv_ow a)
    (hrm : 1 ≤ rm.cells ∧ 6 ≤ rm.slots ∧ r.length + 4 < rm.frames ∧ 200 + 13 * (r.length + 2) ≤ rm.locals) (hav0 : av.all (fun v => v.category == 1) = true) (hlen : av.length ≤ mL)
    (body : ∀ X : sv_X, sv_C X l cc mL y.cls rm g → (∀ (pc : Nat) (lv : List (Option Value)) (ix ib j : Nat) (tx : String), (y.cls, ib, tx, j) ∈ sv_lits → Cond.classLink y.cls ix E ∈ sv_tbl → decode cc pc = .ok (.new ix, 3) → decode cc (pc + 3) = .ok (.dup, 1) → decode cc (pc + 3 + 1) = .ok (.ldc ib, 2) → decode cc (pc + 3 + 1 + 2) = .ok (.invokespecial ic, 3) → decode cc (pc + 3 + 1 + 2 + 3) = .ok (.athrow, 1) → sv_V X mL 0 0 ws pc lv []) → sv_V X mL 0 0 ws 0 (sv_av mL av) []) : sv_Mx l y cc mL ret rm g av ws E := by
  have hav : ∀ v ∈ av, v.category = 1 := fun v hv => by simpa using List.all_eq_true.mp hav0 v hv
  intro sz
  refine MetFree.of_bodyS (code := cc) (maxLocals := mL) (ret := ret) hy ?_ ?_
  · intro args s m h hn
    obtain ⟨meth, c, h1, h2, h3, h4, h5, h6, -, -⟩ := Cond.code_spec hn (atoms_spec (ws := .code y cc mL ret :: sv_tbl) h _ List.mem_cons_self)
    exact ⟨meth, c, h1, h2, h3, h4, h5, h6⟩
  intro p e s m args below meth c s₁ B hml hv _
  obtain ⟨rfl, ⟨hsz, hP, hK, hD0, hZ⟩, hTh⟩ := hv
  have hts0 := atoms_spec (ws := .code y cc mL ret :: sv_tbl) B.pre
  subst hsz
  have hD := hD0.self (sz := s.heap.size)
  have hh0 : s₁.heap = s.heap := by rw [B.state]; rfl
  have hcode := (Stand.of_body B).code
  have hout : ∀ (x : ExceptionTableEntry) (pc : Nat), x ∈ c.exceptionTable.toList → covers x pc = false := by
    obtain ⟨meth', c', h1, h2, -, -, -, -, h7, -⟩ := Cond.code_spec B.named (hts0 _ List.mem_cons_self)
    cases Option.some.inj (h1.symm.trans B.method)
    cases Option.some.inj (h2.symm.trans hcode)
    intro x pc hx
    rw [Array.isEmpty_iff.mp h7] at hx
    cases hx
  have main : W p l e rm s m av.toArray below meth c s.heap [] 0 0 (fun t => ∃ o, t.status = .running ∧ Ended t below o ∧ sv_Qx E g ws (va_A ws s.heap.size) av.toArray s o t) (entryFrame m av.toArray mL) := by
    rw [lg_entry_eq]
    refine body ((p, l, e, rm), (s, m, av.toArray, below), (meth, c, _), g, va_A ws s.heap.size) ⟨rfl, rfl, rfl, B.exec, B.bytes, hml, findClass_of_methodNamed B.named, fun w hw => hts0 w (List.mem_cons_of_mem _ hw), hK, fun q h => Or.inr h, hZ, Or.inr trivial⟩ ?_ s.heap [] _ hP hD va_S.rf (sv_entry_L hav hlen)
    intro pc lv ix ib j tx hj hlk hd0 hd3 hd4 hd6 hd9 H locs ls hP2 hD2 hS hl T hT S0
    subst hT
    have hall : ∀ w ∈ sv_tbl, w.before av.toArray ({ s with heap := T.heap, slotsUsed := T.slotsUsed } : State) = true := fun w hw => word_at (s := s) (U := ({ s with heap := T.heap, slotsUsed := T.slotsUsed } : State)) (State.WarmedH.refl s) (sv_tbl_good w hw) (hts0 w (List.mem_cons_of_mem _ hw))
    obtain ⟨v1, v2, z1, z2, -, z4, z5, z6⟩ := hTh
    obtain ⟨U, st, r1, r2, r3, r4, r5, ce, r6, r7, r8⟩ := sv_throwW (s := ({ s with heap := T.heap, slotsUsed := T.slotsUsed } : State)) (H := T.heap) (own := y.cls) (E := E) (F := F) (tx := tx) (r := r) (jx := jx) (rx := rx) (x0 := x0) (x1 := x1) (x2 := x2) (x5 := x5) (ix := ix) (ib := ib) (ic := ic) (q := g.2.2.1 j) (pc := pc) (ls := ls) B.exec B.bytes (Launch.traces_off hfl B.admits) (findClass_of_methodNamed B.named) hE hF hnames (hall _ hlk) (hall _ hw1) (hall _ hw2)
      (fun a ha => by
        rcases hat a ha with h | rfl | rfl | rfl | rfl | rfl | rfl | rfl
        · exact hall a h
        · exact sv_thR (z1.kept hS.2.1)
        · exact sv_thR (z2.kept hS.2.1)
        · exact (z5.kept hS.2.1).use
        · exact (z6.kept hS.2.1).use
        · exact sv_dcl (u := s) (Vm.Alike.refl s.vm) z4.1
        · exact sv_dcl (u := s) (Vm.Alike.refl s.vm) z4.2.1
        · exact sv_dcl (u := s) (Vm.Alike.refl s.vm) z4.2.2)
      (vk_R.warm (U := ({ s with heap := T.heap, slotsUsed := T.slotsUsed } : State)) (State.WarmedH.refl s) (hZ.2.1 _ hj)) hd0 hd3 hd4 hd6 hd9 (fun x hx => hout x _ hx) (hl.1.trans hml.symm) B.notSynchronized hrm.1 hrm.2.1 hrm.2.2.1 hrm.2.2.2 T rfl (sv_rebase S0)
    have hk := sv_keepAll (U := U) r5
    refine ⟨U, st, .threw T.heap.size, r1, r3, T.heap.size, rfl, hS.1, ⟨ce, r6, r7, r8⟩, hP2.kept (fun k q hq => ?_), ⟨Nat.le_trans hS.1 r5.2.1, fun q h1 h2 => (hk q (Nat.lt_of_lt_of_le h1 hS.1)).trans (hS.2.1 q h1 h2)⟩, r4, locs, sv_sameT S0.same r5, hS.2.2⟩
    exact hk q.1 (sv_Plt hP2 hq)
  obtain ⟨t, a1, o, b1, b2, b3⟩ := main s₁ hh0 (Stand.of_body B)
  exact ⟨t, o, a1, b1, b2, b3⟩
