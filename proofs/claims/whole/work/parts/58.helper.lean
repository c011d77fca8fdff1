/-! METHODS WITH A TABLE: entry, a call that throws and is caught, a call of such a method -/
def sv_CT (X : sv_X) : Prop := match X with
  | ((p, l, e, R), (s, m, args, below), (meth, c, Q), g, A) => sv_Th A s s.heap
def sv_CH (X : sv_X) (hh : List (Nat × Nat × Nat × Nat)) : Prop := match X with
  | ((p, l, e, R), (s, m, args, below), (meth, c, Q), g, A) => c.exceptionTable.toList = tableOf hh
theorem sv_Th.call {A B : Nat → Prop} {s U : State} {H : Heap} {locs : List Loc} (h : sv_Th A s s.heap) (hS : va_S A s.heap H locs) (hAB : ∀ q, B q → A q) (hU : U.heap = H) (hW : s.WarmedH U.vm) : sv_Th B U U.heap := by
  subst hU
  obtain ⟨v1, v2, h1, h2, h3, h4, h5, h6⟩ := h
  exact ⟨v1, v2, va_Z.moved hW.alike ((h1.kept hS.2.1).narrow hAB), va_Z.moved hW.alike ((h2.kept hS.2.1).narrow hAB), va_Nc.moved hW.alike h3, h4.moved hW.alike, ((h5.kept hS.2.1).narrow hAB).moved hW.alike, ((h6.kept hS.2.1).narrow hAB).moved hW.alike⟩
theorem sv_Th.same {A : Nat → Prop} {u U : State} {H : Heap} (hv : U.vm = u.vm) (h : sv_Th A u H) : sv_Th A U H := by
  have ha : u.vm.Alike U.vm := by rw [hv]; exact Vm.Alike.refl _
  obtain ⟨v1, v2, h1, h2, h3, h4, h5, h6⟩ := h
  exact ⟨v1, v2, va_Z.moved ha h1, va_Z.moved ha h2, va_Nc.moved ha h3, h4.moved ha, h5.moved ha, h6.moved ha⟩
def sv_PreT (g : sv_G) (ws : va_W) (sz : Nat) (U : State) : Prop := sv_Pre g ws sz U ∧ sv_Th (va_A ws sz) U U.heap
theorem sv_blindT {g : sv_G} {av : List Value} {ws : va_W} {sz : Nat} : FrameBlind (va_Pc av (sv_PreT g ws sz)) := by
  intro a U gf mk q
  obtain ⟨q0, ⟨q1, qP, qK, qD, qZ⟩, qT⟩ := q
  exact ⟨q0, ⟨q1, qP, va_K.moved (u := U) (U := U.calling gf mk a) (Vm.Alike.refl U.vm) qK, qD, sv_Str.same (U := U.calling gf mk a) rfl qZ⟩, sv_Th.same (U := U.calling gf mk a) rfl qT⟩
/-- y, that has a table, answers an int r and leaves the world w, with post r w -/
def sv_Mh (l : Launch) (y : MethodName) (cc : ByteArray) (mL : Nat) (ret : Option FieldType) (hh : List (Nat × Nat × Nat × Nat)) (rm : Room) (g : sv_G) (av : List Value) (ws : va_W) (post : Int32 → va_W → Prop) : Prop := ∀ sz : Nat, Met l y (.codeWith y cc mL ret hh :: sv_tbl) rm (va_Pc av (sv_PreT g ws sz)) (va_Qi post (sv_B g (va_A ws sz)) (va_A ws sz)) rm.cells rm.slots (va_A ws sz)
theorem sv_enter_h {l : Launch} {y : MethodName} {cc : ByteArray} {mL : Nat} {ret : Option FieldType} {hh : List (Nat × Nat × Nat × Nat)} {rm : Room} {g : sv_G} {av : List Value} {ws : va_W} {post : Int32 → va_W → Prop} (hy : plainName y.cls = true) {ty : FieldType} (hret : ret = some ty) (hav0 : av.all (fun v => v.category == 1) = true) (hlen : av.length ≤ mL)
    (body : ∀ X : sv_X, sv_C X l cc mL y.cls rm g → sv_CT X → sv_CH X hh → (∀ (w : va_W) (pc : Nat) (lv : List (Option Value)) (v : Int32), decode cc pc = .ok (.ireturn, 1) → narrow ty (.int v) = .int v → post v w → sv_V X mL rm.cells rm.slots w pc lv [.int v]) → sv_V X mL 0 0 ws 0 (sv_av mL av) []) : sv_Mh l y cc mL ret hh rm g av ws post := by
  have hav : ∀ v ∈ av, v.category = 1 := fun v hv => by simpa using List.all_eq_true.mp hav0 v hv
  intro sz
  refine va_MetW (cc := cc) (maxL := mL) (ret := ret) (hh := hh) hy rfl ?_
  intro p e s m args below meth c s₁ B hml hv
  obtain ⟨rfl, ⟨hsz, hP, hK, hD0, hZ⟩, hTh⟩ := hv
  have hts0 := atoms_spec (ws := .codeWith y cc mL ret hh :: sv_tbl) B.pre
  subst hsz
  have hD := hD0.self (sz := s.heap.size)
  have hcode := (Stand.of_body B).code
  have hH : c.exceptionTable.toList = tableOf hh := by
    obtain ⟨m9, meth', c', n9, h1, h2, -, -, h5, -⟩ := Cond.codeWith_spec (hts0 _ List.mem_cons_self)
    cases Option.some.inj (n9.symm.trans B.named)
    cases Option.some.inj (h1.symm.trans B.method)
    cases Option.some.inj (h2.symm.trans hcode)
    rw [← h5, table_eq]
  rw [lg_entry_eq]
  refine body ((p, l, e, rm), (s, m, av.toArray, below), (meth, c, _), g, va_A ws s.heap.size) ⟨rfl, rfl, rfl, B.exec, B.bytes, hml, findClass_of_methodNamed B.named, fun w hw => hts0 w (List.mem_cons_of_mem _ hw), hK, fun q h => Or.inr h, hZ, Or.inr trivial⟩ hTh hH ?_ s.heap [] _ hP hD va_S.rf (sv_entry_L hav hlen)
  intro w pc lv v hd hn hq H locs ls hP hD hS hl
  exact W.zret B.exec B.bytes (B.returns.trans hret) hn (fun t ht hW => ⟨⟨v, w, rfl, hq, by rw [ht]; exact hP, hD⟩, hS.F ht⟩) hS.2.2 hd B.notSynchronized
section SVH
variable {X : sv_X} {l : Launch} {cc : ByteArray} {nL k n pc : Nat} {own : String} {rm : Room} {g : sv_G} {ws : va_W} {lv : List (Option Value)} {st : List Value}
/-- a call that throws, caught in the method itself -/
theorem sv_callVx (C : sv_C X l cc nL own rm g) (hTh : sv_CT X) {hh : List (Nat × Nat × Nat × Nat)} (hH : sv_CH X hh) {y : MethodName} {cc2 : ByteArray} {mL : Nat} {ret : Option FieldType} {rm2 : Room} {b : Nat} {As : List Value} {ix : Nat} {E : String} (M : sv_Mx l y cc2 mL ret rm2 g (.ref b :: As) ws E) (hk : sv_LK 0 own ix y cc2 mL ret As.length)
    {ci : Nat} {fs : List Value} {T : u_T} {N : Nat} (he : (b, .inr (ci, fs)) ∈ ws) (hc : classes[ci]? = some (y.cls, T, N)) (hd : decode cc pc = .ok (.invokevirtual ix, 3)) (hroom : rm2.frames + 1 ≤ rm.frames ∧ 8 + (mL + 11) + rm2.locals ≤ rm.locals) (hst : (st.map fun v => v.category).sum ≤ 8) (hcs : k + rm2.cells ≤ rm.cells ∧ n + rm2.slots ≤ rm.slots)
    {hpc : Nat} (hf : sv_Tb own pc E hpc hh) (z : ∀ x : Nat, sv_V X nL (k + 1) (n + 6) ws hpc lv [.ref x]) : sv_V X nL k n ws pc lv (As.reverse ++ .ref b :: st) := by
  obtain ⟨⟨p, l0, e, R⟩, ⟨s, m, args, below⟩, ⟨meth, c, Q⟩, g0, A⟩ := X
  obtain ⟨rfl, rfl, rfl, hx, hb, hml, hown, hts, hK, hA, hZ, hin⟩ := C
  have hH : c.exceptionTable.toList = tableOf hh := hH
  have hTh : sv_Th A s s.heap := hTh
  intro H locs ls hP hD hS hl T0 hT X0
  have hF : ∀ q : Nat, va_A ws H.size q → A q := by
    intro q h
    rcases h with ⟨j, e1, h⟩ | h
    · exact hD.2 j _ h
    · exact hA q (Nat.le_trans hS.1 h)
  obtain ⟨h1, h2, h3, h4, h5⟩ := hk
  obtain ⟨qc, he⟩ := List.getElem?_of_mem he
  obtain ⟨cellB, hcB, hoB, hclB⟩ := va_recv hK hP hc he
  have hM : MetFree l y (headSpec (.code y cc2 mL ret :: sv_tbl) rm2) (va_Pc (.ref b :: As) (sv_PreT g ws H.size)) (fun _ _ _ _ _ => True) (sv_Qx E g ws (va_A ws H.size)) := M H.size
  have hin2 := hts _ h5.1
  have hcode := hts _ h2
  obtain ⟨mk, methM, hnamed, hmethM, hstM, habM⟩ := Cond.instanceMethod_spec hin2
  obtain ⟨methM', cM, hmethM', hcM, -, hlM, -, -, -, hsigM⟩ := Cond.code_spec hnamed hcode
  cases hmethM.symm.trans hmethM'
  obtain ⟨c2, r2, m2, q1, q2, q3, q4, kP, hkP, hkPi⟩ := Cond.selects_spec (hts _ h5.2)
  cases hclB.symm.trans q1
  cases (State.methodFound?_of_named hnamed ⟨h4.1, h4.2.1⟩).symm.trans q2
  cases hnamed.symm.trans q3
  have hselP : selectMethod e.platform s.vm cellB.cls mk = .method mk := by rw [Launch.admits_selectMethod X0.admits]; exact q4
  have hlen : As.length = methM.sig.parameters.length := by
    have h9 := h4.2.2
    rw [hsigM] at h9
    exact (Option.some.inj h9).symm
  obtain ⟨vm₁, X₁, hstep₁⟩ := X0.invokevirtual hx hown (hts _ h1) hnamed hmethM hstM hkP hkPi ⟨h4.1, h4.2.1⟩ (a := b) (cell := cellB) (by rw [hT]; exact hcB)
    (fun z h => by rw [h] at hoB; cases hoB) hselP hmethM habM hkP hkPi (g := F0 m pc ls (As.reverse ++ .ref b :: st)) rfl (argsL := As) (rest := st) hlen rfl (by rw [hb]; exact hd)
  have hW₁ : s.WarmedH vm₁ := X₁.warmed
  have hini : kP.init = .initialized := Cond.initialized_spec (findClass_of_methodNamed hnamed) hkP (hts _ h3)
  obtain ⟨kP', hkP', hkP2⟩ := hW₁.alike.2.2 _ _ hkP
  have hall : ∀ w ∈ sv_tbl, w.before (Value.ref b :: As).toArray (T0.setVm vm₁) = true := fun w hw => word_at (s := s) (U := T0.setVm vm₁) hW₁ (sv_tbl_good w hw) (hts w hw)
  have hAt : At (T0.setVm vm₁) (F0 m pc ls st).method c below := X₁.here
  have hmeth1 : (T0.setVm vm₁).vm.method? mk = some methM := by
    show vm₁.method? mk = _
    rw [hW₁.alike.method?]; exact hmethM
  have happ : (headSpec (.code y cc2 mL ret :: sv_tbl) rm2).appliesLoose y e.platform ((T0.setVm vm₁).calling (F0 m pc ls st) mk (Value.ref b :: As).toArray) = true :=
    Spec.appliesLoose_calling (g := F0 m pc ls st) hAt (by rw [hb]; exact hd) (X₁.named hnamed) hkP' (by rw [hkP2]; exact hini)
      (X₁.room_calling (g := F0 m pc ls st) (R' := rm2) (hl.1.trans hml.symm) hmeth1 hcM hroom.1 (by
        have h7 : 2 * (F0 m pc ls st).monitorRoom + (st.map fun v => v.category).sum ≤ 8 := lv_room hst
        have h8 := hroom.2
        show 2 * (F0 m pc ls st).monitorRoom + (st.map fun v => v.category).sum + (cM.maxLocals + 11) + rm2.locals ≤ rm.locals
        omega) hcs.1 hcs.2)
      (atoms_intro fun w hw => by
        rcases List.mem_cons.mp hw with rfl | hw
        · exact hall _ h2
        · exact hall _ hw)
  obtain ⟨g₀, hr⟩ := X₁.frames_eq
  have hfr : ((T0.setVm vm₁).setTop (F0 m pc ls st)).frames = .java (F0 m pc ls st) :: below := by
    rw [State.frames_setTop' _ X₁.here.top, hr]; rfl
  obtain ⟨o, s₂, hsteps, -, hend, hq⟩ := Steps.callFree hM p X₁.admits X₁.cas X₁.clock (acts := []) (mid := [.java (F0 m pc ls st)]) (below := below) hfr happ
    (sv_blindT _ (T0.setVm vm₁) (F0 m pc ls st) mk ⟨rfl, ⟨by show T0.heap.size = _; rw [hT], by show va_P _ _ _ T0.heap; rw [hT]; exact hP, va_K.moved hW₁.alike hK, hD.weaken (fun _ _ _ _ => trivial), sv_Str.call (U := T0.setVm vm₁) hZ hS hF hT hW₁⟩, sv_Th.call (U := T0.setVm vm₁) hTh hS hF hT hW₁⟩) trivial
  obtain ⟨x, rfl, hxsz, ⟨ce, hce1, hce2, hce3⟩, hP', hF', hW', L, hsame, hL⟩ := hq
  rw [hfr] at hend
  obtain ⟨T', X', -, -, ht⟩ := X₁.outOfThrown (g := F0 m pc ls st) rfl (mk := mk) (a := (Value.ref b :: As).toArray) hend hW' hsame
  have hheap : T'.heap = s₂.heap := by rw [ht, Stand.throwing_heap]
  have hce3' : s.vm.findClass E = some ce.cls := by
    have h9 : vm₁.findClass E = some ce.cls := hce3
    rw [hW₁.alike.findClass] at h9
    exact h9
  have hpl : e.platform.magicAccessors = ({} : Platform).magicAccessors := by rw [X0.admits.platform]
  obtain ⟨vm', hWv, hFd⟩ := sv_Tb_find (e := e) (f := F0 m pc ls st) (x := x) (E := E) hown hts hpl (by obtain ⟨-, -, -, -, h, -⟩ := hTh; exact h) rfl hce2 hce3' hh hf ((T'.setTop (F0 m pc ls st)).pushFrame (.throwing x)) (by rw [Stand.throwing_vm]; exact X'.warmed) (by rw [Stand.throwing_heap, hheap]; exact hce1)
  have hS2 : va_S A s.heap T'.heap (locs ++ L) := by
    have hz1 : T0.heap.size ≤ s₂.heap.size := hF'.1
    rw [hT] at hz1
    refine ⟨Nat.le_trans hS.1 (by rw [hheap]; exact hz1), fun q a1 a2 => ?_, fun q hq => ?_⟩
    · have h8 := hF'.2 q (by show q < T0.heap.size; rw [hT]; exact Nat.lt_of_lt_of_le a1 hS.1) (fun z => a2 (hF q z))
      rw [hheap, h8]
      show T0.heap[q]? = _
      rw [hT]
      exact hS.2.1 q a1 a2
    · rcases List.mem_append.mp hq with h | h
      · exact hS.2.2 q h
      · exact hF _ (hL q h)
  obtain ⟨t2, u1, u2⟩ := z x T'.heap (locs ++ L) ls (by rw [hheap]; exact hP') hD hS2 hl (T'.setVm vm') rfl (X'.noted hWv)
  refine ⟨t2, hstep₁ _ (fun acts => ?_), u2⟩
  rw [doInvoke_state]
  refine hsteps.trans ?_
  rw [ht]
  exact sv_caught (s := T') (g := F0 m pc ls st) X'.here X'.method' X'.code (by rw [hH]; exact hFd) u1
/-- the words of a call of a static method with a table -/
def sv_LKW (own : String) (ix : Nat) (y : MethodName) (cc : ByteArray) (mL : Nat) (ret : Option FieldType) (hh : List (Nat × Nat × Nat × Nat)) (nA : Nat) : Prop := Cond.methodLink own ix y ∈ sv_tbl ∧ Cond.codeWith y cc mL ret hh ∈ sv_tbl ∧ Cond.initialized y.cls ∈ sv_tbl ∧ (y.cls ≠ "java/lang/invoke/MethodHandle" ∧ y.cls ≠ "java/lang/invoke/VarHandle" ∧ (parseMethodDescriptor y.desc).map (fun d => d.parameters.length) = some nA) ∧ Cond.static y ∈ sv_tbl
theorem sv_callSh (C : sv_C X l cc nL own rm g) (hTh : sv_CT X) {hh : List (Nat × Nat × Nat × Nat)} {y : MethodName} {cc2 : ByteArray} {mL : Nat} {ret : Option FieldType} {rm2 : Room} {As : List Value} {ix : Nat} {post : Int32 → va_W → Prop} (M : sv_Mh l y cc2 mL ret hh rm2 g As ws post) (hk : sv_LKW own ix y cc2 mL ret hh As.length)
    (hd : decode cc pc = .ok (.invokestatic ix, 3)) (hroom : rm2.frames + 1 ≤ rm.frames ∧ 8 + (mL + 11) + rm2.locals ≤ rm.locals) (hst : (st.map fun v => v.category).sum ≤ 8) (hcs : k + rm2.cells ≤ rm.cells ∧ n + rm2.slots ≤ rm.slots) (z : ∀ (r : Int32) (w : va_W), post r w → sv_V X nL (k + rm2.cells) (n + rm2.slots) w (pc + 3) lv (.int r :: st)) : sv_V X nL k n ws pc lv (As.reverse ++ st) := by
  obtain ⟨⟨p, l0, e, R⟩, ⟨s, m, args, below⟩, ⟨meth, c, Q⟩, g0, A⟩ := X
  obtain ⟨rfl, rfl, rfl, hx, hb, hml, hown, hts, hK, hA, hZ, hin⟩ := C
  have hTh : sv_Th A s s.heap := hTh
  intro H locs ls hP hD hS hl
  have hF : ∀ q : Nat, va_A ws H.size q → A q := by
    intro q h
    rcases h with ⟨j, e1, h⟩ | h
    · exact hD.2 j _ h
    · exact hA q (Nat.le_trans hS.1 h)
  obtain ⟨h1, h2, h3, h4, h5⟩ := hk
  have hpay : ∀ w ∈ (.codeWith y cc2 mL ret hh :: sv_tbl), ∀ (a' : Array Value) (U : State), s.WarmedH U.vm → w.before a' U = true := fun w hw a' U hW => by
    rcases List.mem_cons.mp hw with rfl | hw
    · exact word_at hW (sv_tbl_good _ h2) (hts _ h2)
    · exact word_at hW (sv_tbl_good _ hw) (hts _ hw)
  have hK2 : Back l rm p e below s args y 3 8 (PreOf rm rm2.cells rm2.slots (va_Pc As (sv_PreT g ws H.size))) (PostOf (va_Qi post (sv_B g (va_A ws H.size)) (va_A ws H.size)) rm2.cells rm2.slots (va_A ws H.size)) :=
    va_backW (hh := hh) (bytes := cc2) (maxL := mL) (ret := ret) (M H.size) sv_blindT rfl rfl hroom.1 hroom.2 hpay List.mem_cons_self (fun a' U hW => word_at hW (sv_tbl_good _ h3) (hts _ h3))
  obtain ⟨mk, methM, cM, hnamed, hmethM, -, -, -, -, -, -, hsigM⟩ := Cond.codeWith_spec (hts _ h2)
  have hstatic : methM.isStatic = true := Cond.static_spec hnamed hmethM (hts _ h5)
  obtain ⟨kP, hkP, -⟩ := className_of_methodNamed hnamed
  have hinitP : kP.init = .initialized := Cond.initialized_spec (findClass_of_methodNamed hnamed) hkP (hts _ h3)
  have hlen : As.length = methM.sig.parameters.length := by
    have h9 := h4.2.2
    rw [hsigM] at h9
    exact (Option.some.inj h9).symm
  have hrun : va_Run p l e rm s m args below meth c H locs k n rm2.cells rm2.slots (F0 m pc ls (As.reverse ++ st)) st (va_Qi post (sv_B g (va_A ws H.size)) (va_A ws H.size) As.toArray) (va_A ws H.size) := by
    intro T hT X0
    obtain ⟨vm₁, X₁, hstep₁⟩ := X0.invokestatic hx hown (hts _ h1) hnamed hmethM hstatic hkP hinitP ⟨h4.1, h4.2.1⟩ (g := F0 m pc ls (As.reverse ++ st)) rfl (argsL := As) (rest := st) hlen rfl (by rw [hb]; exact hd)
    have hW₁ : s.WarmedH vm₁ := X₁.warmed
    obtain ⟨v, ⟨U', l2, c2, s2⟩, X', ⟨g', mk2, t, L, e1, e2, hq, f1, hL, f2, f3⟩, hsteps⟩ := hK2 m meth c ⟨T.setVm vm₁, locs, k, n⟩ (F0 m pc ls st) (.invokestatic ix) mk As.toArray X₁ rfl (hl.1.trans hml.symm) (by rw [hb]; exact hd) (lv_room hst) (X₁.named hnamed)
      ⟨hcs.1, hcs.2, rfl, ⟨by show T.heap.size = _; rw [hT], by show va_P _ _ _ T.heap; rw [hT]; exact hP, va_K.moved hW₁.alike hK, hD.weaken (fun _ _ _ _ => trivial), sv_Str.call (U := T.setVm vm₁) hZ hS hF hT hW₁⟩, sv_Th.call (U := T.setVm vm₁) hTh hS hF hT hW₁⟩
    dsimp only [Pt.U, Pt.locs, Pt.cells, Pt.slots] at X' e1 e2 f1 f2 f3 hsteps
    subst f1; subst f2; subst f3
    exact ⟨v, (T.setVm vm₁).calling g' mk2 As.toArray, t, U', L, hT, X', hL, e1, e2, hq, fun target h => hstep₁ _ fun acts => by rw [doInvoke_state]; exact hsteps.trans h⟩
  exact va_calli hrun hS (fun q _ h => hF q h) hF (fun r u t H1 locs1 ht hvm hw hB hz1 hk1 hS1 => z r u hw H1 locs1 ls (by rw [← ht]; exact hB.1) (hB.2.weaken (fun _ q _ h => hF q.1 h)) hS1 hl)
end SVH
