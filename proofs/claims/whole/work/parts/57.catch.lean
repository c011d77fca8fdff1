/-! CAUGHT: the search of a method's table, the catch types only linked -/
def sv_Fd (e : Env) (f : JFrame) (a : Addr) (tb : List ExceptionTableEntry) (hpc : Nat) (S : State) (vm' : Vm) : Prop :=
  ∀ (Q : Handler → Pre) (E : CtlPost) (d : Bool) (acts : List Action), wp (findHandler.go f a tb) Q E e d acts S ↔ Q (.found hpc) d acts (S.setVm vm')
theorem sv_asg (vm : Vm) (c : ClassId) : vm.assignable c c = true := by
  unfold Vm.assignable Vm.assignableAux
  simp
/-- one entry that covers the place: its class is resolved here and now -/
theorem sv_seek1 {e : Env} {S : State} {f : JFrame} {a : Addr} {x : ExceptionTableEntry} {t : List ExceptionTableEntry} {c : ClassId} {cell : Cell} (hx : covers x f.pc = true) (h0 : x.catchType ≠ 0)
    (hl : S.vm.ClassLinks e.platform f.method.cls x.catchType c) (hcell : S.heap[a]? = some cell) (hobj : ∀ k, cell.vm ≠ .statics k) (hk : ∃ k, S.vm.classes[cell.cls]? = some k) (hc : ∃ k, S.vm.classes[c]? = some k)
    {Q : Handler → Pre} {E : CtlPost} {d : Bool} {acts : List Action} :
    wp (findHandler.go f a (x :: t)) Q E e d acts S ↔ if S.vm.assignable cell.cls c = true then Q (.found x.handlerPc) d acts (S.setVm (S.vm.noted f.method.cls x.catchType (.cls c))) else wp (findHandler.go f a t) Q E e d acts (S.setVm (S.vm.noted f.method.cls x.catchType (.cls c))) := by
  simp only [covers] at hx
  obtain ⟨r1, r2⟩ := (resolveClass_links e.toSetting hl).op (op := VmOp.resolveClass f.method.cls x.catchType) rfl
  have al : S.vm.Alike (S.vm.noted f.method.cls x.catchType (.cls c)) := (Vm.Alike.refl S.vm).noted _ _ _
  obtain ⟨k1, q1⟩ := hk
  obtain ⟨k2, q2⟩ := hc
  obtain ⟨k1', q1', -⟩ := al.2.2 _ _ q1
  obtain ⟨k2', q2', -⟩ := al.2.2 _ _ q2
  have ha : (S.vm.noted f.method.cls x.catchType (.cls c)).assignable cell.cls c = S.vm.assignable cell.cls c := al.assignable _ _
  cases hb : S.vm.assignable cell.cls c <;> rw [hb] at ha <;> simp [findHandler.go, hx, h0, r1, r2, hcell, hobj, q1', q2', ha, VmOp.dirties, VmOp.acts]
/-- no object of the class E is one of the class E' -/
def sv_Nc (E E' : String) : Prop := E = "java/util/NoSuchElementException" ∧ E' = "java/lang/IllegalArgumentException"
theorem sv_nc_NI : sv_Nc "java/util/NoSuchElementException" "java/lang/IllegalArgumentException" := ⟨rfl, rfl⟩
/-- the table catches an E thrown at pc, at hpc -/
def sv_Tb (own : String) (pc : Nat) (E : String) (hpc : Nat) : List (Nat × Nat × Nat × Nat) → Prop
  | [] => False
  | q :: t => (covers ⟨q.1, q.2.1, q.2.2.1, q.2.2.2⟩ pc = true ∧ q.2.2.2 ≠ 0) ∧ ((Cond.classLink own q.2.2.2 E ∈ sv_tbl ∧ q.2.2.1 = hpc) ∨ ∃ E' : String, Cond.classLink own q.2.2.2 E' ∈ sv_tbl ∧ sv_Nc E E' ∧ sv_Tb own pc E hpc t)
theorem sv_Tb_find {e : Env} {s : State} {m : MethodId} {args : Array Value} {own : String} (hown : s.vm.findClass own = some m.cls) (hts : ∀ w ∈ sv_tbl, w.before args s = true) (hpl : e.platform.magicAccessors = ({} : Platform).magicAccessors) (hNc : va_Nc "java/util/NoSuchElementException" "java/lang/IllegalArgumentException" s)
    {E : String} {f : JFrame} (hfm : f.method = m) {x : Addr} {ce : Cell} (hce2 : ce.vm = .none) (hce3 : s.vm.findClass E = some ce.cls) {hpc : Nat} :
    ∀ tb : List (Nat × Nat × Nat × Nat), sv_Tb own f.pc E hpc tb → ∀ S : State, s.WarmedH S.vm → S.heap[x]? = some ce → ∃ vm', s.WarmedH vm' ∧ sv_Fd e f x (tableOf tb) hpc S vm'
  | [], h => fun _ _ _ => False.elim h
  | q :: t, h => by
    intro S hW hx
    subst hfm
    obtain ⟨⟨hcov, hn0⟩, h⟩ := h
    obtain ⟨k0, hk0, -⟩ := Vm.findClass_spec hce3
    obtain ⟨k0', hk0', -⟩ := hW.alike.2.2 _ _ hk0
    have hob : ∀ k, ce.vm ≠ .statics k := fun k hk => by rw [hce2] at hk; cases hk
    rcases h with ⟨hlk, hp⟩ | ⟨E', hlk, hno, hr⟩
    · obtain ⟨c, hc, hcl⟩ := Cond.classLink_spec hown (hts _ hlk) e.platform hpl
      have e1 : c = ce.cls := Option.some.inj (hc.symm.trans hce3)
      subst e1
      obtain ⟨dk, _, _, kt, hd, _, _, _, _, hkt, _, hopen⟩ := hcl.here
      refine ⟨_, hW.noted hd hopen (State.rightAt_cls hcl), fun Q E d acts => ?_⟩
      have h1 := sv_seek1 (e := e) (S := S) (f := f) (a := x) (x := ⟨q.1, q.2.1, q.2.2.1, q.2.2.2⟩) (t := tableOf t) (Q := Q) (E := E) (d := d) (acts := acts) hcov hn0 (hW.classLinks hcl) hx hob ⟨k0', hk0'⟩ ⟨k0', hk0'⟩
      rw [if_pos (sv_asg _ _)] at h1
      subst hp
      exact h1
    · obtain ⟨c, hc, hcl⟩ := Cond.classLink_spec hown (hts _ hlk) e.platform hpl
      obtain ⟨dk, _, _, kt, hd, _, _, _, _, hkt, _, hopen⟩ := hcl.here
      obtain ⟨kt', hkt', -⟩ := hW.alike.2.2 _ _ hkt
      have hW2 := hW.noted hd hopen (State.rightAt_cls hcl)
      obtain ⟨vm', hW3, hF⟩ := sv_Tb_find hown hts hpl hNc rfl hce2 hce3 t hr (S.setVm (S.vm.noted f.method.cls q.2.2.2 (.cls c))) hW2 hx
      refine ⟨vm', hW3, fun Q E d acts => ?_⟩
      have h1 := sv_seek1 (e := e) (S := S) (f := f) (a := x) (x := ⟨q.1, q.2.1, q.2.2.1, q.2.2.2⟩) (t := tableOf t) (Q := Q) (E := E) (d := d) (acts := acts) hcov hn0 (hW.classLinks hcl) hx hob ⟨k0', hk0'⟩ ⟨kt', hkt'⟩
      obtain ⟨n0, n1⟩ := hno
      subst n0; subst n1
      obtain ⟨c0, t0, m1, m2, m3⟩ := hNc
      have f1 : c0 = ce.cls := Option.some.inj (m1.symm.trans hce3)
      have f2 : t0 = c := Option.some.inj (m2.symm.trans hc)
      subst f1; subst f2
      have h2 := hW.alike.assignable ce.cls t0
      rw [m3] at h2
      rw [if_neg (by rw [h2]; decide)] at h1
      exact h1.trans (hF Q E d acts)
theorem sv_caught {tb : Tables} {e : Env} {s target : State} {g : JFrame} {c : Code} {below : List Frame} {a : Addr} {meth : Method} (h : At s g.method c below) (hm : s.vm.method? g.method = some meth) (hc : meth.code = some c) {pc : Nat} {vm' : Vm}
    (hf : sv_Fd e g a c.exceptionTable.toList pc ((s.setTop g).pushFrame (.throwing a)) vm') (hrest : Steps tb e below ((s.setVm vm').setTop { g with pc := pc, stack := [.ref a] }) target) : Steps tb e below ((s.setTop g).pushFrame (.throwing a)) target := by
  obtain ⟨hgo, hw⟩ := h.throwing a
  obtain ⟨g0, hg0⟩ := Option.isSome_iff_exists.mp h.top
  obtain ⟨r, hr⟩ := State.topJava?_eq_some.mp hg0
  have hall : ∀ (Q : Handler → Pre) (E : CtlPost) (d : Bool) (acts : List Action), wp (findHandler g a) Q E e d acts ((s.setTop g).pushFrame (.throwing a)) ↔ Q (.found pc) d acts (((s.setTop g).pushFrame (.throwing a)).setVm vm') :=
    fun Q E d acts => (W.findHandler_eq (meth := meth) (code := c) (by rw [Stand.throwing_vm]; exact hm) hc).trans (hf Q E d acts)
  have hst : (stepThrowing e ((s.setTop g).pushFrame (.throwing a)) a (.java g :: s.frames.tail)).1 = (((s.setTop g).pushFrame (.throwing a)).setVm vm').setFrames (.java { g with pc := pc, stack := [.ref a] } :: s.frames.tail) := by
    simp only [stepThrowing, searchFrame, vmDo]
    generalize hq : Sem.go _ e false [] _ = res
    obtain ⟨as, rfl, ha⟩ := Sem.eq_ok_of hq (a := Handler.found pc) (s' := ((s.setTop g).pushFrame (.throwing a)).setVm vm') (acts' := []) (by simp [hall _ _ _ _])
    rfl
  refine Steps.head hgo hw ?_
  rw [stepThread_throwing (frames_entered h.top _), hst]
  have hr' : (s.setVm vm').frames = .java g0 :: r := hr
  rw [State.setTop_of_frames _ hr'] at hrest
  have e1 : ∀ (u : State) (G F : List Frame), ((u.setFrames G).setVm vm').setFrames F = (u.setVm vm').setFrames F := fun u G F => by
    show ((u.setVm vm').setFrames G).setFrames F = _
    rw [State.setFrames_setFrames]
  rw [hr, List.tail_cons, State.pushFrame, e1, State.setTop_of_frames _ hr, e1]
  exact hrest
theorem sv_Tb_hit {own E : String} {pc hpc : Nat} {q : Nat × Nat × Nat × Nat} {t : List (Nat × Nat × Nat × Nat)} (h1 : covers ⟨q.1, q.2.1, q.2.2.1, q.2.2.2⟩ pc = true) (h2 : q.2.2.2 ≠ 0) (h3 : Cond.classLink own q.2.2.2 E ∈ sv_tbl) (h4 : q.2.2.1 = hpc) : sv_Tb own pc E hpc (q :: t) := And.intro ⟨h1, h2⟩ (Or.inl ⟨h3, h4⟩)
theorem sv_Tb_pass {own E E' : String} {pc hpc : Nat} {q : Nat × Nat × Nat × Nat} {t : List (Nat × Nat × Nat × Nat)} (h1 : covers ⟨q.1, q.2.1, q.2.2.1, q.2.2.2⟩ pc = true) (h2 : q.2.2.2 ≠ 0) (h3 : Cond.classLink own q.2.2.2 E' ∈ sv_tbl) (h4 : sv_Nc E E') (h5 : sv_Tb own pc E hpc t) : sv_Tb own pc E hpc (q :: t) := And.intro ⟨h1, h2⟩ (Or.inr ⟨E', h3, h4, h5⟩)
