/-! CONTRACTS THAT THROW -/
def sv_Ds (U : State) : Prop := (Cond.declares (Bundle.initS "java/lang/RuntimeException")).before #[] U = true ∧ (Cond.declares (Bundle.initS "java/lang/Exception")).before #[] U = true ∧ (Cond.declares (Bundle.initS "java/lang/Throwable")).before #[] U = true
theorem sv_dcl {x : MethodName} {u U : State} {A B : Array Value} (hvm : u.vm.Alike U.vm) (h : (Cond.declares x).before A u = true) : (Cond.declares x).before B U = true := by
  obtain ⟨m, meth, h1, h2, h3, h4⟩ := Cond.declares_spec h
  have e1 : U.methodNamed? x = some m := by
    have h9 := State.methodNamed?_setVm (s := u) hvm x
    rw [h1] at h9
    exact h9
  have e2 : U.vm.method? m = some meth := by rw [hvm.method?]; exact h2
  simp [Cond.before, Cond.holds, Cond.value, e1, e2, h3, h4]
theorem sv_Ds.moved {u U : State} (hvm : u.vm.Alike U.vm) (h : sv_Ds u) : sv_Ds U := ⟨sv_dcl hvm h.1, sv_dcl hvm h.2.1, sv_dcl hvm h.2.2⟩
def sv_LS (n d : String) (A : Nat → Prop) (U : State) (H : Heap) : Prop := ∃ (cf : ClassId) (kf : Class) (fi : Nat) (f : Field) (a : Nat) (cell : Cell), U.vm.findClass "java/lang/Throwable" = some cf ∧ U.fieldFound? "java/lang/Throwable" n d = some (cf, kf, fi, f) ∧ f.isStatic = true ∧ kf.statics = some a ∧ H[a]? = some cell ∧ cell.vm.isStatics = true ∧ cell.cls = cf ∧ f.slot < cell.slots.size ∧ kf.staticTypes[f.slot]? = some f.type ∧ ¬ A a
theorem sv_LS.moved {n d : String} {A : Nat → Prop} {u U : State} {H : Heap} (hvm : u.vm.Alike U.vm) (h : sv_LS n d A u H) : sv_LS n d A U H := by
  obtain ⟨cf, kf, fi, f, a, cell, h0, h1, h2, h3, h4, h5, h6, h7, h8, h9⟩ := h
  obtain ⟨k', hi', he⟩ := State.fieldFound?_setVm hvm h1
  exact ⟨cf, k', fi, f, a, cell, by rw [hvm.findClass]; exact h0, hi', h2, by rw [he]; exact h3, h4, h5, h6, h7, by rw [he]; exact h8, h9⟩
theorem sv_LS.kept {n d : String} {A : Nat → Prop} {U : State} {H H1 : Heap} (h : sv_LS n d A U H) (hq : ∀ a : Nat, a < H.size → ¬ A a → H1[a]? = H[a]?) : sv_LS n d A U H1 := by
  obtain ⟨cf, kf, fi, f, a, cell, h0, h1, h2, h3, h4, h5, h6, h7, h8, h9⟩ := h
  exact ⟨cf, kf, fi, f, a, cell, h0, h1, h2, h3, by rw [hq a (Array.getElem?_eq_some_iff.mp h4).1 h9]; exact h4, h5, h6, h7, h8, h9⟩
theorem sv_LS.narrow {n d : String} {A B : Nat → Prop} {U : State} {H : Heap} (h : sv_LS n d A U H) (hAB : ∀ q, B q → A q) : sv_LS n d B U H := by
  obtain ⟨cf, kf, fi, f, a, cell, h0, h1, h2, h3, h4, h5, h6, h7, h8, h9⟩ := h
  exact ⟨cf, kf, fi, f, a, cell, h0, h1, h2, h3, h4, h5, h6, h7, h8, fun z => h9 (hAB a z)⟩
theorem sv_LS.use {n d : String} {A : Nat → Prop} {s : State} {H : Heap} {args : Array Value} {k : Nat} (h : sv_LS n d A s H) : (Cond.laysStatic "java/lang/Throwable" n d).before args ({ s with heap := H, slotsUsed := k } : State) = true := by
  obtain ⟨cf, kf, fi, f, a, cell, h0, h1, h2, h3, h4, h5, h6, h7, h8, h9⟩ := h
  have g0 : ({ s with heap := H, slotsUsed := k } : State).vm.findClass "java/lang/Throwable" = some cf := h0
  have g1 : ({ s with heap := H, slotsUsed := k } : State).fieldFound? "java/lang/Throwable" n d = some (cf, kf, fi, f) := h1
  have g4 : ({ s with heap := H, slotsUsed := k } : State).heap[a]? = some cell := h4
  simp [Cond.before, Cond.holds, Cond.value, g0, g1, h2, h3, g4, h5, h6, h7, h8]
def sv_Th (A : Nat → Prop) (U : State) (H : Heap) : Prop := ∃ v1 v2 : Option Nat, va_Z "java/lang/Throwable" "UNASSIGNED_STACK" "[Ljava/lang/StackTraceElement;" (va_rf v1) A U H ∧ va_Z "java/lang/Throwable" "SUPPRESSED_SENTINEL" "Ljava/util/List;" (va_rf v2) A U H ∧ va_Nc "java/util/NoSuchElementException" "java/lang/IllegalArgumentException" U ∧ sv_Ds U ∧ sv_LS "UNASSIGNED_STACK" "[Ljava/lang/StackTraceElement;" A U H ∧ sv_LS "SUPPRESSED_SENTINEL" "Ljava/util/List;" A U H
/-- a word of a throw: out of the tables, or one of those that are carried along -/
def sv_ow (a : Cond) : Prop := a ∈ sv_tbl ∨ a = .isRef (.static "java/lang/Throwable" "UNASSIGNED_STACK" "[Ljava/lang/StackTraceElement;") ∨ a = .isRef (.static "java/lang/Throwable" "SUPPRESSED_SENTINEL" "Ljava/util/List;") ∨ a = .laysStatic "java/lang/Throwable" "UNASSIGNED_STACK" "[Ljava/lang/StackTraceElement;" ∨ a = .laysStatic "java/lang/Throwable" "SUPPRESSED_SENTINEL" "Ljava/util/List;" ∨ a = .declares (Bundle.initS "java/lang/RuntimeException") ∨ a = .declares (Bundle.initS "java/lang/Exception") ∨ a = .declares (Bundle.initS "java/lang/Throwable")
def sv_Qx (E : String) (g : sv_G) (ws : va_W) (A : Nat → Prop) : Array Value → State → Outcome → State → Prop := fun _ st o t => ∃ x : Nat, o = .threw x ∧ st.heap.size ≤ x ∧ (∃ ce : Cell, t.heap[x]? = some ce ∧ ce.vm = .none ∧ st.vm.findClass E = some ce.cls) ∧ va_P g.1 classes ws t.heap ∧ va_F A st t ∧ st.WarmedH t.vm ∧ ∃ L : List Loc, st.sameButNew ({ t with vm := st.vm } : State) L 1 6 ∧ ∀ q ∈ L, A q.base
/-- the method throws an E; the world is as it was -/
def sv_Mx (l : Launch) (y : MethodName) (cc : ByteArray) (mL : Nat) (ret : Option FieldType) (rm : Room) (g : sv_G) (av : List Value) (ws : va_W) (E : String) : Prop := ∀ sz : Nat, MetFree l y (headSpec (.code y cc mL ret :: sv_tbl) rm) (va_Pc av (fun U => sv_Pre g ws sz U ∧ sv_Th (va_A ws sz) U U.heap)) (fun _ _ _ _ _ => True) (sv_Qx E g ws (va_A ws sz))
theorem sv_thR {C n d : String} {v : Option Nat} {A : Nat → Prop} {s : State} {H : Heap} {args : Array Value} {k : Nat} (h : va_Z C n d (va_rf v) A s H) : (Cond.isRef (.static C n d)).before args ({ s with heap := H, slotsUsed := k } : State) = true := by
  obtain ⟨cf, kf, fi, f, a, cell, h1, h2, h3, h4, h5, h6, h7, -⟩ := h
  have h1' : ({ s with heap := H, slotsUsed := k } : State).fieldFound? C n d = some (cf, kf, fi, f) := h1
  have h5' : ({ s with heap := H, slotsUsed := k } : State).heap[a]? = some cell := h5
  cases v <;> simp [Cond.before, Cond.holds, Cond.value, Term.eval, State.fieldNamed?, h1', h2, h4, h5', h6, h7, va_rf, Value.isRef]
