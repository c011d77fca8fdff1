/-! CONTRACTS THAT THROW -/
def sv_Th (A : Nat → Prop) (U : State) (H : Heap) : Prop := ∃ v1 v2 : Option Nat, va_Z "java/lang/Throwable" "UNASSIGNED_STACK" "[Ljava/lang/StackTraceElement;" (va_rf v1) A U H ∧ va_Z "java/lang/Throwable" "SUPPRESSED_SENTINEL" "Ljava/util/List;" (va_rf v2) A U H ∧ va_Nc "java/util/NoSuchElementException" "java/lang/IllegalArgumentException" U
def sv_Qx (E : String) (g : sv_G) (ws : va_W) (A : Nat → Prop) : Array Value → State → Outcome → State → Prop := fun _ st o t => ∃ x : Nat, o = .threw x ∧ st.heap.size ≤ x ∧ (∃ ce : Cell, t.heap[x]? = some ce ∧ ce.vm = .none ∧ st.vm.findClass E = some ce.cls) ∧ va_P g.1 classes ws t.heap ∧ va_F A st t ∧ st.WarmedH t.vm ∧ ∃ L : List Loc, st.sameButNew ({ t with vm := st.vm } : State) L 1 6 ∧ ∀ q ∈ L, A q.base
/-- the method throws an E; the world is as it was -/
def sv_Mx (l : Launch) (y : MethodName) (cc : ByteArray) (mL : Nat) (ret : Option FieldType) (rm : Room) (g : sv_G) (av : List Value) (ws : va_W) (E : String) : Prop := ∀ sz : Nat, MetFree l y (headSpec (.code y cc mL ret :: sv_tbl) rm) (va_Pc av (fun U => sv_Pre g ws sz U ∧ sv_Th (va_A ws sz) U U.heap)) (fun _ _ _ _ _ => True) (sv_Qx E g ws (va_A ws sz))
theorem sv_thR {C n d : String} {v : Option Nat} {A : Nat → Prop} {s : State} {H : Heap} {args : Array Value} {k : Nat} (h : va_Z C n d (va_rf v) A s H) : (Cond.isRef (.static C n d)).before args ({ s with heap := H, slotsUsed := k } : State) = true := by
  obtain ⟨cf, kf, fi, f, a, cell, h1, h2, h3, h4, h5, h6, h7, -⟩ := h
  have h1' : ({ s with heap := H, slotsUsed := k } : State).fieldFound? C n d = some (cf, kf, fi, f) := h1
  have h5' : ({ s with heap := H, slotsUsed := k } : State).heap[a]? = some cell := h5
  cases v <;> simp [Cond.before, Cond.holds, Cond.value, Term.eval, State.fieldNamed?, h1', h2, h4, h5', h6, h7, va_rf, Value.isRef]
