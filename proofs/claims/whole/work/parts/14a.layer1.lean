/-! OUR LAYER: a walk over the whole world as a list (sv_V), its fixed things (sv_C), contracts over whole worlds -/
def sv_tys (g : sv_G) : List (ClassId × FieldType) := [(g.2.1 0, .int), (g.2.1 1, .byte), (g.2.1 2, .boolean), (g.2.1 3, .long), (g.2.1 4, .object "WordChain$Ending"), (g.2.1 5, .object "java/lang/String")]
def sv_good (w : Cond) : Bool := (w.onTables && w.keeps) || (match w with | .arrayClass _ => true | _ => false)
def sv_tbl : List Cond := lw_tbl.filter sv_good
theorem sv_tbl_good (w : Cond) (h : w ∈ sv_tbl) : (w.onTables && w.keeps) = true ∨ ∃ ty, w = .arrayClass ty := by
  have h2 := (List.mem_filter.mp h).2
  unfold sv_good at h2
  rcases (Bool.or_eq_true _ _).mp h2 with h3 | h3
  · exact Or.inl h3
  · refine Or.inr ?_
    revert h3
    cases w <;> intro h3 <;> first | exact ⟨_, rfl⟩ | cases h3
theorem sv_in {w : Cond} (h : w ∈ lw_tbl) (hg : sv_good w = true) : w ∈ sv_tbl := List.mem_filter.mpr ⟨h, hg⟩
theorem sv_at {w : Cond} (i : Nat) (h : lw_tbl[i]? = some w) (hg : sv_good w = true) : w ∈ sv_tbl := sv_in (List.mem_of_getElem? h) hg
/-- the locals, by their numbers; all of one slot -/
def sv_L (ls : Array Slot) (nL : Nat) (lv : List (Option Value)) : Prop := ls.size = nL ∧ lv_wf ls ∧ ∀ (i : Nat) (v : Value), lv[i]? = some (some v) → ls[i]? = some (.val v) ∧ v.category = 1
def sv_pairs (lv : List (Option Value)) : List (Nat × Value) := lv.zipIdx.filterMap (fun q => q.1.map (fun v => (q.2, v)))
theorem sv_pairs_mem {lv : List (Option Value)} {i : Nat} {v : Value} : (i, v) ∈ sv_pairs lv ↔ lv[i]? = some (some v) := by
  unfold sv_pairs
  rw [List.mem_filterMap]
  constructor
  · rintro ⟨⟨o, j⟩, h1, h2⟩
    have h3 := List.mem_zipIdx_iff_getElem?.mp h1
    cases o with
    | none => cases h2
    | some w =>
      cases h2
      exact h3
  · intro h
    exact ⟨(some v, i), List.mem_zipIdx_iff_getElem?.mpr h, rfl⟩
theorem sv_L.has {ls : Array Slot} {nL : Nat} {lv : List (Option Value)} (h : sv_L ls nL lv) : lv_has ls nL (sv_pairs lv) := ⟨h.1, h.2.1, fun q hq => (h.2.2 q.1 q.2 (sv_pairs_mem.mp hq)).1⟩
theorem sv_L.get {ls : Array Slot} {nL : Nat} {lv : List (Option Value)} (h : sv_L ls nL lv) {i : Nat} {v : Value} (hv : lv[i]? = some (some v)) : ls[i]? = some (.val v) := (h.2.2 i v hv).1
theorem sv_L.lt {ls : Array Slot} {nL : Nat} {lv : List (Option Value)} (h : sv_L ls nL lv) {i : Nat} {v : Value} (hv : lv[i]? = some (some v)) : i < nL := by
  have h2 := lv_lt (h.get hv)
  rw [h.1] at h2
  exact h2
theorem sv_L.stored {ls ls' : Array Slot} {nL : Nat} {lv : List (Option Value)} (h : sv_L ls nL lv) {i : Nat} {v : Value} (hc : v.category = 1) (h' : lv_has ls' nL ((i, v) :: (sv_pairs lv).filter (fun q => !(q.1 == i) && !(q.1 + 1 == i && q.2.category == 2)))) : sv_L ls' nL (lv.set i (some v)) := by
  refine ⟨h'.1, h'.2.1, fun j w hj => ?_⟩
  by_cases hji : i = j
  · subst hji
    have hl : i < lv.length := by
      rcases Nat.lt_or_ge i lv.length with q | q
      · exact q
      · rw [List.getElem?_eq_none (by rw [List.length_set]; exact q)] at hj; cases hj
    rw [List.getElem?_set_self hl] at hj
    cases hj
    exact ⟨h'.2.2 (i, v) List.mem_cons_self, hc⟩
  · rw [List.getElem?_set_ne hji] at hj
    have h1 := h.2.2 j w hj
    refine ⟨h'.2.2 (j, w) (List.mem_cons_of_mem _ (List.mem_filter.mpr ⟨sv_pairs_mem.mpr hj, ?_⟩)), h1.2⟩
    have a1 : (j == i) = false := by simpa using fun q => hji q.symm
    have a2 : (w.category == 2) = false := by rw [h1.2]; rfl
    simp [a1, a2]
theorem sv_L.sub {ls : Array Slot} {nL : Nat} {lv lv' : List (Option Value)} (h : sv_L ls nL lv) (hs : ∀ (i : Nat) (v : Value), lv'[i]? = some (some v) → lv[i]? = some (some v)) : sv_L ls nL lv' := ⟨h.1, h.2.1, fun i v hv => h.2.2 i v (hs i v hv)⟩
abbrev sv_X : Type := (Program × Launch × Env × Room) × (State × MethodId × Array Value × List Frame) × (Method × Code × (State → Prop)) × sv_G × (Nat → Prop)
/-- from pc, with these cells, locals and stack, the walk comes to its end; k cells of n slots are made so far -/
def sv_V (X : sv_X) (nL k n : Nat) (ws : va_W) (pc : Nat) (lv : List (Option Value)) (st : List Value) : Prop := match X with
  | ((p, l, e, R), (s, m, args, below), (meth, c, Q), g, A) => ∀ (H : Heap) (locs : List Loc) (ls : Array Slot), va_P g.1 classes ws H → va_D A ws → va_S A s.heap H locs → sv_L ls nL lv → W p l e R s m args below meth c H locs k n Q (F0 m pc ls st)
/-- what is fixed in a walk -/
def sv_C (X : sv_X) (l' : Launch) (cc : ByteArray) (nL : Nat) (own : String) (rm : Room) (g' : sv_G) : Prop := match X with
  | ((p, l, e, R), (s, m, args, below), (meth, c, Q), g, A) => l' = l ∧ g' = g ∧ rm = R ∧ p.tables.exec = Jvm.exec ∧ c.code = cc ∧ c.maxLocals = nL ∧ s.vm.findClass own = some m.cls ∧ (∀ w ∈ sv_tbl, w.before args s = true) ∧ va_K g.1 classes (sv_tys g) s ∧ (∀ q : Nat, s.heap.size ≤ q → A q) ∧ sv_Str g A s s.heap ∧ (meth.name = "<init>" ∨ True)

def sv_isInit (X : sv_X) : Prop := match X with
  | ((p, l, e, R), (s, m, args, below), (meth, c, Q), g, A) => meth.name = "<init>"
