/-! PERMUTATIONS, MAKINGS, LIBRARY ROWS -/
theorem sv_P_perm {D : va_G} {cl : List vw_C} {ws ws' : va_W} {H : Heap} (hp : ws.Perm ws') (h : va_P D cl ws H) : va_P D cl ws' H := by
  intro k q hk
  obtain ⟨j, hj⟩ := List.getElem?_of_mem (hp.mem_iff.mpr (List.mem_of_getElem? hk))
  exact h j q hj
theorem sv_D_iff {A : Nat → Prop} {ws : va_W} : va_D A ws ↔ (ws.map Prod.fst).Nodup ∧ ∀ q ∈ ws, A q.1 := by
  constructor
  · rintro ⟨h1, h2⟩
    refine ⟨?_, fun q hq => ?_⟩
    · refine List.nodup_iff_pairwise_ne.mpr (List.pairwise_iff_getElem.mpr fun i j hi hj hij hh => ?_)
      rw [List.length_map] at hi hj
      rw [List.getElem_map, List.getElem_map] at hh
      have h3 := h1 i j _ _ (List.getElem?_eq_getElem hi) (List.getElem?_eq_getElem hj) hh
      omega
    · obtain ⟨j, hj⟩ := List.getElem?_of_mem hq
      exact h2 j q hj
  · rintro ⟨h1, h2⟩
    refine ⟨fun i j p q hi hj hpq => ?_, fun k q hk => h2 q (List.mem_of_getElem? hk)⟩
    have h1 := List.pairwise_iff_getElem.mp (List.nodup_iff_pairwise_ne.mp h1)
    obtain ⟨li, ei⟩ := List.getElem?_eq_some_iff.mp hi
    obtain ⟨lj, ej⟩ := List.getElem?_eq_some_iff.mp hj
    rcases Nat.lt_trichotomy i j with h | h | h
    · exact absurd (by rw [List.getElem_map, List.getElem_map, ei, ej, hpq]) (h1 i j (by rw [List.length_map]; exact li) (by rw [List.length_map]; exact lj) h)
    · exact h
    · exact absurd (by rw [List.getElem_map, List.getElem_map, ei, ej, hpq]) (h1 j i (by rw [List.length_map]; exact lj) (by rw [List.length_map]; exact li) h)
theorem sv_D_perm {A : Nat → Prop} {ws ws' : va_W} (hp : ws.Perm ws') (h : va_D A ws) : va_D A ws' := by
  rw [sv_D_iff] at h ⊢
  exact ⟨(hp.map Prod.fst).nodup_iff.mp h.1, fun q hq => h.2 q (hp.mem_iff.mpr hq)⟩
theorem sv_range {α : Type} (d : α) (l : List α) : (List.range l.length).map (fun i => l.getD i d) = l := by
  apply List.ext_getElem
  · simp
  · intro i h1 h2
    simp [List.getD_eq_getElem?_getD, h2]
section SVP
variable {X : sv_X} {l : Launch} {cc : ByteArray} {nL k n pc : Nat} {own : String} {rm : Room} {g : sv_G} {ws : va_W} {lv : List (Option Value)} {st : List Value}
theorem sv_Perm {ws' : va_W} (hp : ws.Perm ws') (z : sv_V X nL k n ws' pc lv st) : sv_V X nL k n ws pc lv st := by
  obtain ⟨⟨p, l0, e, R⟩, ⟨s, m, args, below⟩, ⟨meth, c, Q⟩, g0, A⟩ := X
  intro H locs ls hP hD hS hl
  exact z H locs ls (sv_P_perm hp hP) (sv_D_perm hp hD) hS hl
/-- the first cells in another order; the rest stays -/
theorem sv_rot (is : List Nat) (pre pre' rest ws' : va_W) (h1 : ws = pre ++ rest) (h2 : ws' = pre' ++ rest) (hm : is.map (fun i => pre.getD i (0, .inr (0, []))) = pre') (hi : is.isPerm (List.range pre.length) = true) (z : sv_V X nL k n ws' pc lv st) : sv_V X nL k n ws pc lv st := by
  subst h1; subst h2
  refine sv_Perm (List.Perm.append_right rest ?_) z
  have h3 := (List.isPerm_iff.mp hi).map (fun i => pre.getD i (0, .inr (0, [])))
  rw [hm, sv_range] at h3
  exact h3.symm
theorem sv_eqi {x y : Int32} (h : x = y) (z : sv_V X nL k n ws pc lv (.int y :: st)) : sv_V X nL k n ws pc lv (.int x :: st) := by subst h; exact z
theorem sv_eqi2 {v : Value} {x y : Int32} (h : x = y) (z : sv_V X nL k n ws pc lv (v :: .int y :: st)) : sv_V X nL k n ws pc lv (v :: .int x :: st) := by subst h; exact z
theorem sv_lvE {lv' : List (Option Value)} (h : lv = lv') (z : sv_V X nL k n ws pc lv' st) : sv_V X nL k n ws pc lv st := by subst h; exact z
theorem sv_wsE {ws' : va_W} (h : ws = ws') (z : sv_V X nL k n ws' pc lv st) : sv_V X nL k n ws pc lv st := by subst h; exact z
theorem sv_pcE {pc' : Nat} (h : pc = pc') (z : sv_V X nL k n ws pc' lv st) : sv_V X nL k n ws pc lv st := by subst h; exact z
theorem sv_objInit (C : sv_C X l cc nL own rm g) {ix a : Nat} (h1 : Cond.methodLink own ix Lib.objectInit ∈ sv_tbl) (h2 : Cond.instanceMethod Lib.objectInit ∈ sv_tbl) (h3 : Cond.code Lib.objectInit ⟨#[0xb1]⟩ 1 none ∈ sv_tbl) (hf : 1 ≤ rm.frames) (hlo : (st.map fun v => v.category).sum + 12 ≤ rm.locals) (hd : decode cc pc = .ok (.invokespecial ix, 3)) (z : sv_V X nL k n ws (pc + 3) lv st) : sv_V X nL k n ws pc lv (.ref a :: st) := by
  obtain ⟨⟨p, l0, e, R⟩, ⟨s, m, args, below⟩, ⟨meth, c, Q⟩, g0, A⟩ := X
  obtain ⟨rfl, rfl, rfl, hx, hb, hml, hown, hts, hK, hA, hZ, hin⟩ := C
  intro H locs ls hP hD hS hl
  exact W.objInit hx hb hown (hts _ h1) (hts _ h2) (hts _ h3) rfl (hl.1.trans hml.symm) rfl hd hf (by show 2 * 0 + _ + 12 ≤ _; omega) (z H locs ls hP hD hS hl)
theorem sv_mmax (C : sv_C X l cc nL own rm g) {ix : Nat} {x y : Int32} (h1 : Cond.methodLink own ix Lib.Math.max.name ∈ sv_tbl) (h2 : Cond.static Lib.Math.max.name ∈ sv_tbl) (h3 : Cond.initialized "java/lang/Math" ∈ sv_tbl) (h4 : Cond.code Lib.Math.max.name Lib.Math.max.code 2 (some .int) ∈ sv_tbl) (hf : 1 ≤ rm.frames) (hlo : (st.map fun v => v.category).sum + 13 ≤ rm.locals) (hc : k ≤ rm.cells) (hs : n ≤ rm.slots) (hd : decode cc pc = .ok (.invokestatic ix, 3)) (z : sv_V X nL k n ws (pc + 3) lv (.int (if x < y then y else x) :: st)) : sv_V X nL k n ws pc lv (.int y :: .int x :: st) := by
  obtain ⟨⟨p, l0, e, R⟩, ⟨s, m, args, below⟩, ⟨meth, c, Q⟩, g0, A⟩ := X
  obtain ⟨rfl, rfl, rfl, hx, hb, hml, hown, hts, hK, hA, hZ, hin⟩ := C
  intro H locs ls hP hD hS hl
  exact va_mmax hx hb (hml.trans hl.1.symm) hown (hts _ h1) (hts _ h2) (hts _ h3) (hts _ h4) hf hlo hc hs hd (z H locs ls hP hD hS hl)
theorem sv_mmin (C : sv_C X l cc nL own rm g) {ix : Nat} {x y : Int32} (h1 : Cond.methodLink own ix Lib.Math.min.name ∈ sv_tbl) (h2 : Cond.static Lib.Math.min.name ∈ sv_tbl) (h3 : Cond.initialized "java/lang/Math" ∈ sv_tbl) (h4 : Cond.code Lib.Math.min.name Lib.Math.min.code 2 (some .int) ∈ sv_tbl) (hf : 1 ≤ rm.frames) (hlo : (st.map fun v => v.category).sum + 13 ≤ rm.locals) (hc : k ≤ rm.cells) (hs : n ≤ rm.slots) (hd : decode cc pc = .ok (.invokestatic ix, 3)) (z : sv_V X nL k n ws (pc + 3) lv (.int (if y < x then y else x) :: st)) : sv_V X nL k n ws pc lv (.int y :: .int x :: st) := by
  obtain ⟨⟨p, l0, e, R⟩, ⟨s, m, args, below⟩, ⟨meth, c, Q⟩, g0, A⟩ := X
  obtain ⟨rfl, rfl, rfl, hx, hb, hml, hown, hts, hK, hA, hZ, hin⟩ := C
  intro H locs ls hP hD hS hl
  exact va_mmin hx hb (hml.trans hl.1.symm) hown (hts _ h1) (hts _ h2) (hts _ h3) (hts _ h4) hf hlo hc hs hd (z H locs ls hP hD hS hl)
theorem sv_copyi (C : sv_C X l cc nL own rm g) {ix a a0 : Nat} {n0 n1 : Nat} {f h : Nat → Int32} {sp dp len : Int32} (w1 : Cond.methodLink own ix arraycopyName ∈ sv_tbl) (w2 : Cond.native arraycopyName ∈ sv_tbl) (w3 : Cond.static arraycopyName ∈ sv_tbl) (w4 : Cond.initialized "java/lang/System" ∈ sv_tbl) (q0 q1 : Nat) (ha0 : ws[q0]? = some (a0, .inl (g.2.1 0, n0, .inl f))) (ha1 : ws[q1]? = some (a, .inl (g.2.1 0, n1, .inl h))) (h1 : ¬ sp < 0) (h2 : ¬ dp < 0) (h3 : ¬ len < 0) (h4 : sp.toNatClampNeg + len.toNatClampNeg ≤ n0) (h5 : dp.toNatClampNeg + len.toNatClampNeg ≤ n1) (hf : 1 ≤ rm.frames) (hlo : (st.map fun v => v.category).sum + (nativeFrameWords "java/lang/System" "arraycopy" 5 + 11) ≤ rm.locals) (ws' : va_W) (hws : ws.set q1 (a, .inl (g.2.1 0, n1, .inl (va_cpy f h sp.toNatClampNeg dp.toNatClampNeg len.toNatClampNeg))) = ws') (hd : decode cc pc = .ok (.invokestatic ix, 3)) (z : sv_V X nL k n ws' (pc + 3) lv st) : sv_V X nL k n ws pc lv (.int len :: .int dp :: .ref a :: .int sp :: .ref a0 :: st) := by
  obtain ⟨⟨p, l0, e, R⟩, ⟨s, m, args, below⟩, ⟨meth, c, Q⟩, g0, A⟩ := X
  obtain ⟨rfl, rfl, rfl, hx, hb, hml, hown, hts, hK, hA, hZ, hin⟩ := C
  intro H locs ls hP hD hS hl
  exact va_copyi hx hb (hml.trans hl.1.symm) hown (hts _ w1) (hts _ w2) (hts _ w3) (hts _ w4) hK hP hD hS q0 q1 0 0 ha0 ha1 rfl rfl rfl h1 h2 h3 h4 h5 (fun _ _ => rfl) hf hlo hd (fun H2 locs2 hP2 hD2 hS2 => z H2 locs2 ls (by rw [← hws]; exact hP2) (by rw [← hws]; exact hD2) hS2 hl)
theorem sv_new (C : sv_C X l cc nL own rm g) {ix ci N : Nat} {Cn : String} {T : u_T} {fs : List Value} (ty : Nat → FieldType) (hc : classes[ci]? = some (Cn, T, N)) (hin0 : ∀ w ∈ u_ws Cn T N, w ∈ sv_tbl) (hty : ∀ j, j < N → parseFieldDescriptor (T j).2.2.1 = some (ty j)) (h1 : Cond.classLink own ix Cn ∈ sv_tbl) (h2 : Cond.instantiable Cn N ∈ sv_tbl) (h3 : Cond.initialized Cn ∈ sv_tbl) (hfs : ∀ j, j < N → defaultValue (ty j) = vp_V fs j) (hcells : k + 1 ≤ rm.cells) (hslots : n + N ≤ rm.slots) (hd : decode cc pc = .ok (.new ix, 3)) (z : ∀ q : Nat, sv_V X nL (k + 1) (n + N) ((q, .inr (ci, fs)) :: ws) (pc + 3) lv (.ref q :: st)) : sv_V X nL k n ws pc lv st := by
  obtain ⟨⟨p, l0, e, R⟩, ⟨s, m, args, below⟩, ⟨meth, c, Q⟩, g0, A⟩ := X
  obtain ⟨rfl, rfl, rfl, hx, hb, hml, hown, hts, hK, hA, hZ, hin⟩ := C
  intro H locs ls hP hD hS hl
  exact va_new hx hb hts hin0 ty hty hown (hts _ h1) (hts _ h2) (hts _ h3) hK hP hD hS hA hc hfs hcells hslots hd (fun q H1 hP1 hD1 hS1 => z q H1 locs ls (sv_P_perm (List.perm_append_singleton _ _) hP1) (sv_D_perm (List.perm_append_singleton _ _) hD1) hS1 hl)
theorem sv_newI (C : sv_C X l cc nL own rm g) {len : Int32} {N : Nat} (h1 : Cond.arrayClass (newarray.typeOf .int) ∈ sv_tbl) (hn : ¬ len < 0) (hN : len.toNatClampNeg = N) (hby : N * componentBytes .int ≤ 536870912) (hcells : k + 1 ≤ rm.cells) (hslots : n + N ≤ rm.slots) (hd : decode cc pc = .ok (.newarray .int, 2)) (z : ∀ q : Nat, sv_V X nL (k + 1) (n + N) ((q, .inl (g.2.1 0, N, .inl (fun _ => 0))) :: ws) (pc + 2) lv (.ref q :: st)) : sv_V X nL k n ws pc lv (.int len :: st) := by
  obtain ⟨⟨p, l0, e, R⟩, ⟨s, m, args, below⟩, ⟨meth, c, Q⟩, g0, A⟩ := X
  obtain ⟨rfl, rfl, rfl, hx, hb, hml, hown, hts, hK, hA, hZ, hin⟩ := C
  intro H locs ls hP hD hS hl
  refine va_newa (a0 := (N, .inl (fun _ => 0))) hx hb (hts _ h1) rfl hK hP hD hS hA (fun cA => rfl) hn hN hby hcells hslots hd (fun q cA H1 hK1 hP1 hD1 hS1 => ?_)
  have e1 : cA = g.2.1 0 := by
    have a1 := (hK1.2 (sv_tys g).length (cA, .int) (by rw [List.getElem?_append_right (Nat.le_refl _), Nat.sub_self]; rfl)).2
    have a2 := (hK.2 0 (g.2.1 0, .int) rfl).2
    exact Option.some.inj (a1.symm.trans a2)
  subst e1
  exact z q H1 locs ls (sv_P_perm (List.perm_append_singleton _ _) hP1) (sv_D_perm (List.perm_append_singleton _ _) hD1) hS1 hl
theorem sv_newB (C : sv_C X l cc nL own rm g) {len : Int32} {N : Nat} (h1 : Cond.arrayClass (newarray.typeOf .byte) ∈ sv_tbl) (hn : ¬ len < 0) (hN : len.toNatClampNeg = N) (hby : N * componentBytes .byte ≤ 536870912) (hcells : k + 1 ≤ rm.cells) (hslots : n + N ≤ rm.slots) (hd : decode cc pc = .ok (.newarray .byte, 2)) (z : ∀ q : Nat, sv_V X nL (k + 1) (n + N) ((q, .inl (g.2.1 1, N, .inl (fun _ => 0))) :: ws) (pc + 2) lv (.ref q :: st)) : sv_V X nL k n ws pc lv (.int len :: st) := by
  obtain ⟨⟨p, l0, e, R⟩, ⟨s, m, args, below⟩, ⟨meth, c, Q⟩, g0, A⟩ := X
  obtain ⟨rfl, rfl, rfl, hx, hb, hml, hown, hts, hK, hA, hZ, hin⟩ := C
  intro H locs ls hP hD hS hl
  refine va_newa (a0 := (N, .inl (fun _ => 0))) hx hb (hts _ h1) rfl hK hP hD hS hA (fun cA => rfl) hn hN hby hcells hslots hd (fun q cA H1 hK1 hP1 hD1 hS1 => ?_)
  have e1 : cA = g.2.1 1 := by
    have a1 := (hK1.2 (sv_tys g).length (cA, .byte) (by rw [List.getElem?_append_right (Nat.le_refl _), Nat.sub_self]; rfl)).2
    have a2 := (hK.2 1 (g.2.1 1, .byte) rfl).2
    exact Option.some.inj (a1.symm.trans a2)
  subst e1
  exact z q H1 locs ls (sv_P_perm (List.perm_append_singleton _ _) hP1) (sv_D_perm (List.perm_append_singleton _ _) hD1) hS1 hl
theorem sv_newZ (C : sv_C X l cc nL own rm g) {len : Int32} {N : Nat} (h1 : Cond.arrayClass (newarray.typeOf .boolean) ∈ sv_tbl) (hn : ¬ len < 0) (hN : len.toNatClampNeg = N) (hby : N * componentBytes .boolean ≤ 536870912) (hcells : k + 1 ≤ rm.cells) (hslots : n + N ≤ rm.slots) (hd : decode cc pc = .ok (.newarray .boolean, 2)) (z : ∀ q : Nat, sv_V X nL (k + 1) (n + N) ((q, .inl (g.2.1 2, N, .inl (fun _ => 0))) :: ws) (pc + 2) lv (.ref q :: st)) : sv_V X nL k n ws pc lv (.int len :: st) := by
  obtain ⟨⟨p, l0, e, R⟩, ⟨s, m, args, below⟩, ⟨meth, c, Q⟩, g0, A⟩ := X
  obtain ⟨rfl, rfl, rfl, hx, hb, hml, hown, hts, hK, hA, hZ, hin⟩ := C
  intro H locs ls hP hD hS hl
  refine va_newa (a0 := (N, .inl (fun _ => 0))) hx hb (hts _ h1) rfl hK hP hD hS hA (fun cA => rfl) hn hN hby hcells hslots hd (fun q cA H1 hK1 hP1 hD1 hS1 => ?_)
  have e1 : cA = g.2.1 2 := by
    have a1 := (hK1.2 (sv_tys g).length (cA, .boolean) (by rw [List.getElem?_append_right (Nat.le_refl _), Nat.sub_self]; rfl)).2
    have a2 := (hK.2 2 (g.2.1 2, .boolean) rfl).2
    exact Option.some.inj (a1.symm.trans a2)
  subst e1
  exact z q H1 locs ls (sv_P_perm (List.perm_append_singleton _ _) hP1) (sv_D_perm (List.perm_append_singleton _ _) hD1) hS1 hl
theorem sv_newL (C : sv_C X l cc nL own rm g) {len : Int32} {N : Nat} (h1 : Cond.arrayClass (newarray.typeOf .long) ∈ sv_tbl) (hn : ¬ len < 0) (hN : len.toNatClampNeg = N) (hby : N * componentBytes .long ≤ 536870912) (hcells : k + 1 ≤ rm.cells) (hslots : n + N ≤ rm.slots) (hd : decode cc pc = .ok (.newarray .long, 2)) (z : ∀ q : Nat, sv_V X nL (k + 1) (n + N) ((q, .inl (g.2.1 3, N, .inr (.inl (fun _ => 0)))) :: ws) (pc + 2) lv (.ref q :: st)) : sv_V X nL k n ws pc lv (.int len :: st) := by
  obtain ⟨⟨p, l0, e, R⟩, ⟨s, m, args, below⟩, ⟨meth, c, Q⟩, g0, A⟩ := X
  obtain ⟨rfl, rfl, rfl, hx, hb, hml, hown, hts, hK, hA, hZ, hin⟩ := C
  intro H locs ls hP hD hS hl
  refine va_newa (a0 := (N, .inr (.inl (fun _ => 0)))) hx hb (hts _ h1) rfl hK hP hD hS hA (fun cA => rfl) hn hN hby hcells hslots hd (fun q cA H1 hK1 hP1 hD1 hS1 => ?_)
  have e1 : cA = g.2.1 3 := by
    have a1 := (hK1.2 (sv_tys g).length (cA, .long) (by rw [List.getElem?_append_right (Nat.le_refl _), Nat.sub_self]; rfl)).2
    have a2 := (hK.2 3 (g.2.1 3, .long) rfl).2
    exact Option.some.inj (a1.symm.trans a2)
  subst e1
  exact z q H1 locs ls (sv_P_perm (List.perm_append_singleton _ _) hP1) (sv_D_perm (List.perm_append_singleton _ _) hD1) hS1 hl
theorem sv_newE (C : sv_C X l cc nL own rm g) {ix : Nat} {len : Int32} {N : Nat} (h1 : Cond.classLink own ix "WordChain$Ending" ∈ sv_tbl) (hn : ¬ len < 0) (hN : len.toNatClampNeg = N) (hby : N * 4 ≤ 536870912) (hcells : k + 1 ≤ rm.cells) (hslots : n + N ≤ rm.slots) (hd : decode cc pc = .ok (.anewarray ix, 3)) (z : ∀ q : Nat, sv_V X nL (k + 1) (n + N) ((q, .inl (g.2.1 4, N, .inr (.inr (.inr (.inr (fun _ => none)))))) :: ws) (pc + 3) lv (.ref q :: st)) : sv_V X nL k n ws pc lv (.int len :: st) := by
  obtain ⟨⟨p, l0, e, R⟩, ⟨s, m, args, below⟩, ⟨meth, c, Q⟩, g0, A⟩ := X
  obtain ⟨rfl, rfl, rfl, hx, hb, hml, hown, hts, hK, hA, hZ, hin⟩ := C
  intro H locs ls hP hD hS hl
  refine va_newq hx hb hown (hts _ h1) hZ.2.2.2.1 hK hP hD hS hA hn hN hby hcells hslots hd (fun q cA H1 hK1 hP1 hD1 hS1 => ?_)
  have e1 : cA = g.2.1 4 := by
    obtain ⟨kA, comp, a1, a2, a3, a4⟩ := (hK1.2 (sv_tys g).length (cA, .object "WordChain$Ending") (by rw [List.getElem?_append_right (Nat.le_refl _), Nat.sub_self]; rfl)).2
    obtain ⟨kB, comp2, b1, b2, b3, b4⟩ := (hK.2 4 (g.2.1 4, .object "WordChain$Ending") rfl).2
    exact Option.some.inj (a4.symm.trans b4)
  subst e1
  exact z q H1 locs ls (sv_P_perm (List.perm_append_singleton _ _) hP1) (sv_D_perm (List.perm_append_singleton _ _) hD1) hS1 hl
theorem sv_newS (C : sv_C X l cc nL own rm g) {ix : Nat} {len : Int32} {N : Nat} (h1 : Cond.classLink own ix "java/lang/String" ∈ sv_tbl) (hn : ¬ len < 0) (hN : len.toNatClampNeg = N) (hby : N * 4 ≤ 536870912) (hcells : k + 1 ≤ rm.cells) (hslots : n + N ≤ rm.slots) (hd : decode cc pc = .ok (.anewarray ix, 3)) (z : ∀ q : Nat, sv_V X nL (k + 1) (n + N) ((q, .inl (g.2.1 5, N, .inr (.inr (.inr (.inr (fun _ => none)))))) :: ws) (pc + 3) lv (.ref q :: st)) : sv_V X nL k n ws pc lv (.int len :: st) := by
  obtain ⟨⟨p, l0, e, R⟩, ⟨s, m, args, below⟩, ⟨meth, c, Q⟩, g0, A⟩ := X
  obtain ⟨rfl, rfl, rfl, hx, hb, hml, hown, hts, hK, hA, hZ, hin⟩ := C
  intro H locs ls hP hD hS hl
  refine va_newq hx hb hown (hts _ h1) hZ.2.2.2.2.1 hK hP hD hS hA hn hN hby hcells hslots hd (fun q cA H1 hK1 hP1 hD1 hS1 => ?_)
  have e1 : cA = g.2.1 5 := by
    obtain ⟨kA, comp, a1, a2, a3, a4⟩ := (hK1.2 (sv_tys g).length (cA, .object "java/lang/String") (by rw [List.getElem?_append_right (Nat.le_refl _), Nat.sub_self]; rfl)).2
    obtain ⟨kB, comp2, b1, b2, b3, b4⟩ := (hK.2 5 (g.2.1 5, .object "java/lang/String") rfl).2
    exact Option.some.inj (a4.symm.trans b4)
  subst e1
  exact z q H1 locs ls (sv_P_perm (List.perm_append_singleton _ _) hP1) (sv_D_perm (List.perm_append_singleton _ _) hD1) hS1 hl
theorem sv_astE (C : sv_C X l cc nL own rm g) {a b N ci : Nat} {f : Nat → Option Nat} {fs : List Value} {T : u_T} {M : Nat} {i : Int32} (q0 qk : Nat) (ha : ws[q0]? = some (a, .inl (g.2.1 4, N, .inr (.inr (.inr (.inr f)))))) (hv : ws[qk]? = some (b, .inr (ci, fs))) (hc : classes[ci]? = some ("WordChain$Ending", T, M)) (hin0 : vp_in i N) (ws' : va_W) (hws : ws.set q0 (a, .inl (g.2.1 4, N, .inr (.inr (.inr (.inr (va_up f i.toNatClampNeg (some b))))))) = ws') (hd : decode cc pc = .ok (.aastore, 1)) (z : sv_V X nL k n ws' (pc + 1) lv st) : sv_V X nL k n ws pc lv (.ref b :: .int i :: .ref a :: st) := by
  obtain ⟨⟨p, l0, e, R⟩, ⟨s, m, args, below⟩, ⟨meth, c, Q⟩, g0, A⟩ := X
  obtain ⟨rfl, rfl, rfl, hx, hb, hml, hown, hts, hK, hA, hZ, hin⟩ := C
  intro H locs ls hP hD hS hl
  exact va_astq hx hb hK hP hD hS q0 4 qk ci (r := ("WordChain$Ending", T, M)) ha rfl hv hc hin0 hd (fun H2 locs2 hP2 hD2 hS2 => z H2 locs2 ls (by rw [← hws]; exact hP2) (by rw [← hws]; exact hD2) hS2 hl)
theorem sv_ldcS (C : sv_C X l cc nL own rm g) {ix i : Nat} {tx : String} (h1 : (own, ix, tx, i) ∈ sv_lits) (hd : decode cc pc = .ok (.ldc ix, 2)) (z : sv_V X nL k n ws (pc + 2) lv (.ref (g.2.2.1 i) :: st)) : sv_V X nL k n ws pc lv st := by
  obtain ⟨⟨p, l0, e, R⟩, ⟨s, m, args, below⟩, ⟨meth, c, Q⟩, g0, A⟩ := X
  obtain ⟨rfl, rfl, rfl, hx, hb, hml, hown, hts, hK, hA, hZ, hin⟩ := C
  intro H locs ls hP hD hS hl
  exact va_ldcS hx hb hown (hZ.2.1 _ h1) hd (z H locs ls hP hD hS hl)
end SVP
