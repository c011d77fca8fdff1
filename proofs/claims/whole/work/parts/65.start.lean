/-! THE START -/
theorem lw_known {s : State} {args : Array Value} (hts : ∀ w ∈ sv_tbl, w.before args s = true) : ∃ G : va_G, ∀ (c : Nat) (q : vw_C), classes[c]? = some q → u_Kn s q.1 q.2.1 q.2.2 (G.1 c) (G.2 c) := by
  obtain ⟨c0, s0, h0⟩ := u_known (N := 2) hts i_En (hts _ wn_En)
  obtain ⟨c1, s1, h1⟩ := u_known (N := 1) hts i_Si (hts _ wn_Si)
  obtain ⟨c2, s2, h2⟩ := u_known (N := 7) hts i_Sm (hts _ wn_Sm)
  obtain ⟨c3, s3, h3⟩ := u_known (N := 2) hts i_Te (hts _ wn_Te)
  obtain ⟨c4, s4, h4⟩ := u_known (N := 4) hts i_To (hts _ wn_To)
  obtain ⟨c5, s5, h5⟩ := u_known (N := 2) hts i_Wo (hts _ wn_Wo)
  obtain ⟨c6, s6, h6⟩ := u_known (N := 7) hts i_X (hts _ wn_X)
  obtain ⟨c7, s7, h7⟩ := u_known (N := 16) hts i_M (hts _ wn_M)
  refine ⟨(fun k => [c0, c1, c2, c3, c4, c5, c6, c7].getD k 0, fun k => [s0, s1, s2, s3, s4, s5, s6, s7].getD k (fun _ => 0)), fun c q hq => ?_⟩
  have hc : c < 8 := (List.getElem?_eq_some_iff.mp hq).1
  rcases (by omega : c = 0 ∨ c = 1 ∨ c = 2 ∨ c = 3 ∨ c = 4 ∨ c = 5 ∨ c = 6 ∨ c = 7) with rfl | rfl | rfl | rfl | rfl | rfl | rfl | rfl
  · obtain rfl : (R_En, F_En, 2) = q := Option.some.inj hq
    exact h0
  · obtain rfl : (R_Si, F_Si, 1) = q := Option.some.inj hq
    exact h1
  · obtain rfl : (R_Sm, F_Sm, 7) = q := Option.some.inj hq
    exact h2
  · obtain rfl : (R_Te, F_Te, 2) = q := Option.some.inj hq
    exact h3
  · obtain rfl : (R_To, F_To, 4) = q := Option.some.inj hq
    exact h4
  · obtain rfl : (R_Wo, F_Wo, 2) = q := Option.some.inj hq
    exact h5
  · obtain rfl : (R_X, F_X, 7) = q := Option.some.inj hq
    exact h6
  · obtain rfl : (R_M, F_M, 16) = q := Option.some.inj hq
    exact h7
theorem lw_arrp {s : State} {args : Array Value} {ty : FieldType} (h : (Cond.arrayClass ty).before args s = true) : ∃ cA : ClassId, ArrOfT s cA ty ∧ s.vm.findClass ("[" ++ ty.toString) = some cA := by
  obtain ⟨c, k, comp, h1, h2, h3⟩ := Cond.arrayClass_spec h
  exact ⟨c, fun n z => ⟨fun k h => (by cases h), k, h2, comp, h3⟩, h1⟩
theorem lw_arro {s : State} {args : Array Value} {n : String} (h : (Cond.arrayOver (.object n)).before args s = true) : ∃ cA : ClassId, ArrOfT s cA (.object n) ∧ va_RA s cA (.object n) := by
  obtain ⟨comp, c, k, h1, -, h3, h4, h5⟩ := Cond.arrayOver_spec h
  exact ⟨c, fun N z => ⟨fun k h => (by cases h), k, h3, comp, h4⟩, k, comp, h3, h4, h1, h5⟩
theorem lw_VK {s : State} {args : Array Value} (hts : ∀ w ∈ sv_tbl, w.before args s = true) (hE : (Cond.arrayOver (.object "WordChain$Ending")).before args s = true) (hS : (Cond.arrayOver (.object "java/lang/String")).before args s = true) (aK aV : Nat → Nat) : ∃ g : sv_G, g.2.2.1 = aK ∧ g.2.2.2 = aV ∧ va_K g.1 classes (sv_tys g) s := by
  obtain ⟨G, hG⟩ := lw_known hts
  obtain ⟨c0, a0, b0⟩ := lw_arrp (hts _ wr_int)
  obtain ⟨c1, a1, b1⟩ := lw_arrp (hts _ wr_byte)
  obtain ⟨c2, a2, b2⟩ := lw_arrp (hts _ wr_boolean)
  obtain ⟨c3, a3, b3⟩ := lw_arrp (hts _ wr_long)
  obtain ⟨c4, a4, b4⟩ := lw_arro hE
  obtain ⟨c5, a5, b5⟩ := lw_arro hS
  refine ⟨(G, fun k => [c0, c1, c2, c3, c4, c5].getD k 0, aK, aV), rfl, rfl, hG, fun k q hq => ?_⟩
  have hk : k < 6 := (List.getElem?_eq_some_iff.mp hq).1
  rcases (by omega : k = 0 ∨ k = 1 ∨ k = 2 ∨ k = 3 ∨ k = 4 ∨ k = 5) with rfl | rfl | rfl | rfl | rfl | rfl
  · obtain rfl : (c0, FieldType.int) = q := Option.some.inj hq
    exact ⟨a0, b0⟩
  · obtain rfl : (c1, FieldType.byte) = q := Option.some.inj hq
    exact ⟨a1, b1⟩
  · obtain rfl : (c2, FieldType.boolean) = q := Option.some.inj hq
    exact ⟨a2, b2⟩
  · obtain rfl : (c3, FieldType.long) = q := Option.some.inj hq
    exact ⟨a3, b3⟩
  · obtain rfl : (c4, FieldType.object "WordChain$Ending") = q := Option.some.inj hq
    exact ⟨a4, b4⟩
  · obtain rfl : (c5, FieldType.object "java/lang/String") = q := Option.some.inj hq
    exact ⟨a5, b5⟩
/-! THE START: what the premises give -/
def lw_tm (i : Nat) : Term := .string (sv_lits.getD i ("", 0, "", 0)).1 (sv_lits.getD i ("", 0, "", 0)).2.1
def lw_fv (i : Nat) : Term := .field (lw_tm i) "java/lang/String" "value" "[B"
def lw_exp (i : Nat) : List Cond := [.exactly (lw_tm i) "java/lang/String", .eq (.field (lw_tm i) "java/lang/String" "coder" "B") (.int 0), .arrayOf (lw_fv i) .byte, .eq (.length (lw_fv i)) (.int (Int32.ofNat (sv_txt i).length))] ++ (List.range (sv_txt i).length).map (fun j => Cond.eq (.elem (lw_fv i) (.int (Int32.ofNat j))) (.int ((sv_txt i).getD j 0)))
set_option maxRecDepth 1000000 in
set_option maxHeartbeats 0 in
theorem lw_sub : ((List.range sv_nS).flatMap lw_exp).isSublist (flatC (Jvm.Cond.and given_1 narrow_1)) = true := by decide +kernel
set_option maxRecDepth 1000000 in
theorem lw_refs : (sv_lits.map (fun q => Cond.stringRef q.1 q.2.1 q.2.2.1)).isSublist lw_tbl = true := by decide +kernel
theorem lw_nums : sv_lits.map (fun q => q.2.2.2) = List.range sv_nS := by decide +kernel
theorem lw_lens : ∀ i, i < sv_nS → (sv_txt i).length < 2 ^ 31 := by decide +kernel
theorem lw_isRef {v : Value} (h : v.isRef = true) : ∃ o : Option Nat, v = va_rf o := by
  cases v with
  | null => exact ⟨none, rfl⟩
  | ref a => exact ⟨some a, rfl⟩
  | _ => cases h
theorem lw_lit {q : String × Nat × String × Nat} (h : q ∈ sv_lits) : q.2.2.2 < sv_nS ∧ sv_lits[q.2.2.2]? = some q := by
  obtain ⟨i, hi⟩ := List.getElem?_of_mem h
  have h1 : (sv_lits.map (fun q => q.2.2.2))[i]? = some q.2.2.2 := by rw [List.getElem?_map, hi]; rfl
  rw [lw_nums] at h1
  obtain ⟨h2, h3⟩ := List.getElem?_eq_some_iff.mp h1
  rw [List.getElem_range] at h3
  rw [List.length_range] at h2
  rw [← h3]
  exact ⟨h2, hi⟩
theorem lw_strs {args : Array Value} {s : State} {A : Nat → Prop} (hF : ∀ c ∈ flatC (Jvm.Cond.and given_1 narrow_1), c.before args s = true) (hA : ∀ a : Nat, a < s.heap.size → ¬ A a) : ∃ aK aV : Nat → Nat, ∀ i, i < sv_nS → (lw_tm i).eval args s none [] s = some (.ref (aK i)) ∧ sv_S1 (sv_txt i) (aK i) (aV i) A s s.heap := by
  have hsub := (List.isSublist_iff_sublist.mp lw_sub).subset
  have hall : ∀ i, i < sv_nS → ∀ c ∈ lw_exp i, c.before args s = true := fun i hi c hc => hF c (hsub (List.mem_flatMap.mpr ⟨i, List.mem_range.mpr hi, hc⟩))
  have h0 : ∀ i : Nat, ∃ q : Nat × Nat, i < sv_nS → (lw_tm i).eval args s none [] s = some (.ref q.1) ∧ sv_S1 (sv_txt i) q.1 q.2 A s s.heap := by
    intro i
    by_cases hi : i < sv_nS
    · have h := hall i hi
      have x1 : (Cond.exactly (lw_tm i) "java/lang/String").before args s = true := h _ (List.mem_append_left _ List.mem_cons_self)
      have x2 : (Cond.eq (.field (lw_tm i) "java/lang/String" "coder" "B") (.int 0)).before args s = true := h _ (List.mem_append_left _ (List.mem_cons_of_mem _ List.mem_cons_self))
      have x3 : (Cond.arrayOf (lw_fv i) .byte).before args s = true := h _ (List.mem_append_left _ (List.mem_cons_of_mem _ (List.mem_cons_of_mem _ List.mem_cons_self)))
      have x4 : (Cond.eq (.length (lw_fv i)) (.int (Int32.ofNat (sv_txt i).length))).before args s = true := h _ (List.mem_append_left _ (List.mem_cons_of_mem _ (List.mem_cons_of_mem _ (List.mem_cons_of_mem _ List.mem_cons_self))))
      have x5 : ∀ j, j < (sv_txt i).length → (Cond.eq (.elem (lw_fv i) (.int (Int32.ofNat j))) (.int ((sv_txt i).getD j 0))).before args s = true := fun j hj => h _ (List.mem_append_right _ (List.mem_map.mpr ⟨j, List.mem_range.mpr hj, rfl⟩))
      obtain ⟨a, c, cA, kA, q1, q2, q3, q4, q5, q6, -⟩ := Cond.exactly_spec (args := args) (first := s) (o := none) (s := s) (idx := []) (t := lw_tm i) (cls := "java/lang/String") x1
      obtain ⟨t, ht, hT⟩ := va_Tof (f := fun j => .int ((sv_txt i).getD j 0)) (A := A) (lw_lens i hi) x3 (va_eqt x4) (fun j hj => va_eqt (x5 j hj)) hA
      exact ⟨(a, t), fun _ => ⟨q1, ⟨cA, q3, q5, by rw [q6]; exact q2, hA a (Array.getElem?_eq_some_iff.mp q3).1⟩, vk_OFof q1 (va_eqt x2) hA, vk_OFof q1 ht hA, hT⟩⟩
    · exact ⟨(0, 0), fun h => absurd h hi⟩
  obtain ⟨ad, had⟩ := Classical.axiomOfChoice h0
  exact ⟨fun i => (ad i).1, fun i => (ad i).2, fun i hi => had i hi⟩
theorem lw_zr {args : Array Value} {s : State} {C n d : String} {A : Nat → Prop} (hl : (Cond.laysStatic C n d).before args s = true) (hini : (Cond.initialized C).before args s = true) (hr : (Cond.isRef (.static C n d)).before args s = true) (hA : ∀ a : Nat, a < s.heap.size → ¬ A a) : ∃ v : Option Nat, va_Z C n d (va_rf v) A s s.heap := by
  obtain ⟨v, h1, h2⟩ := Cond.isRef_spec hr
  obtain ⟨o, rfl⟩ := lw_isRef h2
  exact ⟨o, va_Zof hl hini h1 hA⟩
theorem lw_LS {args : Array Value} {s : State} {n d : String} {A : Nat → Prop} (h : (Cond.laysStatic "java/lang/Throwable" n d).before args s = true) (hA : ∀ a : Nat, a < s.heap.size → ¬ A a) : sv_LS n d A s s.heap := by
  obtain ⟨c, k, i, f, a, cell, h1, h2, h3, h4, h5, h6, h7, h8, h9⟩ := Cond.laysStatic_spec h
  exact ⟨c, k, i, f, a, cell, h1, h2, h3, h4, h5, h6, h7, h8, h9, hA a (Array.getElem?_eq_some_iff.mp h5).1⟩
set_option maxRecDepth 1000000 in
theorem lw_begin {args : Array Value} {s : State} {A : Nat → Prop} (hts : ∀ w ∈ lw_tbl, w.before args s = true) (hF : ∀ c ∈ flatC (Jvm.Cond.and given_1 narrow_1), c.before args s = true) (hA : ∀ a : Nat, a < s.heap.size → ¬ A a) : ∃ g : sv_G, va_K g.1 classes (sv_tys g) s ∧ sv_Str g A s s.heap ∧ sv_Th A s s.heap := by
  have hts2 : ∀ w ∈ sv_tbl, w.before args s = true := fun w hw => hts w (List.mem_filter.mp hw).1
  have hE : (Cond.arrayOver (.object "WordChain$Ending")).before args s = true := hts _ (List.mem_of_getElem? (i := 154) rfl)
  have hS : (Cond.arrayOver (.object "java/lang/String")).before args s = true := hts _ (List.mem_of_getElem? (i := 689) rfl)
  obtain ⟨aK, aV, hstr⟩ := lw_strs hF hA
  obtain ⟨g, rfl, rfl, hK⟩ := lw_VK hts2 hE hS aK aV
  obtain ⟨v1, z1⟩ := lw_zr (A := A) (hts _ (List.mem_of_getElem? (i := 547) rfl)) (hts _ (List.mem_of_getElem? (i := 50) rfl)) (hF (.isRef (.static "java/lang/Throwable" "UNASSIGNED_STACK" "[Ljava/lang/StackTraceElement;")) (by decide +kernel)) hA
  obtain ⟨v2, z2⟩ := lw_zr (A := A) (hts _ (List.mem_of_getElem? (i := 549) rfl)) (hts _ (List.mem_of_getElem? (i := 50) rfl)) (hF (.isRef (.static "java/lang/Throwable" "SUPPRESSED_SENTINEL" "Ljava/util/List;")) (by decide +kernel)) hA
  obtain ⟨v3, z3⟩ := lw_zr (A := A) (hts _ (List.mem_of_getElem? (i := 117) rfl)) (hts _ (List.mem_of_getElem? (i := 43) rfl)) (hF (.isRef (.static "jdk/internal/util/Preconditions" "SIOOBE_FORMATTER" "Ljava/util/function/BiFunction;")) (by decide +kernel)) hA
  have z4 : va_Z "java/lang/String" "COMPACT_STRINGS" "Z" (.int 1) A s s.heap := va_Zof (hts _ (List.mem_of_getElem? (i := 101) rfl)) (hts _ (List.mem_of_getElem? (i := 41) rfl)) (va_eqi (hF (.eq (.static "java/lang/String" "COMPACT_STRINGS" "Z") (.int 1)) (by decide +kernel))) hA
  have hd : sv_Ds s := ⟨sv_dcl (Vm.Alike.refl _) (hts (.declares (Bundle.initS "java/lang/RuntimeException")) (List.mem_of_getElem? (i := 524) rfl)), sv_dcl (Vm.Alike.refl _) (hts (.declares (Bundle.initS "java/lang/Exception")) (List.mem_of_getElem? (i := 526) rfl)), sv_dcl (Vm.Alike.refl _) (hts (.declares (Bundle.initS "java/lang/Throwable")) (List.mem_of_getElem? (i := 528) rfl))⟩
  have l1 := lw_LS (A := A) (hts (.laysStatic "java/lang/Throwable" "UNASSIGNED_STACK" "[Ljava/lang/StackTraceElement;") (List.mem_of_getElem? (i := 547) rfl)) hA
  have l2 := lw_LS (A := A) (hts (.laysStatic "java/lang/Throwable" "SUPPRESSED_SENTINEL" "Ljava/util/List;") (List.mem_of_getElem? (i := 549) rfl)) hA
  have hn : va_Nc "java/util/NoSuchElementException" "java/lang/IllegalArgumentException" s := va_Nc.of (hF (.not (.castable "java/util/NoSuchElementException" "java/lang/IllegalArgumentException")) (by decide +kernel))
  have hrefs := (List.isSublist_iff_sublist.mp lw_refs).subset
  refine ⟨g, hK, ⟨fun i hi => (hstr i hi).2, fun q hq => ?_, z4, va_AO.of hE, va_AO.of hS, v3, z3⟩, v1, v2, z1, z2, hn, hd, l1, l2⟩
  obtain ⟨h1, h2⟩ := lw_lit hq
  have h3 := (hstr _ h1).1
  have h4 : sv_lits.getD q.2.2.2 ("", 0, "", 0) = q := by rw [List.getD_eq_getElem?_getD, h2]; rfl
  unfold lw_tm at h3
  rw [h4] at h3
  exact vk_R.of (A := args) (hts _ (hrefs (List.mem_map.mpr ⟨q, hq, rfl⟩))) h3
