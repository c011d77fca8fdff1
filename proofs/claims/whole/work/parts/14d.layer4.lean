/-! CONTRACTS OVER WHOLE WORLDS -/
def sv_Pre (g : sv_G) (ws : va_W) (sz : Nat) (U : State) : Prop := U.heap.size = sz ∧ va_P g.1 classes ws U.heap ∧ va_K g.1 classes (sv_tys g) U ∧ va_D (fun _ => True) ws ∧ sv_Str g (va_A ws sz) U U.heap
def sv_B (g : sv_G) (A : Nat → Prop) (w : va_W) (t : State) : Prop := va_P g.1 classes w t.heap ∧ va_D A w
/-- y answers an int r and leaves the world w, with post r w -/
def sv_Mi (l : Launch) (y : MethodName) (cc : ByteArray) (mL : Nat) (ret : Option FieldType) (rm : Room) (g : sv_G) (av : List Value) (ws : va_W) (post : Int32 → va_W → Prop) : Prop := ∀ sz : Nat, Met l y (.code y cc mL ret :: sv_tbl) rm (va_Pc av (sv_Pre g ws sz)) (va_Qi post (sv_B g (va_A ws sz)) (va_A ws sz)) rm.cells rm.slots (va_A ws sz)
/-- .. nothing -/
def sv_Mv (l : Launch) (y : MethodName) (cc : ByteArray) (mL : Nat) (ret : Option FieldType) (rm : Room) (g : sv_G) (av : List Value) (ws : va_W) (post : va_W → Prop) : Prop := ∀ sz : Nat, Met l y (.code y cc mL ret :: sv_tbl) rm (va_Pc av (sv_Pre g ws sz)) (va_Qv post (sv_B g (va_A ws sz)) (va_A ws sz)) rm.cells rm.slots (va_A ws sz)
/-- .. a reference or null -/
def sv_Mq (l : Launch) (y : MethodName) (cc : ByteArray) (mL : Nat) (ret : Option FieldType) (rm : Room) (g : sv_G) (av : List Value) (ws : va_W) (post : Option Nat → va_W → Prop) : Prop := ∀ sz : Nat, Met l y (.code y cc mL ret :: sv_tbl) rm (va_Pc av (sv_Pre g ws sz)) (va_Qq post (sv_B g (va_A ws sz)) (va_A ws sz)) rm.cells rm.slots (va_A ws sz)
theorem sv_blind {g : sv_G} {av : List Value} {ws : va_W} {sz : Nat} : FrameBlind (va_Pc av (sv_Pre g ws sz)) := by
  intro a U gf mk q
  obtain ⟨q0, q1, qP, qK, qD, qZ⟩ := q
  exact ⟨q0, q1, qP, va_K.moved (u := U) (U := U.calling gf mk a) (Vm.Alike.refl U.vm) qK, qD, sv_Str.same (U := U.calling gf mk a) rfl qZ⟩
def sv_av (mL : Nat) (av : List Value) : List (Option Value) := av.map some ++ List.replicate (mL - av.length) none
theorem sv_sl : ∀ (av : List Value), (∀ v ∈ av, v.category = 1) → lg_sl av = av.map Slot.val
  | [], _ => rfl
  | v :: av, h => by
    have h1 : ¬ v.category = 2 := by rw [h v List.mem_cons_self]; decide
    have h2 := sv_sl av (fun w hw => h w (List.mem_cons_of_mem _ hw))
    unfold lg_sl at h2 ⊢
    rw [List.flatMap_cons, if_neg h1, h2]
    rfl
theorem sv_entry_L {av : List Value} {mL : Nat} (hav : ∀ v ∈ av, v.category = 1) (hlen : av.length ≤ mL) : sv_L ((lg_sl av ++ List.replicate (mL - (lg_sl av).length) Slot.unset).toArray) mL (sv_av mL av) := by
  have h0 := lv_entry av (n := mL) (by rw [sv_sl av hav, List.length_map]; exact hlen)
  refine ⟨h0.1, h0.2.1, fun i v hv => ?_⟩
  have hi : i < av.length := by
    rcases Nat.lt_or_ge i av.length with q | q
    · exact q
    · unfold sv_av at hv
      rw [List.getElem?_append_right (by rw [List.length_map]; exact q)] at hv
      have h3 := List.eq_of_mem_replicate (List.mem_of_getElem? hv)
      cases h3
  unfold sv_av at hv
  rw [List.getElem?_append_left (by rw [List.length_map]; exact hi), List.getElem?_map] at hv
  have hv2 : av[i]? = some v := by
    cases h4 : av[i]? with
    | none => rw [h4] at hv; cases hv
    | some w => rw [h4] at hv; cases hv; rfl
  refine ⟨?_, hav v (List.mem_of_getElem? hv2)⟩
  rw [List.getElem?_toArray, sv_sl av hav, List.getElem?_append_left (by rw [List.length_map]; exact hi), List.getElem?_map, hv2]
  rfl
theorem sv_enter_i {l : Launch} {y : MethodName} {cc : ByteArray} {mL : Nat} {ret : Option FieldType} {rm : Room} {g : sv_G} {av : List Value} {ws : va_W} {post : Int32 → va_W → Prop} (hy : plainName y.cls = true) {ty : FieldType} (hret : ret = some ty) (hav0 : av.all (fun v => v.category == 1) = true) (hlen : av.length ≤ mL)
    (body : ∀ X : sv_X, sv_C X l cc mL y.cls rm g → (y.name = "<init>" → sv_isInit X) → (∀ (w : va_W) (pc : Nat) (lv : List (Option Value)) (v : Int32), decode cc pc = .ok (.ireturn, 1) → narrow ty (.int v) = .int v → post v w → sv_V X mL rm.cells rm.slots w pc lv [.int v]) → sv_V X mL 0 0 ws 0 (sv_av mL av) []) : sv_Mi l y cc mL ret rm g av ws post := by
  have hav : ∀ v ∈ av, v.category = 1 := fun v hv => by simpa using List.all_eq_true.mp hav0 v hv
  intro sz
  refine Met.ofW (cc := cc) (maxL := mL) (ret := ret) hy rfl ?_
  intro p e s m args below meth c s₁ B hml hv
  obtain ⟨rfl, hsz, hP, hK, hD0, hZ⟩ := hv
  have hts0 := atoms_spec (ws := .code y cc mL ret :: sv_tbl) B.pre
  subst hsz
  have hD := hD0.self (sz := s.heap.size)
  rw [lg_entry_eq]
  refine body ((p, l, e, rm), (s, m, av.toArray, below), (meth, c, _), g, va_A ws s.heap.size) ⟨rfl, rfl, rfl, B.exec, B.bytes, hml, findClass_of_methodNamed B.named, fun w hw => hts0 w (List.mem_cons_of_mem _ hw), hK, fun q h => Or.inr h, hZ, Or.inr trivial⟩ (fun h => ((name_of_methodNamed B.named B.method).1).trans h) ?_ s.heap [] _ hP hD va_S.rf (sv_entry_L hav hlen)
  intro w pc lv v hd hn hq H locs ls hP hD hS hl
  exact W.zret B.exec B.bytes (B.returns.trans hret) hn (fun t ht hW => ⟨⟨v, w, rfl, hq, by rw [ht]; exact hP, hD⟩, hS.F ht⟩) hS.2.2 hd B.notSynchronized
theorem sv_enter_v {l : Launch} {y : MethodName} {cc : ByteArray} {mL : Nat} {ret : Option FieldType} {rm : Room} {g : sv_G} {av : List Value} {ws : va_W} {post : va_W → Prop} (hy : plainName y.cls = true) (hret : ret = none) (hav0 : av.all (fun v => v.category == 1) = true) (hlen : av.length ≤ mL)
    (body : ∀ X : sv_X, sv_C X l cc mL y.cls rm g → (y.name = "<init>" → sv_isInit X) → (∀ (w : va_W) (pc : Nat) (lv : List (Option Value)) , decode cc pc = .ok (.return_, 1) → post w → sv_V X mL rm.cells rm.slots w pc lv []) → sv_V X mL 0 0 ws 0 (sv_av mL av) []) : sv_Mv l y cc mL ret rm g av ws post := by
  have hav : ∀ v ∈ av, v.category = 1 := fun v hv => by simpa using List.all_eq_true.mp hav0 v hv
  intro sz
  refine Met.ofW (cc := cc) (maxL := mL) (ret := ret) hy rfl ?_
  intro p e s m args below meth c s₁ B hml hv
  obtain ⟨rfl, hsz, hP, hK, hD0, hZ⟩ := hv
  have hts0 := atoms_spec (ws := .code y cc mL ret :: sv_tbl) B.pre
  subst hsz
  have hD := hD0.self (sz := s.heap.size)
  rw [lg_entry_eq]
  refine body ((p, l, e, rm), (s, m, av.toArray, below), (meth, c, _), g, va_A ws s.heap.size) ⟨rfl, rfl, rfl, B.exec, B.bytes, hml, findClass_of_methodNamed B.named, fun w hw => hts0 w (List.mem_cons_of_mem _ hw), hK, fun q h => Or.inr h, hZ, Or.inr trivial⟩ (fun h => ((name_of_methodNamed B.named B.method).1).trans h) ?_ s.heap [] _ hP hD va_S.rf (sv_entry_L hav hlen)
  intro w pc lv hd hq H locs ls hP hD hS hl
  exact W.vret B.exec B.bytes (B.returns.trans hret) (fun t ht hW => ⟨⟨w, rfl, hq, by rw [ht]; exact hP, hD⟩, hS.F ht⟩) hS.2.2 hd B.notSynchronized
theorem sv_enter_q {l : Launch} {y : MethodName} {cc : ByteArray} {mL : Nat} {ret : Option FieldType} {rm : Room} {g : sv_G} {av : List Value} {ws : va_W} {post : Option Nat → va_W → Prop} (hy : plainName y.cls = true) {ty : FieldType} (hret : ret = some ty) (hty : (∃ n, ty = .object n) ∨ ∃ t, ty = .array t) (hav0 : av.all (fun v => v.category == 1) = true) (hlen : av.length ≤ mL)
    (body : ∀ X : sv_X, sv_C X l cc mL y.cls rm g → (y.name = "<init>" → sv_isInit X) → (∀ (w : va_W) (pc : Nat) (lv : List (Option Value)) (v : Option Nat), decode cc pc = .ok (.areturn, 1) → post v w → sv_V X mL rm.cells rm.slots w pc lv [va_rf v]) → sv_V X mL 0 0 ws 0 (sv_av mL av) []) : sv_Mq l y cc mL ret rm g av ws post := by
  have hav : ∀ v ∈ av, v.category = 1 := fun v hv => by simpa using List.all_eq_true.mp hav0 v hv
  intro sz
  refine Met.ofW (cc := cc) (maxL := mL) (ret := ret) hy rfl ?_
  intro p e s m args below meth c s₁ B hml hv
  obtain ⟨rfl, hsz, hP, hK, hD0, hZ⟩ := hv
  have hts0 := atoms_spec (ws := .code y cc mL ret :: sv_tbl) B.pre
  subst hsz
  have hD := hD0.self (sz := s.heap.size)
  rw [lg_entry_eq]
  refine body ((p, l, e, rm), (s, m, av.toArray, below), (meth, c, _), g, va_A ws s.heap.size) ⟨rfl, rfl, rfl, B.exec, B.bytes, hml, findClass_of_methodNamed B.named, fun w hw => hts0 w (List.mem_cons_of_mem _ hw), hK, fun q h => Or.inr h, hZ, Or.inr trivial⟩ (fun h => ((name_of_methodNamed B.named B.method).1).trans h) ?_ s.heap [] _ hP hD va_S.rf (sv_entry_L hav hlen)
  intro w pc lv v hd hq H locs ls hP hD hS hl
  exact W.aret B.exec B.bytes (B.returns.trans hret) hty (va_rf_or v) (fun t ht hW => ⟨⟨v, w, rfl, hq, by rw [ht]; exact hP, hD⟩, hS.F ht⟩) hS.2.2 hd B.notSynchronized
theorem sv_goodIn {w : Cond} (h : w ∈ sv_tbl) : GoodIn sv_tbl (w :: sv_tbl) := by
  intro u hu
  rcases List.mem_cons.mp hu with rfl | hu
  · exact ⟨h, sv_tbl_good _ h⟩
  · exact ⟨hu, sv_tbl_good _ hu⟩
/-- the words of a call: kind 0 virtual, 1 static, 2 constructor -/
def sv_LK (kind : Nat) (own : String) (ix : Nat) (y : MethodName) (cc : ByteArray) (mL : Nat) (ret : Option FieldType) (nA : Nat) : Prop := Cond.methodLink own ix y ∈ sv_tbl ∧ Cond.code y cc mL ret ∈ sv_tbl ∧ Cond.initialized y.cls ∈ sv_tbl ∧ (y.cls ≠ "java/lang/invoke/MethodHandle" ∧ y.cls ≠ "java/lang/invoke/VarHandle" ∧ (parseMethodDescriptor y.desc).map (fun d => d.parameters.length) = some nA) ∧ (match kind with | 0 => Cond.instanceMethod y ∈ sv_tbl ∧ Cond.selects y.cls y y ∈ sv_tbl | 1 => Cond.static y ∈ sv_tbl | _ => y.name = "<init>" ∧ Cond.instanceMethod y ∈ sv_tbl)
/-- .. of a nest mate's private method -/
def sv_LKN (kind : Nat) (own : String) (ix : Nat) (y : MethodName) (host : String) (cc : ByteArray) (mL : Nat) (ret : Option FieldType) (nA : Nat) : Prop := Cond.methodLinkNest own ix y host ∈ sv_tbl ∧ Cond.code y cc mL ret ∈ sv_tbl ∧ Cond.initialized y.cls ∈ sv_tbl ∧ (y.cls ≠ "java/lang/invoke/MethodHandle" ∧ y.cls ≠ "java/lang/invoke/VarHandle" ∧ (parseMethodDescriptor y.desc).map (fun d => d.parameters.length) = some nA) ∧ (match kind with | 0 => Cond.instanceMethod y ∈ sv_tbl ∧ Cond.selects y.cls y y ∈ sv_tbl | 1 => Cond.static y ∈ sv_tbl | _ => y.name = "<init>" ∧ Cond.instanceMethod y ∈ sv_tbl)
section SVC
variable {X : sv_X} {l : Launch} {cc : ByteArray} {nL k n pc : Nat} {own : String} {rm : Room} {g : sv_G} {ws : va_W} {lv : List (Option Value)} {st : List Value}
variable {y : MethodName} {cc2 : ByteArray} {mL : Nat} {ret : Option FieldType} {rm2 : Room}
theorem sv_callVi (C : sv_C X l cc nL own rm g) {b : Nat} {As : List Value} {ix : Nat}  {post : Int32 → va_W → Prop} (M : sv_Mi l y cc2 mL ret rm2 g (.ref b :: As) ws post) (hk : sv_LK 0 own ix y cc2 mL ret As.length) {ci : Nat} {fs : List Value} {T : u_T} {N : Nat} (he : (b, .inr (ci, fs)) ∈ ws) (hc : classes[ci]? = some (y.cls, T, N)) (hd : decode cc pc = .ok (.invokevirtual ix, 3)) (hroom : rm2.frames + 1 ≤ rm.frames ∧ 8 + (mL + 11) + rm2.locals ≤ rm.locals) (hst : (st.map fun v => v.category).sum ≤ 8) (hcs : k + rm2.cells ≤ rm.cells ∧ n + rm2.slots ≤ rm.slots) (z : ∀ (r : Int32) (w : va_W), post r w → sv_V X nL (k + rm2.cells) (n + rm2.slots) w (pc + 3) lv (.int r :: st)) : sv_V X nL k n ws pc lv (As.reverse ++ .ref b :: st) := by
  obtain ⟨⟨p, l0, e, R⟩, ⟨s, m, args, below⟩, ⟨meth, c, Q⟩, g0, A⟩ := X
  obtain ⟨rfl, rfl, rfl, hx, hb, hml, hown, hts, hK, hA, hZ, hin⟩ := C
  intro H locs ls hP hD hS hl
  have hF : ∀ q : Nat, va_A ws H.size q → A q := by
    intro q h
    rcases h with ⟨j, e1, h⟩ | h
    · exact hD.2 j _ h
    · exact hA q (Nat.le_trans hS.1 h)
  obtain ⟨h1, h2, h3, h4, h5⟩ := hk
  obtain ⟨qc, he⟩ := List.getElem?_of_mem he
  have hrecv := va_recv hK hP hc he
  exact va_calli (va_runV (As := As) (rest := st) ⟨hx, hb, hml, hown, hts⟩ (M H.size) ⟨(callB_of As.length hts (sv_goodIn h2) rfl rfl rfl (hts _ h3) (hts _ h1) h4 hroom), hts _ h5.1, hts _ h5.2⟩ ⟨sv_blind, hrecv, fun U hU hW => ⟨rfl, by rw [hU], by rw [hU]; exact hP, va_K.moved hW.alike hK, hD.weaken (fun _ _ _ _ => trivial), sv_Str.call hZ hS hF hU hW⟩⟩ rfl rfl hl.1 rfl (lv_room hst) hd hcs) hS (fun q _ h => hF q h) hF (fun r u t H1 locs1 ht hvm hw hB hz1 hk1 hS1 => z r u hw H1 locs1 ls (by rw [← ht]; exact hB.1) (hB.2.weaken (fun _ q _ h => hF q.1 h)) hS1 hl)
theorem sv_callVv (C : sv_C X l cc nL own rm g) {b : Nat} {As : List Value} {ix : Nat}  {post : va_W → Prop} (M : sv_Mv l y cc2 mL ret rm2 g (.ref b :: As) ws post) (hk : sv_LK 0 own ix y cc2 mL ret As.length) {ci : Nat} {fs : List Value} {T : u_T} {N : Nat} (he : (b, .inr (ci, fs)) ∈ ws) (hc : classes[ci]? = some (y.cls, T, N)) (hd : decode cc pc = .ok (.invokevirtual ix, 3)) (hroom : rm2.frames + 1 ≤ rm.frames ∧ 8 + (mL + 11) + rm2.locals ≤ rm.locals) (hst : (st.map fun v => v.category).sum ≤ 8) (hcs : k + rm2.cells ≤ rm.cells ∧ n + rm2.slots ≤ rm.slots) (z : ∀ w : va_W, post w → sv_V X nL (k + rm2.cells) (n + rm2.slots) w (pc + 3) lv st) : sv_V X nL k n ws pc lv (As.reverse ++ .ref b :: st) := by
  obtain ⟨⟨p, l0, e, R⟩, ⟨s, m, args, below⟩, ⟨meth, c, Q⟩, g0, A⟩ := X
  obtain ⟨rfl, rfl, rfl, hx, hb, hml, hown, hts, hK, hA, hZ, hin⟩ := C
  intro H locs ls hP hD hS hl
  have hF : ∀ q : Nat, va_A ws H.size q → A q := by
    intro q h
    rcases h with ⟨j, e1, h⟩ | h
    · exact hD.2 j _ h
    · exact hA q (Nat.le_trans hS.1 h)
  obtain ⟨h1, h2, h3, h4, h5⟩ := hk
  obtain ⟨qc, he⟩ := List.getElem?_of_mem he
  have hrecv := va_recv hK hP hc he
  exact va_callv (va_runV (As := As) (rest := st) ⟨hx, hb, hml, hown, hts⟩ (M H.size) ⟨(callB_of As.length hts (sv_goodIn h2) rfl rfl rfl (hts _ h3) (hts _ h1) h4 hroom), hts _ h5.1, hts _ h5.2⟩ ⟨sv_blind, hrecv, fun U hU hW => ⟨rfl, by rw [hU], by rw [hU]; exact hP, va_K.moved hW.alike hK, hD.weaken (fun _ _ _ _ => trivial), sv_Str.call hZ hS hF hU hW⟩⟩ rfl rfl hl.1 rfl (lv_room hst) hd hcs) hS (fun q _ h => hF q h) hF (fun u t H1 locs1 ht hvm hw hB hz1 hk1 hS1 => z u hw H1 locs1 ls (by rw [← ht]; exact hB.1) (hB.2.weaken (fun _ q _ h => hF q.1 h)) hS1 hl)
theorem sv_callVq (C : sv_C X l cc nL own rm g) {b : Nat} {As : List Value} {ix : Nat}  {post : Option Nat → va_W → Prop} (M : sv_Mq l y cc2 mL ret rm2 g (.ref b :: As) ws post) (hk : sv_LK 0 own ix y cc2 mL ret As.length) {ci : Nat} {fs : List Value} {T : u_T} {N : Nat} (he : (b, .inr (ci, fs)) ∈ ws) (hc : classes[ci]? = some (y.cls, T, N)) (hd : decode cc pc = .ok (.invokevirtual ix, 3)) (hroom : rm2.frames + 1 ≤ rm.frames ∧ 8 + (mL + 11) + rm2.locals ≤ rm.locals) (hst : (st.map fun v => v.category).sum ≤ 8) (hcs : k + rm2.cells ≤ rm.cells ∧ n + rm2.slots ≤ rm.slots) (z : ∀ (r : Option Nat) (w : va_W), post r w → sv_V X nL (k + rm2.cells) (n + rm2.slots) w (pc + 3) lv (va_rf r :: st)) : sv_V X nL k n ws pc lv (As.reverse ++ .ref b :: st) := by
  obtain ⟨⟨p, l0, e, R⟩, ⟨s, m, args, below⟩, ⟨meth, c, Q⟩, g0, A⟩ := X
  obtain ⟨rfl, rfl, rfl, hx, hb, hml, hown, hts, hK, hA, hZ, hin⟩ := C
  intro H locs ls hP hD hS hl
  have hF : ∀ q : Nat, va_A ws H.size q → A q := by
    intro q h
    rcases h with ⟨j, e1, h⟩ | h
    · exact hD.2 j _ h
    · exact hA q (Nat.le_trans hS.1 h)
  obtain ⟨h1, h2, h3, h4, h5⟩ := hk
  obtain ⟨qc, he⟩ := List.getElem?_of_mem he
  have hrecv := va_recv hK hP hc he
  exact va_callq (va_runV (As := As) (rest := st) ⟨hx, hb, hml, hown, hts⟩ (M H.size) ⟨(callB_of As.length hts (sv_goodIn h2) rfl rfl rfl (hts _ h3) (hts _ h1) h4 hroom), hts _ h5.1, hts _ h5.2⟩ ⟨sv_blind, hrecv, fun U hU hW => ⟨rfl, by rw [hU], by rw [hU]; exact hP, va_K.moved hW.alike hK, hD.weaken (fun _ _ _ _ => trivial), sv_Str.call hZ hS hF hU hW⟩⟩ rfl rfl hl.1 rfl (lv_room hst) hd hcs) hS (fun q _ h => hF q h) hF (fun r u t H1 locs1 ht hvm hw hB hz1 hk1 hS1 => z r u hw H1 locs1 ls (by rw [← ht]; exact hB.1) (hB.2.weaken (fun _ q _ h => hF q.1 h)) hS1 hl)
theorem sv_callSi (C : sv_C X l cc nL own rm g)  {As : List Value} {ix : Nat}  {post : Int32 → va_W → Prop} (M : sv_Mi l y cc2 mL ret rm2 g As ws post) (hk : sv_LK 1 own ix y cc2 mL ret As.length)  (hd : decode cc pc = .ok (.invokestatic ix, 3)) (hroom : rm2.frames + 1 ≤ rm.frames ∧ 8 + (mL + 11) + rm2.locals ≤ rm.locals) (hst : (st.map fun v => v.category).sum ≤ 8) (hcs : k + rm2.cells ≤ rm.cells ∧ n + rm2.slots ≤ rm.slots) (z : ∀ (r : Int32) (w : va_W), post r w → sv_V X nL (k + rm2.cells) (n + rm2.slots) w (pc + 3) lv (.int r :: st)) : sv_V X nL k n ws pc lv (As.reverse ++ st) := by
  obtain ⟨⟨p, l0, e, R⟩, ⟨s, m, args, below⟩, ⟨meth, c, Q⟩, g0, A⟩ := X
  obtain ⟨rfl, rfl, rfl, hx, hb, hml, hown, hts, hK, hA, hZ, hin⟩ := C
  intro H locs ls hP hD hS hl
  have hF : ∀ q : Nat, va_A ws H.size q → A q := by
    intro q h
    rcases h with ⟨j, e1, h⟩ | h
    · exact hD.2 j _ h
    · exact hA q (Nat.le_trans hS.1 h)
  obtain ⟨h1, h2, h3, h4, h5⟩ := hk
  exact va_calli (va_runS (As := As) (rest := st) ⟨hx, hb, hml, hown, hts⟩ (M H.size) ⟨(callB_of As.length hts (sv_goodIn h2) rfl rfl rfl (hts _ h3) (hts _ h1) h4 hroom), hts _ h5⟩ ⟨sv_blind, fun U hU hW => ⟨rfl, by rw [hU], by rw [hU]; exact hP, va_K.moved hW.alike hK, hD.weaken (fun _ _ _ _ => trivial), sv_Str.call hZ hS hF hU hW⟩⟩ rfl rfl hl.1 rfl (lv_room hst) hd hcs) hS (fun q _ h => hF q h) hF (fun r u t H1 locs1 ht hvm hw hB hz1 hk1 hS1 => z r u hw H1 locs1 ls (by rw [← ht]; exact hB.1) (hB.2.weaken (fun _ q _ h => hF q.1 h)) hS1 hl)
theorem sv_callSv (C : sv_C X l cc nL own rm g)  {As : List Value} {ix : Nat}  {post : va_W → Prop} (M : sv_Mv l y cc2 mL ret rm2 g As ws post) (hk : sv_LK 1 own ix y cc2 mL ret As.length)  (hd : decode cc pc = .ok (.invokestatic ix, 3)) (hroom : rm2.frames + 1 ≤ rm.frames ∧ 8 + (mL + 11) + rm2.locals ≤ rm.locals) (hst : (st.map fun v => v.category).sum ≤ 8) (hcs : k + rm2.cells ≤ rm.cells ∧ n + rm2.slots ≤ rm.slots) (z : ∀ w : va_W, post w → sv_V X nL (k + rm2.cells) (n + rm2.slots) w (pc + 3) lv st) : sv_V X nL k n ws pc lv (As.reverse ++ st) := by
  obtain ⟨⟨p, l0, e, R⟩, ⟨s, m, args, below⟩, ⟨meth, c, Q⟩, g0, A⟩ := X
  obtain ⟨rfl, rfl, rfl, hx, hb, hml, hown, hts, hK, hA, hZ, hin⟩ := C
  intro H locs ls hP hD hS hl
  have hF : ∀ q : Nat, va_A ws H.size q → A q := by
    intro q h
    rcases h with ⟨j, e1, h⟩ | h
    · exact hD.2 j _ h
    · exact hA q (Nat.le_trans hS.1 h)
  obtain ⟨h1, h2, h3, h4, h5⟩ := hk
  exact va_callv (va_runS (As := As) (rest := st) ⟨hx, hb, hml, hown, hts⟩ (M H.size) ⟨(callB_of As.length hts (sv_goodIn h2) rfl rfl rfl (hts _ h3) (hts _ h1) h4 hroom), hts _ h5⟩ ⟨sv_blind, fun U hU hW => ⟨rfl, by rw [hU], by rw [hU]; exact hP, va_K.moved hW.alike hK, hD.weaken (fun _ _ _ _ => trivial), sv_Str.call hZ hS hF hU hW⟩⟩ rfl rfl hl.1 rfl (lv_room hst) hd hcs) hS (fun q _ h => hF q h) hF (fun u t H1 locs1 ht hvm hw hB hz1 hk1 hS1 => z u hw H1 locs1 ls (by rw [← ht]; exact hB.1) (hB.2.weaken (fun _ q _ h => hF q.1 h)) hS1 hl)
theorem sv_callSq (C : sv_C X l cc nL own rm g)  {As : List Value} {ix : Nat}  {post : Option Nat → va_W → Prop} (M : sv_Mq l y cc2 mL ret rm2 g As ws post) (hk : sv_LK 1 own ix y cc2 mL ret As.length)  (hd : decode cc pc = .ok (.invokestatic ix, 3)) (hroom : rm2.frames + 1 ≤ rm.frames ∧ 8 + (mL + 11) + rm2.locals ≤ rm.locals) (hst : (st.map fun v => v.category).sum ≤ 8) (hcs : k + rm2.cells ≤ rm.cells ∧ n + rm2.slots ≤ rm.slots) (z : ∀ (r : Option Nat) (w : va_W), post r w → sv_V X nL (k + rm2.cells) (n + rm2.slots) w (pc + 3) lv (va_rf r :: st)) : sv_V X nL k n ws pc lv (As.reverse ++ st) := by
  obtain ⟨⟨p, l0, e, R⟩, ⟨s, m, args, below⟩, ⟨meth, c, Q⟩, g0, A⟩ := X
  obtain ⟨rfl, rfl, rfl, hx, hb, hml, hown, hts, hK, hA, hZ, hin⟩ := C
  intro H locs ls hP hD hS hl
  have hF : ∀ q : Nat, va_A ws H.size q → A q := by
    intro q h
    rcases h with ⟨j, e1, h⟩ | h
    · exact hD.2 j _ h
    · exact hA q (Nat.le_trans hS.1 h)
  obtain ⟨h1, h2, h3, h4, h5⟩ := hk
  exact va_callq (va_runS (As := As) (rest := st) ⟨hx, hb, hml, hown, hts⟩ (M H.size) ⟨(callB_of As.length hts (sv_goodIn h2) rfl rfl rfl (hts _ h3) (hts _ h1) h4 hroom), hts _ h5⟩ ⟨sv_blind, fun U hU hW => ⟨rfl, by rw [hU], by rw [hU]; exact hP, va_K.moved hW.alike hK, hD.weaken (fun _ _ _ _ => trivial), sv_Str.call hZ hS hF hU hW⟩⟩ rfl rfl hl.1 rfl (lv_room hst) hd hcs) hS (fun q _ h => hF q h) hF (fun r u t H1 locs1 ht hvm hw hB hz1 hk1 hS1 => z r u hw H1 locs1 ls (by rw [← ht]; exact hB.1) (hB.2.weaken (fun _ q _ h => hF q.1 h)) hS1 hl)
theorem sv_callIv (C : sv_C X l cc nL own rm g) {b : Nat} {As : List Value} {ix : Nat}  {post : va_W → Prop} (M : sv_Mv l y cc2 mL none rm2 g (.ref b :: As) ws post) (hk : sv_LK 2 own ix y cc2 mL none As.length)  (hd : decode cc pc = .ok (.invokespecial ix, 3)) (hroom : rm2.frames + 1 ≤ rm.frames ∧ 8 + (mL + 11) + rm2.locals ≤ rm.locals) (hst : (st.map fun v => v.category).sum ≤ 8) (hcs : k + rm2.cells ≤ rm.cells ∧ n + rm2.slots ≤ rm.slots) (z : ∀ w : va_W, post w → sv_V X nL (k + rm2.cells) (n + rm2.slots) w (pc + 3) lv st) : sv_V X nL k n ws pc lv (As.reverse ++ .ref b :: st) := by
  obtain ⟨⟨p, l0, e, R⟩, ⟨s, m, args, below⟩, ⟨meth, c, Q⟩, g0, A⟩ := X
  obtain ⟨rfl, rfl, rfl, hx, hb, hml, hown, hts, hK, hA, hZ, hin⟩ := C
  intro H locs ls hP hD hS hl
  have hF : ∀ q : Nat, va_A ws H.size q → A q := by
    intro q h
    rcases h with ⟨j, e1, h⟩ | h
    · exact hD.2 j _ h
    · exact hA q (Nat.le_trans hS.1 h)
  obtain ⟨h1, h2, h3, h4, h5⟩ := hk
  exact va_callv (va_runI (As := As) (rest := st) ⟨hx, hb, hml, hown, hts⟩ (M H.size) ⟨(callB_of As.length hts (sv_goodIn h2) rfl rfl rfl (hts _ h3) (hts _ h1) h4 hroom), h5.1, hts _ h5.2⟩ ⟨sv_blind, fun U hU hW => ⟨rfl, by rw [hU], by rw [hU]; exact hP, va_K.moved hW.alike hK, hD.weaken (fun _ _ _ _ => trivial), sv_Str.call hZ hS hF hU hW⟩⟩ rfl rfl hl.1 rfl (lv_room hst) hd hcs) hS (fun q _ h => hF q h) hF (fun u t H1 locs1 ht hvm hw hB hz1 hk1 hS1 => z u hw H1 locs1 ls (by rw [← ht]; exact hB.1) (hB.2.weaken (fun _ q _ h => hF q.1 h)) hS1 hl)
end SVC
