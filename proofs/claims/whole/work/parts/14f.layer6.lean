/-! ROWS OVER STRINGS -/
section SVS
variable {X : sv_X} {l : Launch} {cc : ByteArray} {nL k n pc : Nat} {own : String} {rm : Room} {g : sv_G} {ws : va_W} {lv : List (Option Value)} {st : List Value}
theorem sv_getsC (C : sv_C X l cc nL own rm g) {ix : Nat} (h1 : Cond.fieldLink own ix "java/lang/String" "COMPACT_STRINGS" "Z" ∈ sv_tbl) (hd : decode cc pc = .ok (.getstatic ix, 3)) (z : sv_V X nL k n ws (pc + 3) lv (.int 1 :: st)) : sv_V X nL k n ws pc lv st := by
  obtain ⟨⟨p, l0, e, R⟩, ⟨s, m, args, below⟩, ⟨meth, c, Q⟩, g0, A⟩ := X
  obtain ⟨rfl, rfl, rfl, hx, hb, hml, hown, hts, hK, hA, hZ, hin⟩ := C
  intro H locs ls hP hD hS hl
  exact va_gets hx hb hZ.2.2.1 hS hown (hts _ h1) (fun _ h => h) hd (z H locs ls hP hD hS hl)
theorem sv_getsF (C : sv_C X l cc nL own rm g) {ix : Nat} (h1 : Cond.fieldLink own ix "jdk/internal/util/Preconditions" "SIOOBE_FORMATTER" "Ljava/util/function/BiFunction;" ∈ sv_tbl) (hd : decode cc pc = .ok (.getstatic ix, 3)) (z : ∀ v : Option Nat, sv_V X nL k n ws (pc + 3) lv (va_rf v :: st)) : sv_V X nL k n ws pc lv st := by
  obtain ⟨⟨p, l0, e, R⟩, ⟨s, m, args, below⟩, ⟨meth, c, Q⟩, g0, A⟩ := X
  obtain ⟨rfl, rfl, rfl, hx, hb, hml, hown, hts, hK, hA, hZ, hin⟩ := C
  intro H locs ls hP hD hS hl
  obtain ⟨v, hv⟩ := hZ.2.2.2.2.2
  exact va_gets hx hb hv hS hown (hts _ h1) (fun _ h => h) hd (z v H locs ls hP hD hS hl)
theorem sv_getSc (C : sv_C X l cc nL own rm g) {ix : Nat} (i : Nat) (hi : i < sv_nS) (h1 : Cond.fieldLink own ix "java/lang/String" "coder" "B" ∈ sv_tbl) (hd : decode cc pc = .ok (.getfield ix, 3)) (z : sv_V X nL k n ws (pc + 3) lv (.int 0 :: st)) : sv_V X nL k n ws pc lv (.ref (g.2.2.1 i) :: st) := by
  obtain ⟨⟨p, l0, e, R⟩, ⟨s, m, args, below⟩, ⟨meth, c, Q⟩, g0, A⟩ := X
  obtain ⟨rfl, rfl, rfl, hx, hb, hml, hown, hts, hK, hA, hZ, hin⟩ := C
  intro H locs ls hP hD hS hl
  exact vk_getf hx hb (hZ.1 i hi).2.1 hS hown (hts _ h1) (fun _ h => h) hd (z H locs ls hP hD hS hl)
theorem sv_getSv (C : sv_C X l cc nL own rm g) {ix : Nat} (i : Nat) (hi : i < sv_nS) (h1 : Cond.fieldLink own ix "java/lang/String" "value" "[B" ∈ sv_tbl) (hd : decode cc pc = .ok (.getfield ix, 3)) (z : sv_V X nL k n ws (pc + 3) lv (.ref (g.2.2.2 i) :: st)) : sv_V X nL k n ws pc lv (.ref (g.2.2.1 i) :: st) := by
  obtain ⟨⟨p, l0, e, R⟩, ⟨s, m, args, below⟩, ⟨meth, c, Q⟩, g0, A⟩ := X
  obtain ⟨rfl, rfl, rfl, hx, hb, hml, hown, hts, hK, hA, hZ, hin⟩ := C
  intro H locs ls hP hD hS hl
  exact vk_getf hx hb (hZ.1 i hi).2.2.1 hS hown (hts _ h1) (fun _ h => h) hd (z H locs ls hP hD hS hl)
theorem sv_lenS (C : sv_C X l cc nL own rm g) (i : Nat) (hi : i < sv_nS) (hd : decode cc pc = .ok (.arraylength, 1)) (z : sv_V X nL k n ws (pc + 1) lv (.int (nI (sv_txt i).length) :: st)) : sv_V X nL k n ws pc lv (.ref (g.2.2.2 i) :: st) := by
  obtain ⟨⟨p, l0, e, R⟩, ⟨s, m, args, below⟩, ⟨meth, c, Q⟩, g0, A⟩ := X
  obtain ⟨rfl, rfl, rfl, hx, hb, hml, hown, hts, hK, hA, hZ, hin⟩ := C
  intro H locs ls hP hD hS hl
  exact va_tlen hx hb (hZ.1 i hi).2.2.2 hS rfl hd (z H locs ls hP hD hS hl)
theorem sv_baldS (C : sv_C X l cc nL own rm g) (i j : Nat) (hi : i < sv_nS) (hj : j < (sv_txt i).length) (hj2 : j < 2 ^ 30) (hd : decode cc pc = .ok (.baload, 1)) (z : sv_V X nL k n ws (pc + 1) lv (.int ((sv_txt i).getD j 0) :: st)) : sv_V X nL k n ws pc lv (.int (nI j) :: .ref (g.2.2.2 i) :: st) := by
  obtain ⟨⟨p, l0, e, R⟩, ⟨s, m, args, below⟩, ⟨meth, c, Q⟩, g0, A⟩ := X
  obtain ⟨rfl, rfl, rfl, hx, hb, hml, hown, hts, hK, hA, hZ, hin⟩ := C
  intro H locs ls hP hD hS hl
  refine va_tb hx hb (hZ.1 i hi).2.2.2 hS (v := .int ((sv_txt i).getD j 0)) ?_ (by rw [nI_clamp (by omega)]) hd (z H locs ls hP hD hS hl)
  intro h9
  rcases h9 with h9 | h9
  · exact nI_pos (by omega) h9
  · rw [nI_clamp (by omega)] at h9; omega
theorem sv_instS (C : sv_C X l cc nL own rm g) {ix : Nat} (i : Nat) (hi : i < sv_nS) (h1 : Cond.classLink own ix "java/lang/String" ∈ sv_tbl) (hd : decode cc pc = .ok (.instanceof ix, 3)) (z : sv_V X nL k n ws (pc + 3) lv (.int 1 :: st)) : sv_V X nL k n ws pc lv (.ref (g.2.2.1 i) :: st) := by
  obtain ⟨⟨p, l0, e, R⟩, ⟨s, m, args, below⟩, ⟨meth, c, Q⟩, g0, A⟩ := X
  obtain ⟨rfl, rfl, rfl, hx, hb, hml, hown, hts, hK, hA, hZ, hin⟩ := C
  intro H locs ls hP hD hS hl
  exact va_instE hx hb hown (hts _ h1) (va_Orecv (hZ.1 i hi).1 hS) hd (z H locs ls hP hD hS hl)
theorem sv_castS (C : sv_C X l cc nL own rm g) {ix : Nat} (i : Nat) (hi : i < sv_nS) (h1 : Cond.classLink own ix "java/lang/String" ∈ sv_tbl) (hd : decode cc pc = .ok (.checkcast ix, 3)) (z : sv_V X nL k n ws (pc + 3) lv (.ref (g.2.2.1 i) :: st)) : sv_V X nL k n ws pc lv (.ref (g.2.2.1 i) :: st) := by
  obtain ⟨⟨p, l0, e, R⟩, ⟨s, m, args, below⟩, ⟨meth, c, Q⟩, g0, A⟩ := X
  obtain ⟨rfl, rfl, rfl, hx, hb, hml, hown, hts, hK, hA, hZ, hin⟩ := C
  intro H locs ls hP hD hS hl
  exact va_castE hx hb hown (hts _ h1) (va_Orecv (hZ.1 i hi).1 hS) hd (z H locs ls hP hD hS hl)
theorem sv_acmp_ne (C : sv_C X l cc nL own rm g) {a b : Nat} {off : Int} (tgt : Nat) (ht : (pc : Int) + off = (tgt : Int)) (hd : decode cc pc = .ok (.if_acmp .ne off, 3)) (zt : ¬ a = b → sv_V X nL k n ws tgt lv st) (zf : a = b → sv_V X nL k n ws (pc + 3) lv st) : sv_V X nL k n ws pc lv (.ref b :: .ref a :: st) := by
  obtain ⟨⟨p, l0, e, R⟩, ⟨s, m, args, below⟩, ⟨meth, c, Q⟩, g0, A⟩ := X
  obtain ⟨rfl, rfl, rfl, hx, hb, hml, hown, hts, hK, hA, hZ, hin⟩ := C
  intro H locs ls hP hD hS hl
  exact lv_acmp_ne (rx := some a) (ry := some b) hx hb hd ht (fun q => zt (fun h => q (by rw [h])) H locs ls hP hD hS hl) (fun q => zf (Option.some.inj q) H locs ls hP hD hS hl)
/-- the same address, the same text -/
theorem sv_strEq (C : sv_C X l cc nL own rm g) {i j : Nat} (hi : i < sv_nS) (hj : j < sv_nS) (li : (sv_txt i).length < 2 ^ 30) (lj : (sv_txt j).length < 2 ^ 30) (h : g.2.2.1 i = g.2.2.1 j) : sv_txt i = sv_txt j := by
  obtain ⟨⟨p, l0, e, R⟩, ⟨s, m, args, below⟩, ⟨meth, c, Q⟩, g0, A⟩ := X
  obtain ⟨rfl, rfl, rfl, hx, hb, hml, hown, hts, hK, hA, hZ, hin⟩ := C
  obtain ⟨-, -, ⟨cf, kc, fi, f, cell, a1, a2, a3, a4, a5, a6⟩, ⟨t1, b1, b2, b3, b4, b5, b6, b7⟩⟩ := hZ.1 i hi
  obtain ⟨-, -, ⟨cf', kc', fi', f', cell', a1', a2', a3', a4', a5', a6'⟩, ⟨t1', b1', b2', b3', b4', b5', b6', b7'⟩⟩ := hZ.1 j hj
  have e1 := Option.some.inj (a1.symm.trans a1')
  have e2 : f = f' := by simpa using congrArg (fun q => q.2.2.2) e1
  subst e2
  rw [← h] at a3'
  have e3 := Option.some.inj (a3.symm.trans a3')
  subst e3
  have e4 := Option.some.inj (a5.symm.trans a5')
  have e5 : g.2.2.2 i = g.2.2.2 j := by simpa using e4
  rw [← e5] at b1'
  have e6 := Option.some.inj (b1.symm.trans b1')
  subst e6
  have e7 : (sv_txt i).length = (sv_txt j).length := (nI_eq (by omega) (by omega)).mp (b5.symm.trans b5')
  apply List.ext_getElem e7
  intro q h1 h2
  have c1 := (b6 q h1).symm.trans (b6' q h2)
  simpa [List.getD_eq_getElem?_getD, h1, h2] using c1
theorem sv_callVsi (C : sv_C X l cc nL own rm g) {y : MethodName} {cc2 : ByteArray} {mL : Nat} {ret : Option FieldType} {rm2 : Room} {As : List Value} {ix : Nat} {post : Int32 → va_W → Prop} (i : Nat) (hi : i < sv_nS) (M : sv_Mi l y cc2 mL ret rm2 g (.ref (g.2.2.1 i) :: As) ws post) (hk : sv_LK 0 own ix y cc2 mL ret As.length) (hc : y.cls = "java/lang/String") (hd : decode cc pc = .ok (.invokevirtual ix, 3)) (hroom : rm2.frames + 1 ≤ rm.frames ∧ 8 + (mL + 11) + rm2.locals ≤ rm.locals) (hst : (st.map fun v => v.category).sum ≤ 8) (hcs : k + rm2.cells ≤ rm.cells ∧ n + rm2.slots ≤ rm.slots) (z : ∀ (r : Int32) (w : va_W), post r w → sv_V X nL (k + rm2.cells) (n + rm2.slots) w (pc + 3) lv (.int r :: st)) : sv_V X nL k n ws pc lv (As.reverse ++ .ref (g.2.2.1 i) :: st) := by
  obtain ⟨⟨p, l0, e, R⟩, ⟨s, m, args, below⟩, ⟨meth, c, Q⟩, g0, A⟩ := X
  obtain ⟨rfl, rfl, rfl, hx, hb, hml, hown, hts, hK, hA, hZ, hin⟩ := C
  intro H locs ls hP hD hS hl
  have hF : ∀ q : Nat, va_A ws H.size q → A q := by
    intro q h
    rcases h with ⟨j, e1, h⟩ | h
    · exact hD.2 j _ h
    · exact hA q (Nat.le_trans hS.1 h)
  obtain ⟨h1, h2, h3, h4, h5⟩ := hk
  have hrecv := va_Orecv (hZ.1 i hi).1 hS
  rw [← hc] at hrecv
  exact va_calli (va_runV (As := As) (rest := st) ⟨hx, hb, hml, hown, hts⟩ (M H.size) ⟨(callB_of As.length hts (sv_goodIn h2) rfl rfl rfl (hts _ h3) (hts _ h1) h4 hroom), hts _ h5.1, hts _ h5.2⟩ ⟨sv_blind, hrecv, fun U hU hW => ⟨rfl, by rw [hU], by rw [hU]; exact hP, va_K.moved hW.alike hK, hD.weaken (fun _ _ _ _ => trivial), sv_Str.call hZ hS hF hU hW⟩⟩ rfl rfl hl.1 rfl (lv_room hst) hd hcs) hS (fun q _ h => hF q h) hF (fun r u t H1 locs1 ht hvm hw hB hz1 hk1 hS1 => z r u hw H1 locs1 ls (by rw [← ht]; exact hB.1) (hB.2.weaken (fun _ q _ h => hF q.1 h)) hS1 hl)
end SVS
