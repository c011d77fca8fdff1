section SVR
variable {X : sv_X} {l : Launch} {cc : ByteArray} {nL k n pc : Nat} {own : String} {rm : Room} {g : sv_G} {ws : va_W} {lv : List (Option Value)} {st : List Value}
theorem sv_iconst (C : sv_C X l cc nL own rm g) {n0 : Int} {v : Int32} (hv : Int32.ofInt n0 = v) (hd : decode cc pc = .ok (.iconst n0, 1)) (z : sv_V X nL k n ws (pc + 1) lv (.int v :: st)) : sv_V X nL k n ws pc lv st := by
  obtain ⟨⟨p, l0, e, R⟩, ⟨s, m, args, below⟩, ⟨meth, c, Q⟩, g0, A⟩ := X
  obtain ⟨rfl, rfl, rfl, hx, hb, hml, hown, hts, hK, hA, hZ, hin⟩ := C
  intro H locs ls hP hD hS hl
  exact lv_iconst hx hb hd hv (z H locs ls hP hD hS hl)
theorem sv_bipush (C : sv_C X l cc nL own rm g) {n0 : Int} {v : Int32} (hv : (Int8.ofInt n0).toInt32 = v) (hd : decode cc pc = .ok (.bipush n0, 2)) (z : sv_V X nL k n ws (pc + 2) lv (.int v :: st)) : sv_V X nL k n ws pc lv st := by
  obtain ⟨⟨p, l0, e, R⟩, ⟨s, m, args, below⟩, ⟨meth, c, Q⟩, g0, A⟩ := X
  obtain ⟨rfl, rfl, rfl, hx, hb, hml, hown, hts, hK, hA, hZ, hin⟩ := C
  intro H locs ls hP hD hS hl
  exact lv_bipush hx hb hd hv (z H locs ls hP hD hS hl)
theorem sv_sipush (C : sv_C X l cc nL own rm g) {n0 : Int} {v : Int32} (hv : (Int16.ofInt n0).toInt32 = v) (hd : decode cc pc = .ok (.sipush n0, 3)) (z : sv_V X nL k n ws (pc + 3) lv (.int v :: st)) : sv_V X nL k n ws pc lv st := by
  obtain ⟨⟨p, l0, e, R⟩, ⟨s, m, args, below⟩, ⟨meth, c, Q⟩, g0, A⟩ := X
  obtain ⟨rfl, rfl, rfl, hx, hb, hml, hown, hts, hK, hA, hZ, hin⟩ := C
  intro H locs ls hP hD hS hl
  exact lv_sipush hx hb hd hv (z H locs ls hP hD hS hl)
theorem sv_ldc (C : sv_C X l cc nL own rm g) {ix : Nat} {v : Int32} (hc : Cond.constant own ix v ∈ sv_tbl) (hd : decode cc pc = .ok (.ldc ix, 2)) (z : sv_V X nL k n ws (pc + 2) lv (.int v :: st)) : sv_V X nL k n ws pc lv st := by
  obtain ⟨⟨p, l0, e, R⟩, ⟨s, m, args, below⟩, ⟨meth, c, Q⟩, g0, A⟩ := X
  obtain ⟨rfl, rfl, rfl, hx, hb, hml, hown, hts, hK, hA, hZ, hin⟩ := C
  intro H locs ls hP hD hS hl
  exact lv_ldc hx hb hown (hts _ hc) hd (z H locs ls hP hD hS hl)
theorem sv_lconst (C : sv_C X l cc nL own rm g) {n0 : Fin 2} {v : Int64} (hv : Int64.ofNat (n0 : Nat) = v) (hd : decode cc pc = .ok (.lconst n0, 1)) (z : sv_V X nL k n ws (pc + 1) lv (.long v :: st)) : sv_V X nL k n ws pc lv st := by
  obtain ⟨⟨p, l0, e, R⟩, ⟨s, m, args, below⟩, ⟨meth, c, Q⟩, g0, A⟩ := X
  obtain ⟨rfl, rfl, rfl, hx, hb, hml, hown, hts, hK, hA, hZ, hin⟩ := C
  intro H locs ls hP hD hS hl
  exact lv_lconst hx hb hd hv (z H locs ls hP hD hS hl)
theorem sv_null (C : sv_C X l cc nL own rm g)  (hd : decode cc pc = .ok (.aconst_null, 1)) (z : sv_V X nL k n ws (pc + 1) lv (.null :: st)) : sv_V X nL k n ws pc lv st := by
  obtain ⟨⟨p, l0, e, R⟩, ⟨s, m, args, below⟩, ⟨meth, c, Q⟩, g0, A⟩ := X
  obtain ⟨rfl, rfl, rfl, hx, hb, hml, hown, hts, hK, hA, hZ, hin⟩ := C
  intro H locs ls hP hD hS hl
  exact lv_null hx hb hd (z H locs ls hP hD hS hl)
theorem sv_iload_n (C : sv_C X l cc nL own rm g) {k0 : Fin 4} {i : Nat} {x : Int32} (hi : (k0 : Nat) = i) (hv : lv[i]? = some (some (.int x))) (hd : decode cc pc = .ok (.iload_n k0, 1)) (z : sv_V X nL k n ws (pc + 1) lv (.int x :: st)) : sv_V X nL k n ws pc lv st := by
  obtain ⟨⟨p, l0, e, R⟩, ⟨s, m, args, below⟩, ⟨meth, c, Q⟩, g0, A⟩ := X
  obtain ⟨rfl, rfl, rfl, hx, hb, hml, hown, hts, hK, hA, hZ, hin⟩ := C
  intro H locs ls hP hD hS hl
  exact lv_iload_n hx hb hd hi (hl.get hv) (z H locs ls hP hD hS hl)
theorem sv_iload (C : sv_C X l cc nL own rm g) {i : Nat} {x : Int32} (hv : lv[i]? = some (some (.int x))) (hd : decode cc pc = .ok (.iload i, 2)) (z : sv_V X nL k n ws (pc + 2) lv (.int x :: st)) : sv_V X nL k n ws pc lv st := by
  obtain ⟨⟨p, l0, e, R⟩, ⟨s, m, args, below⟩, ⟨meth, c, Q⟩, g0, A⟩ := X
  obtain ⟨rfl, rfl, rfl, hx, hb, hml, hown, hts, hK, hA, hZ, hin⟩ := C
  intro H locs ls hP hD hS hl
  exact lv_iload hx hb hd (hl.get hv) (z H locs ls hP hD hS hl)
theorem sv_aload_n (C : sv_C X l cc nL own rm g) {k0 : Fin 4} {i : Nat} {x : Nat} (hi : (k0 : Nat) = i) (hv : lv[i]? = some (some (.ref x))) (hd : decode cc pc = .ok (.aload_n k0, 1)) (z : sv_V X nL k n ws (pc + 1) lv (.ref x :: st)) : sv_V X nL k n ws pc lv st := by
  obtain ⟨⟨p, l0, e, R⟩, ⟨s, m, args, below⟩, ⟨meth, c, Q⟩, g0, A⟩ := X
  obtain ⟨rfl, rfl, rfl, hx, hb, hml, hown, hts, hK, hA, hZ, hin⟩ := C
  intro H locs ls hP hD hS hl
  exact lv_aload_n hx hb hd hi (hl.get hv) (z H locs ls hP hD hS hl)
theorem sv_aload (C : sv_C X l cc nL own rm g) {i : Nat} {x : Nat} (hv : lv[i]? = some (some (.ref x))) (hd : decode cc pc = .ok (.aload i, 2)) (z : sv_V X nL k n ws (pc + 2) lv (.ref x :: st)) : sv_V X nL k n ws pc lv st := by
  obtain ⟨⟨p, l0, e, R⟩, ⟨s, m, args, below⟩, ⟨meth, c, Q⟩, g0, A⟩ := X
  obtain ⟨rfl, rfl, rfl, hx, hb, hml, hown, hts, hK, hA, hZ, hin⟩ := C
  intro H locs ls hP hD hS hl
  exact lv_aload hx hb hd (hl.get hv) (z H locs ls hP hD hS hl)
theorem sv_aload_nN (C : sv_C X l cc nL own rm g) {k0 : Fin 4} {i : Nat} (hi : (k0 : Nat) = i) (hv : lv[i]? = some (some .null)) (hd : decode cc pc = .ok (.aload_n k0, 1)) (z : sv_V X nL k n ws (pc + 1) lv (.null :: st)) : sv_V X nL k n ws pc lv st := by
  obtain ⟨⟨p, l0, e, R⟩, ⟨s, m, args, below⟩, ⟨meth, c, Q⟩, g0, A⟩ := X
  obtain ⟨rfl, rfl, rfl, hx, hb, hml, hown, hts, hK, hA, hZ, hin⟩ := C
  intro H locs ls hP hD hS hl
  exact lv_aload_nN hx hb hd hi (hl.get hv) (z H locs ls hP hD hS hl)
theorem sv_aloadN (C : sv_C X l cc nL own rm g) {i : Nat} (hv : lv[i]? = some (some .null)) (hd : decode cc pc = .ok (.aload i, 2)) (z : sv_V X nL k n ws (pc + 2) lv (.null :: st)) : sv_V X nL k n ws pc lv st := by
  obtain ⟨⟨p, l0, e, R⟩, ⟨s, m, args, below⟩, ⟨meth, c, Q⟩, g0, A⟩ := X
  obtain ⟨rfl, rfl, rfl, hx, hb, hml, hown, hts, hK, hA, hZ, hin⟩ := C
  intro H locs ls hP hD hS hl
  exact lv_aloadN hx hb hd (hl.get hv) (z H locs ls hP hD hS hl)
theorem sv_istore_n (C : sv_C X l cc nL own rm g) {k0 : Fin 4} {i : Nat} {x : Int32} (hi : (k0 : Nat) = i) (hn : i < nL) (lv' : List (Option Value)) (hlv : lv.set i (some (.int x)) = lv') (hd : decode cc pc = .ok (.istore_n k0, 1)) (z : sv_V X nL k n ws (pc + 1) lv' st) : sv_V X nL k n ws pc lv (.int x :: st) := by
  obtain ⟨⟨p, l0, e, R⟩, ⟨s, m, args, below⟩, ⟨meth, c, Q⟩, g0, A⟩ := X
  obtain ⟨rfl, rfl, rfl, hx, hb, hml, hown, hts, hK, hA, hZ, hin⟩ := C
  intro H locs ls hP hD hS hl
  exact lv_istore_n hx hb hd hi hl.has hn rfl (fun ls2 hl2 => z H locs ls2 hP hD hS (by have h3 := hl.stored rfl hl2; rw [hlv] at h3; exact h3))
theorem sv_istore (C : sv_C X l cc nL own rm g) {i : Nat} {x : Int32} (hn : i < nL) (lv' : List (Option Value)) (hlv : lv.set i (some (.int x)) = lv') (hd : decode cc pc = .ok (.istore i, 2)) (z : sv_V X nL k n ws (pc + 2) lv' st) : sv_V X nL k n ws pc lv (.int x :: st) := by
  obtain ⟨⟨p, l0, e, R⟩, ⟨s, m, args, below⟩, ⟨meth, c, Q⟩, g0, A⟩ := X
  obtain ⟨rfl, rfl, rfl, hx, hb, hml, hown, hts, hK, hA, hZ, hin⟩ := C
  intro H locs ls hP hD hS hl
  exact lv_istore hx hb hd hl.has hn rfl (fun ls2 hl2 => z H locs ls2 hP hD hS (by have h3 := hl.stored rfl hl2; rw [hlv] at h3; exact h3))
theorem sv_astore_n (C : sv_C X l cc nL own rm g) {k0 : Fin 4} {i : Nat} {x : Nat} (hi : (k0 : Nat) = i) (hn : i < nL) (lv' : List (Option Value)) (hlv : lv.set i (some (.ref x)) = lv') (hd : decode cc pc = .ok (.astore_n k0, 1)) (z : sv_V X nL k n ws (pc + 1) lv' st) : sv_V X nL k n ws pc lv (.ref x :: st) := by
  obtain ⟨⟨p, l0, e, R⟩, ⟨s, m, args, below⟩, ⟨meth, c, Q⟩, g0, A⟩ := X
  obtain ⟨rfl, rfl, rfl, hx, hb, hml, hown, hts, hK, hA, hZ, hin⟩ := C
  intro H locs ls hP hD hS hl
  exact lv_astore_n hx hb hd hi hl.has hn rfl (fun ls2 hl2 => z H locs ls2 hP hD hS (by have h3 := hl.stored rfl hl2; rw [hlv] at h3; exact h3))
theorem sv_astore (C : sv_C X l cc nL own rm g) {i : Nat} {x : Nat} (hn : i < nL) (lv' : List (Option Value)) (hlv : lv.set i (some (.ref x)) = lv') (hd : decode cc pc = .ok (.astore i, 2)) (z : sv_V X nL k n ws (pc + 2) lv' st) : sv_V X nL k n ws pc lv (.ref x :: st) := by
  obtain ⟨⟨p, l0, e, R⟩, ⟨s, m, args, below⟩, ⟨meth, c, Q⟩, g0, A⟩ := X
  obtain ⟨rfl, rfl, rfl, hx, hb, hml, hown, hts, hK, hA, hZ, hin⟩ := C
  intro H locs ls hP hD hS hl
  exact lv_astore hx hb hd hl.has hn rfl (fun ls2 hl2 => z H locs ls2 hP hD hS (by have h3 := hl.stored rfl hl2; rw [hlv] at h3; exact h3))
theorem sv_astore_nN (C : sv_C X l cc nL own rm g) {k0 : Fin 4} {i : Nat}  (hi : (k0 : Nat) = i) (hn : i < nL) (lv' : List (Option Value)) (hlv : lv.set i (some (.null)) = lv') (hd : decode cc pc = .ok (.astore_n k0, 1)) (z : sv_V X nL k n ws (pc + 1) lv' st) : sv_V X nL k n ws pc lv (.null :: st) := by
  obtain ⟨⟨p, l0, e, R⟩, ⟨s, m, args, below⟩, ⟨meth, c, Q⟩, g0, A⟩ := X
  obtain ⟨rfl, rfl, rfl, hx, hb, hml, hown, hts, hK, hA, hZ, hin⟩ := C
  intro H locs ls hP hD hS hl
  exact lv_astore_nN hx hb hd hi hl.has hn rfl (fun ls2 hl2 => z H locs ls2 hP hD hS (by have h3 := hl.stored rfl hl2; rw [hlv] at h3; exact h3))
theorem sv_astoreN (C : sv_C X l cc nL own rm g) {i : Nat}  (hn : i < nL) (lv' : List (Option Value)) (hlv : lv.set i (some (.null)) = lv') (hd : decode cc pc = .ok (.astore i, 2)) (z : sv_V X nL k n ws (pc + 2) lv' st) : sv_V X nL k n ws pc lv (.null :: st) := by
  obtain ⟨⟨p, l0, e, R⟩, ⟨s, m, args, below⟩, ⟨meth, c, Q⟩, g0, A⟩ := X
  obtain ⟨rfl, rfl, rfl, hx, hb, hml, hown, hts, hK, hA, hZ, hin⟩ := C
  intro H locs ls hP hD hS hl
  exact lv_astoreN hx hb hd hl.has hn rfl (fun ls2 hl2 => z H locs ls2 hP hD hS (by have h3 := hl.stored rfl hl2; rw [hlv] at h3; exact h3))
theorem sv_iinc (C : sv_C X l cc nL own rm g) {i : Nat} {n0 : Int} {x v : Int32} (hx0 : lv[i]? = some (some (.int x))) (hv : x + Int32.ofInt n0 = v) (lv' : List (Option Value)) (hlv : lv.set i (some (.int v)) = lv') (hd : decode cc pc = .ok (.iinc i n0, 3)) (z : sv_V X nL k n ws (pc + 3) lv' st) : sv_V X nL k n ws pc lv st := by
  obtain ⟨⟨p, l0, e, R⟩, ⟨s, m, args, below⟩, ⟨meth, c, Q⟩, g0, A⟩ := X
  obtain ⟨rfl, rfl, rfl, hx, hb, hml, hown, hts, hK, hA, hZ, hin⟩ := C
  intro H locs ls hP hD hS hl
  obtain ⟨kq, hkq⟩ := List.getElem?_of_mem (sv_pairs_mem.mpr hx0)
  exact lv_iinc hx hb hd hl.has hkq hv (hl.lt hx0) rfl (fun ls2 hl2 => z H locs ls2 hP hD hS (by have h3 := hl.stored rfl hl2; rw [hlv] at h3; exact h3))
theorem sv_iadd (C : sv_C X l cc nL own rm g) {x y : Int32} (hd : decode cc pc = .ok (.iadd, 1)) (z : sv_V X nL k n ws (pc + 1) lv (.int (x + y) :: st)) : sv_V X nL k n ws pc lv (.int y :: .int x :: st) := by
  obtain ⟨⟨p, l0, e, R⟩, ⟨s, m, args, below⟩, ⟨meth, c, Q⟩, g0, A⟩ := X
  obtain ⟨rfl, rfl, rfl, hx, hb, hml, hown, hts, hK, hA, hZ, hin⟩ := C
  intro H locs ls hP hD hS hl
  exact lv_iadd hx hb hd (z H locs ls hP hD hS hl)
theorem sv_isub (C : sv_C X l cc nL own rm g) {x y : Int32} (hd : decode cc pc = .ok (.isub, 1)) (z : sv_V X nL k n ws (pc + 1) lv (.int (x - y) :: st)) : sv_V X nL k n ws pc lv (.int y :: .int x :: st) := by
  obtain ⟨⟨p, l0, e, R⟩, ⟨s, m, args, below⟩, ⟨meth, c, Q⟩, g0, A⟩ := X
  obtain ⟨rfl, rfl, rfl, hx, hb, hml, hown, hts, hK, hA, hZ, hin⟩ := C
  intro H locs ls hP hD hS hl
  exact lv_isub hx hb hd (z H locs ls hP hD hS hl)
theorem sv_imul (C : sv_C X l cc nL own rm g) {x y : Int32} (hd : decode cc pc = .ok (.imul, 1)) (z : sv_V X nL k n ws (pc + 1) lv (.int (x * y) :: st)) : sv_V X nL k n ws pc lv (.int y :: .int x :: st) := by
  obtain ⟨⟨p, l0, e, R⟩, ⟨s, m, args, below⟩, ⟨meth, c, Q⟩, g0, A⟩ := X
  obtain ⟨rfl, rfl, rfl, hx, hb, hml, hown, hts, hK, hA, hZ, hin⟩ := C
  intro H locs ls hP hD hS hl
  exact lv_imul hx hb hd (z H locs ls hP hD hS hl)
theorem sv_iand (C : sv_C X l cc nL own rm g) {x y : Int32} (hd : decode cc pc = .ok (.iand, 1)) (z : sv_V X nL k n ws (pc + 1) lv (.int (x &&& y) :: st)) : sv_V X nL k n ws pc lv (.int y :: .int x :: st) := by
  obtain ⟨⟨p, l0, e, R⟩, ⟨s, m, args, below⟩, ⟨meth, c, Q⟩, g0, A⟩ := X
  obtain ⟨rfl, rfl, rfl, hx, hb, hml, hown, hts, hK, hA, hZ, hin⟩ := C
  intro H locs ls hP hD hS hl
  exact lv_iand hx hb hd (z H locs ls hP hD hS hl)
theorem sv_ior (C : sv_C X l cc nL own rm g) {x y : Int32} (hd : decode cc pc = .ok (.ior, 1)) (z : sv_V X nL k n ws (pc + 1) lv (.int (x ||| y) :: st)) : sv_V X nL k n ws pc lv (.int y :: .int x :: st) := by
  obtain ⟨⟨p, l0, e, R⟩, ⟨s, m, args, below⟩, ⟨meth, c, Q⟩, g0, A⟩ := X
  obtain ⟨rfl, rfl, rfl, hx, hb, hml, hown, hts, hK, hA, hZ, hin⟩ := C
  intro H locs ls hP hD hS hl
  exact lv_ior hx hb hd (z H locs ls hP hD hS hl)
theorem sv_ishl (C : sv_C X l cc nL own rm g) {x y : Int32} (hd : decode cc pc = .ok (.ishl, 1)) (z : sv_V X nL k n ws (pc + 1) lv (.int (x <<< (y &&& 31)) :: st)) : sv_V X nL k n ws pc lv (.int y :: .int x :: st) := by
  obtain ⟨⟨p, l0, e, R⟩, ⟨s, m, args, below⟩, ⟨meth, c, Q⟩, g0, A⟩ := X
  obtain ⟨rfl, rfl, rfl, hx, hb, hml, hown, hts, hK, hA, hZ, hin⟩ := C
  intro H locs ls hP hD hS hl
  exact lv_ishl hx hb hd (z H locs ls hP hD hS hl)
theorem sv_ishr (C : sv_C X l cc nL own rm g) {x y : Int32} (hd : decode cc pc = .ok (.ishr, 1)) (z : sv_V X nL k n ws (pc + 1) lv (.int (x >>> (y &&& 31)) :: st)) : sv_V X nL k n ws pc lv (.int y :: .int x :: st) := by
  obtain ⟨⟨p, l0, e, R⟩, ⟨s, m, args, below⟩, ⟨meth, c, Q⟩, g0, A⟩ := X
  obtain ⟨rfl, rfl, rfl, hx, hb, hml, hown, hts, hK, hA, hZ, hin⟩ := C
  intro H locs ls hP hD hS hl
  exact lv_ishr hx hb hd (z H locs ls hP hD hS hl)
theorem sv_irem (C : sv_C X l cc nL own rm g) {x y : Int32} (hne : ¬ y = 0) (hd : decode cc pc = .ok (.irem, 1)) (z : sv_V X nL k n ws (pc + 1) lv (.int (x - x / y * y) :: st)) : sv_V X nL k n ws pc lv (.int y :: .int x :: st) := by
  obtain ⟨⟨p, l0, e, R⟩, ⟨s, m, args, below⟩, ⟨meth, c, Q⟩, g0, A⟩ := X
  obtain ⟨rfl, rfl, rfl, hx, hb, hml, hown, hts, hK, hA, hZ, hin⟩ := C
  intro H locs ls hP hD hS hl
  exact lv_irem hx hb hd hne (z H locs ls hP hD hS hl)
theorem sv_iushr (C : sv_C X l cc nL own rm g) {x y v : Int32} (hv : (x.toUInt32 >>> (y.toUInt32 &&& Int32.toUInt32 31)).toInt32 = v) (hd : decode cc pc = .ok (.iushr, 1)) (z : sv_V X nL k n ws (pc + 1) lv (.int v :: st)) : sv_V X nL k n ws pc lv (.int y :: .int x :: st) := by
  obtain ⟨⟨p, l0, e, R⟩, ⟨s, m, args, below⟩, ⟨meth, c, Q⟩, g0, A⟩ := X
  obtain ⟨rfl, rfl, rfl, hx, hb, hml, hown, hts, hK, hA, hZ, hin⟩ := C
  intro H locs ls hP hD hS hl
  exact lv_iushr hx hb hd hv (z H locs ls hP hD hS hl)
theorem sv_i2l (C : sv_C X l cc nL own rm g) {x : Int32} (hd : decode cc pc = .ok (.i2l, 1)) (z : sv_V X nL k n ws (pc + 1) lv (.long x.toInt64 :: st)) : sv_V X nL k n ws pc lv (.int x :: st) := by
  obtain ⟨⟨p, l0, e, R⟩, ⟨s, m, args, below⟩, ⟨meth, c, Q⟩, g0, A⟩ := X
  obtain ⟨rfl, rfl, rfl, hx, hb, hml, hown, hts, hK, hA, hZ, hin⟩ := C
  intro H locs ls hP hD hS hl
  exact lv_i2l hx hb hd rfl (z H locs ls hP hD hS hl)
theorem sv_i2b (C : sv_C X l cc nL own rm g) {x : Int32} (hd : decode cc pc = .ok (.i2b, 1)) (z : sv_V X nL k n ws (pc + 1) lv (.int x.toInt8.toInt32 :: st)) : sv_V X nL k n ws pc lv (.int x :: st) := by
  obtain ⟨⟨p, l0, e, R⟩, ⟨s, m, args, below⟩, ⟨meth, c, Q⟩, g0, A⟩ := X
  obtain ⟨rfl, rfl, rfl, hx, hb, hml, hown, hts, hK, hA, hZ, hin⟩ := C
  intro H locs ls hP hD hS hl
  exact lv_i2b hx hb hd rfl (z H locs ls hP hD hS hl)
theorem sv_i2c (C : sv_C X l cc nL own rm g) {x : Int32} (hd : decode cc pc = .ok (.i2c, 1)) (z : sv_V X nL k n ws (pc + 1) lv (.int (x.toUInt32 % 65536).toInt32 :: st)) : sv_V X nL k n ws pc lv (.int x :: st) := by
  obtain ⟨⟨p, l0, e, R⟩, ⟨s, m, args, below⟩, ⟨meth, c, Q⟩, g0, A⟩ := X
  obtain ⟨rfl, rfl, rfl, hx, hb, hml, hown, hts, hK, hA, hZ, hin⟩ := C
  intro H locs ls hP hD hS hl
  exact lv_i2c hx hb hd rfl (z H locs ls hP hD hS hl)
theorem sv_lcmp (C : sv_C X l cc nL own rm g) {x y : Int64} (hd : decode cc pc = .ok (.lcmp, 1)) (z : sv_V X nL k n ws (pc + 1) lv (.int (lg_cmp x y) :: st)) : sv_V X nL k n ws pc lv (.long y :: .long x :: st) := by
  obtain ⟨⟨p, l0, e, R⟩, ⟨s, m, args, below⟩, ⟨meth, c, Q⟩, g0, A⟩ := X
  obtain ⟨rfl, rfl, rfl, hx, hb, hml, hown, hts, hK, hA, hZ, hin⟩ := C
  intro H locs ls hP hD hS hl
  exact W.lcmp hx hb hd (z H locs ls hP hD hS hl)
theorem sv_dup (C : sv_C X l cc nL own rm g) {v : Value} (hv : v.category = 1) (hd : decode cc pc = .ok (.dup, 1)) (z : sv_V X nL k n ws (pc + 1) lv (v :: v :: st)) : sv_V X nL k n ws pc lv (v :: st) := by
  obtain ⟨⟨p, l0, e, R⟩, ⟨s, m, args, below⟩, ⟨meth, c, Q⟩, g0, A⟩ := X
  obtain ⟨rfl, rfl, rfl, hx, hb, hml, hown, hts, hK, hA, hZ, hin⟩ := C
  intro H locs ls hP hD hS hl
  exact lv_dup hx hb hd hv (z H locs ls hP hD hS hl)
theorem sv_pop (C : sv_C X l cc nL own rm g) {v : Value} (hv : v.category = 1) (hd : decode cc pc = .ok (.pop, 1)) (z : sv_V X nL k n ws (pc + 1) lv st) : sv_V X nL k n ws pc lv (v :: st) := by
  obtain ⟨⟨p, l0, e, R⟩, ⟨s, m, args, below⟩, ⟨meth, c, Q⟩, g0, A⟩ := X
  obtain ⟨rfl, rfl, rfl, hx, hb, hml, hown, hts, hK, hA, hZ, hin⟩ := C
  intro H locs ls hP hD hS hl
  exact lv_pop hx hb hd hv (z H locs ls hP hD hS hl)
theorem sv_dup_x1 (C : sv_C X l cc nL own rm g) {v w : Value} (hv : v.category = 1) (hw : w.category = 1) (hd : decode cc pc = .ok (.dup_x1, 1)) (z : sv_V X nL k n ws (pc + 1) lv (v :: w :: v :: st)) : sv_V X nL k n ws pc lv (v :: w :: st) := by
  obtain ⟨⟨p, l0, e, R⟩, ⟨s, m, args, below⟩, ⟨meth, c, Q⟩, g0, A⟩ := X
  obtain ⟨rfl, rfl, rfl, hx, hb, hml, hown, hts, hK, hA, hZ, hin⟩ := C
  intro H locs ls hP hD hS hl
  exact lv_dup_x1 hx hb hd hv hw (z H locs ls hP hD hS hl)
theorem sv_dup2 (C : sv_C X l cc nL own rm g) {v w : Value} (hv : v.category = 1) (hw : w.category = 1) (hd : decode cc pc = .ok (.dup2, 1)) (z : sv_V X nL k n ws (pc + 1) lv (v :: w :: v :: w :: st)) : sv_V X nL k n ws pc lv (v :: w :: st) := by
  obtain ⟨⟨p, l0, e, R⟩, ⟨s, m, args, below⟩, ⟨meth, c, Q⟩, g0, A⟩ := X
  obtain ⟨rfl, rfl, rfl, hx, hb, hml, hown, hts, hK, hA, hZ, hin⟩ := C
  intro H locs ls hP hD hS hl
  exact lv_dup2_11 hx hb hd hv hw (z H locs ls hP hD hS hl)
theorem sv_if_eq (C : sv_C X l cc nL own rm g) {x : Int32} {off : Int} (tgt : Nat) (ht : (pc : Int) + off = (tgt : Int)) (hd : decode cc pc = .ok (.ifCond .eq off, 3)) (zt : x = 0 → sv_V X nL k n ws tgt lv st) (zf : ¬ x = 0 → sv_V X nL k n ws (pc + 3) lv st) : sv_V X nL k n ws pc lv (.int x :: st) := by
  obtain ⟨⟨p, l0, e, R⟩, ⟨s, m, args, below⟩, ⟨meth, c, Q⟩, g0, A⟩ := X
  obtain ⟨rfl, rfl, rfl, hx, hb, hml, hown, hts, hK, hA, hZ, hin⟩ := C
  intro H locs ls hP hD hS hl
  exact lv_if_eq hx hb hd ht (fun q => zt q H locs ls hP hD hS hl) (fun q => zf q H locs ls hP hD hS hl)
theorem sv_icmp_eq (C : sv_C X l cc nL own rm g) {x y : Int32} {off : Int} (tgt : Nat) (ht : (pc : Int) + off = (tgt : Int)) (hd : decode cc pc = .ok (.if_icmp .eq off, 3)) (zt : x = y → sv_V X nL k n ws tgt lv st) (zf : ¬ x = y → sv_V X nL k n ws (pc + 3) lv st) : sv_V X nL k n ws pc lv (.int y :: .int x :: st) := by
  obtain ⟨⟨p, l0, e, R⟩, ⟨s, m, args, below⟩, ⟨meth, c, Q⟩, g0, A⟩ := X
  obtain ⟨rfl, rfl, rfl, hx, hb, hml, hown, hts, hK, hA, hZ, hin⟩ := C
  intro H locs ls hP hD hS hl
  exact lv_icmp_eq hx hb hd ht (fun q => zt q H locs ls hP hD hS hl) (fun q => zf q H locs ls hP hD hS hl)
theorem sv_if_ne (C : sv_C X l cc nL own rm g) {x : Int32} {off : Int} (tgt : Nat) (ht : (pc : Int) + off = (tgt : Int)) (hd : decode cc pc = .ok (.ifCond .ne off, 3)) (zt : ¬ x = 0 → sv_V X nL k n ws tgt lv st) (zf : x = 0 → sv_V X nL k n ws (pc + 3) lv st) : sv_V X nL k n ws pc lv (.int x :: st) := by
  obtain ⟨⟨p, l0, e, R⟩, ⟨s, m, args, below⟩, ⟨meth, c, Q⟩, g0, A⟩ := X
  obtain ⟨rfl, rfl, rfl, hx, hb, hml, hown, hts, hK, hA, hZ, hin⟩ := C
  intro H locs ls hP hD hS hl
  exact lv_if_ne hx hb hd ht (fun q => zt q H locs ls hP hD hS hl) (fun q => zf q H locs ls hP hD hS hl)
theorem sv_icmp_ne (C : sv_C X l cc nL own rm g) {x y : Int32} {off : Int} (tgt : Nat) (ht : (pc : Int) + off = (tgt : Int)) (hd : decode cc pc = .ok (.if_icmp .ne off, 3)) (zt : ¬ x = y → sv_V X nL k n ws tgt lv st) (zf : x = y → sv_V X nL k n ws (pc + 3) lv st) : sv_V X nL k n ws pc lv (.int y :: .int x :: st) := by
  obtain ⟨⟨p, l0, e, R⟩, ⟨s, m, args, below⟩, ⟨meth, c, Q⟩, g0, A⟩ := X
  obtain ⟨rfl, rfl, rfl, hx, hb, hml, hown, hts, hK, hA, hZ, hin⟩ := C
  intro H locs ls hP hD hS hl
  exact lv_icmp_ne hx hb hd ht (fun q => zt q H locs ls hP hD hS hl) (fun q => zf q H locs ls hP hD hS hl)
theorem sv_if_lt (C : sv_C X l cc nL own rm g) {x : Int32} {off : Int} (tgt : Nat) (ht : (pc : Int) + off = (tgt : Int)) (hd : decode cc pc = .ok (.ifCond .lt off, 3)) (zt : x < 0 → sv_V X nL k n ws tgt lv st) (zf : ¬ x < 0 → sv_V X nL k n ws (pc + 3) lv st) : sv_V X nL k n ws pc lv (.int x :: st) := by
  obtain ⟨⟨p, l0, e, R⟩, ⟨s, m, args, below⟩, ⟨meth, c, Q⟩, g0, A⟩ := X
  obtain ⟨rfl, rfl, rfl, hx, hb, hml, hown, hts, hK, hA, hZ, hin⟩ := C
  intro H locs ls hP hD hS hl
  exact lv_if_lt hx hb hd ht (fun q => zt q H locs ls hP hD hS hl) (fun q => zf q H locs ls hP hD hS hl)
theorem sv_icmp_lt (C : sv_C X l cc nL own rm g) {x y : Int32} {off : Int} (tgt : Nat) (ht : (pc : Int) + off = (tgt : Int)) (hd : decode cc pc = .ok (.if_icmp .lt off, 3)) (zt : x < y → sv_V X nL k n ws tgt lv st) (zf : ¬ x < y → sv_V X nL k n ws (pc + 3) lv st) : sv_V X nL k n ws pc lv (.int y :: .int x :: st) := by
  obtain ⟨⟨p, l0, e, R⟩, ⟨s, m, args, below⟩, ⟨meth, c, Q⟩, g0, A⟩ := X
  obtain ⟨rfl, rfl, rfl, hx, hb, hml, hown, hts, hK, hA, hZ, hin⟩ := C
  intro H locs ls hP hD hS hl
  exact lv_icmp_lt hx hb hd ht (fun q => zt q H locs ls hP hD hS hl) (fun q => zf q H locs ls hP hD hS hl)
theorem sv_if_ge (C : sv_C X l cc nL own rm g) {x : Int32} {off : Int} (tgt : Nat) (ht : (pc : Int) + off = (tgt : Int)) (hd : decode cc pc = .ok (.ifCond .ge off, 3)) (zt : 0 ≤ x → sv_V X nL k n ws tgt lv st) (zf : ¬ 0 ≤ x → sv_V X nL k n ws (pc + 3) lv st) : sv_V X nL k n ws pc lv (.int x :: st) := by
  obtain ⟨⟨p, l0, e, R⟩, ⟨s, m, args, below⟩, ⟨meth, c, Q⟩, g0, A⟩ := X
  obtain ⟨rfl, rfl, rfl, hx, hb, hml, hown, hts, hK, hA, hZ, hin⟩ := C
  intro H locs ls hP hD hS hl
  exact lv_if_ge hx hb hd ht (fun q => zt q H locs ls hP hD hS hl) (fun q => zf q H locs ls hP hD hS hl)
theorem sv_icmp_ge (C : sv_C X l cc nL own rm g) {x y : Int32} {off : Int} (tgt : Nat) (ht : (pc : Int) + off = (tgt : Int)) (hd : decode cc pc = .ok (.if_icmp .ge off, 3)) (zt : y ≤ x → sv_V X nL k n ws tgt lv st) (zf : ¬ y ≤ x → sv_V X nL k n ws (pc + 3) lv st) : sv_V X nL k n ws pc lv (.int y :: .int x :: st) := by
  obtain ⟨⟨p, l0, e, R⟩, ⟨s, m, args, below⟩, ⟨meth, c, Q⟩, g0, A⟩ := X
  obtain ⟨rfl, rfl, rfl, hx, hb, hml, hown, hts, hK, hA, hZ, hin⟩ := C
  intro H locs ls hP hD hS hl
  exact lv_icmp_ge hx hb hd ht (fun q => zt q H locs ls hP hD hS hl) (fun q => zf q H locs ls hP hD hS hl)
theorem sv_if_gt (C : sv_C X l cc nL own rm g) {x : Int32} {off : Int} (tgt : Nat) (ht : (pc : Int) + off = (tgt : Int)) (hd : decode cc pc = .ok (.ifCond .gt off, 3)) (zt : 0 < x → sv_V X nL k n ws tgt lv st) (zf : ¬ 0 < x → sv_V X nL k n ws (pc + 3) lv st) : sv_V X nL k n ws pc lv (.int x :: st) := by
  obtain ⟨⟨p, l0, e, R⟩, ⟨s, m, args, below⟩, ⟨meth, c, Q⟩, g0, A⟩ := X
  obtain ⟨rfl, rfl, rfl, hx, hb, hml, hown, hts, hK, hA, hZ, hin⟩ := C
  intro H locs ls hP hD hS hl
  exact lv_if_gt hx hb hd ht (fun q => zt q H locs ls hP hD hS hl) (fun q => zf q H locs ls hP hD hS hl)
theorem sv_icmp_gt (C : sv_C X l cc nL own rm g) {x y : Int32} {off : Int} (tgt : Nat) (ht : (pc : Int) + off = (tgt : Int)) (hd : decode cc pc = .ok (.if_icmp .gt off, 3)) (zt : y < x → sv_V X nL k n ws tgt lv st) (zf : ¬ y < x → sv_V X nL k n ws (pc + 3) lv st) : sv_V X nL k n ws pc lv (.int y :: .int x :: st) := by
  obtain ⟨⟨p, l0, e, R⟩, ⟨s, m, args, below⟩, ⟨meth, c, Q⟩, g0, A⟩ := X
  obtain ⟨rfl, rfl, rfl, hx, hb, hml, hown, hts, hK, hA, hZ, hin⟩ := C
  intro H locs ls hP hD hS hl
  exact lv_icmp_gt hx hb hd ht (fun q => zt q H locs ls hP hD hS hl) (fun q => zf q H locs ls hP hD hS hl)
theorem sv_if_le (C : sv_C X l cc nL own rm g) {x : Int32} {off : Int} (tgt : Nat) (ht : (pc : Int) + off = (tgt : Int)) (hd : decode cc pc = .ok (.ifCond .le off, 3)) (zt : x ≤ 0 → sv_V X nL k n ws tgt lv st) (zf : ¬ x ≤ 0 → sv_V X nL k n ws (pc + 3) lv st) : sv_V X nL k n ws pc lv (.int x :: st) := by
  obtain ⟨⟨p, l0, e, R⟩, ⟨s, m, args, below⟩, ⟨meth, c, Q⟩, g0, A⟩ := X
  obtain ⟨rfl, rfl, rfl, hx, hb, hml, hown, hts, hK, hA, hZ, hin⟩ := C
  intro H locs ls hP hD hS hl
  exact lv_if_le hx hb hd ht (fun q => zt q H locs ls hP hD hS hl) (fun q => zf q H locs ls hP hD hS hl)
theorem sv_icmp_le (C : sv_C X l cc nL own rm g) {x y : Int32} {off : Int} (tgt : Nat) (ht : (pc : Int) + off = (tgt : Int)) (hd : decode cc pc = .ok (.if_icmp .le off, 3)) (zt : x ≤ y → sv_V X nL k n ws tgt lv st) (zf : ¬ x ≤ y → sv_V X nL k n ws (pc + 3) lv st) : sv_V X nL k n ws pc lv (.int y :: .int x :: st) := by
  obtain ⟨⟨p, l0, e, R⟩, ⟨s, m, args, below⟩, ⟨meth, c, Q⟩, g0, A⟩ := X
  obtain ⟨rfl, rfl, rfl, hx, hb, hml, hown, hts, hK, hA, hZ, hin⟩ := C
  intro H locs ls hP hD hS hl
  exact lv_icmp_le hx hb hd ht (fun q => zt q H locs ls hP hD hS hl) (fun q => zf q H locs ls hP hD hS hl)
theorem sv_goto (C : sv_C X l cc nL own rm g)  {off : Int} (tgt : Nat) (ht : (pc : Int) + off = (tgt : Int)) (hd : decode cc pc = .ok (.goto off, 3)) (z : sv_V X nL k n ws tgt lv st) : sv_V X nL k n ws pc lv st := by
  obtain ⟨⟨p, l0, e, R⟩, ⟨s, m, args, below⟩, ⟨meth, c, Q⟩, g0, A⟩ := X
  obtain ⟨rfl, rfl, rfl, hx, hb, hml, hown, hts, hK, hA, hZ, hin⟩ := C
  intro H locs ls hP hD hS hl
  exact lv_goto hx hb hd ht (z H locs ls hP hD hS hl)
theorem sv_ifnull (C : sv_C X l cc nL own rm g) {x : Nat} {off : Int} (hd : decode cc pc = .ok (.ifnull off, 3)) (z : sv_V X nL k n ws (pc + 3) lv st) : sv_V X nL k n ws pc lv (.ref x :: st) := by
  obtain ⟨⟨p, l0, e, R⟩, ⟨s, m, args, below⟩, ⟨meth, c, Q⟩, g0, A⟩ := X
  obtain ⟨rfl, rfl, rfl, hx, hb, hml, hown, hts, hK, hA, hZ, hin⟩ := C
  intro H locs ls hP hD hS hl
  exact lv_ifnull hx hb hd  (z H locs ls hP hD hS hl)
theorem sv_ifnullN (C : sv_C X l cc nL own rm g)  {off : Int} (tgt : Nat) (ht : (pc : Int) + off = (tgt : Int)) (hd : decode cc pc = .ok (.ifnull off, 3)) (z : sv_V X nL k n ws tgt lv st) : sv_V X nL k n ws pc lv (.null :: st) := by
  obtain ⟨⟨p, l0, e, R⟩, ⟨s, m, args, below⟩, ⟨meth, c, Q⟩, g0, A⟩ := X
  obtain ⟨rfl, rfl, rfl, hx, hb, hml, hown, hts, hK, hA, hZ, hin⟩ := C
  intro H locs ls hP hD hS hl
  exact lv_ifnullN hx hb hd ht (z H locs ls hP hD hS hl)
theorem sv_ifnonnull (C : sv_C X l cc nL own rm g) {x : Nat} {off : Int} (tgt : Nat) (ht : (pc : Int) + off = (tgt : Int)) (hd : decode cc pc = .ok (.ifnonnull off, 3)) (z : sv_V X nL k n ws tgt lv st) : sv_V X nL k n ws pc lv (.ref x :: st) := by
  obtain ⟨⟨p, l0, e, R⟩, ⟨s, m, args, below⟩, ⟨meth, c, Q⟩, g0, A⟩ := X
  obtain ⟨rfl, rfl, rfl, hx, hb, hml, hown, hts, hK, hA, hZ, hin⟩ := C
  intro H locs ls hP hD hS hl
  exact lv_ifnonnull hx hb hd ht (z H locs ls hP hD hS hl)
theorem sv_ifnonnullN (C : sv_C X l cc nL own rm g)  {off : Int} (hd : decode cc pc = .ok (.ifnonnull off, 3)) (z : sv_V X nL k n ws (pc + 3) lv st) : sv_V X nL k n ws pc lv (.null :: st) := by
  obtain ⟨⟨p, l0, e, R⟩, ⟨s, m, args, below⟩, ⟨meth, c, Q⟩, g0, A⟩ := X
  obtain ⟨rfl, rfl, rfl, hx, hb, hml, hown, hts, hK, hA, hZ, hin⟩ := C
  intro H locs ls hP hD hS hl
  exact lv_ifnonnullN hx hb hd  (z H locs ls hP hD hS hl)
theorem sv_tableOut (C : sv_C X l cc nL own rm g) {dflt lo hi : Int} {offs : Array Int} {len : Nat} {x : Int32} (tgt : Nat) (hd : decode cc pc = .ok (.tableswitch dflt lo hi offs, len)) (h : x.toInt < lo ∨ hi < x.toInt) (ht : (pc : Int) + dflt = (tgt : Int)) (z : sv_V X nL k n ws tgt lv st) : sv_V X nL k n ws pc lv (.int x :: st) := by
  obtain ⟨⟨p, l0, e, R⟩, ⟨s, m, args, below⟩, ⟨meth, c, Q⟩, g0, A⟩ := X
  obtain ⟨rfl, rfl, rfl, hx, hb, hml, hown, hts, hK, hA, hZ, hin⟩ := C
  intro H locs ls hP hD hS hl
  exact lv_tableOut hx hb hd h ht (z H locs ls hP hD hS hl)
theorem sv_tableIn (C : sv_C X l cc nL own rm g) {dflt lo hi : Int} {offs : Array Int} {len : Nat} {x : Int32} {off : Int} (tgt : Nat) (hd : decode cc pc = .ok (.tableswitch dflt lo hi offs, len)) (h1 : ¬ x.toInt < lo) (h2 : ¬ hi < x.toInt) (ho : offs[(x.toInt - lo).toNat]? = some off) (ht : (pc : Int) + off = (tgt : Int)) (z : sv_V X nL k n ws tgt lv st) : sv_V X nL k n ws pc lv (.int x :: st) := by
  obtain ⟨⟨p, l0, e, R⟩, ⟨s, m, args, below⟩, ⟨meth, c, Q⟩, g0, A⟩ := X
  obtain ⟨rfl, rfl, rfl, hx, hb, hml, hown, hts, hK, hA, hZ, hin⟩ := C
  intro H locs ls hP hD hS hl
  exact lv_tableIn hx hb hd h1 h2 ho ht (z H locs ls hP hD hS hl)
theorem sv_lookup (C : sv_C X l cc nL own rm g) {dflt : Int} {ps : Array (Int × Int)} {len : Nat} {x : Int32} {off : Int} (tgt : Nat) (hd : decode cc pc = .ok (.lookupswitch dflt ps, len)) (hp : (ps.toList.zip (ps.toList.drop 1)).all (fun (a, next) => a.1 < next.1) = true) (ho : Op.lookupswitch.offset ps.toList dflt x.toInt = off) (ht : (pc : Int) + off = (tgt : Int)) (z : sv_V X nL k n ws tgt lv st) : sv_V X nL k n ws pc lv (.int x :: st) := by
  obtain ⟨⟨p, l0, e, R⟩, ⟨s, m, args, below⟩, ⟨meth, c, Q⟩, g0, A⟩ := X
  obtain ⟨rfl, rfl, rfl, hx, hb, hml, hown, hts, hK, hA, hZ, hin⟩ := C
  intro H locs ls hP hD hS hl
  exact lv_lookup hx hb hd hp ho ht (z H locs ls hP hD hS hl)
/-- a field, as a class's pool names it: class number ci, field number kf -/
def sv_FL (own : String) (ix ci kf : Nat) : Prop := ∃ (Cn : String) (T : u_T) (N : Nat), classes[ci]? = some (Cn, T, N) ∧ kf < N ∧ (∀ w ∈ u_ws Cn T N, w ∈ sv_tbl) ∧ Cond.fieldLink own ix (T kf).1 (T kf).2.1 (T kf).2.2.1 ∈ sv_tbl
/-- .. and it may be written -/
def sv_FP (own : String) (ix ci kf : Nat) (ty : FieldType) (fin : Bool) : Prop := ∃ (Cn : String) (T : u_T) (N : Nat) (ty0 : Nat → FieldType), classes[ci]? = some (Cn, T, N) ∧ kf < N ∧ (∀ w ∈ u_ws Cn T N, w ∈ sv_tbl) ∧ Cond.fieldLink own ix (T kf).1 (T kf).2.1 (T kf).2.2.1 ∈ sv_tbl ∧ (∀ k, k < N → parseFieldDescriptor (T k).2.2.1 = some (ty0 k)) ∧ (∀ a, a < N → ∀ b, b < N → a ≠ b → (T a).2.1 ≠ (T b).2.1) ∧ (T kf).2.2.2 = fin ∧ (fin = true → (T kf).1 = own) ∧ parseFieldDescriptor (T kf).2.2.1 = some ty
theorem sv_get (C : sv_C X l cc nL own rm g) {ix ci kf a : Nat} {fs : List Value} {v : Value} (hf : sv_FL own ix ci kf) (q0 : Nat) (he : ws[q0]? = some (a, .inr (ci, fs))) (hv : fs[kf]? = some v) (hd : decode cc pc = .ok (.getfield ix, 3)) (z : sv_V X nL k n ws (pc + 3) lv (v :: st)) : sv_V X nL k n ws pc lv (.ref a :: st) := by
  obtain ⟨⟨p, l0, e, R⟩, ⟨s, m, args, below⟩, ⟨meth, c, Q⟩, g0, A⟩ := X
  obtain ⟨rfl, rfl, rfl, hx, hb, hml, hown, hts, hK, hA, hZ, hin⟩ := C
  intro H locs ls hP hD hS hl
  obtain ⟨Cn, T, N, h1, h2, h3, h4⟩ := hf
  exact va_get hx hb hts h3 hown hK hP q0 he h1 kf h2 (hts _ h4) (fun _ h9 => h9) hv hd (z H locs ls hP hD hS hl)
theorem sv_getM (C : sv_C X l cc nL own rm g) {ix ci kf a : Nat} {fs : List Value} {v : Value} (hf : sv_FL own ix ci kf) (he : (a, .inr (ci, fs)) ∈ ws) (hv : fs[kf]? = some v) (hd : decode cc pc = .ok (.getfield ix, 3)) (z : sv_V X nL k n ws (pc + 3) lv (v :: st)) : sv_V X nL k n ws pc lv (.ref a :: st) := by
  obtain ⟨⟨p, l0, e, R⟩, ⟨s, m, args, below⟩, ⟨meth, c, Q⟩, g0, A⟩ := X
  obtain ⟨rfl, rfl, rfl, hx, hb, hml, hown, hts, hK, hA, hZ, hin⟩ := C
  intro H locs ls hP hD hS hl
  obtain ⟨q0, he⟩ := List.getElem?_of_mem he
  obtain ⟨Cn, T, N, h1, h2, h3, h4⟩ := hf
  exact va_get hx hb hts h3 hown hK hP q0 he h1 kf h2 (hts _ h4) (fun _ h9 => h9) hv hd (z H locs ls hP hD hS hl)
theorem sv_put (C : sv_C X l cc nL own rm g) {ix ci kf a : Nat} {fs : List Value} {v : Value} {ty : FieldType} (hf : sv_FP own ix ci kf ty false) (q0 : Nat) (he : ws[q0]? = some (a, .inr (ci, fs))) (hn : narrow ty v = v) (hfit : fits ty v = true) (hlf : kf < fs.length) (ws' : va_W) (hws : ws.set q0 (a, .inr (ci, fs.set kf v)) = ws') (hd : decode cc pc = .ok (.putfield ix, 3)) (z : sv_V X nL k n ws' (pc + 3) lv st) : sv_V X nL k n ws pc lv (v :: .ref a :: st) := by
  obtain ⟨⟨p, l0, e, R⟩, ⟨s, m, args, below⟩, ⟨meth, c, Q⟩, g0, A⟩ := X
  obtain ⟨rfl, rfl, rfl, hx, hb, hml, hown, hts, hK, hA, hZ, hin⟩ := C
  intro H locs ls hP hD hS hl
  obtain ⟨Cn, T, N, ty0, h1, h2, h3, h4, h5, h6, h7, h8, h9⟩ := hf
  exact va_put hx hb hts h3 ty0 h5 h6 hown hK hP hD hS q0 he h1 kf h2 (hts _ h4) (fun _ h9 => h9) h7 h9 hn hfit hlf hd (fun H2 locs2 hP2 hD2 hS2 => z H2 locs2 ls (by rw [← hws]; exact hP2) (by rw [← hws]; exact hD2) hS2 hl)
theorem sv_putF (C : sv_C X l cc nL own rm g) {ix ci kf a : Nat} {fs : List Value} {v : Value} {ty : FieldType} (hinit : sv_isInit X) (hf : sv_FP own ix ci kf ty true) (q0 : Nat) (he : ws[q0]? = some (a, .inr (ci, fs))) (hn : narrow ty v = v) (hfit : fits ty v = true) (hlf : kf < fs.length) (ws' : va_W) (hws : ws.set q0 (a, .inr (ci, fs.set kf v)) = ws') (hd : decode cc pc = .ok (.putfield ix, 3)) (z : sv_V X nL k n ws' (pc + 3) lv st) : sv_V X nL k n ws pc lv (v :: .ref a :: st) := by
  obtain ⟨⟨p, l0, e, R⟩, ⟨s, m, args, below⟩, ⟨meth, c, Q⟩, g0, A⟩ := X
  obtain ⟨rfl, rfl, rfl, hx, hb, hml, hown, hts, hK, hA, hZ, hin⟩ := C
  intro H locs ls hP hD hS hl
  obtain ⟨Cn, T, N, ty0, h1, h2, h3, h4, h5, h6, h7, h8, h9⟩ := hf
  exact va_putF hx hb hts h3 ty0 h5 h6 hown hK hP hD hS q0 he h1 kf h2 (hts _ h4) (fun _ h9 => h9) h7 hinit (h8 rfl) h9 hn hfit hlf hd (fun H2 locs2 hP2 hD2 hS2 => z H2 locs2 ls (by rw [← hws]; exact hP2) (by rw [← hws]; exact hD2) hS2 hl)
theorem sv_iald (C : sv_C X l cc nL own rm g) {a N : Nat} {f : Nat → Int32} {i : Int32} (q0 : Nat) (ha : ws[q0]? = some (a, .inl (g.2.1 0, N, .inl f))) (hin0 : vp_in i N) (hd : decode cc pc = .ok (.iaload, 1)) (z : sv_V X nL k n ws (pc + 1) lv (.int (f i.toNatClampNeg) :: st)) : sv_V X nL k n ws pc lv (.int i :: .ref a :: st) := by
  obtain ⟨⟨p, l0, e, R⟩, ⟨s, m, args, below⟩, ⟨meth, c, Q⟩, g0, A⟩ := X
  obtain ⟨rfl, rfl, rfl, hx, hb, hml, hown, hts, hK, hA, hZ, hin⟩ := C
  intro H locs ls hP hD hS hl
  exact va_iald hx hb hK hP q0 0 ha rfl hin0 hd (z H locs ls hP hD hS hl)
theorem sv_bald (C : sv_C X l cc nL own rm g) {a N : Nat} {f : Nat → Int32} {i : Int32} (q0 : Nat) (ha : ws[q0]? = some (a, .inl (g.2.1 1, N, .inl f))) (hin0 : vp_in i N) (hd : decode cc pc = .ok (.baload, 1)) (z : sv_V X nL k n ws (pc + 1) lv (.int (f i.toNatClampNeg) :: st)) : sv_V X nL k n ws pc lv (.int i :: .ref a :: st) := by
  obtain ⟨⟨p, l0, e, R⟩, ⟨s, m, args, below⟩, ⟨meth, c, Q⟩, g0, A⟩ := X
  obtain ⟨rfl, rfl, rfl, hx, hb, hml, hown, hts, hK, hA, hZ, hin⟩ := C
  intro H locs ls hP hD hS hl
  exact va_bald hx hb hK hP q0 1 ha rfl hin0 hd (z H locs ls hP hD hS hl)
theorem sv_zald (C : sv_C X l cc nL own rm g) {a N : Nat} {f : Nat → Int32} {i : Int32} (q0 : Nat) (ha : ws[q0]? = some (a, .inl (g.2.1 2, N, .inl f))) (hin0 : vp_in i N) (hd : decode cc pc = .ok (.baload, 1)) (z : sv_V X nL k n ws (pc + 1) lv (.int (f i.toNatClampNeg) :: st)) : sv_V X nL k n ws pc lv (.int i :: .ref a :: st) := by
  obtain ⟨⟨p, l0, e, R⟩, ⟨s, m, args, below⟩, ⟨meth, c, Q⟩, g0, A⟩ := X
  obtain ⟨rfl, rfl, rfl, hx, hb, hml, hown, hts, hK, hA, hZ, hin⟩ := C
  intro H locs ls hP hD hS hl
  exact va_zald hx hb hK hP q0 2 ha rfl hin0 hd (z H locs ls hP hD hS hl)
theorem sv_iast (C : sv_C X l cc nL own rm g) {a N : Nat} {f : Nat → Int32} {i x : Int32} (q0 : Nat) (ha : ws[q0]? = some (a, .inl (g.2.1 0, N, .inl f))) (hin0 : vp_in i N) (ws' : va_W) (hws : ws.set q0 (a, .inl (g.2.1 0, N, .inl (upd f i.toNatClampNeg x))) = ws') (hd : decode cc pc = .ok (.iastore, 1)) (z : sv_V X nL k n ws' (pc + 1) lv st) : sv_V X nL k n ws pc lv (.int x :: .int i :: .ref a :: st) := by
  obtain ⟨⟨p, l0, e, R⟩, ⟨s, m, args, below⟩, ⟨meth, c, Q⟩, g0, A⟩ := X
  obtain ⟨rfl, rfl, rfl, hx, hb, hml, hown, hts, hK, hA, hZ, hin⟩ := C
  intro H locs ls hP hD hS hl
  exact va_iast hx hb hK hP hD hS q0 0 ha rfl hin0 hd (fun H2 locs2 hP2 hD2 hS2 => z H2 locs2 ls (by rw [← hws]; exact hP2) (by rw [← hws]; exact hD2) hS2 hl)
theorem sv_bast (C : sv_C X l cc nL own rm g) {a N : Nat} {f : Nat → Int32} {i x : Int32} (q0 : Nat) (ha : ws[q0]? = some (a, .inl (g.2.1 1, N, .inl f))) (hin0 : vp_in i N) (ws' : va_W) (hws : ws.set q0 (a, .inl (g.2.1 1, N, .inl (upd f i.toNatClampNeg (vp_nar .byte x)))) = ws') (hd : decode cc pc = .ok (.bastore, 1)) (z : sv_V X nL k n ws' (pc + 1) lv st) : sv_V X nL k n ws pc lv (.int x :: .int i :: .ref a :: st) := by
  obtain ⟨⟨p, l0, e, R⟩, ⟨s, m, args, below⟩, ⟨meth, c, Q⟩, g0, A⟩ := X
  obtain ⟨rfl, rfl, rfl, hx, hb, hml, hown, hts, hK, hA, hZ, hin⟩ := C
  intro H locs ls hP hD hS hl
  exact va_bast hx hb hK hP hD hS q0 1 ha rfl hin0 hd (fun H2 locs2 hP2 hD2 hS2 => z H2 locs2 ls (by rw [← hws]; exact hP2) (by rw [← hws]; exact hD2) hS2 hl)
theorem sv_zast (C : sv_C X l cc nL own rm g) {a N : Nat} {f : Nat → Int32} {i x : Int32} (q0 : Nat) (ha : ws[q0]? = some (a, .inl (g.2.1 2, N, .inl f))) (hin0 : vp_in i N) (ws' : va_W) (hws : ws.set q0 (a, .inl (g.2.1 2, N, .inl (upd f i.toNatClampNeg (vp_nar .boolean x)))) = ws') (hd : decode cc pc = .ok (.bastore, 1)) (z : sv_V X nL k n ws' (pc + 1) lv st) : sv_V X nL k n ws pc lv (.int x :: .int i :: .ref a :: st) := by
  obtain ⟨⟨p, l0, e, R⟩, ⟨s, m, args, below⟩, ⟨meth, c, Q⟩, g0, A⟩ := X
  obtain ⟨rfl, rfl, rfl, hx, hb, hml, hown, hts, hK, hA, hZ, hin⟩ := C
  intro H locs ls hP hD hS hl
  exact va_zast hx hb hK hP hD hS q0 2 ha rfl hin0 hd (fun H2 locs2 hP2 hD2 hS2 => z H2 locs2 ls (by rw [← hws]; exact hP2) (by rw [← hws]; exact hD2) hS2 hl)
theorem sv_lald (C : sv_C X l cc nL own rm g) {a N : Nat} {f : Nat → Int64} {i : Int32} (q0 : Nat) (ha : ws[q0]? = some (a, .inl (g.2.1 3, N, .inr (.inl f)))) (hin0 : vp_in i N) (hd : decode cc pc = .ok (.laload, 1)) (z : sv_V X nL k n ws (pc + 1) lv (.long (f i.toNatClampNeg) :: st)) : sv_V X nL k n ws pc lv (.int i :: .ref a :: st) := by
  obtain ⟨⟨p, l0, e, R⟩, ⟨s, m, args, below⟩, ⟨meth, c, Q⟩, g0, A⟩ := X
  obtain ⟨rfl, rfl, rfl, hx, hb, hml, hown, hts, hK, hA, hZ, hin⟩ := C
  intro H locs ls hP hD hS hl
  exact va_lald hx hb hK hP q0 3 ha rfl hin0 hd (z H locs ls hP hD hS hl)
theorem sv_last (C : sv_C X l cc nL own rm g) {a N : Nat} {f : Nat → Int64} {i : Int32} {x : Int64} (q0 : Nat) (ha : ws[q0]? = some (a, .inl (g.2.1 3, N, .inr (.inl f)))) (hin0 : vp_in i N) (ws' : va_W) (hws : ws.set q0 (a, .inl (g.2.1 3, N, .inr (.inl (vp_updL f i.toNatClampNeg x)))) = ws') (hd : decode cc pc = .ok (.lastore, 1)) (z : sv_V X nL k n ws' (pc + 1) lv st) : sv_V X nL k n ws pc lv (.long x :: .int i :: .ref a :: st) := by
  obtain ⟨⟨p, l0, e, R⟩, ⟨s, m, args, below⟩, ⟨meth, c, Q⟩, g0, A⟩ := X
  obtain ⟨rfl, rfl, rfl, hx, hb, hml, hown, hts, hK, hA, hZ, hin⟩ := C
  intro H locs ls hP hD hS hl
  exact va_last hx hb hK hP hD hS q0 3 ha rfl hin0 hd (fun H2 locs2 hP2 hD2 hS2 => z H2 locs2 ls (by rw [← hws]; exact hP2) (by rw [← hws]; exact hD2) hS2 hl)
theorem sv_aaldE (C : sv_C X l cc nL own rm g) {a N : Nat} {f : Nat → Option Nat} {i : Int32} (ha : (a, .inl (g.2.1 4, N, .inr (.inr (.inr (.inr f))))) ∈ ws) (hin0 : vp_in i N) (hd : decode cc pc = .ok (.aaload, 1)) (z : sv_V X nL k n ws (pc + 1) lv (va_rf (f i.toNatClampNeg) :: st)) : sv_V X nL k n ws pc lv (.int i :: .ref a :: st) := by
  obtain ⟨⟨p, l0, e, R⟩, ⟨s, m, args, below⟩, ⟨meth, c, Q⟩, g0, A⟩ := X
  obtain ⟨rfl, rfl, rfl, hx, hb, hml, hown, hts, hK, hA, hZ, hin⟩ := C
  intro H locs ls hP hD hS hl
  obtain ⟨q0, ha⟩ := List.getElem?_of_mem ha
  exact va_aldq hx hb hK hP q0 4 ha rfl hin0 hd (z H locs ls hP hD hS hl)
theorem sv_aaldS (C : sv_C X l cc nL own rm g) {a N : Nat} {f : Nat → Option Nat} {i : Int32} (ha : (a, .inl (g.2.1 5, N, .inr (.inr (.inr (.inr f))))) ∈ ws) (hin0 : vp_in i N) (hd : decode cc pc = .ok (.aaload, 1)) (z : sv_V X nL k n ws (pc + 1) lv (va_rf (f i.toNatClampNeg) :: st)) : sv_V X nL k n ws pc lv (.int i :: .ref a :: st) := by
  obtain ⟨⟨p, l0, e, R⟩, ⟨s, m, args, below⟩, ⟨meth, c, Q⟩, g0, A⟩ := X
  obtain ⟨rfl, rfl, rfl, hx, hb, hml, hown, hts, hK, hA, hZ, hin⟩ := C
  intro H locs ls hP hD hS hl
  obtain ⟨q0, ha⟩ := List.getElem?_of_mem ha
  exact va_aldq hx hb hK hP q0 5 ha rfl hin0 hd (z H locs ls hP hD hS hl)
theorem sv_alen (C : sv_C X l cc nL own rm g) {a : Nat} {t0 : Nat} {x : vp_A} {ty : FieldType} {cA : ClassId} {v : Int32} (ht : (sv_tys g)[t0]? = some (cA, ty)) (ha : (a, .inl (cA, x)) ∈ ws) (hv : Int32.ofNat x.1 = v) (hd : decode cc pc = .ok (.arraylength, 1)) (z : sv_V X nL k n ws (pc + 1) lv (.int v :: st)) : sv_V X nL k n ws pc lv (.ref a :: st) := by
  obtain ⟨⟨p, l0, e, R⟩, ⟨s, m, args, below⟩, ⟨meth, c, Q⟩, g0, A⟩ := X
  obtain ⟨rfl, rfl, rfl, hx, hb, hml, hown, hts, hK, hA, hZ, hin⟩ := C
  intro H locs ls hP hD hS hl
  obtain ⟨q0, ha⟩ := List.getElem?_of_mem ha
  exact va_alen hx hb hK hP q0 t0 ha ht hv hd (z H locs ls hP hD hS hl)
/-- the cells in another order, or fewer -/
theorem sv_perm (is : List Nat) (ws' : va_W) (hn : va_nd is = true) (h1 : is.map (fun i => ws[i]?) = ws'.map some) (z : sv_V X nL k n ws' pc lv st) : sv_V X nL k n ws pc lv st := by
  obtain ⟨⟨p, l0, e, R⟩, ⟨s, m, args, below⟩, ⟨meth, c, Q⟩, g0, A⟩ := X
  intro H locs ls hP hD hS hl
  refine z H locs ls ?_ (hD.sub is hn h1) hS hl
  intro j q hj
  have h2 : (is.map (fun i => ws[i]?))[j]? = some (some q) := by rw [h1, List.getElem?_map, hj]; rfl
  rw [List.getElem?_map] at h2
  cases hi : is[j]? with
  | none => rw [hi] at h2; cases h2
  | some i => rw [hi] at h2; exact hP i q (Option.some.inj h2)
theorem sv_sub (lv' : List (Option Value)) (hs : ∀ (i : Nat) (v : Value), lv'[i]? = some (some v) → lv[i]? = some (some v)) (z : sv_V X nL k n ws pc lv' st) : sv_V X nL k n ws pc lv st := by
  obtain ⟨⟨p, l0, e, R⟩, ⟨s, m, args, below⟩, ⟨meth, c, Q⟩, g0, A⟩ := X
  intro H locs ls hP hD hS hl
  exact z H locs ls hP hD hS (hl.sub hs)
theorem sv_widen {k2 n2 : Nat} (h1 : k ≤ k2) (h2 : n ≤ n2) (z : sv_V X nL k2 n2 ws pc lv st) : sv_V X nL k n ws pc lv st := by
  obtain ⟨⟨p, l0, e, R⟩, ⟨s, m, args, below⟩, ⟨meth, c, Q⟩, g0, A⟩ := X
  intro H locs ls hP hD hS hl
  exact W.widen h1 h2 (z H locs ls hP hD hS hl)
end SVR
