/-! CONTRACTS: WordChain, 1 -/
section SVW
variable {X : sv_X} {l : Launch} {cc : ByteArray} {nL k n pc : Nat} {own : String} {rm : Room} {g : sv_G} {ws : va_W} {lv : List (Option Value)} {st : List Value}
theorem sv_iincWN (C : sv_C X l cc nL own rm g) (j : Nat) {i : Nat} (a : Nat) (hx0 : lv[i]? = some (some (.int (nI a)))) (lv' : List (Option Value)) (hlv : lv.set i (some (.int (nI (a + j)))) = lv') (hd : decode cc pc = .ok (.iinc i (j : Int), 6)) (z : sv_V X nL k n ws (pc + 6) lv' st) : sv_V X nL k n ws pc lv st := by
  obtain ⟨⟨p, l0, e, R⟩, ⟨s, m, args, below⟩, ⟨meth, c, Q⟩, g0, A⟩ := X
  obtain ⟨rfl, rfl, rfl, hx, hb, hml, hown, hts, hK, hA, hZ, hin⟩ := C
  intro H locs ls hP hD hS hl
  obtain ⟨kq, hkq⟩ := List.getElem?_of_mem (sv_pairs_mem.mpr hx0)
  exact lv_iincW hx hb hd hl.has hkq (v := nI (a + j)) (by rw [show Int32.ofInt (j : Int) = nI j from rfl, nI_add]) (hl.lt hx0) rfl (fun ls2 hl2 => z H locs ls2 hP hD hS (by have h3 := hl.stored rfl hl2; rw [hlv] at h3; exact h3))
end SVW
/-- the byte of w behind s bits -/
def pu_byte (w : Int32) (s : Int32) : Int32 := (w.toUInt32 >>> (s.toUInt32 &&& Int32.toUInt32 31)).toInt32.toInt8.toInt32
theorem pu_by (z : Int32) : z.toInt8.toInt32.toInt8.toInt32 = z.toInt8.toInt32 := by
  rw [Int8.toInt8_toInt32]
def pu_bytes (w : Int32) (j : Nat) : Int32 := pu_byte w (if j = 0 then 24 else if j = 1 then 16 else if j = 2 then 8 else 0)
theorem pu_put4 (b : Nat → Int32) (n : Nat) (w : Int32) : ∀ b2, b2 = upd (upd (upd (upd b n (vp_nar .byte (pu_byte w 24))) (n + 1) (vp_nar .byte (pu_byte w 16))) (n + 2) (vp_nar .byte (pu_byte w 8))) (n + 3) (vp_nar .byte (pu_byte w 0)) →
    (∀ i, i < n → b2 i = b i) ∧ (∀ j, j < 4 → b2 (n + j) = pu_bytes w j) ∧ ((∀ i, (b i).toInt8.toInt32 = b i) → ∀ i, (b2 i).toInt8.toInt32 = b2 i) := by
  intro b2 e
  have p : ∀ s, vp_nar .byte (pu_byte w s) = pu_byte w s := fun s => pk_vb _
  rw [p, p, p, p] at e
  subst e
  refine ⟨fun i hi => ?_, fun j hj => ?_, fun h i => ?_⟩
  · rw [pk_un (by omega), pk_un (by omega), pk_un (by omega), pk_un (by omega)]
  · have hj4 : j = 0 ∨ j = 1 ∨ j = 2 ∨ j = 3 := by omega
    rcases hj4 with rfl | rfl | rfl | rfl
    · rw [pk_un (by omega), pk_un (by omega), pk_un (by omega), Nat.add_zero, pk_us]; rfl
    · rw [pk_un (by omega), pk_un (by omega), pk_us]; rfl
    · rw [pk_un (by omega), pk_us]; rfl
    · rw [pk_us]; rfl
  · have q : ∀ (f : Nat → Int32) (k : Nat) (s : Int32), (∀ i, (f i).toInt8.toInt32 = f i) → ∀ i, (upd f k (pu_byte w s) i).toInt8.toInt32 = upd f k (pu_byte w s) i := by
      intro f k s hf i
      by_cases hi : i = k
      · subst hi; rw [pk_us]; exact pu_by _
      · rw [pk_un hi]; exact hf i
    exact q _ _ _ (q _ _ _ (q _ _ _ (q _ _ _ h))) i
def rm_X_append : Room := { frames := 0, cells := 0, slots := 0, locals := 0 }
set_option maxHeartbeats 4000000 in
set_option maxRecDepth 100000 in
theorem c_X_append (l : Launch) (g : sv_G) (rest : va_W) (ad : Nat → Nat) (inl wd : Nat) (b : Nat → Int32) (w : Int32) (h : inl + 4 ≤ 8192) : sv_Mv l y_X_append b_X_append 3 none rm_X_append g [.ref (ad 0), .int w] ((ad 0, .inr (6, [.ref (ad 1), .int (nI inl), .ref (ad 2), .ref (ad 4), .ref (ad 6), .ref (ad 10), .int (nI wd)])) :: (ad 1, .inl (g.2.1 1, 8192, .inl b)) :: rest) (fun w9 => ∃ b2 : Nat → Int32, w9 = ((ad 0, .inr (6, [.ref (ad 1), .int (nI (inl + 4)), .ref (ad 2), .ref (ad 4), .ref (ad 6), .ref (ad 10), .int (nI wd)])) :: (ad 1, .inl (g.2.1 1, 8192, .inl b2)) :: rest) ∧ (∀ i, i < inl → b2 i = b i) ∧ (∀ j, j < 4 → b2 (inl + j) = pu_bytes w j) ∧ ((∀ i, (b i).toInt8.toInt32 = b i) → ∀ i, (b2 i).toInt8.toInt32 = b2 i)) := by
  refine sv_enter_v (by decide) rfl rfl (Nat.le_of_ble_eq_true rfl) (fun X C hI hr => ?_)
  refine sv_lvE (lv' := [some _, some _, none]) rfl ?_
  refine sv_bipush C (v := 24) (by decide) d_X_append_0 ?_
  refine sv_istore_n C rfl (by decide) [some _, some _, some _] rfl d_X_append_2 ?_
  refine sv_iload_n C rfl rfl d_X_append_3 ?_
  refine sv_ifZ_lt C 36 (by decide) d_X_append_4 (fun c4 => ?_) (fun c4 => ?_)
  · skip
    exact absurd c4 (by decide)
  · skip
    refine sv_aload_n C rfl rfl d_X_append_7 ?_
    refine sv_get C fg_X_9 0 rfl rfl d_X_append_8 ?_
    refine sv_aload_n C rfl rfl d_X_append_11 ?_
    refine sv_get C fg_X_13 0 rfl rfl d_X_append_12 ?_
    refine sv_iload_n C rfl rfl d_X_append_15 ?_
    refine sv_iload_n C rfl rfl d_X_append_16 ?_
    refine sv_iushr C rfl d_X_append_17 ?_
    refine sv_i2b C d_X_append_18 ?_
    refine sv_bastN C _ 1 rfl (by omega) (by decide) (_ :: _ :: _) rfl d_X_append_19 ?_
    refine sv_aload_n C rfl rfl d_X_append_20 ?_
    refine sv_dup C rfl d_X_append_21 ?_
    refine sv_get C fg_X_13 0 rfl rfl d_X_append_22 ?_
    refine sv_iconst C (v := 1) (by decide) d_X_append_25 ?_
    refine sv_iaddN C _ 1  d_X_append_26 ?_
    refine sv_put C fp_X_13 0 rfl rfl rfl (Nat.le_of_ble_eq_true rfl) ((_, .inr (_, [_, _, _, _, _, _, _])) :: _ :: _) rfl d_X_append_27 ?_
    refine sv_iinc C (v := 16) rfl (by decide) [some _, some _, some _] rfl d_X_append_30 ?_
    refine sv_goto C 3 (by decide) d_X_append_33 ?_
    refine sv_iload_n C rfl rfl d_X_append_3 ?_
    refine sv_ifZ_lt C 36 (by decide) d_X_append_4 (fun c4 => ?_) (fun c4 => ?_)
    · skip
      exact absurd c4 (by decide)
    · skip
      refine sv_aload_n C rfl rfl d_X_append_7 ?_
      refine sv_get C fg_X_9 0 rfl rfl d_X_append_8 ?_
      refine sv_aload_n C rfl rfl d_X_append_11 ?_
      refine sv_get C fg_X_13 0 rfl rfl d_X_append_12 ?_
      refine sv_iload_n C rfl rfl d_X_append_15 ?_
      refine sv_iload_n C rfl rfl d_X_append_16 ?_
      refine sv_iushr C rfl d_X_append_17 ?_
      refine sv_i2b C d_X_append_18 ?_
      refine sv_bastN C _ 1 rfl (by omega) (by decide) (_ :: _ :: _) rfl d_X_append_19 ?_
      refine sv_aload_n C rfl rfl d_X_append_20 ?_
      refine sv_dup C rfl d_X_append_21 ?_
      refine sv_get C fg_X_13 0 rfl rfl d_X_append_22 ?_
      refine sv_iconst C (v := 1) (by decide) d_X_append_25 ?_
      refine sv_iaddN C _ 1  d_X_append_26 ?_
      refine sv_put C fp_X_13 0 rfl rfl rfl (Nat.le_of_ble_eq_true rfl) ((_, .inr (_, [_, _, _, _, _, _, _])) :: _ :: _) rfl d_X_append_27 ?_
      refine sv_iinc C (v := 8) rfl (by decide) [some _, some _, some _] rfl d_X_append_30 ?_
      refine sv_goto C 3 (by decide) d_X_append_33 ?_
      refine sv_iload_n C rfl rfl d_X_append_3 ?_
      refine sv_ifZ_lt C 36 (by decide) d_X_append_4 (fun c4 => ?_) (fun c4 => ?_)
      · skip
        exact absurd c4 (by decide)
      · skip
        refine sv_aload_n C rfl rfl d_X_append_7 ?_
        refine sv_get C fg_X_9 0 rfl rfl d_X_append_8 ?_
        refine sv_aload_n C rfl rfl d_X_append_11 ?_
        refine sv_get C fg_X_13 0 rfl rfl d_X_append_12 ?_
        refine sv_iload_n C rfl rfl d_X_append_15 ?_
        refine sv_iload_n C rfl rfl d_X_append_16 ?_
        refine sv_iushr C rfl d_X_append_17 ?_
        refine sv_i2b C d_X_append_18 ?_
        refine sv_bastN C _ 1 rfl (by omega) (by decide) (_ :: _ :: _) rfl d_X_append_19 ?_
        refine sv_aload_n C rfl rfl d_X_append_20 ?_
        refine sv_dup C rfl d_X_append_21 ?_
        refine sv_get C fg_X_13 0 rfl rfl d_X_append_22 ?_
        refine sv_iconst C (v := 1) (by decide) d_X_append_25 ?_
        refine sv_iaddN C _ 1  d_X_append_26 ?_
        refine sv_put C fp_X_13 0 rfl rfl rfl (Nat.le_of_ble_eq_true rfl) ((_, .inr (_, [_, _, _, _, _, _, _])) :: _ :: _) rfl d_X_append_27 ?_
        refine sv_iinc C (v := 0) rfl (by decide) [some _, some _, some _] rfl d_X_append_30 ?_
        refine sv_goto C 3 (by decide) d_X_append_33 ?_
        refine sv_iload_n C rfl rfl d_X_append_3 ?_
        refine sv_ifZ_lt C 36 (by decide) d_X_append_4 (fun c4 => ?_) (fun c4 => ?_)
        · skip
          exact absurd c4 (by decide)
        · skip
          refine sv_aload_n C rfl rfl d_X_append_7 ?_
          refine sv_get C fg_X_9 0 rfl rfl d_X_append_8 ?_
          refine sv_aload_n C rfl rfl d_X_append_11 ?_
          refine sv_get C fg_X_13 0 rfl rfl d_X_append_12 ?_
          refine sv_iload_n C rfl rfl d_X_append_15 ?_
          refine sv_iload_n C rfl rfl d_X_append_16 ?_
          refine sv_iushr C rfl d_X_append_17 ?_
          refine sv_i2b C d_X_append_18 ?_
          refine sv_bastN C _ 1 rfl (by omega) (by decide) (_ :: _ :: _) rfl d_X_append_19 ?_
          refine sv_aload_n C rfl rfl d_X_append_20 ?_
          refine sv_dup C rfl d_X_append_21 ?_
          refine sv_get C fg_X_13 0 rfl rfl d_X_append_22 ?_
          refine sv_iconst C (v := 1) (by decide) d_X_append_25 ?_
          refine sv_iaddN C _ 1  d_X_append_26 ?_
          refine sv_put C fp_X_13 0 rfl rfl rfl (Nat.le_of_ble_eq_true rfl) ((_, .inr (_, [_, _, _, _, _, _, _])) :: _ :: _) rfl d_X_append_27 ?_
          refine sv_iinc C (v := (-8)) rfl (by decide) [some _, some _, some _] rfl d_X_append_30 ?_
          refine sv_goto C 3 (by decide) d_X_append_33 ?_
          refine sv_iload_n C rfl rfl d_X_append_3 ?_
          refine sv_ifZ_lt C 36 (by decide) d_X_append_4 (fun c4 => ?_) (fun c4 => ?_)
          · skip
            exact hr _ _ _ d_X_append_36 ⟨_, rfl, pu_put4 b inl w _ rfl⟩
          · skip
            exact absurd c4 (by decide)

/-- the bytes of a feed -/
def pu_feed (a b c d e : Int32) (j : Nat) : Int32 := if j < 4 then pu_bytes a j else if j < 8 then pu_bytes b (j - 4) else if j < 12 then pu_bytes c (j - 8) else if j < 16 then pu_bytes d (j - 12) else pu_bytes e (j - 16)
def rm_X_feed : Room := { frames := 1, cells := 0, slots := 0, locals := 80 }
set_option maxHeartbeats 4000000 in
set_option maxRecDepth 100000 in
theorem c_X_feed (l : Launch) (g : sv_G) (rest : va_W) (ad : Nat → Nat) (inl wd : Nat) (b0 : Nat → Int32) (p0 p1 p2 p3 p4 : Int32) (h : inl + 20 ≤ 8192) : sv_Mi l y_X_feed b_X_feed 6 (some (.int)) rm_X_feed g [.ref (ad 0), .int p0, .int p1, .int p2, .int p3, .int p4] ((ad 0, .inr (6, [.ref (ad 1), .int (nI inl), .ref (ad 2), .ref (ad 4), .ref (ad 6), .ref (ad 10), .int (nI wd)])) :: (ad 1, .inl (g.2.1 1, 8192, .inl b0)) :: rest) (fun r w9 => r = nI (inl + 20) ∧ ∃ b2 : Nat → Int32, w9 = ((ad 0, .inr (6, [.ref (ad 1), .int (nI (inl + 20)), .ref (ad 2), .ref (ad 4), .ref (ad 6), .ref (ad 10), .int (nI wd)])) :: (ad 1, .inl (g.2.1 1, 8192, .inl b2)) :: rest) ∧ (∀ i, i < inl → b2 i = b0 i) ∧ (∀ j, j < 20 → b2 (inl + j) = pu_feed p0 p1 p2 p3 p4 j) ∧ ((∀ i, (b0 i).toInt8.toInt32 = b0 i) → ∀ i, (b2 i).toInt8.toInt32 = b2 i)) := by
  refine sv_enter_i (by decide) rfl rfl (Nat.le_of_ble_eq_true rfl) (fun X C hI hr => ?_)
  refine sv_lvE (lv' := [some _, some _, some _, some _, some _, some _]) rfl ?_
  refine sv_aload_n C rfl rfl d_X_feed_0 ?_
  refine sv_get C fg_X_13 0 rfl rfl d_X_feed_1 ?_
  refine sv_bipush C (v := 20) (by decide) d_X_feed_4 ?_
  refine sv_iaddN C _ 20  d_X_feed_6 ?_
  refine sv_sipush C (v := 8192) (by decide) d_X_feed_7 ?_
  refine sv_icmpN_le C _ 8192 (by omega) (by omega) 23 (by decide) d_X_feed_10 (fun c10 => ?_) (fun c10 => ?_)
  · skip
    refine sv_aload_n C rfl rfl d_X_feed_23 ?_
    refine sv_iload_n C rfl rfl d_X_feed_24 ?_
    refine sv_callVv C (c_X_append l g rest ad inl wd b0 _ (by omega)) lk_X_57 List.mem_cons_self rfl d_X_feed_25 (by decide) (Nat.le_of_ble_eq_true rfl) (by decide) (fun w hw => ?_)
    obtain ⟨b1, rfl, u0, y0, z0⟩ := hw
    refine sv_aload_n C rfl rfl d_X_feed_28 ?_
    refine sv_iload_n C rfl rfl d_X_feed_29 ?_
    refine sv_callVv C (c_X_append l g rest ad (inl + 4) wd b1 _ (by omega)) lk_X_57 List.mem_cons_self rfl d_X_feed_30 (by decide) (Nat.le_of_ble_eq_true rfl) (by decide) (fun w hw => ?_)
    obtain ⟨b2, rfl, u1, y1, z1⟩ := hw
    refine sv_aload_n C rfl rfl d_X_feed_33 ?_
    refine sv_iload_n C rfl rfl d_X_feed_34 ?_
    refine sv_callVv C (c_X_append l g rest ad (inl + 8) wd b2 _ (by omega)) lk_X_57 List.mem_cons_self rfl d_X_feed_35 (by decide) (Nat.le_of_ble_eq_true rfl) (by decide) (fun w hw => ?_)
    obtain ⟨b3, rfl, u2, y2, z2⟩ := hw
    refine sv_aload_n C rfl rfl d_X_feed_38 ?_
    refine sv_iload C rfl d_X_feed_39 ?_
    refine sv_callVv C (c_X_append l g rest ad (inl + 12) wd b3 _ (by omega)) lk_X_57 List.mem_cons_self rfl d_X_feed_41 (by decide) (Nat.le_of_ble_eq_true rfl) (by decide) (fun w hw => ?_)
    obtain ⟨b4, rfl, u3, y3, z3⟩ := hw
    refine sv_aload_n C rfl rfl d_X_feed_44 ?_
    refine sv_iload C rfl d_X_feed_45 ?_
    refine sv_callVv C (c_X_append l g rest ad (inl + 16) wd b4 _ (by omega)) lk_X_57 List.mem_cons_self rfl d_X_feed_47 (by decide) (Nat.le_of_ble_eq_true rfl) (by decide) (fun w hw => ?_)
    obtain ⟨b5, rfl, u4, y4, z4⟩ := hw
    refine sv_aload_n C rfl rfl d_X_feed_50 ?_
    refine sv_get C fg_X_13 0 rfl rfl d_X_feed_51 ?_
    refine hr _ _ _ _ d_X_feed_54 rfl ⟨rfl, b5, rfl, fun i hi => ?_, fun j hj => ?_, fun hy => z4 (z3 (z2 (z1 (z0 hy))))⟩
    · rw [u4 i (by omega), u3 i (by omega), u2 i (by omega), u1 i (by omega), u0 i hi]
    · unfold pu_feed
      rcases Nat.lt_or_ge j 4 with h1 | h1
      · rw [if_pos h1, u4 _ (by omega), u3 _ (by omega), u2 _ (by omega), u1 _ (by omega), y0 j h1]
      · rw [if_neg (by omega)]
        rcases Nat.lt_or_ge j 8 with h2 | h2
        · rw [if_pos h2, u4 _ (by omega), u3 _ (by omega), u2 _ (by omega), show inl + j = inl + 4 + (j - 4) by omega, y1 (j - 4) (by omega)]
        · rw [if_neg (by omega)]
          rcases Nat.lt_or_ge j 12 with h3 | h3
          · rw [if_pos h3, u4 _ (by omega), u3 _ (by omega), show inl + j = inl + 8 + (j - 8) by omega, y2 (j - 8) (by omega)]
          · rw [if_neg (by omega)]
            rcases Nat.lt_or_ge j 16 with h4 | h4
            · rw [if_pos h4, u4 _ (by omega), show inl + j = inl + 12 + (j - 12) by omega, y3 (j - 12) (by omega)]
            · rw [if_neg (by omega), show inl + j = inl + 16 + (j - 16) by omega, y4 (j - 16) (by omega)]
  · skip
    exact absurd c10 (by omega)
