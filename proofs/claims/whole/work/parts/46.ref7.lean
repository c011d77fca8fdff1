/-! CONTRACTS: the reference, 7: what answers -/
section SVR
variable {X : sv_X} {nL k n pc : Nat} {ws : va_W} {lv : List (Option Value)} {st : List Value} {l : Launch} {cc : ByteArray} {own : String} {rm : Room} {g : sv_G}
theorem sv_ldcIw (C : sv_C X l cc nL own rm g) {ix : Nat} {v : Int32} (hc : Cond.constant own ix v ∈ sv_tbl) (hd : decode cc pc = .ok (.ldc_w ix, 3)) (z : sv_V X nL k n ws (pc + 3) lv (.int v :: st)) : sv_V X nL k n ws pc lv st := by
  obtain ⟨⟨p, l0, e, R⟩, ⟨s, m, args, below⟩, ⟨meth, c, Q⟩, g0, A⟩ := X
  obtain ⟨rfl, rfl, rfl, hx, hb, hml, hown, hts, hK, hA, hZ, hin⟩ := C
  intro H locs ls hP hD hS hl
  exact lv_ldcw hx hb hown (hts _ hc) hd (z H locs ls hP hD hS hl)
end SVR
def pf_F (b b2 : Nat → Int32) (inl j : Nat) (p0 p1 p2 p3 p4 : Int32) : Prop := (∀ i, i < inl → b2 i = b i) ∧ (∀ q, q < j → b2 (inl + q) = pu_feed p0 p1 p2 p3 p4 q) ∧ ((∀ i, (b i).toInt8.toInt32 = b i) → ∀ i, (b2 i).toInt8.toInt32 = b2 i)
theorem pf_F.put {b b2 : Nat → Int32} {inl j : Nat} {p0 p1 p2 p3 p4 z : Int32} (h : pf_F b b2 inl j p0 p1 p2 p3 p4) (hz : z.toInt8.toInt32 = pu_feed p0 p1 p2 p3 p4 j) : pf_F b (upd b2 (inl + j) (vp_nar .byte z.toInt8.toInt32)) inl (j + 1) p0 p1 p2 p3 p4 := by
  obtain ⟨h1, h2, h3⟩ := h
  rw [show vp_nar .byte z.toInt8.toInt32 = z.toInt8.toInt32 from pk_vb _]
  refine ⟨fun i hi => by rw [pk_un (by omega), h1 i hi], fun q hq => ?_, fun hb i => ?_⟩
  · rcases Nat.lt_or_ge q j with h | h
    · rw [pk_un (by omega), h2 q h]
    · have e : q = j := by omega
      subst e
      rw [pk_us, hz]
  · by_cases hi : i = inl + j
    · subst hi; rw [pk_us]; exact pu_by _
    · rw [pk_un hi]; exact h3 hb i
theorem pf_fd0 {p0 p1 p2 p3 p4 : Int32} {j : Nat} (h : j < 4) : pu_byte p0 (nI (24 - j % 4 * 8)) = pu_feed p0 p1 p2 p3 p4 j := by
  have : j = 0 ∨ j = 1 ∨ j = 2 ∨ j = 3 := by omega
  rcases this with rfl | rfl | rfl | rfl <;> rfl
theorem pf_fd1 {p0 p1 p2 p3 p4 : Int32} {j : Nat} (h0 : 4 ≤ j) (h : j < 8) : pu_byte p1 (nI (24 - j % 4 * 8)) = pu_feed p0 p1 p2 p3 p4 j := by
  have : j = 4 ∨ j = 5 ∨ j = 6 ∨ j = 7 := by omega
  rcases this with rfl | rfl | rfl | rfl <;> rfl
theorem pf_fd2 {p0 p1 p2 p3 p4 : Int32} {j : Nat} (h0 : 8 ≤ j) (h : j < 12) : pu_byte p2 (nI (24 - j % 4 * 8)) = pu_feed p0 p1 p2 p3 p4 j := by
  have : j = 8 ∨ j = 9 ∨ j = 10 ∨ j = 11 := by omega
  rcases this with rfl | rfl | rfl | rfl <;> rfl
theorem pf_fd3 {p0 p1 p2 p3 p4 : Int32} {j : Nat} (h0 : 12 ≤ j) (h : j < 16) : pu_byte p3 (nI (24 - j % 4 * 8)) = pu_feed p0 p1 p2 p3 p4 j := by
  have : j = 12 ∨ j = 13 ∨ j = 14 ∨ j = 15 := by omega
  rcases this with rfl | rfl | rfl | rfl <;> rfl
theorem pf_fd4 {p0 p1 p2 p3 p4 : Int32} {j : Nat} (h0 : 16 ≤ j) (h : j < 20) : pu_byte p4 (nI (24 - j % 4 * 8)) = pu_feed p0 p1 p2 p3 p4 j := by
  have : j = 16 ∨ j = 17 ∨ j = 18 ∨ j = 19 := by omega
  rcases this with rfl | rfl | rfl | rfl <;> rfl
def rm_M_thrown : Room := { frames := 0, cells := 0, slots := 0, locals := 0 }
set_option maxHeartbeats 4000000 in
set_option maxRecDepth 100000 in
theorem c_M_thrown (l : Launch) (g : sv_G) (rest : va_W) (ad : Nat → Nat) (inl wd n : Nat) (th wm : Int32) (b tf wf ch po st : Nat → Int32) (T : List (Nat × List Int32)) : sv_Mi l y_M_thrown b_M_thrown 1 (some (.int)) rm_M_thrown g [.ref (ad 0)] ((ad 0, .inr (7, [.ref (ad 7), .ref (ad 8), .ref (ad 9), .ref (ad 10), .ref (ad 1), .int (nI inl), .int th, .ref (ad 2), .int (nI n), .ref (ad 3), .ref (ad 4), .ref (ad 5), .int (nI T.length), .int (nI wd), .ref (ad 6), .int wm])) :: (ad 1, .inl (g.2.1 1, 8192, .inl b)) :: (ad 2, .inl (g.2.1 0, 8192, .inl tf)) :: (ad 3, .inl (g.2.1 0, 8704, .inl ch)) :: (ad 4, .inl (g.2.1 0, 8193, .inl st)) :: (ad 5, .inl (g.2.1 0, 8192, .inl po)) :: (ad 6, .inl (g.2.1 0, 260, .inl wf)) :: rest) (fun r w => r = th ∧ w = ((ad 0, .inr (7, [.ref (ad 7), .ref (ad 8), .ref (ad 9), .ref (ad 10), .ref (ad 1), .int (nI inl), .int th, .ref (ad 2), .int (nI n), .ref (ad 3), .ref (ad 4), .ref (ad 5), .int (nI T.length), .int (nI wd), .ref (ad 6), .int wm])) :: (ad 1, .inl (g.2.1 1, 8192, .inl b)) :: (ad 2, .inl (g.2.1 0, 8192, .inl tf)) :: (ad 3, .inl (g.2.1 0, 8704, .inl ch)) :: (ad 4, .inl (g.2.1 0, 8193, .inl st)) :: (ad 5, .inl (g.2.1 0, 8192, .inl po)) :: (ad 6, .inl (g.2.1 0, 260, .inl wf)) :: rest)) := by
  refine sv_enter_i (by decide) rfl rfl (Nat.le_of_ble_eq_true rfl) (fun X C hI hr => ?_)
  refine sv_lvE (lv' := [some _]) rfl ?_
  refine sv_aload_n C rfl rfl d_M_thrown_0 ?_
  refine sv_get C fg_M_210 0 rfl rfl d_M_thrown_1 ?_
  exact hr _ _ _ _ d_M_thrown_4 rfl ⟨rfl, rfl⟩

def rm_M_feed : Room := { frames := 0, cells := 0, slots := 0, locals := 0 }
set_option maxHeartbeats 4000000 in
set_option maxRecDepth 100000 in
theorem c_M_feed_no (l : Launch) (g : sv_G) (rest : va_W) (ad : Nat → Nat) (inl wd n : Nat) (th wm : Int32) (b tf wf ch po st : Nat → Int32) (T : List (Nat × List Int32)) (p0 p1 p2 p3 p4 : Int32) (h : 8192 < inl + 20) (hi : inl ≤ 8192) : sv_Mi l y_M_feed b_M_feed 8 (some (.int)) rm_M_feed g [.ref (ad 0), .int p0, .int p1, .int p2, .int p3, .int p4] ((ad 0, .inr (7, [.ref (ad 7), .ref (ad 8), .ref (ad 9), .ref (ad 10), .ref (ad 1), .int (nI inl), .int th, .ref (ad 2), .int (nI n), .ref (ad 3), .ref (ad 4), .ref (ad 5), .int (nI T.length), .int (nI wd), .ref (ad 6), .int wm])) :: (ad 1, .inl (g.2.1 1, 8192, .inl b)) :: (ad 2, .inl (g.2.1 0, 8192, .inl tf)) :: (ad 3, .inl (g.2.1 0, 8704, .inl ch)) :: (ad 4, .inl (g.2.1 0, 8193, .inl st)) :: (ad 5, .inl (g.2.1 0, 8192, .inl po)) :: (ad 6, .inl (g.2.1 0, 260, .inl wf)) :: rest) (fun r w => r = 0 ∧ w = ((ad 0, .inr (7, [.ref (ad 7), .ref (ad 8), .ref (ad 9), .ref (ad 10), .ref (ad 1), .int (nI inl), .int 1, .ref (ad 2), .int (nI n), .ref (ad 3), .ref (ad 4), .ref (ad 5), .int (nI T.length), .int (nI wd), .ref (ad 6), .int wm])) :: (ad 1, .inl (g.2.1 1, 8192, .inl b)) :: (ad 2, .inl (g.2.1 0, 8192, .inl tf)) :: (ad 3, .inl (g.2.1 0, 8704, .inl ch)) :: (ad 4, .inl (g.2.1 0, 8193, .inl st)) :: (ad 5, .inl (g.2.1 0, 8192, .inl po)) :: (ad 6, .inl (g.2.1 0, 260, .inl wf)) :: rest)) := by
  refine sv_enter_i (by decide) rfl rfl (Nat.le_of_ble_eq_true rfl) (fun X C hI hr => ?_)
  refine sv_lvE (lv' := [some _, some _, some _, some _, some _, some _, none, none]) rfl ?_
  refine sv_aload_n C rfl rfl d_M_feed_0 ?_
  refine sv_aload_n C rfl rfl d_M_feed_1 ?_
  refine sv_get C fg_M_326 0 rfl rfl d_M_feed_2 ?_
  refine sv_bipush C (v := 20) (by decide) d_M_feed_5 ?_
  refine sv_iaddN C _ 20  d_M_feed_7 ?_
  refine sv_sipush C (v := 8192) (by decide) d_M_feed_8 ?_
  refine sv_icmpN_le C _ 8192 (by omega) (by omega) 18 (by decide) d_M_feed_11 (fun c11 => ?_) (fun c11 => ?_)
  · skip
    exact absurd c11 (by omega)
  · skip
    refine sv_iconst C (v := 1) (by decide) d_M_feed_14 ?_
    refine sv_goto C 19 (by decide) d_M_feed_15 ?_
    refine sv_put C fp_M_210 0 rfl rfl rfl (Nat.le_of_ble_eq_true rfl) ((_, .inr (_, [_, _, _, _, _, _, _, _, _, _, _, _, _, _, _, _])) :: _ :: _ :: _ :: _ :: _ :: _ :: _) rfl d_M_feed_19 ?_
    refine sv_aload_n C rfl rfl d_M_feed_22 ?_
    refine sv_get C fg_M_210 0 rfl rfl d_M_feed_23 ?_
    refine sv_ifZ_eq C 31 (by decide) d_M_feed_26 (fun c26 => ?_) (fun c26 => ?_)
    · skip
      exact absurd c26 (by decide)
    · skip
      refine sv_iconst C (v := 0) (by decide) d_M_feed_29 ?_
      exact hr _ _ _ _ d_M_feed_30 rfl ⟨rfl, rfl⟩

set_option maxHeartbeats 4000000 in
set_option maxRecDepth 100000 in
theorem c_M_feed (l : Launch) (g : sv_G) (rest : va_W) (ad : Nat → Nat) (inl wd n : Nat) (th wm : Int32) (b tf wf ch po st : Nat → Int32) (T : List (Nat × List Int32)) (p0 p1 p2 p3 p4 : Int32) (h : inl + 20 ≤ 8192) : sv_Mi l y_M_feed b_M_feed 8 (some (.int)) rm_M_feed g [.ref (ad 0), .int p0, .int p1, .int p2, .int p3, .int p4] ((ad 0, .inr (7, [.ref (ad 7), .ref (ad 8), .ref (ad 9), .ref (ad 10), .ref (ad 1), .int (nI inl), .int th, .ref (ad 2), .int (nI n), .ref (ad 3), .ref (ad 4), .ref (ad 5), .int (nI T.length), .int (nI wd), .ref (ad 6), .int wm])) :: (ad 1, .inl (g.2.1 1, 8192, .inl b)) :: (ad 2, .inl (g.2.1 0, 8192, .inl tf)) :: (ad 3, .inl (g.2.1 0, 8704, .inl ch)) :: (ad 4, .inl (g.2.1 0, 8193, .inl st)) :: (ad 5, .inl (g.2.1 0, 8192, .inl po)) :: (ad 6, .inl (g.2.1 0, 260, .inl wf)) :: rest) (fun r w => r = nI (inl + 20) ∧ ∃ b2 : Nat → Int32, w = ((ad 0, .inr (7, [.ref (ad 7), .ref (ad 8), .ref (ad 9), .ref (ad 10), .ref (ad 1), .int (nI (inl + 20)), .int 0, .ref (ad 2), .int (nI n), .ref (ad 3), .ref (ad 4), .ref (ad 5), .int (nI T.length), .int (nI wd), .ref (ad 6), .int wm])) :: (ad 1, .inl (g.2.1 1, 8192, .inl b2)) :: (ad 2, .inl (g.2.1 0, 8192, .inl tf)) :: (ad 3, .inl (g.2.1 0, 8704, .inl ch)) :: (ad 4, .inl (g.2.1 0, 8193, .inl st)) :: (ad 5, .inl (g.2.1 0, 8192, .inl po)) :: (ad 6, .inl (g.2.1 0, 260, .inl wf)) :: rest) ∧ pf_F b b2 inl 20 p0 p1 p2 p3 p4) := by
  refine sv_enter_i (by decide) rfl rfl (Nat.le_of_ble_eq_true rfl) (fun X C hI hr => ?_)
  refine sv_lvE (lv' := [some _, some _, some _, some _, some _, some _, none, none]) rfl ?_
  have L34 : ∀ (k : Nat) (j : Nat) (b2 : Nat → Int32) (o7 : Option Value), (j ≤ 20 ∧ 20 ≤ j + k ∧ pf_F b b2 inl j p0 p1 p2 p3 p4) → sv_V X 8 0 0 ((ad 0, .inr (7, [.ref (ad 7), .ref (ad 8), .ref (ad 9), .ref (ad 10), .ref (ad 1), .int (nI inl), .int 0, .ref (ad 2), .int (nI n), .ref (ad 3), .ref (ad 4), .ref (ad 5), .int (nI T.length), .int (nI wd), .ref (ad 6), .int wm])) :: (ad 1, .inl (g.2.1 1, 8192, .inl b2)) :: (ad 2, .inl (g.2.1 0, 8192, .inl tf)) :: (ad 3, .inl (g.2.1 0, 8704, .inl ch)) :: (ad 4, .inl (g.2.1 0, 8193, .inl st)) :: (ad 5, .inl (g.2.1 0, 8192, .inl po)) :: (ad 6, .inl (g.2.1 0, 260, .inl wf)) :: rest) 34 [some (.ref (ad 0)), some (.int p0), some (.int p1), some (.int p2), some (.int p3), some (.int p4), some (.int (nI j)), o7] [] := by
    intro k
    induction k with
    | zero =>
      intro j b2 o7 hq
      obtain ⟨q1, q2, q3⟩ := hq
      refine sv_iload C rfl d_M_feed_34 ?_
      refine sv_bipush C (v := 20) (by decide) d_M_feed_36 ?_
      refine sv_icmpN_ge C _ 20 (by omega) (by omega) 121 (by decide) d_M_feed_38 (fun c38 => ?_) (fun c38 => ?_)
      · skip
        refine sv_aload_n C rfl rfl d_M_feed_121 ?_
        refine sv_dup C rfl d_M_feed_122 ?_
        refine sv_get C fg_M_326 0 rfl rfl d_M_feed_123 ?_
        refine sv_bipush C (v := 20) (by decide) d_M_feed_126 ?_
        refine sv_iaddN C _ 20  d_M_feed_128 ?_
        refine sv_put C fp_M_326 0 rfl rfl rfl (Nat.le_of_ble_eq_true rfl) ((_, .inr (_, [_, _, _, _, _, _, _, _, _, _, _, _, _, _, _, _])) :: _ :: _ :: _ :: _ :: _ :: _ :: _) rfl d_M_feed_129 ?_
        refine sv_aload_n C rfl rfl d_M_feed_132 ?_
        refine sv_get C fg_M_326 0 rfl rfl d_M_feed_133 ?_
        have ej : j = 20 := by omega
        subst ej
        exact hr _ _ _ _ d_M_feed_136 rfl ⟨rfl, b2, rfl, q3⟩
      · skip
        exact absurd c38 (by omega)
    | succ k ih =>
      intro j b2 o7 hq
      obtain ⟨q1, q2, q3⟩ := hq
      refine sv_iload C rfl d_M_feed_34 ?_
      refine sv_bipush C (v := 20) (by decide) d_M_feed_36 ?_
      refine sv_icmpN_ge C _ 20 (by omega) (by omega) 121 (by decide) d_M_feed_38 (fun c38 => ?_) (fun c38 => ?_)
      · skip
        refine sv_aload_n C rfl rfl d_M_feed_121 ?_
        refine sv_dup C rfl d_M_feed_122 ?_
        refine sv_get C fg_M_326 0 rfl rfl d_M_feed_123 ?_
        refine sv_bipush C (v := 20) (by decide) d_M_feed_126 ?_
        refine sv_iaddN C _ 20  d_M_feed_128 ?_
        refine sv_put C fp_M_326 0 rfl rfl rfl (Nat.le_of_ble_eq_true rfl) ((_, .inr (_, [_, _, _, _, _, _, _, _, _, _, _, _, _, _, _, _])) :: _ :: _ :: _ :: _ :: _ :: _ :: _) rfl d_M_feed_129 ?_
        refine sv_aload_n C rfl rfl d_M_feed_132 ?_
        refine sv_get C fg_M_326 0 rfl rfl d_M_feed_133 ?_
        have ej : j = 20 := by omega
        subst ej
        exact hr _ _ _ _ d_M_feed_136 rfl ⟨rfl, b2, rfl, q3⟩
      · skip
        refine sv_iload C rfl d_M_feed_41 ?_
        refine sv_iconst C (v := 4) (by decide) d_M_feed_43 ?_
        refine sv_icmpN_ge C _ 4 (by omega) (by omega) 51 (by decide) d_M_feed_44 (fun c44 => ?_) (fun c44 => ?_)
        · skip
          refine sv_iload C rfl d_M_feed_51 ?_
          refine sv_bipush C (v := 8) (by decide) d_M_feed_53 ?_
          refine sv_icmpN_ge C _ 8 (by omega) (by omega) 62 (by decide) d_M_feed_55 (fun c55 => ?_) (fun c55 => ?_)
          · skip
            refine sv_iload C rfl d_M_feed_62 ?_
            refine sv_bipush C (v := 12) (by decide) d_M_feed_64 ?_
            refine sv_icmpN_ge C _ 12 (by omega) (by omega) 73 (by decide) d_M_feed_66 (fun c66 => ?_) (fun c66 => ?_)
            · skip
              refine sv_iload C rfl d_M_feed_73 ?_
              refine sv_bipush C (v := 16) (by decide) d_M_feed_75 ?_
              refine sv_icmpN_ge C _ 16 (by omega) (by omega) 85 (by decide) d_M_feed_77 (fun c77 => ?_) (fun c77 => ?_)
              · skip
                refine sv_iload C rfl d_M_feed_85 ?_
                refine sv_istore C (by decide) [some _, some _, some _, some _, some _, some _, some _, some _] rfl d_M_feed_87 ?_
                refine sv_aload_n C rfl rfl d_M_feed_89 ?_
                refine sv_get C fg_M_190 0 rfl rfl d_M_feed_90 ?_
                refine sv_aload_n C rfl rfl d_M_feed_93 ?_
                refine sv_get C fg_M_326 0 rfl rfl d_M_feed_94 ?_
                refine sv_iload C rfl d_M_feed_97 ?_
                refine sv_iaddN C _ _  d_M_feed_99 ?_
                refine sv_iload C rfl d_M_feed_100 ?_
                refine sv_bipush C (v := 24) (by decide) d_M_feed_102 ?_
                refine sv_iload C rfl d_M_feed_104 ?_
                refine sv_iconst C (v := 4) (by decide) d_M_feed_106 ?_
                refine sv_iremN C _ 4 (by omega) (by decide) (by decide) d_M_feed_107 ?_
                refine sv_bipush C (v := 8) (by decide) d_M_feed_108 ?_
                refine sv_imulN C _ 8  d_M_feed_110 ?_
                refine sv_isubN C 24 _ (by omega) d_M_feed_111 ?_
                refine sv_iushr C rfl d_M_feed_112 ?_
                refine sv_i2b C d_M_feed_113 ?_
                refine sv_bastN C _ 1 rfl (by omega) (by decide) (_ :: _ :: _ :: _ :: _ :: _ :: _ :: _) rfl d_M_feed_114 ?_
                refine sv_iincN C 1 _ rfl [some _, some _, some _, some _, some _, some _, some _, some _] rfl d_M_feed_115 ?_
                refine sv_goto C 34 (by decide) d_M_feed_118 ?_
                exact ih (j + 1) _ _ ⟨by omega, by omega, q3.put (pf_fd4 (by omega) (by omega))⟩
              · skip
                refine sv_iload C rfl d_M_feed_80 ?_
                refine sv_goto C 87 (by decide) d_M_feed_82 ?_
                refine sv_istore C (by decide) [some _, some _, some _, some _, some _, some _, some _, some _] rfl d_M_feed_87 ?_
                refine sv_aload_n C rfl rfl d_M_feed_89 ?_
                refine sv_get C fg_M_190 0 rfl rfl d_M_feed_90 ?_
                refine sv_aload_n C rfl rfl d_M_feed_93 ?_
                refine sv_get C fg_M_326 0 rfl rfl d_M_feed_94 ?_
                refine sv_iload C rfl d_M_feed_97 ?_
                refine sv_iaddN C _ _  d_M_feed_99 ?_
                refine sv_iload C rfl d_M_feed_100 ?_
                refine sv_bipush C (v := 24) (by decide) d_M_feed_102 ?_
                refine sv_iload C rfl d_M_feed_104 ?_
                refine sv_iconst C (v := 4) (by decide) d_M_feed_106 ?_
                refine sv_iremN C _ 4 (by omega) (by decide) (by decide) d_M_feed_107 ?_
                refine sv_bipush C (v := 8) (by decide) d_M_feed_108 ?_
                refine sv_imulN C _ 8  d_M_feed_110 ?_
                refine sv_isubN C 24 _ (by omega) d_M_feed_111 ?_
                refine sv_iushr C rfl d_M_feed_112 ?_
                refine sv_i2b C d_M_feed_113 ?_
                refine sv_bastN C _ 1 rfl (by omega) (by decide) (_ :: _ :: _ :: _ :: _ :: _ :: _ :: _) rfl d_M_feed_114 ?_
                refine sv_iincN C 1 _ rfl [some _, some _, some _, some _, some _, some _, some _, some _] rfl d_M_feed_115 ?_
                refine sv_goto C 34 (by decide) d_M_feed_118 ?_
                exact ih (j + 1) _ _ ⟨by omega, by omega, q3.put (pf_fd3 (by omega) (by omega))⟩
            · skip
              refine sv_iload_n C rfl rfl d_M_feed_69 ?_
              refine sv_goto C 87 (by decide) d_M_feed_70 ?_
              refine sv_istore C (by decide) [some _, some _, some _, some _, some _, some _, some _, some _] rfl d_M_feed_87 ?_
              refine sv_aload_n C rfl rfl d_M_feed_89 ?_
              refine sv_get C fg_M_190 0 rfl rfl d_M_feed_90 ?_
              refine sv_aload_n C rfl rfl d_M_feed_93 ?_
              refine sv_get C fg_M_326 0 rfl rfl d_M_feed_94 ?_
              refine sv_iload C rfl d_M_feed_97 ?_
              refine sv_iaddN C _ _  d_M_feed_99 ?_
              refine sv_iload C rfl d_M_feed_100 ?_
              refine sv_bipush C (v := 24) (by decide) d_M_feed_102 ?_
              refine sv_iload C rfl d_M_feed_104 ?_
              refine sv_iconst C (v := 4) (by decide) d_M_feed_106 ?_
              refine sv_iremN C _ 4 (by omega) (by decide) (by decide) d_M_feed_107 ?_
              refine sv_bipush C (v := 8) (by decide) d_M_feed_108 ?_
              refine sv_imulN C _ 8  d_M_feed_110 ?_
              refine sv_isubN C 24 _ (by omega) d_M_feed_111 ?_
              refine sv_iushr C rfl d_M_feed_112 ?_
              refine sv_i2b C d_M_feed_113 ?_
              refine sv_bastN C _ 1 rfl (by omega) (by decide) (_ :: _ :: _ :: _ :: _ :: _ :: _ :: _) rfl d_M_feed_114 ?_
              refine sv_iincN C 1 _ rfl [some _, some _, some _, some _, some _, some _, some _, some _] rfl d_M_feed_115 ?_
              refine sv_goto C 34 (by decide) d_M_feed_118 ?_
              exact ih (j + 1) _ _ ⟨by omega, by omega, q3.put (pf_fd2 (by omega) (by omega))⟩
          · skip
            refine sv_iload_n C rfl rfl d_M_feed_58 ?_
            refine sv_goto C 87 (by decide) d_M_feed_59 ?_
            refine sv_istore C (by decide) [some _, some _, some _, some _, some _, some _, some _, some _] rfl d_M_feed_87 ?_
            refine sv_aload_n C rfl rfl d_M_feed_89 ?_
            refine sv_get C fg_M_190 0 rfl rfl d_M_feed_90 ?_
            refine sv_aload_n C rfl rfl d_M_feed_93 ?_
            refine sv_get C fg_M_326 0 rfl rfl d_M_feed_94 ?_
            refine sv_iload C rfl d_M_feed_97 ?_
            refine sv_iaddN C _ _  d_M_feed_99 ?_
            refine sv_iload C rfl d_M_feed_100 ?_
            refine sv_bipush C (v := 24) (by decide) d_M_feed_102 ?_
            refine sv_iload C rfl d_M_feed_104 ?_
            refine sv_iconst C (v := 4) (by decide) d_M_feed_106 ?_
            refine sv_iremN C _ 4 (by omega) (by decide) (by decide) d_M_feed_107 ?_
            refine sv_bipush C (v := 8) (by decide) d_M_feed_108 ?_
            refine sv_imulN C _ 8  d_M_feed_110 ?_
            refine sv_isubN C 24 _ (by omega) d_M_feed_111 ?_
            refine sv_iushr C rfl d_M_feed_112 ?_
            refine sv_i2b C d_M_feed_113 ?_
            refine sv_bastN C _ 1 rfl (by omega) (by decide) (_ :: _ :: _ :: _ :: _ :: _ :: _ :: _) rfl d_M_feed_114 ?_
            refine sv_iincN C 1 _ rfl [some _, some _, some _, some _, some _, some _, some _, some _] rfl d_M_feed_115 ?_
            refine sv_goto C 34 (by decide) d_M_feed_118 ?_
            exact ih (j + 1) _ _ ⟨by omega, by omega, q3.put (pf_fd1 (by omega) (by omega))⟩
        · skip
          refine sv_iload_n C rfl rfl d_M_feed_47 ?_
          refine sv_goto C 87 (by decide) d_M_feed_48 ?_
          refine sv_istore C (by decide) [some _, some _, some _, some _, some _, some _, some _, some _] rfl d_M_feed_87 ?_
          refine sv_aload_n C rfl rfl d_M_feed_89 ?_
          refine sv_get C fg_M_190 0 rfl rfl d_M_feed_90 ?_
          refine sv_aload_n C rfl rfl d_M_feed_93 ?_
          refine sv_get C fg_M_326 0 rfl rfl d_M_feed_94 ?_
          refine sv_iload C rfl d_M_feed_97 ?_
          refine sv_iaddN C _ _  d_M_feed_99 ?_
          refine sv_iload C rfl d_M_feed_100 ?_
          refine sv_bipush C (v := 24) (by decide) d_M_feed_102 ?_
          refine sv_iload C rfl d_M_feed_104 ?_
          refine sv_iconst C (v := 4) (by decide) d_M_feed_106 ?_
          refine sv_iremN C _ 4 (by omega) (by decide) (by decide) d_M_feed_107 ?_
          refine sv_bipush C (v := 8) (by decide) d_M_feed_108 ?_
          refine sv_imulN C _ 8  d_M_feed_110 ?_
          refine sv_isubN C 24 _ (by omega) d_M_feed_111 ?_
          refine sv_iushr C rfl d_M_feed_112 ?_
          refine sv_i2b C d_M_feed_113 ?_
          refine sv_bastN C _ 1 rfl (by omega) (by decide) (_ :: _ :: _ :: _ :: _ :: _ :: _ :: _) rfl d_M_feed_114 ?_
          refine sv_iincN C 1 _ rfl [some _, some _, some _, some _, some _, some _, some _, some _] rfl d_M_feed_115 ?_
          refine sv_goto C 34 (by decide) d_M_feed_118 ?_
          exact ih (j + 1) _ _ ⟨by omega, by omega, q3.put (pf_fd0 (by omega))⟩
  refine sv_aload_n C rfl rfl d_M_feed_0 ?_
  refine sv_aload_n C rfl rfl d_M_feed_1 ?_
  refine sv_get C fg_M_326 0 rfl rfl d_M_feed_2 ?_
  refine sv_bipush C (v := 20) (by decide) d_M_feed_5 ?_
  refine sv_iaddN C _ 20  d_M_feed_7 ?_
  refine sv_sipush C (v := 8192) (by decide) d_M_feed_8 ?_
  refine sv_icmpN_le C _ 8192 (by omega) (by omega) 18 (by decide) d_M_feed_11 (fun c11 => ?_) (fun c11 => ?_)
  · skip
    refine sv_iconst C (v := 0) (by decide) d_M_feed_18 ?_
    refine sv_put C fp_M_210 0 rfl rfl rfl (Nat.le_of_ble_eq_true rfl) ((_, .inr (_, [_, _, _, _, _, _, _, _, _, _, _, _, _, _, _, _])) :: _ :: _ :: _ :: _ :: _ :: _ :: _) rfl d_M_feed_19 ?_
    refine sv_aload_n C rfl rfl d_M_feed_22 ?_
    refine sv_get C fg_M_210 0 rfl rfl d_M_feed_23 ?_
    refine sv_ifZ_eq C 31 (by decide) d_M_feed_26 (fun c26 => ?_) (fun c26 => ?_)
    · skip
      refine sv_iconst C (v := 0) (by decide) d_M_feed_31 ?_
      refine sv_istore C (by decide) [some _, some _, some _, some _, some _, some _, some _, none] rfl d_M_feed_32 ?_
      exact L34 20 0 b none ⟨by omega, by omega, fun i _ => rfl, fun q hq => absurd hq (Nat.not_lt_zero q), fun hb => hb⟩
    · skip
      exact absurd c26 (by decide)
  · skip
    exact absurd c11 (by omega)

def rm_M_end : Room := { frames := 0, cells := 0, slots := 0, locals := 0 }
set_option maxHeartbeats 4000000 in
set_option maxRecDepth 100000 in
theorem c_M_end (l : Launch) (g : sv_G) (rest : va_W) (ad : Nat → Nat) (inl wd n : Nat) (th wm : Int32) (b tf wf ch po st : Nat → Int32) (T : List (Nat × List Int32)) (m : Nat) (hm : m < 20) (h : 20 - m ≤ inl) (hi : inl ≤ 8192) : sv_Mi l y_M_end b_M_end 2 (some (.int)) rm_M_end g [.ref (ad 0), .int (nI m)] ((ad 0, .inr (7, [.ref (ad 7), .ref (ad 8), .ref (ad 9), .ref (ad 10), .ref (ad 1), .int (nI inl), .int th, .ref (ad 2), .int (nI n), .ref (ad 3), .ref (ad 4), .ref (ad 5), .int (nI T.length), .int (nI wd), .ref (ad 6), .int wm])) :: (ad 1, .inl (g.2.1 1, 8192, .inl b)) :: (ad 2, .inl (g.2.1 0, 8192, .inl tf)) :: (ad 3, .inl (g.2.1 0, 8704, .inl ch)) :: (ad 4, .inl (g.2.1 0, 8193, .inl st)) :: (ad 5, .inl (g.2.1 0, 8192, .inl po)) :: (ad 6, .inl (g.2.1 0, 260, .inl wf)) :: rest) (fun r w => r = nI (inl - (20 - m)) ∧ w = ((ad 0, .inr (7, [.ref (ad 7), .ref (ad 8), .ref (ad 9), .ref (ad 10), .ref (ad 1), .int (nI (inl - (20 - m))), .int 0, .ref (ad 2), .int (nI n), .ref (ad 3), .ref (ad 4), .ref (ad 5), .int (nI T.length), .int (nI wd), .ref (ad 6), .int wm])) :: (ad 1, .inl (g.2.1 1, 8192, .inl b)) :: (ad 2, .inl (g.2.1 0, 8192, .inl tf)) :: (ad 3, .inl (g.2.1 0, 8704, .inl ch)) :: (ad 4, .inl (g.2.1 0, 8193, .inl st)) :: (ad 5, .inl (g.2.1 0, 8192, .inl po)) :: (ad 6, .inl (g.2.1 0, 260, .inl wf)) :: rest)) := by
  refine sv_enter_i (by decide) rfl rfl (Nat.le_of_ble_eq_true rfl) (fun X C hI hr => ?_)
  refine sv_lvE (lv' := [some _, some _]) rfl ?_
  refine sv_aload_n C rfl rfl d_M_end_0 ?_
  refine sv_iload_n C rfl rfl d_M_end_1 ?_
  refine sv_ifZ_lt C 22 (by decide) d_M_end_2 (fun c2 => ?_) (fun c2 => ?_)
  · skip
    exact absurd c2 (by rw [nI_toInt (by omega)]; omega)
  · skip
    refine sv_iload_n C rfl rfl d_M_end_5 ?_
    refine sv_bipush C (v := 19) (by decide) d_M_end_6 ?_
    refine sv_icmpN_gt C _ 19 (by omega) (by omega) 22 (by decide) d_M_end_8 (fun c8 => ?_) (fun c8 => ?_)
    · skip
      exact absurd c8 (by omega)
    · skip
      refine sv_bipush C (v := 20) (by decide) d_M_end_11 ?_
      refine sv_iload_n C rfl rfl d_M_end_13 ?_
      refine sv_isubN C 20 _ (by omega) d_M_end_14 ?_
      refine sv_aload_n C rfl rfl d_M_end_15 ?_
      refine sv_get C fg_M_326 0 rfl rfl d_M_end_16 ?_
      refine sv_icmpN_le C _ _ (by omega) (by omega) 26 (by decide) d_M_end_19 (fun c19 => ?_) (fun c19 => ?_)
      · skip
        refine sv_iconst C (v := 0) (by decide) d_M_end_26 ?_
        refine sv_put C fp_M_210 0 rfl rfl rfl (Nat.le_of_ble_eq_true rfl) ((_, .inr (_, [_, _, _, _, _, _, _, _, _, _, _, _, _, _, _, _])) :: _ :: _ :: _ :: _ :: _ :: _ :: _) rfl d_M_end_27 ?_
        refine sv_aload_n C rfl rfl d_M_end_30 ?_
        refine sv_get C fg_M_210 0 rfl rfl d_M_end_31 ?_
        refine sv_ifZ_eq C 39 (by decide) d_M_end_34 (fun c34 => ?_) (fun c34 => ?_)
        · skip
          refine sv_aload_n C rfl rfl d_M_end_39 ?_
          refine sv_dup C rfl d_M_end_40 ?_
          refine sv_get C fg_M_326 0 rfl rfl d_M_end_41 ?_
          refine sv_bipush C (v := 20) (by decide) d_M_end_44 ?_
          refine sv_iload_n C rfl rfl d_M_end_46 ?_
          refine sv_isubN C 20 _ (by omega) d_M_end_47 ?_
          refine sv_isubN C _ _ (by omega) d_M_end_48 ?_
          refine sv_put C fp_M_326 0 rfl rfl rfl (Nat.le_of_ble_eq_true rfl) ((_, .inr (_, [_, _, _, _, _, _, _, _, _, _, _, _, _, _, _, _])) :: _ :: _ :: _ :: _ :: _ :: _ :: _) rfl d_M_end_49 ?_
          refine sv_aload_n C rfl rfl d_M_end_52 ?_
          refine sv_get C fg_M_326 0 rfl rfl d_M_end_53 ?_
          exact hr _ _ _ _ d_M_end_56 rfl ⟨rfl, rfl⟩
        · skip
          exact absurd c34 (by decide)
      · skip
        exact absurd c19 (by omega)

set_option maxHeartbeats 4000000 in
set_option maxRecDepth 100000 in
theorem c_M_end_no1 (l : Launch) (g : sv_G) (rest : va_W) (ad : Nat → Nat) (inl wd n : Nat) (th wm : Int32) (b tf wf ch po st : Nat → Int32) (T : List (Nat × List Int32)) (q : Int32) (hq : q.toInt < 0 ∨ 19 < q.toInt) : sv_Mi l y_M_end b_M_end 2 (some (.int)) rm_M_end g [.ref (ad 0), .int q] ((ad 0, .inr (7, [.ref (ad 7), .ref (ad 8), .ref (ad 9), .ref (ad 10), .ref (ad 1), .int (nI inl), .int th, .ref (ad 2), .int (nI n), .ref (ad 3), .ref (ad 4), .ref (ad 5), .int (nI T.length), .int (nI wd), .ref (ad 6), .int wm])) :: (ad 1, .inl (g.2.1 1, 8192, .inl b)) :: (ad 2, .inl (g.2.1 0, 8192, .inl tf)) :: (ad 3, .inl (g.2.1 0, 8704, .inl ch)) :: (ad 4, .inl (g.2.1 0, 8193, .inl st)) :: (ad 5, .inl (g.2.1 0, 8192, .inl po)) :: (ad 6, .inl (g.2.1 0, 260, .inl wf)) :: rest) (fun r w => r = 0 ∧ w = ((ad 0, .inr (7, [.ref (ad 7), .ref (ad 8), .ref (ad 9), .ref (ad 10), .ref (ad 1), .int (nI inl), .int 1, .ref (ad 2), .int (nI n), .ref (ad 3), .ref (ad 4), .ref (ad 5), .int (nI T.length), .int (nI wd), .ref (ad 6), .int wm])) :: (ad 1, .inl (g.2.1 1, 8192, .inl b)) :: (ad 2, .inl (g.2.1 0, 8192, .inl tf)) :: (ad 3, .inl (g.2.1 0, 8704, .inl ch)) :: (ad 4, .inl (g.2.1 0, 8193, .inl st)) :: (ad 5, .inl (g.2.1 0, 8192, .inl po)) :: (ad 6, .inl (g.2.1 0, 260, .inl wf)) :: rest)) := by
  refine sv_enter_i (by decide) rfl rfl (Nat.le_of_ble_eq_true rfl) (fun X C hI hr => ?_)
  refine sv_lvE (lv' := [some _, some _]) rfl ?_
  refine sv_aload_n C rfl rfl d_M_end_0 ?_
  refine sv_iload_n C rfl rfl d_M_end_1 ?_
  refine sv_ifZ_lt C 22 (by decide) d_M_end_2 (fun c2 => ?_) (fun c2 => ?_)
  · skip
    refine sv_iconst C (v := 1) (by decide) d_M_end_22 ?_
    refine sv_goto C 27 (by decide) d_M_end_23 ?_
    refine sv_put C fp_M_210 0 rfl rfl rfl (Nat.le_of_ble_eq_true rfl) ((_, .inr (_, [_, _, _, _, _, _, _, _, _, _, _, _, _, _, _, _])) :: _ :: _ :: _ :: _ :: _ :: _ :: _) rfl d_M_end_27 ?_
    refine sv_aload_n C rfl rfl d_M_end_30 ?_
    refine sv_get C fg_M_210 0 rfl rfl d_M_end_31 ?_
    refine sv_ifZ_eq C 39 (by decide) d_M_end_34 (fun c34 => ?_) (fun c34 => ?_)
    · skip
      exact absurd c34 (by decide)
    · skip
      refine sv_iconst C (v := 0) (by decide) d_M_end_37 ?_
      exact hr _ _ _ _ d_M_end_38 rfl ⟨rfl, rfl⟩
  · skip
    refine sv_iload_n C rfl rfl d_M_end_5 ?_
    refine sv_bipush C (v := 19) (by decide) d_M_end_6 ?_
    refine sv_icmpK_gt C (19) (by decide) 22 (by decide) d_M_end_8 (fun c8 => ?_) (fun c8 => ?_)
    · skip
      refine sv_iconst C (v := 1) (by decide) d_M_end_22 ?_
      refine sv_goto C 27 (by decide) d_M_end_23 ?_
      refine sv_put C fp_M_210 0 rfl rfl rfl (Nat.le_of_ble_eq_true rfl) ((_, .inr (_, [_, _, _, _, _, _, _, _, _, _, _, _, _, _, _, _])) :: _ :: _ :: _ :: _ :: _ :: _ :: _) rfl d_M_end_27 ?_
      refine sv_aload_n C rfl rfl d_M_end_30 ?_
      refine sv_get C fg_M_210 0 rfl rfl d_M_end_31 ?_
      refine sv_ifZ_eq C 39 (by decide) d_M_end_34 (fun c34 => ?_) (fun c34 => ?_)
      · skip
        exact absurd c34 (by decide)
      · skip
        refine sv_iconst C (v := 0) (by decide) d_M_end_37 ?_
        exact hr _ _ _ _ d_M_end_38 rfl ⟨rfl, rfl⟩
    · skip
      exact absurd hq (by omega)

set_option maxHeartbeats 4000000 in
set_option maxRecDepth 100000 in
theorem c_M_end_no2 (l : Launch) (g : sv_G) (rest : va_W) (ad : Nat → Nat) (inl wd n : Nat) (th wm : Int32) (b tf wf ch po st : Nat → Int32) (T : List (Nat × List Int32)) (m : Nat) (hm : m < 20) (h : inl < 20 - m) : sv_Mi l y_M_end b_M_end 2 (some (.int)) rm_M_end g [.ref (ad 0), .int (nI m)] ((ad 0, .inr (7, [.ref (ad 7), .ref (ad 8), .ref (ad 9), .ref (ad 10), .ref (ad 1), .int (nI inl), .int th, .ref (ad 2), .int (nI n), .ref (ad 3), .ref (ad 4), .ref (ad 5), .int (nI T.length), .int (nI wd), .ref (ad 6), .int wm])) :: (ad 1, .inl (g.2.1 1, 8192, .inl b)) :: (ad 2, .inl (g.2.1 0, 8192, .inl tf)) :: (ad 3, .inl (g.2.1 0, 8704, .inl ch)) :: (ad 4, .inl (g.2.1 0, 8193, .inl st)) :: (ad 5, .inl (g.2.1 0, 8192, .inl po)) :: (ad 6, .inl (g.2.1 0, 260, .inl wf)) :: rest) (fun r w => r = 0 ∧ w = ((ad 0, .inr (7, [.ref (ad 7), .ref (ad 8), .ref (ad 9), .ref (ad 10), .ref (ad 1), .int (nI inl), .int 1, .ref (ad 2), .int (nI n), .ref (ad 3), .ref (ad 4), .ref (ad 5), .int (nI T.length), .int (nI wd), .ref (ad 6), .int wm])) :: (ad 1, .inl (g.2.1 1, 8192, .inl b)) :: (ad 2, .inl (g.2.1 0, 8192, .inl tf)) :: (ad 3, .inl (g.2.1 0, 8704, .inl ch)) :: (ad 4, .inl (g.2.1 0, 8193, .inl st)) :: (ad 5, .inl (g.2.1 0, 8192, .inl po)) :: (ad 6, .inl (g.2.1 0, 260, .inl wf)) :: rest)) := by
  refine sv_enter_i (by decide) rfl rfl (Nat.le_of_ble_eq_true rfl) (fun X C hI hr => ?_)
  refine sv_lvE (lv' := [some _, some _]) rfl ?_
  refine sv_aload_n C rfl rfl d_M_end_0 ?_
  refine sv_iload_n C rfl rfl d_M_end_1 ?_
  refine sv_ifZ_lt C 22 (by decide) d_M_end_2 (fun c2 => ?_) (fun c2 => ?_)
  · skip
    exact absurd c2 (by rw [nI_toInt (by omega)]; omega)
  · skip
    refine sv_iload_n C rfl rfl d_M_end_5 ?_
    refine sv_bipush C (v := 19) (by decide) d_M_end_6 ?_
    refine sv_icmpN_gt C _ 19 (by omega) (by omega) 22 (by decide) d_M_end_8 (fun c8 => ?_) (fun c8 => ?_)
    · skip
      exact absurd c8 (by omega)
    · skip
      refine sv_bipush C (v := 20) (by decide) d_M_end_11 ?_
      refine sv_iload_n C rfl rfl d_M_end_13 ?_
      refine sv_isubN C 20 _ (by omega) d_M_end_14 ?_
      refine sv_aload_n C rfl rfl d_M_end_15 ?_
      refine sv_get C fg_M_326 0 rfl rfl d_M_end_16 ?_
      refine sv_icmpN_le C _ _ (by omega) (by omega) 26 (by decide) d_M_end_19 (fun c19 => ?_) (fun c19 => ?_)
      · skip
        exact absurd c19 (by omega)
      · skip
        refine sv_iconst C (v := 1) (by decide) d_M_end_22 ?_
        refine sv_goto C 27 (by decide) d_M_end_23 ?_
        refine sv_put C fp_M_210 0 rfl rfl rfl (Nat.le_of_ble_eq_true rfl) ((_, .inr (_, [_, _, _, _, _, _, _, _, _, _, _, _, _, _, _, _])) :: _ :: _ :: _ :: _ :: _ :: _ :: _) rfl d_M_end_27 ?_
        refine sv_aload_n C rfl rfl d_M_end_30 ?_
        refine sv_get C fg_M_210 0 rfl rfl d_M_end_31 ?_
        refine sv_ifZ_eq C 39 (by decide) d_M_end_34 (fun c34 => ?_) (fun c34 => ?_)
        · skip
          exact absurd c34 (by decide)
        · skip
          refine sv_iconst C (v := 0) (by decide) d_M_end_37 ?_
          exact hr _ _ _ _ d_M_end_38 rfl ⟨rfl, rfl⟩

def rm_M_cut_v : Room := { frames := 11, cells := 0, slots := 0, locals := 312 }
set_option maxHeartbeats 4000000 in
set_option maxRecDepth 100000 in
theorem c_M_cut_v (l : Launch) (g : sv_G) (rest : va_W) (ad : Nat → Nat) (inl wd0 n0 : Nat) (th wm0 : Int32) (b tf0 wf0 ch0 po0 st0 : Nat → Int32) (T0 : List (Nat × List Int32)) (hi : inl ≤ 8192) (hT0 : sv_SA g rest (ad 7) 33 tm_0) (hT2 : sv_SA g rest (ad 8) (2 * 20) tm_2) (hT3 : sv_SA g rest (ad 9) (2 * 7) tm_3) (hT4 : sv_SA g rest (ad 10) (2 * 19) tm_4) : sv_Mi l y_M_cut_v b_M_cut_v 1 (some (.int)) rm_M_cut_v g [.ref (ad 0)] ((ad 0, .inr (7, [.ref (ad 7), .ref (ad 8), .ref (ad 9), .ref (ad 10), .ref (ad 1), .int (nI inl), .int th, .ref (ad 2), .int (nI n0), .ref (ad 3), .ref (ad 4), .ref (ad 5), .int (nI T0.length), .int (nI wd0), .ref (ad 6), .int wm0])) :: (ad 1, .inl (g.2.1 1, 8192, .inl b)) :: (ad 2, .inl (g.2.1 0, 8192, .inl tf0)) :: (ad 3, .inl (g.2.1 0, 8704, .inl ch0)) :: (ad 4, .inl (g.2.1 0, 8193, .inl st0)) :: (ad 5, .inl (g.2.1 0, 8192, .inl po0)) :: (ad 6, .inl (g.2.1 0, 260, .inl wf0)) :: rest) (fun r w9 => ∃ (wm : Int32) (tf wf ch po st : Nat → Int32), (∀ i, i < (pu_chars (fun i => pu_u (b i)) inl inl 0).length → tf i = nI ((pu_chars (fun i => pu_u (b i)) inl inl 0).getD i 0)) ∧ r = nI (pu_cut tf (pu_chars (fun i => pu_u (b i)) inl inl 0).length (pu_chars (fun i => pu_u (b i)) inl inl 0).length 0 ([], 0)).1.length ∧ w9 = ((ad 0, .inr (7, [.ref (ad 7), .ref (ad 8), .ref (ad 9), .ref (ad 10), .ref (ad 1), .int (nI 0), .int 0, .ref (ad 2), .int (nI (pu_chars (fun i => pu_u (b i)) inl inl 0).length), .ref (ad 3), .ref (ad 4), .ref (ad 5), .int (nI (pu_cut tf (pu_chars (fun i => pu_u (b i)) inl inl 0).length (pu_chars (fun i => pu_u (b i)) inl inl 0).length 0 ([], 0)).1.length), .int (nI (pu_cut tf (pu_chars (fun i => pu_u (b i)) inl inl 0).length (pu_chars (fun i => pu_u (b i)) inl inl 0).length 0 ([], 0)).2), .ref (ad 6), .int wm])) :: (ad 1, .inl (g.2.1 1, 8192, .inl b)) :: (ad 2, .inl (g.2.1 0, 8192, .inl tf)) :: (ad 3, .inl (g.2.1 0, 8704, .inl ch)) :: (ad 4, .inl (g.2.1 0, 8193, .inl st)) :: (ad 5, .inl (g.2.1 0, 8192, .inl po)) :: (ad 6, .inl (g.2.1 0, 260, .inl wf)) :: rest) ∧ pu_Tok ch po st (pu_cut tf (pu_chars (fun i => pu_u (b i)) inl inl 0).length (pu_chars (fun i => pu_u (b i)) inl inl 0).length 0 ([], 0)).1 ∧ pu_off (pu_cut tf (pu_chars (fun i => pu_u (b i)) inl inl 0).length (pu_chars (fun i => pu_u (b i)) inl inl 0).length 0 ([], 0)).1 (pu_cut tf (pu_chars (fun i => pu_u (b i)) inl inl 0).length (pu_chars (fun i => pu_u (b i)) inl inl 0).length 0 ([], 0)).1.length ≤ 8192 ∧ (pu_cut tf (pu_chars (fun i => pu_u (b i)) inl inl 0).length (pu_chars (fun i => pu_u (b i)) inl inl 0).length 0 ([], 0)).1.length ≤ 8192) := by
  refine sv_enter_i (by decide) rfl rfl (Nat.le_of_ble_eq_true rfl) (fun X C hI hr => ?_)
  refine sv_lvE (lv' := [some _]) rfl ?_
  refine sv_aload_n C rfl rfl d_M_cut_v_0 ?_
  refine sv_iconst C (v := 0) (by decide) d_M_cut_v_1 ?_
  refine sv_put C fp_M_210 0 rfl rfl rfl (Nat.le_of_ble_eq_true rfl) ((_, .inr (_, [_, _, _, _, _, _, _, _, _, _, _, _, _, _, _, _])) :: _ :: _ :: _ :: _ :: _ :: _ :: _) rfl d_M_cut_v_2 ?_
  refine sv_aload_n C rfl rfl d_M_cut_v_5 ?_
  refine sv_aload_n C rfl rfl d_M_cut_v_6 ?_
  refine sv_get C fg_M_190 0 rfl rfl d_M_cut_v_7 ?_
  refine sv_iconst C (v := 0) (by decide) d_M_cut_v_10 ?_
  refine sv_aload_n C rfl rfl d_M_cut_v_11 ?_
  refine sv_get C fg_M_326 0 rfl rfl d_M_cut_v_12 ?_
  refine sv_front 2 (_ :: _ :: _ :: _ :: _ :: _ :: _ :: _) rfl rfl ?_
  refine sv_front 1 (_ :: _ :: _ :: _ :: _ :: _ :: _ :: _) rfl rfl ?_
  refine sv_callVv C (c_M_decode l g _ ad (nI inl) 0 (nI n0) (nI T0.length) (nI wd0) wm0 tf0 b inl hi) lk_M_329 List.mem_cons_self rfl d_M_cut_v_15 (by decide) (Nat.le_of_ble_eq_true rfl) (by decide) (fun w hw => ?_)
  obtain ⟨tf, rfl, htf⟩ := hw
  have hn0 := pu_chars_len (fun i => pu_u (b i)) inl inl 0
  refine sv_aload_n C rfl rfl d_M_cut_v_18 ?_
  refine sv_iconst C (v := 0) (by decide) d_M_cut_v_19 ?_
  refine sv_put C fp_M_326 0 rfl rfl rfl (Nat.le_of_ble_eq_true rfl) ((_, .inr (_, [_, _, _, _, _, _, _, _, _, _, _, _, _, _, _, _])) :: _ :: _ :: _ :: _ :: _ :: _ :: _) rfl d_M_cut_v_20 ?_
  refine sv_aload_n C rfl rfl d_M_cut_v_23 ?_
  refine sv_aload_n C rfl rfl d_M_cut_v_24 ?_
  refine sv_get C fg_M_194 0 rfl rfl d_M_cut_v_25 ?_
  refine sv_iconst C (v := 0) (by decide) d_M_cut_v_28 ?_
  refine sv_aload_n C rfl rfl d_M_cut_v_29 ?_
  refine sv_get C fg_M_218 0 rfl rfl d_M_cut_v_30 ?_
  refine sv_front 2 (_ :: _ :: _ :: _ :: _ :: _ :: _ :: _) rfl rfl ?_
  refine sv_front 1 (_ :: _ :: _ :: _ :: _ :: _ :: _ :: _) rfl rfl ?_
  refine sv_callVv C (c_M_cut_aIII l g rest ad (nI 0) 0 wm0 b tf wf0 ch0 po0 st0 (nI T0.length) (nI wd0) (pu_chars (fun i => pu_u (b i)) inl inl 0).length (by omega) hT0 hT2 hT3 hT4) lk_M_333 List.mem_cons_self rfl d_M_cut_v_33 (by decide) (Nat.le_of_ble_eq_true rfl) (by decide) (fun w hw => ?_)
  obtain ⟨wm, wf, ch, po, st, rfl, hT, h1, h2⟩ := hw
  refine sv_aload_n C rfl rfl d_M_cut_v_36 ?_
  refine sv_get C fg_M_234 0 rfl rfl d_M_cut_v_37 ?_
  exact hr _ _ _ _ d_M_cut_v_40 rfl ⟨wm, tf, wf, ch, po, st, htf, rfl, rfl, hT, h1, h2⟩

def rm_M_there : Room := { frames := 0, cells := 0, slots := 0, locals := 0 }
set_option maxHeartbeats 4000000 in
set_option maxRecDepth 100000 in
theorem c_M_there (l : Launch) (g : sv_G) (rest : va_W) (ad : Nat → Nat) (inl wd n : Nat) (th wm : Int32) (b tf wf ch po st : Nat → Int32) (T : List (Nat × List Int32)) (hT : pu_Tok ch po st T) (hn : T.length ≤ 8192) (ho : pu_off T T.length ≤ 8192) (i : Int32) : sv_Mi l y_M_there b_M_there 2 (some (.boolean)) rm_M_there g [.ref (ad 0), .int i] ((ad 0, .inr (7, [.ref (ad 7), .ref (ad 8), .ref (ad 9), .ref (ad 10), .ref (ad 1), .int (nI inl), .int th, .ref (ad 2), .int (nI n), .ref (ad 3), .ref (ad 4), .ref (ad 5), .int (nI T.length), .int (nI wd), .ref (ad 6), .int wm])) :: (ad 1, .inl (g.2.1 1, 8192, .inl b)) :: (ad 2, .inl (g.2.1 0, 8192, .inl tf)) :: (ad 3, .inl (g.2.1 0, 8704, .inl ch)) :: (ad 4, .inl (g.2.1 0, 8193, .inl st)) :: (ad 5, .inl (g.2.1 0, 8192, .inl po)) :: (ad 6, .inl (g.2.1 0, 260, .inl wf)) :: rest) (fun r w => r = (if 0 ≤ i.toInt ∧ i.toInt < T.length then 1 else 0) ∧ w = ((ad 0, .inr (7, [.ref (ad 7), .ref (ad 8), .ref (ad 9), .ref (ad 10), .ref (ad 1), .int (nI inl), .int th, .ref (ad 2), .int (nI n), .ref (ad 3), .ref (ad 4), .ref (ad 5), .int (nI T.length), .int (nI wd), .ref (ad 6), .int wm])) :: (ad 1, .inl (g.2.1 1, 8192, .inl b)) :: (ad 2, .inl (g.2.1 0, 8192, .inl tf)) :: (ad 3, .inl (g.2.1 0, 8704, .inl ch)) :: (ad 4, .inl (g.2.1 0, 8193, .inl st)) :: (ad 5, .inl (g.2.1 0, 8192, .inl po)) :: (ad 6, .inl (g.2.1 0, 260, .inl wf)) :: rest)) := by
  have e := nI_toInt (n := T.length) (by omega)
  refine sv_enter_i (by decide) rfl rfl (Nat.le_of_ble_eq_true rfl) (fun X C hI hr => ?_)
  refine sv_lvE (lv' := [some _, some _]) rfl ?_
  refine sv_iload_n C rfl rfl d_M_there_0 ?_
  refine sv_ifZ_lt C 16 (by decide) d_M_there_1 (fun c1 => ?_) (fun c1 => ?_)
  · skip
    refine sv_iconst C (v := 0) (by decide) d_M_there_16 ?_
    exact hr _ _ _ _ d_M_there_17 rfl ⟨(if_neg (by omega)).symm, rfl⟩
  · skip
    refine sv_iload_n C rfl rfl d_M_there_4 ?_
    refine sv_aload_n C rfl rfl d_M_there_5 ?_
    refine sv_get C fg_M_234 0 rfl rfl d_M_there_6 ?_
    refine sv_icmp_ge C 16 (by decide) d_M_there_9 (fun c9 => ?_) (fun c9 => ?_)
    · skip
      rw [Int32.le_iff_toInt_le, e] at c9
      refine sv_iconst C (v := 0) (by decide) d_M_there_16 ?_
      exact hr _ _ _ _ d_M_there_17 rfl ⟨(if_neg (by omega)).symm, rfl⟩
    · skip
      rw [Int32.le_iff_toInt_le, e] at c9
      refine sv_iconst C (v := 1) (by decide) d_M_there_12 ?_
      refine sv_goto C 17 (by decide) d_M_there_13 ?_
      exact hr _ _ _ _ d_M_there_17 rfl ⟨(if_pos (by omega)).symm, rfl⟩

def rm_M_token_II : Room := { frames := 1, cells := 0, slots := 0, locals := 21 }
set_option maxHeartbeats 4000000 in
set_option maxRecDepth 100000 in
theorem c_M_token_II (l : Launch) (g : sv_G) (rest : va_W) (ad : Nat → Nat) (inl wd n : Nat) (th wm : Int32) (b tf wf ch po st : Nat → Int32) (T : List (Nat × List Int32)) (hT : pu_Tok ch po st T) (hn : T.length ≤ 8192) (ho : pu_off T T.length ≤ 8192) (i : Nat) (hi : i < T.length) (q : Int32) (hq : q.toInt = 0 ∨ q.toInt = 1) : sv_Mi l y_M_token_II b_M_token_II 3 (some (.int)) rm_M_token_II g [.ref (ad 0), .int (nI i), .int q] ((ad 0, .inr (7, [.ref (ad 7), .ref (ad 8), .ref (ad 9), .ref (ad 10), .ref (ad 1), .int (nI inl), .int th, .ref (ad 2), .int (nI n), .ref (ad 3), .ref (ad 4), .ref (ad 5), .int (nI T.length), .int (nI wd), .ref (ad 6), .int wm])) :: (ad 1, .inl (g.2.1 1, 8192, .inl b)) :: (ad 2, .inl (g.2.1 0, 8192, .inl tf)) :: (ad 3, .inl (g.2.1 0, 8704, .inl ch)) :: (ad 4, .inl (g.2.1 0, 8193, .inl st)) :: (ad 5, .inl (g.2.1 0, 8192, .inl po)) :: (ad 6, .inl (g.2.1 0, 260, .inl wf)) :: rest) (fun r w => r = (if q.toInt = 0 then nI (T.getD i (0, [])).1 else nI (T.getD i (0, [])).2.length) ∧ w = ((ad 0, .inr (7, [.ref (ad 7), .ref (ad 8), .ref (ad 9), .ref (ad 10), .ref (ad 1), .int (nI inl), .int 0, .ref (ad 2), .int (nI n), .ref (ad 3), .ref (ad 4), .ref (ad 5), .int (nI T.length), .int (nI wd), .ref (ad 6), .int wm])) :: (ad 1, .inl (g.2.1 1, 8192, .inl b)) :: (ad 2, .inl (g.2.1 0, 8192, .inl tf)) :: (ad 3, .inl (g.2.1 0, 8704, .inl ch)) :: (ad 4, .inl (g.2.1 0, 8193, .inl st)) :: (ad 5, .inl (g.2.1 0, 8192, .inl po)) :: (ad 6, .inl (g.2.1 0, 260, .inl wf)) :: rest)) := by
  have ei : (nI i).toInt = (i : Int) := nI_toInt (by omega)
  have eo := pu_off_s T i
  refine sv_enter_i (by decide) rfl rfl (Nat.le_of_ble_eq_true rfl) (fun X C hI hr => ?_)
  refine sv_lvE (lv' := [some _, some _, some _]) rfl ?_
  refine sv_aload_n C rfl rfl d_M_token_II_0 ?_
  refine sv_iload_n C rfl rfl d_M_token_II_1 ?_
  refine sv_ifZ_lt C 10 (by decide) d_M_token_II_2 (fun c2 => ?_) (fun c2 => ?_)
  · skip
    exact absurd c2 (by omega)
  · skip
    refine sv_iload_n C rfl rfl d_M_token_II_5 ?_
    refine sv_iconst C (v := 1) (by decide) d_M_token_II_6 ?_
    refine sv_icmpK_le C (1) (by decide) 14 (by decide) d_M_token_II_7 (fun c7 => ?_) (fun c7 => ?_)
    · skip
      refine sv_aload_n C rfl rfl d_M_token_II_14 ?_
      refine sv_iload_n C rfl rfl d_M_token_II_15 ?_
      refine sv_callVi C (c_M_there l g rest ad inl wd n th wm b tf wf ch po st T hT hn ho (nI i)) lk_M_336 List.mem_cons_self rfl d_M_token_II_16 (by decide) (Nat.le_of_ble_eq_true rfl) (by decide) (fun r w hw => ?_)
      obtain ⟨rfl, rfl⟩ := hw
      refine sv_ifB_eq C _ 26 (by decide) d_M_token_II_19 (fun c19 => ?_) (fun c19 => ?_)
      · skip
        exact absurd ⟨by omega, by omega⟩ c19
      · skip
        refine sv_iconst C (v := 0) (by decide) d_M_token_II_22 ?_
        refine sv_goto C 27 (by decide) d_M_token_II_23 ?_
        refine sv_put C fp_M_210 0 rfl rfl rfl (Nat.le_of_ble_eq_true rfl) ((_, .inr (_, [_, _, _, _, _, _, _, _, _, _, _, _, _, _, _, _])) :: _ :: _ :: _ :: _ :: _ :: _ :: _) rfl d_M_token_II_27 ?_
        refine sv_aload_n C rfl rfl d_M_token_II_30 ?_
        refine sv_get C fg_M_210 0 rfl rfl d_M_token_II_31 ?_
        refine sv_ifZ_eq C 39 (by decide) d_M_token_II_34 (fun c34 => ?_) (fun c34 => ?_)
        · skip
          refine sv_iload_n C rfl rfl d_M_token_II_39 ?_
          refine sv_ifZ_ne C 52 (by decide) d_M_token_II_40 (fun c40 => ?_) (fun c40 => ?_)
          · skip
            refine sv_aload_n C rfl rfl d_M_token_II_52 ?_
            refine sv_get C fg_M_201 0 rfl rfl d_M_token_II_53 ?_
            refine sv_iload_n C rfl rfl d_M_token_II_56 ?_
            refine sv_iconst C (v := 1) (by decide) d_M_token_II_57 ?_
            refine sv_iaddN C _ 1  d_M_token_II_58 ?_
            refine sv_ialdN C _ 4 rfl (by omega) (by decide) d_M_token_II_59 ?_
            refine sv_eqi (hT.1 (i + 1) (by omega)) ?_
            refine sv_aload_n C rfl rfl d_M_token_II_60 ?_
            refine sv_get C fg_M_201 0 rfl rfl d_M_token_II_61 ?_
            refine sv_iload_n C rfl rfl d_M_token_II_64 ?_
            refine sv_ialdN C _ 4 rfl (by omega) (by decide) d_M_token_II_65 ?_
            refine sv_eqi (hT.1 i (by omega)) ?_
            refine sv_isubN C _ _ (by omega) d_M_token_II_66 ?_
            exact hr _ _ _ _ d_M_token_II_67 rfl ⟨(if_neg c40 ▸ congrArg nI (by omega)), rfl⟩
          · skip
            refine sv_aload_n C rfl rfl d_M_token_II_43 ?_
            refine sv_get C fg_M_204 0 rfl rfl d_M_token_II_44 ?_
            refine sv_iload_n C rfl rfl d_M_token_II_47 ?_
            refine sv_ialdN C _ 5 rfl (by omega) (by decide) d_M_token_II_48 ?_
            refine sv_eqi (hT.2.1 i hi) ?_
            refine sv_goto C 67 (by decide) d_M_token_II_49 ?_
            exact hr _ _ _ _ d_M_token_II_67 rfl ⟨(if_pos c40).symm, rfl⟩
        · skip
          exact absurd c34 (by decide)
    · skip
      exact absurd hq (by omega)

set_option maxHeartbeats 4000000 in
set_option maxRecDepth 100000 in
theorem c_M_token_no1 (l : Launch) (g : sv_G) (rest : va_W) (ad : Nat → Nat) (inl wd n : Nat) (th wm : Int32) (b tf wf ch po st : Nat → Int32) (T : List (Nat × List Int32)) (hT : pu_Tok ch po st T) (hn : T.length ≤ 8192) (ho : pu_off T T.length ≤ 8192) (i q : Int32) (hq : q.toInt < 0 ∨ 1 < q.toInt) : sv_Mi l y_M_token_II b_M_token_II 3 (some (.int)) rm_M_token_II g [.ref (ad 0), .int i, .int q] ((ad 0, .inr (7, [.ref (ad 7), .ref (ad 8), .ref (ad 9), .ref (ad 10), .ref (ad 1), .int (nI inl), .int th, .ref (ad 2), .int (nI n), .ref (ad 3), .ref (ad 4), .ref (ad 5), .int (nI T.length), .int (nI wd), .ref (ad 6), .int wm])) :: (ad 1, .inl (g.2.1 1, 8192, .inl b)) :: (ad 2, .inl (g.2.1 0, 8192, .inl tf)) :: (ad 3, .inl (g.2.1 0, 8704, .inl ch)) :: (ad 4, .inl (g.2.1 0, 8193, .inl st)) :: (ad 5, .inl (g.2.1 0, 8192, .inl po)) :: (ad 6, .inl (g.2.1 0, 260, .inl wf)) :: rest) (fun r w => r = 0 ∧ w = ((ad 0, .inr (7, [.ref (ad 7), .ref (ad 8), .ref (ad 9), .ref (ad 10), .ref (ad 1), .int (nI inl), .int 1, .ref (ad 2), .int (nI n), .ref (ad 3), .ref (ad 4), .ref (ad 5), .int (nI T.length), .int (nI wd), .ref (ad 6), .int wm])) :: (ad 1, .inl (g.2.1 1, 8192, .inl b)) :: (ad 2, .inl (g.2.1 0, 8192, .inl tf)) :: (ad 3, .inl (g.2.1 0, 8704, .inl ch)) :: (ad 4, .inl (g.2.1 0, 8193, .inl st)) :: (ad 5, .inl (g.2.1 0, 8192, .inl po)) :: (ad 6, .inl (g.2.1 0, 260, .inl wf)) :: rest)) := by
  refine sv_enter_i (by decide) rfl rfl (Nat.le_of_ble_eq_true rfl) (fun X C hI hr => ?_)
  refine sv_lvE (lv' := [some _, some _, some _]) rfl ?_
  refine sv_aload_n C rfl rfl d_M_token_II_0 ?_
  refine sv_iload_n C rfl rfl d_M_token_II_1 ?_
  refine sv_ifZ_lt C 10 (by decide) d_M_token_II_2 (fun c2 => ?_) (fun c2 => ?_)
  · skip
    refine sv_iconst C (v := 1) (by decide) d_M_token_II_10 ?_
    refine sv_goto C 27 (by decide) d_M_token_II_11 ?_
    refine sv_put C fp_M_210 0 rfl rfl rfl (Nat.le_of_ble_eq_true rfl) ((_, .inr (_, [_, _, _, _, _, _, _, _, _, _, _, _, _, _, _, _])) :: _ :: _ :: _ :: _ :: _ :: _ :: _) rfl d_M_token_II_27 ?_
    refine sv_aload_n C rfl rfl d_M_token_II_30 ?_
    refine sv_get C fg_M_210 0 rfl rfl d_M_token_II_31 ?_
    refine sv_ifZ_eq C 39 (by decide) d_M_token_II_34 (fun c34 => ?_) (fun c34 => ?_)
    · skip
      exact absurd c34 (by decide)
    · skip
      refine sv_iconst C (v := 0) (by decide) d_M_token_II_37 ?_
      exact hr _ _ _ _ d_M_token_II_38 rfl ⟨rfl, rfl⟩
  · skip
    refine sv_iload_n C rfl rfl d_M_token_II_5 ?_
    refine sv_iconst C (v := 1) (by decide) d_M_token_II_6 ?_
    refine sv_icmpK_le C (1) (by decide) 14 (by decide) d_M_token_II_7 (fun c7 => ?_) (fun c7 => ?_)
    · skip
      exact absurd hq (by omega)
    · skip
      refine sv_iconst C (v := 1) (by decide) d_M_token_II_10 ?_
      refine sv_goto C 27 (by decide) d_M_token_II_11 ?_
      refine sv_put C fp_M_210 0 rfl rfl rfl (Nat.le_of_ble_eq_true rfl) ((_, .inr (_, [_, _, _, _, _, _, _, _, _, _, _, _, _, _, _, _])) :: _ :: _ :: _ :: _ :: _ :: _ :: _) rfl d_M_token_II_27 ?_
      refine sv_aload_n C rfl rfl d_M_token_II_30 ?_
      refine sv_get C fg_M_210 0 rfl rfl d_M_token_II_31 ?_
      refine sv_ifZ_eq C 39 (by decide) d_M_token_II_34 (fun c34 => ?_) (fun c34 => ?_)
      · skip
        exact absurd c34 (by decide)
      · skip
        refine sv_iconst C (v := 0) (by decide) d_M_token_II_37 ?_
        exact hr _ _ _ _ d_M_token_II_38 rfl ⟨rfl, rfl⟩

set_option maxHeartbeats 4000000 in
set_option maxRecDepth 100000 in
theorem c_M_token_no2 (l : Launch) (g : sv_G) (rest : va_W) (ad : Nat → Nat) (inl wd n : Nat) (th wm : Int32) (b tf wf ch po st : Nat → Int32) (T : List (Nat × List Int32)) (hT : pu_Tok ch po st T) (hn : T.length ≤ 8192) (ho : pu_off T T.length ≤ 8192) (i q : Int32) (hq : q.toInt = 0 ∨ q.toInt = 1) (hi : ¬ (0 ≤ i.toInt ∧ i.toInt < T.length)) : sv_Mi l y_M_token_II b_M_token_II 3 (some (.int)) rm_M_token_II g [.ref (ad 0), .int i, .int q] ((ad 0, .inr (7, [.ref (ad 7), .ref (ad 8), .ref (ad 9), .ref (ad 10), .ref (ad 1), .int (nI inl), .int th, .ref (ad 2), .int (nI n), .ref (ad 3), .ref (ad 4), .ref (ad 5), .int (nI T.length), .int (nI wd), .ref (ad 6), .int wm])) :: (ad 1, .inl (g.2.1 1, 8192, .inl b)) :: (ad 2, .inl (g.2.1 0, 8192, .inl tf)) :: (ad 3, .inl (g.2.1 0, 8704, .inl ch)) :: (ad 4, .inl (g.2.1 0, 8193, .inl st)) :: (ad 5, .inl (g.2.1 0, 8192, .inl po)) :: (ad 6, .inl (g.2.1 0, 260, .inl wf)) :: rest) (fun r w => r = 0 ∧ w = ((ad 0, .inr (7, [.ref (ad 7), .ref (ad 8), .ref (ad 9), .ref (ad 10), .ref (ad 1), .int (nI inl), .int 2, .ref (ad 2), .int (nI n), .ref (ad 3), .ref (ad 4), .ref (ad 5), .int (nI T.length), .int (nI wd), .ref (ad 6), .int wm])) :: (ad 1, .inl (g.2.1 1, 8192, .inl b)) :: (ad 2, .inl (g.2.1 0, 8192, .inl tf)) :: (ad 3, .inl (g.2.1 0, 8704, .inl ch)) :: (ad 4, .inl (g.2.1 0, 8193, .inl st)) :: (ad 5, .inl (g.2.1 0, 8192, .inl po)) :: (ad 6, .inl (g.2.1 0, 260, .inl wf)) :: rest)) := by
  refine sv_enter_i (by decide) rfl rfl (Nat.le_of_ble_eq_true rfl) (fun X C hI hr => ?_)
  refine sv_lvE (lv' := [some _, some _, some _]) rfl ?_
  refine sv_aload_n C rfl rfl d_M_token_II_0 ?_
  refine sv_iload_n C rfl rfl d_M_token_II_1 ?_
  refine sv_ifZ_lt C 10 (by decide) d_M_token_II_2 (fun c2 => ?_) (fun c2 => ?_)
  · skip
    exact absurd c2 (by omega)
  · skip
    refine sv_iload_n C rfl rfl d_M_token_II_5 ?_
    refine sv_iconst C (v := 1) (by decide) d_M_token_II_6 ?_
    refine sv_icmpK_le C (1) (by decide) 14 (by decide) d_M_token_II_7 (fun c7 => ?_) (fun c7 => ?_)
    · skip
      refine sv_aload_n C rfl rfl d_M_token_II_14 ?_
      refine sv_iload_n C rfl rfl d_M_token_II_15 ?_
      refine sv_callVi C (c_M_there l g rest ad inl wd n th wm b tf wf ch po st T hT hn ho i) lk_M_336 List.mem_cons_self rfl d_M_token_II_16 (by decide) (Nat.le_of_ble_eq_true rfl) (by decide) (fun r w hw => ?_)
      obtain ⟨rfl, rfl⟩ := hw
      refine sv_ifB_eq C _ 26 (by decide) d_M_token_II_19 (fun c19 => ?_) (fun c19 => ?_)
      · skip
        refine sv_iconst C (v := 2) (by decide) d_M_token_II_26 ?_
        refine sv_put C fp_M_210 0 rfl rfl rfl (Nat.le_of_ble_eq_true rfl) ((_, .inr (_, [_, _, _, _, _, _, _, _, _, _, _, _, _, _, _, _])) :: _ :: _ :: _ :: _ :: _ :: _ :: _) rfl d_M_token_II_27 ?_
        refine sv_aload_n C rfl rfl d_M_token_II_30 ?_
        refine sv_get C fg_M_210 0 rfl rfl d_M_token_II_31 ?_
        refine sv_ifZ_eq C 39 (by decide) d_M_token_II_34 (fun c34 => ?_) (fun c34 => ?_)
        · skip
          exact absurd c34 (by decide)
        · skip
          refine sv_iconst C (v := 0) (by decide) d_M_token_II_37 ?_
          exact hr _ _ _ _ d_M_token_II_38 rfl ⟨rfl, rfl⟩
      · skip
        exact absurd c19 hi
    · skip
      exact absurd hq (by omega)

def rm_M_character : Room := { frames := 1, cells := 0, slots := 0, locals := 21 }
set_option maxHeartbeats 4000000 in
set_option maxRecDepth 100000 in
theorem c_M_character (l : Launch) (g : sv_G) (rest : va_W) (ad : Nat → Nat) (inl wd n : Nat) (th wm : Int32) (b tf wf ch po st : Nat → Int32) (T : List (Nat × List Int32)) (hT : pu_Tok ch po st T) (hn : T.length ≤ 8192) (ho : pu_off T T.length ≤ 8192) (i : Nat) (hi : i < T.length) (k0 : Nat) (hk : k0 < (T.getD i (0, [])).2.length) : sv_Mi l y_M_character b_M_character 3 (some (.int)) rm_M_character g [.ref (ad 0), .int (nI i), .int (nI k0)] ((ad 0, .inr (7, [.ref (ad 7), .ref (ad 8), .ref (ad 9), .ref (ad 10), .ref (ad 1), .int (nI inl), .int th, .ref (ad 2), .int (nI n), .ref (ad 3), .ref (ad 4), .ref (ad 5), .int (nI T.length), .int (nI wd), .ref (ad 6), .int wm])) :: (ad 1, .inl (g.2.1 1, 8192, .inl b)) :: (ad 2, .inl (g.2.1 0, 8192, .inl tf)) :: (ad 3, .inl (g.2.1 0, 8704, .inl ch)) :: (ad 4, .inl (g.2.1 0, 8193, .inl st)) :: (ad 5, .inl (g.2.1 0, 8192, .inl po)) :: (ad 6, .inl (g.2.1 0, 260, .inl wf)) :: rest) (fun r w => r = (T.getD i (0, [])).2.getD k0 0 ∧ w = ((ad 0, .inr (7, [.ref (ad 7), .ref (ad 8), .ref (ad 9), .ref (ad 10), .ref (ad 1), .int (nI inl), .int 0, .ref (ad 2), .int (nI n), .ref (ad 3), .ref (ad 4), .ref (ad 5), .int (nI T.length), .int (nI wd), .ref (ad 6), .int wm])) :: (ad 1, .inl (g.2.1 1, 8192, .inl b)) :: (ad 2, .inl (g.2.1 0, 8192, .inl tf)) :: (ad 3, .inl (g.2.1 0, 8704, .inl ch)) :: (ad 4, .inl (g.2.1 0, 8193, .inl st)) :: (ad 5, .inl (g.2.1 0, 8192, .inl po)) :: (ad 6, .inl (g.2.1 0, 260, .inl wf)) :: rest)) := by
  have ei : (nI i).toInt = (i : Int) := nI_toInt (by omega)
  have eo := pu_off_in hi
  have es := pu_off_s T i
  refine sv_enter_i (by decide) rfl rfl (Nat.le_of_ble_eq_true rfl) (fun X C hI hr => ?_)
  refine sv_lvE (lv' := [some _, some _, some _]) rfl ?_
  refine sv_aload_n C rfl rfl d_M_character_0 ?_
  refine sv_aload_n C rfl rfl d_M_character_1 ?_
  refine sv_iload_n C rfl rfl d_M_character_2 ?_
  refine sv_callVi C (c_M_there l g rest ad inl wd n th wm b tf wf ch po st T hT hn ho (nI i)) lk_M_336 List.mem_cons_self rfl d_M_character_3 (by decide) (Nat.le_of_ble_eq_true rfl) (by decide) (fun r w hw => ?_)
  obtain ⟨rfl, rfl⟩ := hw
  refine sv_ifB_eq C _ 36 (by decide) d_M_character_6 (fun c6 => ?_) (fun c6 => ?_)
  · skip
    exact absurd ⟨by omega, by omega⟩ c6
  · skip
    refine sv_iload_n C rfl rfl d_M_character_9 ?_
    refine sv_ifZ_lt C 36 (by decide) d_M_character_10 (fun c10 => ?_) (fun c10 => ?_)
    · skip
      exact absurd c10 (by rw [nI_toInt (by omega)]; omega)
    · skip
      refine sv_iload_n C rfl rfl d_M_character_13 ?_
      refine sv_aload_n C rfl rfl d_M_character_14 ?_
      refine sv_get C fg_M_201 0 rfl rfl d_M_character_15 ?_
      refine sv_iload_n C rfl rfl d_M_character_18 ?_
      refine sv_iconst C (v := 1) (by decide) d_M_character_19 ?_
      refine sv_iaddN C _ 1  d_M_character_20 ?_
      refine sv_ialdN C _ 4 rfl (by omega) (by decide) d_M_character_21 ?_
      refine sv_eqi (hT.1 (i + 1) (by omega)) ?_
      refine sv_aload_n C rfl rfl d_M_character_22 ?_
      refine sv_get C fg_M_201 0 rfl rfl d_M_character_23 ?_
      refine sv_iload_n C rfl rfl d_M_character_26 ?_
      refine sv_ialdN C _ 4 rfl (by omega) (by decide) d_M_character_27 ?_
      refine sv_eqi (hT.1 i (by omega)) ?_
      refine sv_isubN C _ _ (by omega) d_M_character_28 ?_
      refine sv_icmpN_ge C _ _ (by omega) (by omega) 36 (by decide) d_M_character_29 (fun c29 => ?_) (fun c29 => ?_)
      · skip
        exact absurd c29 (by omega)
      · skip
        refine sv_iconst C (v := 0) (by decide) d_M_character_32 ?_
        refine sv_goto C 37 (by decide) d_M_character_33 ?_
        refine sv_put C fp_M_210 0 rfl rfl rfl (Nat.le_of_ble_eq_true rfl) ((_, .inr (_, [_, _, _, _, _, _, _, _, _, _, _, _, _, _, _, _])) :: _ :: _ :: _ :: _ :: _ :: _ :: _) rfl d_M_character_37 ?_
        refine sv_aload_n C rfl rfl d_M_character_40 ?_
        refine sv_get C fg_M_210 0 rfl rfl d_M_character_41 ?_
        refine sv_ifZ_eq C 51 (by decide) d_M_character_44 (fun c44 => ?_) (fun c44 => ?_)
        · skip
          refine sv_aload_n C rfl rfl d_M_character_51 ?_
          refine sv_get C fg_M_198 0 rfl rfl d_M_character_52 ?_
          refine sv_aload_n C rfl rfl d_M_character_55 ?_
          refine sv_get C fg_M_201 0 rfl rfl d_M_character_56 ?_
          refine sv_iload_n C rfl rfl d_M_character_59 ?_
          refine sv_ialdN C _ 4 rfl (by omega) (by decide) d_M_character_60 ?_
          refine sv_eqi (hT.1 i (by omega)) ?_
          refine sv_iload_n C rfl rfl d_M_character_61 ?_
          refine sv_iaddN C _ _  d_M_character_62 ?_
          refine sv_ialdN C _ 3 rfl (by omega) (by decide) d_M_character_63 ?_
          refine sv_eqi (hT.2.2 i hi k0 hk) ?_
          exact hr _ _ _ _ d_M_character_64 rfl ⟨rfl, rfl⟩
        · skip
          exact absurd c44 (by decide)

set_option maxHeartbeats 4000000 in
set_option maxRecDepth 100000 in
theorem c_M_character_no1 (l : Launch) (g : sv_G) (rest : va_W) (ad : Nat → Nat) (inl wd n : Nat) (th wm : Int32) (b tf wf ch po st : Nat → Int32) (T : List (Nat × List Int32)) (hT : pu_Tok ch po st T) (hn : T.length ≤ 8192) (ho : pu_off T T.length ≤ 8192) (i k0 : Int32) (hi : ¬ (0 ≤ i.toInt ∧ i.toInt < T.length)) : sv_Mi l y_M_character b_M_character 3 (some (.int)) rm_M_character g [.ref (ad 0), .int i, .int k0] ((ad 0, .inr (7, [.ref (ad 7), .ref (ad 8), .ref (ad 9), .ref (ad 10), .ref (ad 1), .int (nI inl), .int th, .ref (ad 2), .int (nI n), .ref (ad 3), .ref (ad 4), .ref (ad 5), .int (nI T.length), .int (nI wd), .ref (ad 6), .int wm])) :: (ad 1, .inl (g.2.1 1, 8192, .inl b)) :: (ad 2, .inl (g.2.1 0, 8192, .inl tf)) :: (ad 3, .inl (g.2.1 0, 8704, .inl ch)) :: (ad 4, .inl (g.2.1 0, 8193, .inl st)) :: (ad 5, .inl (g.2.1 0, 8192, .inl po)) :: (ad 6, .inl (g.2.1 0, 260, .inl wf)) :: rest) (fun r w => r = 0 ∧ w = ((ad 0, .inr (7, [.ref (ad 7), .ref (ad 8), .ref (ad 9), .ref (ad 10), .ref (ad 1), .int (nI inl), .int 1, .ref (ad 2), .int (nI n), .ref (ad 3), .ref (ad 4), .ref (ad 5), .int (nI T.length), .int (nI wd), .ref (ad 6), .int wm])) :: (ad 1, .inl (g.2.1 1, 8192, .inl b)) :: (ad 2, .inl (g.2.1 0, 8192, .inl tf)) :: (ad 3, .inl (g.2.1 0, 8704, .inl ch)) :: (ad 4, .inl (g.2.1 0, 8193, .inl st)) :: (ad 5, .inl (g.2.1 0, 8192, .inl po)) :: (ad 6, .inl (g.2.1 0, 260, .inl wf)) :: rest)) := by
  refine sv_enter_i (by decide) rfl rfl (Nat.le_of_ble_eq_true rfl) (fun X C hI hr => ?_)
  refine sv_lvE (lv' := [some _, some _, some _]) rfl ?_
  refine sv_aload_n C rfl rfl d_M_character_0 ?_
  refine sv_aload_n C rfl rfl d_M_character_1 ?_
  refine sv_iload_n C rfl rfl d_M_character_2 ?_
  refine sv_callVi C (c_M_there l g rest ad inl wd n th wm b tf wf ch po st T hT hn ho i) lk_M_336 List.mem_cons_self rfl d_M_character_3 (by decide) (Nat.le_of_ble_eq_true rfl) (by decide) (fun r w hw => ?_)
  obtain ⟨rfl, rfl⟩ := hw
  refine sv_ifB_eq C _ 36 (by decide) d_M_character_6 (fun c6 => ?_) (fun c6 => ?_)
  · skip
    refine sv_iconst C (v := 1) (by decide) d_M_character_36 ?_
    refine sv_put C fp_M_210 0 rfl rfl rfl (Nat.le_of_ble_eq_true rfl) ((_, .inr (_, [_, _, _, _, _, _, _, _, _, _, _, _, _, _, _, _])) :: _ :: _ :: _ :: _ :: _ :: _ :: _) rfl d_M_character_37 ?_
    refine sv_aload_n C rfl rfl d_M_character_40 ?_
    refine sv_get C fg_M_210 0 rfl rfl d_M_character_41 ?_
    refine sv_ifZ_eq C 51 (by decide) d_M_character_44 (fun c44 => ?_) (fun c44 => ?_)
    · skip
      exact absurd c44 (by decide)
    · skip
      refine sv_iconst C (v := 0) (by decide) d_M_character_47 ?_
      refine sv_goto C 64 (by decide) d_M_character_48 ?_
      exact hr _ _ _ _ d_M_character_64 rfl ⟨rfl, rfl⟩
  · skip
    exact absurd c6 hi

set_option maxHeartbeats 4000000 in
set_option maxRecDepth 100000 in
theorem c_M_character_no2 (l : Launch) (g : sv_G) (rest : va_W) (ad : Nat → Nat) (inl wd n : Nat) (th wm : Int32) (b tf wf ch po st : Nat → Int32) (T : List (Nat × List Int32)) (hT : pu_Tok ch po st T) (hn : T.length ≤ 8192) (ho : pu_off T T.length ≤ 8192) (i : Nat) (hi : i < T.length) (k0 : Int32) (hk : k0.toInt < 0 ∨ ((T.getD i (0, [])).2.length : Int) ≤ k0.toInt) : sv_Mi l y_M_character b_M_character 3 (some (.int)) rm_M_character g [.ref (ad 0), .int (nI i), .int k0] ((ad 0, .inr (7, [.ref (ad 7), .ref (ad 8), .ref (ad 9), .ref (ad 10), .ref (ad 1), .int (nI inl), .int th, .ref (ad 2), .int (nI n), .ref (ad 3), .ref (ad 4), .ref (ad 5), .int (nI T.length), .int (nI wd), .ref (ad 6), .int wm])) :: (ad 1, .inl (g.2.1 1, 8192, .inl b)) :: (ad 2, .inl (g.2.1 0, 8192, .inl tf)) :: (ad 3, .inl (g.2.1 0, 8704, .inl ch)) :: (ad 4, .inl (g.2.1 0, 8193, .inl st)) :: (ad 5, .inl (g.2.1 0, 8192, .inl po)) :: (ad 6, .inl (g.2.1 0, 260, .inl wf)) :: rest) (fun r w => r = 0 ∧ w = ((ad 0, .inr (7, [.ref (ad 7), .ref (ad 8), .ref (ad 9), .ref (ad 10), .ref (ad 1), .int (nI inl), .int 1, .ref (ad 2), .int (nI n), .ref (ad 3), .ref (ad 4), .ref (ad 5), .int (nI T.length), .int (nI wd), .ref (ad 6), .int wm])) :: (ad 1, .inl (g.2.1 1, 8192, .inl b)) :: (ad 2, .inl (g.2.1 0, 8192, .inl tf)) :: (ad 3, .inl (g.2.1 0, 8704, .inl ch)) :: (ad 4, .inl (g.2.1 0, 8193, .inl st)) :: (ad 5, .inl (g.2.1 0, 8192, .inl po)) :: (ad 6, .inl (g.2.1 0, 260, .inl wf)) :: rest)) := by
  have ei : (nI i).toInt = (i : Int) := nI_toInt (by omega)
  have eo := pu_off_in hi
  have es := pu_off_s T i
  refine sv_enter_i (by decide) rfl rfl (Nat.le_of_ble_eq_true rfl) (fun X C hI hr => ?_)
  refine sv_lvE (lv' := [some _, some _, some _]) rfl ?_
  refine sv_aload_n C rfl rfl d_M_character_0 ?_
  refine sv_aload_n C rfl rfl d_M_character_1 ?_
  refine sv_iload_n C rfl rfl d_M_character_2 ?_
  refine sv_callVi C (c_M_there l g rest ad inl wd n th wm b tf wf ch po st T hT hn ho (nI i)) lk_M_336 List.mem_cons_self rfl d_M_character_3 (by decide) (Nat.le_of_ble_eq_true rfl) (by decide) (fun r w hw => ?_)
  obtain ⟨rfl, rfl⟩ := hw
  refine sv_ifB_eq C _ 36 (by decide) d_M_character_6 (fun c6 => ?_) (fun c6 => ?_)
  · skip
    exact absurd ⟨by omega, by omega⟩ c6
  · skip
    refine sv_iload_n C rfl rfl d_M_character_9 ?_
    refine sv_ifZ_lt C 36 (by decide) d_M_character_10 (fun c10 => ?_) (fun c10 => ?_)
    · skip
      refine sv_iconst C (v := 1) (by decide) d_M_character_36 ?_
      refine sv_put C fp_M_210 0 rfl rfl rfl (Nat.le_of_ble_eq_true rfl) ((_, .inr (_, [_, _, _, _, _, _, _, _, _, _, _, _, _, _, _, _])) :: _ :: _ :: _ :: _ :: _ :: _ :: _) rfl d_M_character_37 ?_
      refine sv_aload_n C rfl rfl d_M_character_40 ?_
      refine sv_get C fg_M_210 0 rfl rfl d_M_character_41 ?_
      refine sv_ifZ_eq C 51 (by decide) d_M_character_44 (fun c44 => ?_) (fun c44 => ?_)
      · skip
        exact absurd c44 (by decide)
      · skip
        refine sv_iconst C (v := 0) (by decide) d_M_character_47 ?_
        refine sv_goto C 64 (by decide) d_M_character_48 ?_
        exact hr _ _ _ _ d_M_character_64 rfl ⟨rfl, rfl⟩
    · skip
      refine sv_iload_n C rfl rfl d_M_character_13 ?_
      refine sv_aload_n C rfl rfl d_M_character_14 ?_
      refine sv_get C fg_M_201 0 rfl rfl d_M_character_15 ?_
      refine sv_iload_n C rfl rfl d_M_character_18 ?_
      refine sv_iconst C (v := 1) (by decide) d_M_character_19 ?_
      refine sv_iaddN C _ 1  d_M_character_20 ?_
      refine sv_ialdN C _ 4 rfl (by omega) (by decide) d_M_character_21 ?_
      refine sv_eqi (hT.1 (i + 1) (by omega)) ?_
      refine sv_aload_n C rfl rfl d_M_character_22 ?_
      refine sv_get C fg_M_201 0 rfl rfl d_M_character_23 ?_
      refine sv_iload_n C rfl rfl d_M_character_26 ?_
      refine sv_ialdN C _ 4 rfl (by omega) (by decide) d_M_character_27 ?_
      refine sv_eqi (hT.1 i (by omega)) ?_
      refine sv_isubN C _ _ (by omega) d_M_character_28 ?_
      refine sv_icmp_ge C 36 (by decide) d_M_character_29 (fun c29 => ?_) (fun c29 => ?_)
      · skip
        refine sv_iconst C (v := 1) (by decide) d_M_character_36 ?_
        refine sv_put C fp_M_210 0 rfl rfl rfl (Nat.le_of_ble_eq_true rfl) ((_, .inr (_, [_, _, _, _, _, _, _, _, _, _, _, _, _, _, _, _])) :: _ :: _ :: _ :: _ :: _ :: _ :: _) rfl d_M_character_37 ?_
        refine sv_aload_n C rfl rfl d_M_character_40 ?_
        refine sv_get C fg_M_210 0 rfl rfl d_M_character_41 ?_
        refine sv_ifZ_eq C 51 (by decide) d_M_character_44 (fun c44 => ?_) (fun c44 => ?_)
        · skip
          exact absurd c44 (by decide)
        · skip
          refine sv_iconst C (v := 0) (by decide) d_M_character_47 ?_
          refine sv_goto C 64 (by decide) d_M_character_48 ?_
          exact hr _ _ _ _ d_M_character_64 rfl ⟨rfl, rfl⟩
      · skip
        rw [Int32.le_iff_toInt_le, nI_toInt (by omega)] at c29
        exact absurd hk (by omega)

def rm_M_same : Room := { frames := 0, cells := 0, slots := 0, locals := 0 }
set_option maxHeartbeats 4000000 in
set_option maxRecDepth 100000 in
theorem c_M_same (l : Launch) (g : sv_G) (rest : va_W) (ad : Nat → Nat) (inl wd n : Nat) (th wm : Int32) (b tf wf ch po st : Nat → Int32) (T : List (Nat × List Int32)) (hT : pu_Tok ch po st T) (hn : T.length ≤ 8192) (ho : pu_off T T.length ≤ 8192) (i j : Nat) (hi : i < T.length) (hj : j < T.length) : sv_Mi l y_M_same b_M_same 5 (some (.boolean)) rm_M_same g [.ref (ad 0), .int (nI i), .int (nI j)] ((ad 0, .inr (7, [.ref (ad 7), .ref (ad 8), .ref (ad 9), .ref (ad 10), .ref (ad 1), .int (nI inl), .int th, .ref (ad 2), .int (nI n), .ref (ad 3), .ref (ad 4), .ref (ad 5), .int (nI T.length), .int (nI wd), .ref (ad 6), .int wm])) :: (ad 1, .inl (g.2.1 1, 8192, .inl b)) :: (ad 2, .inl (g.2.1 0, 8192, .inl tf)) :: (ad 3, .inl (g.2.1 0, 8704, .inl ch)) :: (ad 4, .inl (g.2.1 0, 8193, .inl st)) :: (ad 5, .inl (g.2.1 0, 8192, .inl po)) :: (ad 6, .inl (g.2.1 0, 260, .inl wf)) :: rest) (fun r w => r = (if (T.getD j (0, [])).2 = (T.getD i (0, [])).2 then 1 else 0) ∧ w = ((ad 0, .inr (7, [.ref (ad 7), .ref (ad 8), .ref (ad 9), .ref (ad 10), .ref (ad 1), .int (nI inl), .int th, .ref (ad 2), .int (nI n), .ref (ad 3), .ref (ad 4), .ref (ad 5), .int (nI T.length), .int (nI wd), .ref (ad 6), .int wm])) :: (ad 1, .inl (g.2.1 1, 8192, .inl b)) :: (ad 2, .inl (g.2.1 0, 8192, .inl tf)) :: (ad 3, .inl (g.2.1 0, 8704, .inl ch)) :: (ad 4, .inl (g.2.1 0, 8193, .inl st)) :: (ad 5, .inl (g.2.1 0, 8192, .inl po)) :: (ad 6, .inl (g.2.1 0, 260, .inl wf)) :: rest)) := by
  have ei := pu_off_in hi
  have ej := pu_off_in hj
  have si := pu_off_s T i
  have sj := pu_off_s T j
  refine sv_enter_i (by decide) rfl rfl (Nat.le_of_ble_eq_true rfl) (fun X C hI hr => ?_)
  refine sv_lvE (lv' := [some _, some _, some _, none, none]) rfl ?_
  have L40 : ∀ (k : Nat) (q : Nat), ((T.getD j (0, [])).2.length = (T.getD i (0, [])).2.length ∧ q ≤ (T.getD i (0, [])).2.length ∧ (T.getD i (0, [])).2.length ≤ q + k ∧ ∀ m, m < q → (T.getD j (0, [])).2.getD m 0 = (T.getD i (0, [])).2.getD m 0) → sv_V X 5 0 0 ((ad 0, .inr (7, [.ref (ad 7), .ref (ad 8), .ref (ad 9), .ref (ad 10), .ref (ad 1), .int (nI inl), .int th, .ref (ad 2), .int (nI n), .ref (ad 3), .ref (ad 4), .ref (ad 5), .int (nI T.length), .int (nI wd), .ref (ad 6), .int wm])) :: (ad 1, .inl (g.2.1 1, 8192, .inl b)) :: (ad 2, .inl (g.2.1 0, 8192, .inl tf)) :: (ad 3, .inl (g.2.1 0, 8704, .inl ch)) :: (ad 4, .inl (g.2.1 0, 8193, .inl st)) :: (ad 5, .inl (g.2.1 0, 8192, .inl po)) :: (ad 6, .inl (g.2.1 0, 260, .inl wf)) :: rest) 40 [some (.ref (ad 0)), some (.int (nI i)), some (.int (nI j)), some (.int (nI (pu_off T (i + 1) - pu_off T i))), some (.int (nI q))] [] := by
    intro k
    induction k with
    | zero =>
      intro q hq
      obtain ⟨q1, q2, q3, q4⟩ := hq
      refine sv_iload C rfl d_M_same_40 ?_
      refine sv_iload_n C rfl rfl d_M_same_42 ?_
      refine sv_icmpN_ge C _ _ (by omega) (by omega) 85 (by decide) d_M_same_43 (fun c43 => ?_) (fun c43 => ?_)
      · skip
        refine sv_iconst C (v := 1) (by decide) d_M_same_85 ?_
        exact hr _ _ _ _ d_M_same_86 rfl ⟨(if_pos (pu_eq_of q1 (fun m hm => q4 m (by omega)))).symm, rfl⟩
      · skip
        exact absurd c43 (by omega)
    | succ k ih =>
      intro q hq
      obtain ⟨q1, q2, q3, q4⟩ := hq
      refine sv_iload C rfl d_M_same_40 ?_
      refine sv_iload_n C rfl rfl d_M_same_42 ?_
      refine sv_icmpN_ge C _ _ (by omega) (by omega) 85 (by decide) d_M_same_43 (fun c43 => ?_) (fun c43 => ?_)
      · skip
        refine sv_iconst C (v := 1) (by decide) d_M_same_85 ?_
        exact hr _ _ _ _ d_M_same_86 rfl ⟨(if_pos (pu_eq_of q1 (fun m hm => q4 m (by omega)))).symm, rfl⟩
      · skip
        refine sv_aload_n C rfl rfl d_M_same_46 ?_
        refine sv_get C fg_M_198 0 rfl rfl d_M_same_47 ?_
        refine sv_aload_n C rfl rfl d_M_same_50 ?_
        refine sv_get C fg_M_201 0 rfl rfl d_M_same_51 ?_
        refine sv_iload_n C rfl rfl d_M_same_54 ?_
        refine sv_ialdN C _ 4 rfl (by omega) (by decide) d_M_same_55 ?_
        refine sv_eqi (hT.1 i (by omega)) ?_
        refine sv_iload C rfl d_M_same_56 ?_
        refine sv_iaddN C _ _  d_M_same_58 ?_
        refine sv_ialdN C _ 3 rfl (by omega) (by decide) d_M_same_59 ?_
        refine sv_eqi (hT.2.2 i hi q (by omega)) ?_
        refine sv_aload_n C rfl rfl d_M_same_60 ?_
        refine sv_get C fg_M_198 0 rfl rfl d_M_same_61 ?_
        refine sv_aload_n C rfl rfl d_M_same_64 ?_
        refine sv_get C fg_M_201 0 rfl rfl d_M_same_65 ?_
        refine sv_iload_n C rfl rfl d_M_same_68 ?_
        refine sv_ialdN C _ 4 rfl (by omega) (by decide) d_M_same_69 ?_
        refine sv_eqi (hT.1 j (by omega)) ?_
        refine sv_iload C rfl d_M_same_70 ?_
        refine sv_iaddN C _ _  d_M_same_72 ?_
        refine sv_ialdN C _ 3 rfl (by omega) (by decide) d_M_same_73 ?_
        refine sv_eqi (hT.2.2 j hj q (by omega)) ?_
        refine sv_icmp_eq C 79 (by decide) d_M_same_74 (fun c74 => ?_) (fun c74 => ?_)
        · skip
          refine sv_iincN C 1 _ rfl [some _, some _, some _, some _, some _] rfl d_M_same_79 ?_
          refine sv_goto C 40 (by decide) d_M_same_82 ?_
          exact ih (q + 1) ⟨q1, by omega, by omega, fun m hm => by
            rcases Nat.lt_or_ge m q with h | h
            · exact q4 m h
            · have hmq : m = q := by omega
              subst hmq
              exact c74.symm⟩
        · skip
          refine sv_iconst C (v := 0) (by decide) d_M_same_77 ?_
          exact hr _ _ _ _ d_M_same_78 rfl ⟨(if_neg (fun z => c74 (by rw [z]))).symm, rfl⟩
  refine sv_aload_n C rfl rfl d_M_same_0 ?_
  refine sv_get C fg_M_201 0 rfl rfl d_M_same_1 ?_
  refine sv_iload_n C rfl rfl d_M_same_4 ?_
  refine sv_iconst C (v := 1) (by decide) d_M_same_5 ?_
  refine sv_iaddN C _ 1  d_M_same_6 ?_
  refine sv_ialdN C _ 4 rfl (by omega) (by decide) d_M_same_7 ?_
  refine sv_eqi (hT.1 (i + 1) (by omega)) ?_
  refine sv_aload_n C rfl rfl d_M_same_8 ?_
  refine sv_get C fg_M_201 0 rfl rfl d_M_same_9 ?_
  refine sv_iload_n C rfl rfl d_M_same_12 ?_
  refine sv_ialdN C _ 4 rfl (by omega) (by decide) d_M_same_13 ?_
  refine sv_eqi (hT.1 i (by omega)) ?_
  refine sv_isubN C _ _ (by omega) d_M_same_14 ?_
  refine sv_istore_n C rfl (by decide) [some _, some _, some _, some _, none] rfl d_M_same_15 ?_
  refine sv_iload_n C rfl rfl d_M_same_16 ?_
  refine sv_aload_n C rfl rfl d_M_same_17 ?_
  refine sv_get C fg_M_201 0 rfl rfl d_M_same_18 ?_
  refine sv_iload_n C rfl rfl d_M_same_21 ?_
  refine sv_iconst C (v := 1) (by decide) d_M_same_22 ?_
  refine sv_iaddN C _ 1  d_M_same_23 ?_
  refine sv_ialdN C _ 4 rfl (by omega) (by decide) d_M_same_24 ?_
  refine sv_eqi (hT.1 (j + 1) (by omega)) ?_
  refine sv_aload_n C rfl rfl d_M_same_25 ?_
  refine sv_get C fg_M_201 0 rfl rfl d_M_same_26 ?_
  refine sv_iload_n C rfl rfl d_M_same_29 ?_
  refine sv_ialdN C _ 4 rfl (by omega) (by decide) d_M_same_30 ?_
  refine sv_eqi (hT.1 j (by omega)) ?_
  refine sv_isubN C _ _ (by omega) d_M_same_31 ?_
  refine sv_icmpN_eq C _ _ (by omega) (by omega) 37 (by decide) d_M_same_32 (fun c32 => ?_) (fun c32 => ?_)
  · skip
    refine sv_iconst C (v := 0) (by decide) d_M_same_37 ?_
    refine sv_istore C (by decide) [some _, some _, some _, some _, some _] rfl d_M_same_38 ?_
    exact L40 (T.getD i (0, [])).2.length 0 ⟨by omega, by omega, by omega, fun m hm => absurd hm (Nat.not_lt_zero m)⟩
  · skip
    refine sv_iconst C (v := 0) (by decide) d_M_same_35 ?_
    exact hr _ _ _ _ d_M_same_36 rfl ⟨(if_neg (fun z => c32 (by rw [si, sj, z]; omega))).symm, rfl⟩

def rm_M_first : Room := { frames := 1, cells := 0, slots := 0, locals := 24 }
set_option maxHeartbeats 4000000 in
set_option maxRecDepth 100000 in
theorem c_M_first (l : Launch) (g : sv_G) (rest : va_W) (ad : Nat → Nat) (inl wd n : Nat) (th wm : Int32) (b tf wf ch po st : Nat → Int32) (T : List (Nat × List Int32)) (hT : pu_Tok ch po st T) (hn : T.length ≤ 8192) (ho : pu_off T T.length ≤ 8192) (i : Nat) (hi : i < T.length) : sv_Mi l y_M_first b_M_first 3 (some (.int)) rm_M_first g [.ref (ad 0), .int (nI i)] ((ad 0, .inr (7, [.ref (ad 7), .ref (ad 8), .ref (ad 9), .ref (ad 10), .ref (ad 1), .int (nI inl), .int th, .ref (ad 2), .int (nI n), .ref (ad 3), .ref (ad 4), .ref (ad 5), .int (nI T.length), .int (nI wd), .ref (ad 6), .int wm])) :: (ad 1, .inl (g.2.1 1, 8192, .inl b)) :: (ad 2, .inl (g.2.1 0, 8192, .inl tf)) :: (ad 3, .inl (g.2.1 0, 8704, .inl ch)) :: (ad 4, .inl (g.2.1 0, 8193, .inl st)) :: (ad 5, .inl (g.2.1 0, 8192, .inl po)) :: (ad 6, .inl (g.2.1 0, 260, .inl wf)) :: rest) (fun r w => r = nI (pu_first T i i 0) ∧ w = ((ad 0, .inr (7, [.ref (ad 7), .ref (ad 8), .ref (ad 9), .ref (ad 10), .ref (ad 1), .int (nI inl), .int 0, .ref (ad 2), .int (nI n), .ref (ad 3), .ref (ad 4), .ref (ad 5), .int (nI T.length), .int (nI wd), .ref (ad 6), .int wm])) :: (ad 1, .inl (g.2.1 1, 8192, .inl b)) :: (ad 2, .inl (g.2.1 0, 8192, .inl tf)) :: (ad 3, .inl (g.2.1 0, 8704, .inl ch)) :: (ad 4, .inl (g.2.1 0, 8193, .inl st)) :: (ad 5, .inl (g.2.1 0, 8192, .inl po)) :: (ad 6, .inl (g.2.1 0, 260, .inl wf)) :: rest)) := by
  have ei : (nI i).toInt = (i : Int) := nI_toInt (by omega)
  refine sv_enter_i (by decide) rfl rfl (Nat.le_of_ble_eq_true rfl) (fun X C hI hr => ?_)
  refine sv_lvE (lv' := [some _, some _, none]) rfl ?_
  have L28 : ∀ (k : Nat) (j : Nat), (j + k = i ∧ pu_first T i i 0 = pu_first T i k j) → sv_V X 3 0 0 ((ad 0, .inr (7, [.ref (ad 7), .ref (ad 8), .ref (ad 9), .ref (ad 10), .ref (ad 1), .int (nI inl), .int 0, .ref (ad 2), .int (nI n), .ref (ad 3), .ref (ad 4), .ref (ad 5), .int (nI T.length), .int (nI wd), .ref (ad 6), .int wm])) :: (ad 1, .inl (g.2.1 1, 8192, .inl b)) :: (ad 2, .inl (g.2.1 0, 8192, .inl tf)) :: (ad 3, .inl (g.2.1 0, 8704, .inl ch)) :: (ad 4, .inl (g.2.1 0, 8193, .inl st)) :: (ad 5, .inl (g.2.1 0, 8192, .inl po)) :: (ad 6, .inl (g.2.1 0, 260, .inl wf)) :: rest) 28 [some (.ref (ad 0)), some (.int (nI i)), some (.int (nI j))] [] := by
    intro k
    induction k with
    | zero =>
      intro j hq
      obtain ⟨q1, q2⟩ := hq
      refine sv_aload_n C rfl rfl d_M_first_28 ?_
      refine sv_iload_n C rfl rfl d_M_first_29 ?_
      refine sv_iload_n C rfl rfl d_M_first_30 ?_
      refine sv_callVi C (c_M_same l g rest ad inl wd n 0 wm b tf wf ch po st T hT hn ho i j hi (by omega)) lk_M_338 List.mem_cons_self rfl d_M_first_31 (by decide) (Nat.le_of_ble_eq_true rfl) (by decide) (fun r w hw => ?_)
      obtain ⟨rfl, rfl⟩ := hw
      refine sv_ifB_ne C _ 43 (by decide) d_M_first_34 (fun c34 => ?_) (fun c34 => ?_)
      · skip
        refine sv_iload_n C rfl rfl d_M_first_43 ?_
        exact hr _ _ _ _ d_M_first_44 rfl ⟨congrArg nI (by rw [q2, pu_first]), rfl⟩
      · skip
        exact absurd (by rw [show j = i by omega]) c34
    | succ k ih =>
      intro j hq
      obtain ⟨q1, q2⟩ := hq
      refine sv_aload_n C rfl rfl d_M_first_28 ?_
      refine sv_iload_n C rfl rfl d_M_first_29 ?_
      refine sv_iload_n C rfl rfl d_M_first_30 ?_
      refine sv_callVi C (c_M_same l g rest ad inl wd n 0 wm b tf wf ch po st T hT hn ho i j hi (by omega)) lk_M_338 List.mem_cons_self rfl d_M_first_31 (by decide) (Nat.le_of_ble_eq_true rfl) (by decide) (fun r w hw => ?_)
      obtain ⟨rfl, rfl⟩ := hw
      refine sv_ifB_ne C _ 43 (by decide) d_M_first_34 (fun c34 => ?_) (fun c34 => ?_)
      · skip
        refine sv_iload_n C rfl rfl d_M_first_43 ?_
        exact hr _ _ _ _ d_M_first_44 rfl ⟨congrArg nI (by rw [q2, pu_first, if_pos c34]), rfl⟩
      · skip
        refine sv_iincN C 1 _ rfl [some _, some _, some _] rfl d_M_first_37 ?_
        refine sv_goto C 28 (by decide) d_M_first_40 ?_
        exact ih (j + 1) ⟨by omega, by rw [q2, pu_first, if_neg c34]⟩
  refine sv_aload_n C rfl rfl d_M_first_0 ?_
  refine sv_aload_n C rfl rfl d_M_first_1 ?_
  refine sv_iload_n C rfl rfl d_M_first_2 ?_
  refine sv_callVi C (c_M_there l g rest ad inl wd n th wm b tf wf ch po st T hT hn ho (nI i)) lk_M_336 List.mem_cons_self rfl d_M_first_3 (by decide) (Nat.le_of_ble_eq_true rfl) (by decide) (fun r w hw => ?_)
  obtain ⟨rfl, rfl⟩ := hw
  refine sv_ifB_eq C _ 13 (by decide) d_M_first_6 (fun c6 => ?_) (fun c6 => ?_)
  · skip
    exact absurd ⟨by omega, by omega⟩ c6
  · skip
    refine sv_iconst C (v := 0) (by decide) d_M_first_9 ?_
    refine sv_goto C 14 (by decide) d_M_first_10 ?_
    refine sv_put C fp_M_210 0 rfl rfl rfl (Nat.le_of_ble_eq_true rfl) ((_, .inr (_, [_, _, _, _, _, _, _, _, _, _, _, _, _, _, _, _])) :: _ :: _ :: _ :: _ :: _ :: _ :: _) rfl d_M_first_14 ?_
    refine sv_aload_n C rfl rfl d_M_first_17 ?_
    refine sv_get C fg_M_210 0 rfl rfl d_M_first_18 ?_
    refine sv_ifZ_eq C 26 (by decide) d_M_first_21 (fun c21 => ?_) (fun c21 => ?_)
    · skip
      refine sv_iconst C (v := 0) (by decide) d_M_first_26 ?_
      refine sv_istore_n C rfl (by decide) [some _, some _, some _] rfl d_M_first_27 ?_
      exact L28 i 0 ⟨by omega, rfl⟩
    · skip
      exact absurd c21 (by decide)

set_option maxHeartbeats 4000000 in
set_option maxRecDepth 100000 in
theorem c_M_first_no (l : Launch) (g : sv_G) (rest : va_W) (ad : Nat → Nat) (inl wd n : Nat) (th wm : Int32) (b tf wf ch po st : Nat → Int32) (T : List (Nat × List Int32)) (hT : pu_Tok ch po st T) (hn : T.length ≤ 8192) (ho : pu_off T T.length ≤ 8192) (i : Int32) (hi : ¬ (0 ≤ i.toInt ∧ i.toInt < T.length)) : sv_Mi l y_M_first b_M_first 3 (some (.int)) rm_M_first g [.ref (ad 0), .int i] ((ad 0, .inr (7, [.ref (ad 7), .ref (ad 8), .ref (ad 9), .ref (ad 10), .ref (ad 1), .int (nI inl), .int th, .ref (ad 2), .int (nI n), .ref (ad 3), .ref (ad 4), .ref (ad 5), .int (nI T.length), .int (nI wd), .ref (ad 6), .int wm])) :: (ad 1, .inl (g.2.1 1, 8192, .inl b)) :: (ad 2, .inl (g.2.1 0, 8192, .inl tf)) :: (ad 3, .inl (g.2.1 0, 8704, .inl ch)) :: (ad 4, .inl (g.2.1 0, 8193, .inl st)) :: (ad 5, .inl (g.2.1 0, 8192, .inl po)) :: (ad 6, .inl (g.2.1 0, 260, .inl wf)) :: rest) (fun r w => r = 0 ∧ w = ((ad 0, .inr (7, [.ref (ad 7), .ref (ad 8), .ref (ad 9), .ref (ad 10), .ref (ad 1), .int (nI inl), .int 1, .ref (ad 2), .int (nI n), .ref (ad 3), .ref (ad 4), .ref (ad 5), .int (nI T.length), .int (nI wd), .ref (ad 6), .int wm])) :: (ad 1, .inl (g.2.1 1, 8192, .inl b)) :: (ad 2, .inl (g.2.1 0, 8192, .inl tf)) :: (ad 3, .inl (g.2.1 0, 8704, .inl ch)) :: (ad 4, .inl (g.2.1 0, 8193, .inl st)) :: (ad 5, .inl (g.2.1 0, 8192, .inl po)) :: (ad 6, .inl (g.2.1 0, 260, .inl wf)) :: rest)) := by
  refine sv_enter_i (by decide) rfl rfl (Nat.le_of_ble_eq_true rfl) (fun X C hI hr => ?_)
  refine sv_lvE (lv' := [some _, some _, none]) rfl ?_
  refine sv_aload_n C rfl rfl d_M_first_0 ?_
  refine sv_aload_n C rfl rfl d_M_first_1 ?_
  refine sv_iload_n C rfl rfl d_M_first_2 ?_
  refine sv_callVi C (c_M_there l g rest ad inl wd n th wm b tf wf ch po st T hT hn ho i) lk_M_336 List.mem_cons_self rfl d_M_first_3 (by decide) (Nat.le_of_ble_eq_true rfl) (by decide) (fun r w hw => ?_)
  obtain ⟨rfl, rfl⟩ := hw
  refine sv_ifB_eq C _ 13 (by decide) d_M_first_6 (fun c6 => ?_) (fun c6 => ?_)
  · skip
    refine sv_iconst C (v := 1) (by decide) d_M_first_13 ?_
    refine sv_put C fp_M_210 0 rfl rfl rfl (Nat.le_of_ble_eq_true rfl) ((_, .inr (_, [_, _, _, _, _, _, _, _, _, _, _, _, _, _, _, _])) :: _ :: _ :: _ :: _ :: _ :: _ :: _) rfl d_M_first_14 ?_
    refine sv_aload_n C rfl rfl d_M_first_17 ?_
    refine sv_get C fg_M_210 0 rfl rfl d_M_first_18 ?_
    refine sv_ifZ_eq C 26 (by decide) d_M_first_21 (fun c21 => ?_) (fun c21 => ?_)
    · skip
      exact absurd c21 (by decide)
    · skip
      refine sv_iconst C (v := 0) (by decide) d_M_first_24 ?_
      exact hr _ _ _ _ d_M_first_25 rfl ⟨rfl, rfl⟩
  · skip
    exact absurd c6 hi

def rm_M_sort : Room := { frames := 1, cells := 0, slots := 0, locals := 20 }
set_option maxHeartbeats 4000000 in
set_option maxRecDepth 100000 in
theorem c_M_sort (l : Launch) (g : sv_G) (rest : va_W) (ad : Nat → Nat) (inl wd n : Nat) (th wm : Int32) (b tf wf ch po st : Nat → Int32) (T : List (Nat × List Int32)) (c : Int32) (h1 : 0 ≤ c.toInt) (h2 : c.toInt ≤ 1114111) : sv_Mi l y_M_sort b_M_sort 2 (some (.int)) rm_M_sort g [.ref (ad 0), .int c] ((ad 0, .inr (7, [.ref (ad 7), .ref (ad 8), .ref (ad 9), .ref (ad 10), .ref (ad 1), .int (nI inl), .int th, .ref (ad 2), .int (nI n), .ref (ad 3), .ref (ad 4), .ref (ad 5), .int (nI T.length), .int (nI wd), .ref (ad 6), .int wm])) :: (ad 1, .inl (g.2.1 1, 8192, .inl b)) :: (ad 2, .inl (g.2.1 0, 8192, .inl tf)) :: (ad 3, .inl (g.2.1 0, 8704, .inl ch)) :: (ad 4, .inl (g.2.1 0, 8193, .inl st)) :: (ad 5, .inl (g.2.1 0, 8192, .inl po)) :: (ad 6, .inl (g.2.1 0, 260, .inl wf)) :: rest) (fun r w => r = nI (pu_sort c.toInt) ∧ w = ((ad 0, .inr (7, [.ref (ad 7), .ref (ad 8), .ref (ad 9), .ref (ad 10), .ref (ad 1), .int (nI inl), .int 0, .ref (ad 2), .int (nI n), .ref (ad 3), .ref (ad 4), .ref (ad 5), .int (nI T.length), .int (nI wd), .ref (ad 6), .int wm])) :: (ad 1, .inl (g.2.1 1, 8192, .inl b)) :: (ad 2, .inl (g.2.1 0, 8192, .inl tf)) :: (ad 3, .inl (g.2.1 0, 8704, .inl ch)) :: (ad 4, .inl (g.2.1 0, 8193, .inl st)) :: (ad 5, .inl (g.2.1 0, 8192, .inl po)) :: (ad 6, .inl (g.2.1 0, 260, .inl wf)) :: rest)) := by
  refine sv_enter_i (by decide) rfl rfl (Nat.le_of_ble_eq_true rfl) (fun X C hI hr => ?_)
  refine sv_lvE (lv' := [some _, some _]) rfl ?_
  refine sv_aload_n C rfl rfl d_M_sort_0 ?_
  refine sv_iload_n C rfl rfl d_M_sort_1 ?_
  refine sv_ifZ_lt C 12 (by decide) d_M_sort_2 (fun c2 => ?_) (fun c2 => ?_)
  · skip
    exact absurd c2 (by omega)
  · skip
    refine sv_iload_n C rfl rfl d_M_sort_5 ?_
    refine sv_ldcIw C wc_M_342 d_M_sort_6 ?_
    refine sv_icmpK_le C (1114111) (by decide) 16 (by decide) d_M_sort_9 (fun c9 => ?_) (fun c9 => ?_)
    · skip
      refine sv_iconst C (v := 0) (by decide) d_M_sort_16 ?_
      refine sv_put C fp_M_210 0 rfl rfl rfl (Nat.le_of_ble_eq_true rfl) ((_, .inr (_, [_, _, _, _, _, _, _, _, _, _, _, _, _, _, _, _])) :: _ :: _ :: _ :: _ :: _ :: _ :: _) rfl d_M_sort_17 ?_
      refine sv_aload_n C rfl rfl d_M_sort_20 ?_
      refine sv_get C fg_M_210 0 rfl rfl d_M_sort_21 ?_
      refine sv_ifZ_eq C 31 (by decide) d_M_sort_24 (fun c24 => ?_) (fun c24 => ?_)
      · skip
        refine sv_iload_n C rfl rfl d_M_sort_31 ?_
        refine sv_callSi C (c_M_sortOf l g _ c) lk_M_227  d_M_sort_32 (by decide) (Nat.le_of_ble_eq_true rfl) (by decide) (fun r w hw => ?_)
        obtain ⟨rfl, rfl⟩ := hw
        exact hr _ _ _ _ d_M_sort_35 rfl ⟨rfl, rfl⟩
      · skip
        exact absurd c24 (by decide)
    · skip
      exact absurd c9 (by omega)

set_option maxHeartbeats 4000000 in
set_option maxRecDepth 100000 in
theorem c_M_sort_no (l : Launch) (g : sv_G) (rest : va_W) (ad : Nat → Nat) (inl wd n : Nat) (th wm : Int32) (b tf wf ch po st : Nat → Int32) (T : List (Nat × List Int32)) (c : Int32) (h1 : c.toInt < 0 ∨ 1114111 < c.toInt) : sv_Mi l y_M_sort b_M_sort 2 (some (.int)) rm_M_sort g [.ref (ad 0), .int c] ((ad 0, .inr (7, [.ref (ad 7), .ref (ad 8), .ref (ad 9), .ref (ad 10), .ref (ad 1), .int (nI inl), .int th, .ref (ad 2), .int (nI n), .ref (ad 3), .ref (ad 4), .ref (ad 5), .int (nI T.length), .int (nI wd), .ref (ad 6), .int wm])) :: (ad 1, .inl (g.2.1 1, 8192, .inl b)) :: (ad 2, .inl (g.2.1 0, 8192, .inl tf)) :: (ad 3, .inl (g.2.1 0, 8704, .inl ch)) :: (ad 4, .inl (g.2.1 0, 8193, .inl st)) :: (ad 5, .inl (g.2.1 0, 8192, .inl po)) :: (ad 6, .inl (g.2.1 0, 260, .inl wf)) :: rest) (fun r w => r = 0 ∧ w = ((ad 0, .inr (7, [.ref (ad 7), .ref (ad 8), .ref (ad 9), .ref (ad 10), .ref (ad 1), .int (nI inl), .int 1, .ref (ad 2), .int (nI n), .ref (ad 3), .ref (ad 4), .ref (ad 5), .int (nI T.length), .int (nI wd), .ref (ad 6), .int wm])) :: (ad 1, .inl (g.2.1 1, 8192, .inl b)) :: (ad 2, .inl (g.2.1 0, 8192, .inl tf)) :: (ad 3, .inl (g.2.1 0, 8704, .inl ch)) :: (ad 4, .inl (g.2.1 0, 8193, .inl st)) :: (ad 5, .inl (g.2.1 0, 8192, .inl po)) :: (ad 6, .inl (g.2.1 0, 260, .inl wf)) :: rest)) := by
  refine sv_enter_i (by decide) rfl rfl (Nat.le_of_ble_eq_true rfl) (fun X C hI hr => ?_)
  refine sv_lvE (lv' := [some _, some _]) rfl ?_
  refine sv_aload_n C rfl rfl d_M_sort_0 ?_
  refine sv_iload_n C rfl rfl d_M_sort_1 ?_
  refine sv_ifZ_lt C 12 (by decide) d_M_sort_2 (fun c2 => ?_) (fun c2 => ?_)
  · skip
    refine sv_iconst C (v := 1) (by decide) d_M_sort_12 ?_
    refine sv_goto C 17 (by decide) d_M_sort_13 ?_
    refine sv_put C fp_M_210 0 rfl rfl rfl (Nat.le_of_ble_eq_true rfl) ((_, .inr (_, [_, _, _, _, _, _, _, _, _, _, _, _, _, _, _, _])) :: _ :: _ :: _ :: _ :: _ :: _ :: _) rfl d_M_sort_17 ?_
    refine sv_aload_n C rfl rfl d_M_sort_20 ?_
    refine sv_get C fg_M_210 0 rfl rfl d_M_sort_21 ?_
    refine sv_ifZ_eq C 31 (by decide) d_M_sort_24 (fun c24 => ?_) (fun c24 => ?_)
    · skip
      exact absurd c24 (by decide)
    · skip
      refine sv_iconst C (v := 0) (by decide) d_M_sort_27 ?_
      refine sv_goto C 35 (by decide) d_M_sort_28 ?_
      exact hr _ _ _ _ d_M_sort_35 rfl ⟨rfl, rfl⟩
  · skip
    refine sv_iload_n C rfl rfl d_M_sort_5 ?_
    refine sv_ldcIw C wc_M_342 d_M_sort_6 ?_
    refine sv_icmpK_le C (1114111) (by decide) 16 (by decide) d_M_sort_9 (fun c9 => ?_) (fun c9 => ?_)
    · skip
      exact absurd h1 (by omega)
    · skip
      refine sv_iconst C (v := 1) (by decide) d_M_sort_12 ?_
      refine sv_goto C 17 (by decide) d_M_sort_13 ?_
      refine sv_put C fp_M_210 0 rfl rfl rfl (Nat.le_of_ble_eq_true rfl) ((_, .inr (_, [_, _, _, _, _, _, _, _, _, _, _, _, _, _, _, _])) :: _ :: _ :: _ :: _ :: _ :: _ :: _) rfl d_M_sort_17 ?_
      refine sv_aload_n C rfl rfl d_M_sort_20 ?_
      refine sv_get C fg_M_210 0 rfl rfl d_M_sort_21 ?_
      refine sv_ifZ_eq C 31 (by decide) d_M_sort_24 (fun c24 => ?_) (fun c24 => ?_)
      · skip
        exact absurd c24 (by decide)
      · skip
        refine sv_iconst C (v := 0) (by decide) d_M_sort_27 ?_
        refine sv_goto C 35 (by decide) d_M_sort_28 ?_
        exact hr _ _ _ _ d_M_sort_35 rfl ⟨rfl, rfl⟩

def rm_M_count : Room := { frames := 0, cells := 0, slots := 0, locals := 0 }
set_option maxHeartbeats 4000000 in
set_option maxRecDepth 100000 in
theorem c_M_count (l : Launch) (g : sv_G) (rest : va_W) (ad : Nat → Nat) (inl wd n : Nat) (th wm : Int32) (b tf wf ch po st : Nat → Int32) (T : List (Nat × List Int32)) (hT : pu_Tok ch po st T) (hn : T.length ≤ 8192) (ho : pu_off T T.length ≤ 8192) (q : Int32) : sv_Mi l y_M_count b_M_count 2 (some (.int)) rm_M_count g [.ref (ad 0), .int q] ((ad 0, .inr (7, [.ref (ad 7), .ref (ad 8), .ref (ad 9), .ref (ad 10), .ref (ad 1), .int (nI inl), .int th, .ref (ad 2), .int (nI n), .ref (ad 3), .ref (ad 4), .ref (ad 5), .int (nI T.length), .int (nI wd), .ref (ad 6), .int wm])) :: (ad 1, .inl (g.2.1 1, 8192, .inl b)) :: (ad 2, .inl (g.2.1 0, 8192, .inl tf)) :: (ad 3, .inl (g.2.1 0, 8704, .inl ch)) :: (ad 4, .inl (g.2.1 0, 8193, .inl st)) :: (ad 5, .inl (g.2.1 0, 8192, .inl po)) :: (ad 6, .inl (g.2.1 0, 260, .inl wf)) :: rest) (fun r w => r = (if q.toInt = 0 then nI inl else if q.toInt = 1 then nI T.length else if q.toInt = 2 then nI wd else if q.toInt = 3 then nI n else if q.toInt = 4 then nI (pu_off T T.length) else -1) ∧ w = ((ad 0, .inr (7, [.ref (ad 7), .ref (ad 8), .ref (ad 9), .ref (ad 10), .ref (ad 1), .int (nI inl), .int 0, .ref (ad 2), .int (nI n), .ref (ad 3), .ref (ad 4), .ref (ad 5), .int (nI T.length), .int (nI wd), .ref (ad 6), .int wm])) :: (ad 1, .inl (g.2.1 1, 8192, .inl b)) :: (ad 2, .inl (g.2.1 0, 8192, .inl tf)) :: (ad 3, .inl (g.2.1 0, 8704, .inl ch)) :: (ad 4, .inl (g.2.1 0, 8193, .inl st)) :: (ad 5, .inl (g.2.1 0, 8192, .inl po)) :: (ad 6, .inl (g.2.1 0, 260, .inl wf)) :: rest)) := by
  refine sv_enter_i (by decide) rfl rfl (Nat.le_of_ble_eq_true rfl) (fun X C hI hr => ?_)
  refine sv_lvE (lv' := [some _, some _]) rfl ?_
  refine sv_aload_n C rfl rfl d_M_count_0 ?_
  refine sv_iconst C (v := 0) (by decide) d_M_count_1 ?_
  refine sv_put C fp_M_210 0 rfl rfl rfl (Nat.le_of_ble_eq_true rfl) ((_, .inr (_, [_, _, _, _, _, _, _, _, _, _, _, _, _, _, _, _])) :: _ :: _ :: _ :: _ :: _ :: _ :: _) rfl d_M_count_2 ?_
  refine sv_iload_n C rfl rfl d_M_count_5 ?_
  have hc : q.toInt = 0 ∨ q.toInt = 1 ∨ q.toInt = 2 ∨ q.toInt = 3 ∨ q.toInt = 4 ∨ (q.toInt < 0 ∨ 4 < q.toInt) := by omega
  rcases hc with x | x | x | x | x | x
  · skip
    refine sv_tableIn C 40 d_M_count_6 (by omega) (by omega) (off := 34) (by rw [x]; rfl) (by decide) ?_
    refine sv_aload_n C rfl rfl d_M_count_40 ?_
    refine sv_get C fg_M_326 0 rfl rfl d_M_count_41 ?_
    exact hr _ _ _ _ d_M_count_44 rfl ⟨by first | (simp [x]; done) | (rw [if_neg (by omega), if_neg (by omega), if_neg (by omega), if_neg (by omega), if_neg (by omega)]), rfl⟩
  · skip
    refine sv_tableIn C 45 d_M_count_6 (by omega) (by omega) (off := 39) (by rw [x]; rfl) (by decide) ?_
    refine sv_aload_n C rfl rfl d_M_count_45 ?_
    refine sv_get C fg_M_234 0 rfl rfl d_M_count_46 ?_
    exact hr _ _ _ _ d_M_count_49 rfl ⟨by first | (simp [x]; done) | (rw [if_neg (by omega), if_neg (by omega), if_neg (by omega), if_neg (by omega), if_neg (by omega)]), rfl⟩
  · skip
    refine sv_tableIn C 50 d_M_count_6 (by omega) (by omega) (off := 44) (by rw [x]; rfl) (by decide) ?_
    refine sv_aload_n C rfl rfl d_M_count_50 ?_
    refine sv_get C fg_M_237 0 rfl rfl d_M_count_51 ?_
    exact hr _ _ _ _ d_M_count_54 rfl ⟨by first | (simp [x]; done) | (rw [if_neg (by omega), if_neg (by omega), if_neg (by omega), if_neg (by omega), if_neg (by omega)]), rfl⟩
  · skip
    refine sv_tableIn C 55 d_M_count_6 (by omega) (by omega) (off := 49) (by rw [x]; rfl) (by decide) ?_
    refine sv_aload_n C rfl rfl d_M_count_55 ?_
    refine sv_get C fg_M_218 0 rfl rfl d_M_count_56 ?_
    exact hr _ _ _ _ d_M_count_59 rfl ⟨by first | (simp [x]; done) | (rw [if_neg (by omega), if_neg (by omega), if_neg (by omega), if_neg (by omega), if_neg (by omega)]), rfl⟩
  · skip
    refine sv_tableIn C 60 d_M_count_6 (by omega) (by omega) (off := 54) (by rw [x]; rfl) (by decide) ?_
    refine sv_aload_n C rfl rfl d_M_count_60 ?_
    refine sv_get C fg_M_201 0 rfl rfl d_M_count_61 ?_
    refine sv_aload_n C rfl rfl d_M_count_64 ?_
    refine sv_get C fg_M_234 0 rfl rfl d_M_count_65 ?_
    refine sv_ialdN C _ 4 rfl (by omega) (by decide) d_M_count_68 ?_
    refine sv_eqi (hT.1 T.length (Nat.le_refl _)) ?_
    exact hr _ _ _ _ d_M_count_69 rfl ⟨by first | (simp [x]; done) | (rw [if_neg (by omega), if_neg (by omega), if_neg (by omega), if_neg (by omega), if_neg (by omega)]), rfl⟩
  · skip
    refine sv_tableOut C 70 d_M_count_6 x (by decide) ?_
    refine sv_iconst C (v := (-1)) (by decide) d_M_count_70 ?_
    exact hr _ _ _ _ d_M_count_71 rfl ⟨by first | (simp [x]; done) | (rw [if_neg (by omega), if_neg (by omega), if_neg (by omega), if_neg (by omega), if_neg (by omega)]), rfl⟩
