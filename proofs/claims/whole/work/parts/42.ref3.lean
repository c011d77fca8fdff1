/-! CONTRACTS: the reference, 3: decode; rows for ldc_w -/
section SVQ
variable {X : sv_X} {nL k n pc : Nat} {ws : va_W} {lv : List (Option Value)} {st : List Value} {l : Launch} {cc : ByteArray} {own : String} {rm : Room} {g : sv_G}
theorem sv_ldcSw (C : sv_C X l cc nL own rm g) {ix i : Nat} {tx : String} (h1 : (own, ix, tx, i) ∈ sv_lits) (hd : decode cc pc = .ok (.ldc_w ix, 3)) (z : sv_V X nL k n ws (pc + 3) lv (.ref (g.2.2.1 i) :: st)) : sv_V X nL k n ws pc lv st := by
  obtain ⟨⟨p, l0, e, R⟩, ⟨s, m, args, below⟩, ⟨meth, c, Q⟩, g0, A⟩ := X
  obtain ⟨rfl, rfl, rfl, hx, hb, hml, hown, hts, hK, hA, hZ, hin⟩ := C
  intro H locs ls hP hD hS hl
  have hR := hZ.2.1 _ h1
  intro T hT S0
  obtain ⟨t, a1, b1⟩ := z H locs ls hP hD hS hl T hT S0
  refine ⟨t, ?_, b1⟩
  obtain ⟨ka, cf, i0, a', hk, hcf, hcp, -, hr, hev'⟩ := Cond.stringRef_spec hown hR.1
  cases hR.2.symm.trans hev'
  obtain ⟨k', hk', he⟩ := S0.warmed.alike.2.2 _ _ hk
  have hr' : k'.resolved[ix]? = some (some (.string (g.2.2.1 i))) := by
    rcases S0.warmed.entry hk hk' ix with h | ⟨h, -⟩
    · rw [h]; exact hr
    · rw [hr] at h; cases h
  have hdg : decode c.code (F0 m pc ls st).pc = .ok (.ldc_w ix, 3) := by rw [hb]; exact hd
  jvm_step S0.here [hx, hdg, ldc_w.wp_string (e := e) (s := T) (f := F0 m pc ls st) S0.here.top hk' (by rw [he]; exact hcf) hcp hr']
  exact a1
end SVQ
theorem pu_shl12 {a : Nat} (h : a * 4096 < 2 ^ 32) : nI a <<< ((12 : Int32) &&& 31) = nI (a * 4096) := pk_shlN ((12 : Int32) &&& 31) 12 (by decide) h
theorem pu_shl18 {a : Nat} (h : a * 262144 < 2 ^ 32) : nI a <<< ((18 : Int32) &&& 31) = nI (a * 262144) := pk_shlN ((18 : Int32) &&& 31) 18 (by decide) h
theorem pu_or12 {a b : Nat} (hb : b < 64) : nI (a * 4096) ||| nI (b * 64) = nI ((a * 64 + b) * 64) := by
  rw [pu_nor]
  congr 1
  rw [Nat.mul_comm a 4096, show (4096 : Nat) = 2 ^ 12 from rfl, ← Nat.two_pow_add_eq_or_of_lt (show b * 64 < 2 ^ 12 by omega)]
  omega
theorem pu_or18 {a b : Nat} (hb : b < 64) : nI (a * 262144) ||| nI (b * 4096) = nI ((a * 64 + b) * 4096) := by
  rw [pu_nor]
  congr 1
  rw [Nat.mul_comm a 262144, show (262144 : Nat) = 2 ^ 18 from rfl, ← Nat.two_pow_add_eq_or_of_lt (show b * 4096 < 2 ^ 18 by omega)]
  omega
theorem pu_ch0 {u : Nat → Nat} {a e : Nat} (h : pu_size u a e = 0) : 65533 = pu_char u a e := by unfold pu_char; rw [h]; rfl
theorem pu_ch1 {u : Nat → Nat} {a e : Nat} (h : pu_size u a e = 1) : u a = pu_char u a e := by unfold pu_char; rw [h]; rfl
theorem pu_ch2 {u : Nat → Nat} {a e : Nat} (h : pu_size u a e = 2) : u a % 32 * 64 + u (a + 1) % 64 = pu_char u a e := by unfold pu_char; rw [h]; rfl
theorem pu_ch3 {u : Nat → Nat} {a e : Nat} (h : pu_size u a e = 3) : (u a % 16 * 64 + u (a + 1) % 64) * 64 + u (a + 2) % 64 = pu_char u a e := by unfold pu_char; rw [h]; rfl
theorem pu_ch4 {u : Nat → Nat} {a e : Nat} (h : pu_size u a e = 4) : ((u a % 8 * 64 + u (a + 1) % 64) * 64 + u (a + 2) % 64) * 64 + u (a + 3) % 64 = pu_char u a e := by unfold pu_char; rw [h]; rfl
def rm_M_decode : Room := { frames := 2, cells := 0, slots := 0, locals := 46 }
set_option maxHeartbeats 4000000 in
set_option maxRecDepth 100000 in
theorem c_M_decode (l : Launch) (g : sv_G) (rest : va_W) (ad : Nat → Nat) (inl th cm km kw wm : Int32) (f b : Nat → Int32) (e : Nat) (he : e ≤ 8192) : sv_Mv l y_M_decode b_M_decode 7 none rm_M_decode g [.ref (ad 0), .ref (ad 1), .int (nI 0), .int (nI e)] ((ad 0, .inr (7, [.ref (ad 7), .ref (ad 8), .ref (ad 9), .ref (ad 10), .ref (ad 1), .int inl, .int th, .ref (ad 2), .int cm, .ref (ad 3), .ref (ad 4), .ref (ad 5), .int km, .int kw, .ref (ad 6), .int wm])) :: (ad 2, .inl (g.2.1 0, 8192, .inl f)) :: (ad 1, .inl (g.2.1 1, 8192, .inl b)) :: rest) (fun w => ∃ f2 : Nat → Int32, w = ((ad 0, .inr (7, [.ref (ad 7), .ref (ad 8), .ref (ad 9), .ref (ad 10), .ref (ad 1), .int inl, .int th, .ref (ad 2), .int (nI (pu_chars (fun i => pu_u (b i)) e e 0).length), .ref (ad 3), .ref (ad 4), .ref (ad 5), .int km, .int kw, .ref (ad 6), .int wm])) :: (ad 2, .inl (g.2.1 0, 8192, .inl f2)) :: (ad 1, .inl (g.2.1 1, 8192, .inl b)) :: rest) ∧ ∀ i, i < (pu_chars (fun i => pu_u (b i)) e e 0).length → f2 i = nI ((pu_chars (fun i => pu_u (b i)) e e 0).getD i 0)) := by
  refine sv_enter_v (by decide) rfl rfl (Nat.le_of_ble_eq_true rfl) (fun X C hI hr => ?_)
  refine sv_lvE (lv' := [some _, some _, some _, some _, none, none, none]) rfl ?_
  have L8 : ∀ (k : Nat) (a n : Nat) (f2 : Nat → Int32) (Dn : List Nat) (o5 o6 : Option Value), (a ≤ e ∧ e ≤ a + k ∧ n = Dn.length ∧ n ≤ a ∧ (∀ i, i < n → f2 i = nI (Dn.getD i 0)) ∧ pu_chars (fun i => pu_u (b i)) e e 0 = Dn ++ pu_chars (fun i => pu_u (b i)) e k a) → sv_V X 7 0 0 ((ad 0, .inr (7, [.ref (ad 7), .ref (ad 8), .ref (ad 9), .ref (ad 10), .ref (ad 1), .int inl, .int th, .ref (ad 2), .int (nI n), .ref (ad 3), .ref (ad 4), .ref (ad 5), .int km, .int kw, .ref (ad 6), .int wm])) :: (ad 2, .inl (g.2.1 0, 8192, .inl f2)) :: (ad 1, .inl (g.2.1 1, 8192, .inl b)) :: rest) 8 [some (.ref (ad 0)), some (.ref (ad 1)), some (.int (nI 0)), some (.int (nI e)), some (.int (nI a)), o5, o6] [] := by
    intro k
    induction k with
    | zero =>
      intro a n f2 Dn o5 o6 hq
      obtain ⟨q1, q2, q3, q4, q5, q6⟩ := hq
      refine sv_iload C rfl d_M_decode_8 ?_
      refine sv_iload_n C rfl rfl d_M_decode_10 ?_
      refine sv_icmpN_ge C _ _ (by omega) (by omega) 206 (by decide) d_M_decode_11 (fun c11 => ?_) (fun c11 => ?_)
      · skip
        have e9 := q6.trans (by rw [pu_chars_end (by omega), List.append_nil])
        rw [← e9] at q3
        subst q3
        exact hr _ _ _ d_M_decode_206 ⟨f2, rfl, fun i hi => by rw [e9]; exact q5 i hi⟩
      · skip
        exact absurd c11 (by omega)
    | succ k ih =>
      intro a n f2 Dn o5 o6 hq
      obtain ⟨q1, q2, q3, q4, q5, q6⟩ := hq
      refine sv_iload C rfl d_M_decode_8 ?_
      refine sv_iload_n C rfl rfl d_M_decode_10 ?_
      refine sv_icmpN_ge C _ _ (by omega) (by omega) 206 (by decide) d_M_decode_11 (fun c11 => ?_) (fun c11 => ?_)
      · skip
        have e9 := q6.trans (by rw [pu_chars_end (by omega), List.append_nil])
        rw [← e9] at q3
        subst q3
        exact hr _ _ _ d_M_decode_206 ⟨f2, rfl, fun i hi => by rw [e9]; exact q5 i hi⟩
      · skip
        obtain ⟨s, hs⟩ : ∃ s, pu_size (fun i => pu_u (b i)) a e = s := ⟨_, rfl⟩
        have h4 := pu_size_le (fun i => pu_u (b i)) a e
        have hin := pu_size_in (u := (fun i => pu_u (b i))) c11
        refine sv_aload_n C rfl rfl d_M_decode_14 ?_
        refine sv_iload C rfl d_M_decode_15 ?_
        refine sv_iload_n C rfl rfl d_M_decode_17 ?_
        refine sv_front 2 (_ :: _ :: _ :: _) rfl rfl ?_
        refine sv_callSi C (c_M_formed l g ((ad 0, .inr (7, [.ref (ad 7), .ref (ad 8), .ref (ad 9), .ref (ad 10), .ref (ad 1), .int inl, .int th, .ref (ad 2), .int (nI n), .ref (ad 3), .ref (ad 4), .ref (ad 5), .int km, .int kw, .ref (ad 6), .int wm])) :: (ad 2, .inl (g.2.1 0, 8192, .inl f2)) :: rest) (ad 1) a e b c11 he) lk_M_221  d_M_decode_18 (by decide) (Nat.le_of_ble_eq_true rfl) (by decide) (fun r w hw => ?_)
        obtain ⟨rfl, rfl⟩ := hw
        refine sv_eqi (congrArg nI hs) ?_
        refine sv_istore C (by decide) [some _, some _, some _, some _, some _, some _, _] rfl d_M_decode_21 ?_
        refine sv_ldc C wc_M_225 d_M_decode_23 ?_
        refine sv_istore C (by decide) [some _, some _, some _, some _, some _, some _, some _] rfl d_M_decode_25 ?_
        refine sv_iload C rfl d_M_decode_27 ?_
        refine sv_iconst C (v := 1) (by decide) d_M_decode_29 ?_
        refine sv_icmpN_ne C _ 1 (by omega) (by omega) 43 (by decide) d_M_decode_30 (fun c30 => ?_) (fun c30 => ?_)
        · skip
          refine sv_iload C rfl d_M_decode_43 ?_
          refine sv_iconst C (v := 2) (by decide) d_M_decode_45 ?_
          refine sv_icmpN_ne C _ 2 (by omega) (by omega) 71 (by decide) d_M_decode_46 (fun c46 => ?_) (fun c46 => ?_)
          · skip
            refine sv_iload C rfl d_M_decode_71 ?_
            refine sv_iconst C (v := 3) (by decide) d_M_decode_73 ?_
            refine sv_icmpN_ne C _ 3 (by omega) (by omega) 112 (by decide) d_M_decode_74 (fun c74 => ?_) (fun c74 => ?_)
            · skip
              refine sv_iload C rfl d_M_decode_112 ?_
              refine sv_iconst C (v := 4) (by decide) d_M_decode_114 ?_
              refine sv_icmpN_ne C _ 4 (by omega) (by omega) 166 (by decide) d_M_decode_115 (fun c115 => ?_) (fun c115 => ?_)
              · skip
                refine sv_aload_n C rfl rfl d_M_decode_166 ?_
                refine sv_get C fg_M_194 1 rfl rfl d_M_decode_167 ?_
                refine sv_aload_n C rfl rfl d_M_decode_170 ?_
                refine sv_get C fg_M_218 1 rfl rfl d_M_decode_171 ?_
                refine sv_iload C rfl d_M_decode_174 ?_
                refine sv_iastN C _ 2 rfl (by omega) (by decide) (_ :: _ :: _ :: _) rfl d_M_decode_176 ?_
                refine sv_aload_n C rfl rfl d_M_decode_177 ?_
                refine sv_dup C rfl d_M_decode_178 ?_
                refine sv_get C fg_M_218 1 rfl rfl d_M_decode_179 ?_
                refine sv_iconst C (v := 1) (by decide) d_M_decode_182 ?_
                refine sv_iaddN C _ 1  d_M_decode_183 ?_
                refine sv_put C fp_M_218 1 rfl rfl rfl (Nat.le_of_ble_eq_true rfl) (_ :: (_, .inr (_, [_, _, _, _, _, _, _, _, _, _, _, _, _, _, _, _])) :: _ :: _) rfl d_M_decode_184 ?_
                refine sv_iload C rfl d_M_decode_187 ?_
                refine sv_iload C rfl d_M_decode_189 ?_
                refine sv_ifN_ne C _ (by omega) 198 (by decide) d_M_decode_191 (fun c191 => ?_) (fun c191 => ?_)
                · skip
                  exact absurd c191 (by omega)
                · skip
                  refine sv_iconst C (v := 1) (by decide) d_M_decode_194 ?_
                  refine sv_goto C 200 (by decide) d_M_decode_195 ?_
                  refine sv_iaddN C _ 1  d_M_decode_200 ?_
                  refine sv_istore C (by decide) [some _, some _, some _, some _, some _, some _, some _] rfl d_M_decode_201 ?_
                  refine sv_goto C 8 (by decide) d_M_decode_203 ?_
                  refine sv_front 2 (_ :: _ :: _ :: _) rfl rfl ?_
                  refine sv_front 2 (_ :: _ :: _ :: _) rfl rfl ?_
                  have eS : a + pu_step (fun i => pu_u (b i)) a e = a + 1 := by unfold pu_step; split <;> omega
                  have hz := congrArg nI (pu_ch0 (u := (fun i => pu_u (b i))) (a := a) (e := e) (by omega))
                  exact ih (a + 1) (n + 1) _ (Dn ++ [pu_char (fun i => pu_u (b i)) a e]) _ _ ⟨by omega, by omega, by rw [List.length_append, ← q3]; rfl, by omega, pu_snocF q3 q5 hz, by rw [q6, pu_chars_go c11, List.append_assoc, eS]; rfl⟩
              · skip
                refine sv_aload_n C rfl rfl d_M_decode_118 ?_
                refine sv_iload C rfl d_M_decode_119 ?_
                refine sv_baldN C _ 0 rfl (by omega) (by decide) d_M_decode_121 ?_
                refine sv_bipush C (v := 7) (by decide) d_M_decode_122 ?_
                refine sv_iand C d_M_decode_124 ?_
                refine sv_eqi (pu_and7 _) ?_
                refine sv_bipush C (v := 18) (by decide) d_M_decode_125 ?_
                refine sv_ishl C d_M_decode_127 ?_
                refine sv_eqi (pu_shl18 (by omega)) ?_
                refine sv_aload_n C rfl rfl d_M_decode_128 ?_
                refine sv_iload C rfl d_M_decode_129 ?_
                refine sv_iconst C (v := 1) (by decide) d_M_decode_131 ?_
                refine sv_iaddN C _ 1  d_M_decode_132 ?_
                refine sv_baldN C _ 0 rfl (by omega) (by decide) d_M_decode_133 ?_
                refine sv_bipush C (v := 63) (by decide) d_M_decode_134 ?_
                refine sv_iand C d_M_decode_136 ?_
                refine sv_eqi (pu_and63 _) ?_
                refine sv_bipush C (v := 12) (by decide) d_M_decode_137 ?_
                refine sv_ishl C d_M_decode_139 ?_
                refine sv_eqi (pu_shl12 (by omega)) ?_
                refine sv_ior C d_M_decode_140 ?_
                refine sv_eqi (pu_or18 (Nat.mod_lt _ (by decide))) ?_
                refine sv_aload_n C rfl rfl d_M_decode_141 ?_
                refine sv_iload C rfl d_M_decode_142 ?_
                refine sv_iconst C (v := 2) (by decide) d_M_decode_144 ?_
                refine sv_iaddN C _ 2  d_M_decode_145 ?_
                refine sv_baldN C _ 0 rfl (by omega) (by decide) d_M_decode_146 ?_
                refine sv_bipush C (v := 63) (by decide) d_M_decode_147 ?_
                refine sv_iand C d_M_decode_149 ?_
                refine sv_eqi (pu_and63 _) ?_
                refine sv_bipush C (v := 6) (by decide) d_M_decode_150 ?_
                refine sv_ishl C d_M_decode_152 ?_
                refine sv_eqi (pu_shl6 (by omega)) ?_
                refine sv_ior C d_M_decode_153 ?_
                refine sv_eqi (pu_or12 (Nat.mod_lt _ (by decide))) ?_
                refine sv_aload_n C rfl rfl d_M_decode_154 ?_
                refine sv_iload C rfl d_M_decode_155 ?_
                refine sv_iconst C (v := 3) (by decide) d_M_decode_157 ?_
                refine sv_iaddN C _ 3  d_M_decode_158 ?_
                refine sv_baldN C _ 0 rfl (by omega) (by decide) d_M_decode_159 ?_
                refine sv_bipush C (v := 63) (by decide) d_M_decode_160 ?_
                refine sv_iand C d_M_decode_162 ?_
                refine sv_eqi (pu_and63 _) ?_
                refine sv_ior C d_M_decode_163 ?_
                refine sv_eqi (pu_or6 (Nat.mod_lt _ (by decide))) ?_
                refine sv_istore C (by decide) [some _, some _, some _, some _, some _, some _, some _] rfl d_M_decode_164 ?_
                refine sv_aload_n C rfl rfl d_M_decode_166 ?_
                refine sv_get C fg_M_194 1 rfl rfl d_M_decode_167 ?_
                refine sv_aload_n C rfl rfl d_M_decode_170 ?_
                refine sv_get C fg_M_218 1 rfl rfl d_M_decode_171 ?_
                refine sv_iload C rfl d_M_decode_174 ?_
                refine sv_iastN C _ 2 rfl (by omega) (by decide) (_ :: _ :: _ :: _) rfl d_M_decode_176 ?_
                refine sv_aload_n C rfl rfl d_M_decode_177 ?_
                refine sv_dup C rfl d_M_decode_178 ?_
                refine sv_get C fg_M_218 1 rfl rfl d_M_decode_179 ?_
                refine sv_iconst C (v := 1) (by decide) d_M_decode_182 ?_
                refine sv_iaddN C _ 1  d_M_decode_183 ?_
                refine sv_put C fp_M_218 1 rfl rfl rfl (Nat.le_of_ble_eq_true rfl) (_ :: (_, .inr (_, [_, _, _, _, _, _, _, _, _, _, _, _, _, _, _, _])) :: _ :: _) rfl d_M_decode_184 ?_
                refine sv_iload C rfl d_M_decode_187 ?_
                refine sv_iload C rfl d_M_decode_189 ?_
                refine sv_ifN_ne C _ (by omega) 198 (by decide) d_M_decode_191 (fun c191 => ?_) (fun c191 => ?_)
                · skip
                  refine sv_iload C rfl d_M_decode_198 ?_
                  refine sv_iaddN C _ _  d_M_decode_200 ?_
                  refine sv_istore C (by decide) [some _, some _, some _, some _, some _, some _, some _] rfl d_M_decode_201 ?_
                  refine sv_goto C 8 (by decide) d_M_decode_203 ?_
                  refine sv_front 2 (_ :: _ :: _ :: _) rfl rfl ?_
                  refine sv_front 2 (_ :: _ :: _ :: _) rfl rfl ?_
                  have eS : a + pu_step (fun i => pu_u (b i)) a e = a + s := by unfold pu_step; split <;> omega
                  have hz := congrArg nI (pu_ch4 (u := (fun i => pu_u (b i))) (a := a) (e := e) (by omega))
                  exact ih (a + s) (n + 1) _ (Dn ++ [pu_char (fun i => pu_u (b i)) a e]) _ _ ⟨by omega, by omega, by rw [List.length_append, ← q3]; rfl, by omega, pu_snocF q3 q5 hz, by rw [q6, pu_chars_go c11, List.append_assoc, eS]; rfl⟩
                · skip
                  exact absurd c191 (by omega)
            · skip
              refine sv_aload_n C rfl rfl d_M_decode_77 ?_
              refine sv_iload C rfl d_M_decode_78 ?_
              refine sv_baldN C _ 0 rfl (by omega) (by decide) d_M_decode_80 ?_
              refine sv_bipush C (v := 15) (by decide) d_M_decode_81 ?_
              refine sv_iand C d_M_decode_83 ?_
              refine sv_eqi (pu_and15 _) ?_
              refine sv_bipush C (v := 12) (by decide) d_M_decode_84 ?_
              refine sv_ishl C d_M_decode_86 ?_
              refine sv_eqi (pu_shl12 (by omega)) ?_
              refine sv_aload_n C rfl rfl d_M_decode_87 ?_
              refine sv_iload C rfl d_M_decode_88 ?_
              refine sv_iconst C (v := 1) (by decide) d_M_decode_90 ?_
              refine sv_iaddN C _ 1  d_M_decode_91 ?_
              refine sv_baldN C _ 0 rfl (by omega) (by decide) d_M_decode_92 ?_
              refine sv_bipush C (v := 63) (by decide) d_M_decode_93 ?_
              refine sv_iand C d_M_decode_95 ?_
              refine sv_eqi (pu_and63 _) ?_
              refine sv_bipush C (v := 6) (by decide) d_M_decode_96 ?_
              refine sv_ishl C d_M_decode_98 ?_
              refine sv_eqi (pu_shl6 (by omega)) ?_
              refine sv_ior C d_M_decode_99 ?_
              refine sv_eqi (pu_or12 (Nat.mod_lt _ (by decide))) ?_
              refine sv_aload_n C rfl rfl d_M_decode_100 ?_
              refine sv_iload C rfl d_M_decode_101 ?_
              refine sv_iconst C (v := 2) (by decide) d_M_decode_103 ?_
              refine sv_iaddN C _ 2  d_M_decode_104 ?_
              refine sv_baldN C _ 0 rfl (by omega) (by decide) d_M_decode_105 ?_
              refine sv_bipush C (v := 63) (by decide) d_M_decode_106 ?_
              refine sv_iand C d_M_decode_108 ?_
              refine sv_eqi (pu_and63 _) ?_
              refine sv_ior C d_M_decode_109 ?_
              refine sv_eqi (pu_or6 (Nat.mod_lt _ (by decide))) ?_
              refine sv_istore C (by decide) [some _, some _, some _, some _, some _, some _, some _] rfl d_M_decode_110 ?_
              refine sv_iload C rfl d_M_decode_112 ?_
              refine sv_iconst C (v := 4) (by decide) d_M_decode_114 ?_
              refine sv_icmpN_ne C _ 4 (by omega) (by omega) 166 (by decide) d_M_decode_115 (fun c115 => ?_) (fun c115 => ?_)
              · skip
                refine sv_aload_n C rfl rfl d_M_decode_166 ?_
                refine sv_get C fg_M_194 1 rfl rfl d_M_decode_167 ?_
                refine sv_aload_n C rfl rfl d_M_decode_170 ?_
                refine sv_get C fg_M_218 1 rfl rfl d_M_decode_171 ?_
                refine sv_iload C rfl d_M_decode_174 ?_
                refine sv_iastN C _ 2 rfl (by omega) (by decide) (_ :: _ :: _ :: _) rfl d_M_decode_176 ?_
                refine sv_aload_n C rfl rfl d_M_decode_177 ?_
                refine sv_dup C rfl d_M_decode_178 ?_
                refine sv_get C fg_M_218 1 rfl rfl d_M_decode_179 ?_
                refine sv_iconst C (v := 1) (by decide) d_M_decode_182 ?_
                refine sv_iaddN C _ 1  d_M_decode_183 ?_
                refine sv_put C fp_M_218 1 rfl rfl rfl (Nat.le_of_ble_eq_true rfl) (_ :: (_, .inr (_, [_, _, _, _, _, _, _, _, _, _, _, _, _, _, _, _])) :: _ :: _) rfl d_M_decode_184 ?_
                refine sv_iload C rfl d_M_decode_187 ?_
                refine sv_iload C rfl d_M_decode_189 ?_
                refine sv_ifN_ne C _ (by omega) 198 (by decide) d_M_decode_191 (fun c191 => ?_) (fun c191 => ?_)
                · skip
                  refine sv_iload C rfl d_M_decode_198 ?_
                  refine sv_iaddN C _ _  d_M_decode_200 ?_
                  refine sv_istore C (by decide) [some _, some _, some _, some _, some _, some _, some _] rfl d_M_decode_201 ?_
                  refine sv_goto C 8 (by decide) d_M_decode_203 ?_
                  refine sv_front 2 (_ :: _ :: _ :: _) rfl rfl ?_
                  refine sv_front 2 (_ :: _ :: _ :: _) rfl rfl ?_
                  have eS : a + pu_step (fun i => pu_u (b i)) a e = a + s := by unfold pu_step; split <;> omega
                  have hz := congrArg nI (pu_ch3 (u := (fun i => pu_u (b i))) (a := a) (e := e) (by omega))
                  exact ih (a + s) (n + 1) _ (Dn ++ [pu_char (fun i => pu_u (b i)) a e]) _ _ ⟨by omega, by omega, by rw [List.length_append, ← q3]; rfl, by omega, pu_snocF q3 q5 hz, by rw [q6, pu_chars_go c11, List.append_assoc, eS]; rfl⟩
                · skip
                  exact absurd c191 (by omega)
              · skip
                exact absurd c115 (by omega)
          · skip
            refine sv_aload_n C rfl rfl d_M_decode_49 ?_
            refine sv_iload C rfl d_M_decode_50 ?_
            refine sv_baldN C _ 0 rfl (by omega) (by decide) d_M_decode_52 ?_
            refine sv_bipush C (v := 31) (by decide) d_M_decode_53 ?_
            refine sv_iand C d_M_decode_55 ?_
            refine sv_eqi (pu_and31 _) ?_
            refine sv_bipush C (v := 6) (by decide) d_M_decode_56 ?_
            refine sv_ishl C d_M_decode_58 ?_
            refine sv_eqi (pu_shl6 (by omega)) ?_
            refine sv_aload_n C rfl rfl d_M_decode_59 ?_
            refine sv_iload C rfl d_M_decode_60 ?_
            refine sv_iconst C (v := 1) (by decide) d_M_decode_62 ?_
            refine sv_iaddN C _ 1  d_M_decode_63 ?_
            refine sv_baldN C _ 0 rfl (by omega) (by decide) d_M_decode_64 ?_
            refine sv_bipush C (v := 63) (by decide) d_M_decode_65 ?_
            refine sv_iand C d_M_decode_67 ?_
            refine sv_eqi (pu_and63 _) ?_
            refine sv_ior C d_M_decode_68 ?_
            refine sv_eqi (pu_or6 (Nat.mod_lt _ (by decide))) ?_
            refine sv_istore C (by decide) [some _, some _, some _, some _, some _, some _, some _] rfl d_M_decode_69 ?_
            refine sv_iload C rfl d_M_decode_71 ?_
            refine sv_iconst C (v := 3) (by decide) d_M_decode_73 ?_
            refine sv_icmpN_ne C _ 3 (by omega) (by omega) 112 (by decide) d_M_decode_74 (fun c74 => ?_) (fun c74 => ?_)
            · skip
              refine sv_iload C rfl d_M_decode_112 ?_
              refine sv_iconst C (v := 4) (by decide) d_M_decode_114 ?_
              refine sv_icmpN_ne C _ 4 (by omega) (by omega) 166 (by decide) d_M_decode_115 (fun c115 => ?_) (fun c115 => ?_)
              · skip
                refine sv_aload_n C rfl rfl d_M_decode_166 ?_
                refine sv_get C fg_M_194 1 rfl rfl d_M_decode_167 ?_
                refine sv_aload_n C rfl rfl d_M_decode_170 ?_
                refine sv_get C fg_M_218 1 rfl rfl d_M_decode_171 ?_
                refine sv_iload C rfl d_M_decode_174 ?_
                refine sv_iastN C _ 2 rfl (by omega) (by decide) (_ :: _ :: _ :: _) rfl d_M_decode_176 ?_
                refine sv_aload_n C rfl rfl d_M_decode_177 ?_
                refine sv_dup C rfl d_M_decode_178 ?_
                refine sv_get C fg_M_218 1 rfl rfl d_M_decode_179 ?_
                refine sv_iconst C (v := 1) (by decide) d_M_decode_182 ?_
                refine sv_iaddN C _ 1  d_M_decode_183 ?_
                refine sv_put C fp_M_218 1 rfl rfl rfl (Nat.le_of_ble_eq_true rfl) (_ :: (_, .inr (_, [_, _, _, _, _, _, _, _, _, _, _, _, _, _, _, _])) :: _ :: _) rfl d_M_decode_184 ?_
                refine sv_iload C rfl d_M_decode_187 ?_
                refine sv_iload C rfl d_M_decode_189 ?_
                refine sv_ifN_ne C _ (by omega) 198 (by decide) d_M_decode_191 (fun c191 => ?_) (fun c191 => ?_)
                · skip
                  refine sv_iload C rfl d_M_decode_198 ?_
                  refine sv_iaddN C _ _  d_M_decode_200 ?_
                  refine sv_istore C (by decide) [some _, some _, some _, some _, some _, some _, some _] rfl d_M_decode_201 ?_
                  refine sv_goto C 8 (by decide) d_M_decode_203 ?_
                  refine sv_front 2 (_ :: _ :: _ :: _) rfl rfl ?_
                  refine sv_front 2 (_ :: _ :: _ :: _) rfl rfl ?_
                  have eS : a + pu_step (fun i => pu_u (b i)) a e = a + s := by unfold pu_step; split <;> omega
                  have hz := congrArg nI (pu_ch2 (u := (fun i => pu_u (b i))) (a := a) (e := e) (by omega))
                  exact ih (a + s) (n + 1) _ (Dn ++ [pu_char (fun i => pu_u (b i)) a e]) _ _ ⟨by omega, by omega, by rw [List.length_append, ← q3]; rfl, by omega, pu_snocF q3 q5 hz, by rw [q6, pu_chars_go c11, List.append_assoc, eS]; rfl⟩
                · skip
                  exact absurd c191 (by omega)
              · skip
                exact absurd c115 (by omega)
            · skip
              exact absurd c74 (by omega)
        · skip
          refine sv_aload_n C rfl rfl d_M_decode_33 ?_
          refine sv_iload C rfl d_M_decode_34 ?_
          refine sv_baldN C _ 0 rfl (by omega) (by decide) d_M_decode_36 ?_
          refine sv_sipush C (v := 255) (by decide) d_M_decode_37 ?_
          refine sv_iand C d_M_decode_40 ?_
          refine sv_eqi (pu_and255 _) ?_
          refine sv_istore C (by decide) [some _, some _, some _, some _, some _, some _, some _] rfl d_M_decode_41 ?_
          refine sv_iload C rfl d_M_decode_43 ?_
          refine sv_iconst C (v := 2) (by decide) d_M_decode_45 ?_
          refine sv_icmpN_ne C _ 2 (by omega) (by omega) 71 (by decide) d_M_decode_46 (fun c46 => ?_) (fun c46 => ?_)
          · skip
            refine sv_iload C rfl d_M_decode_71 ?_
            refine sv_iconst C (v := 3) (by decide) d_M_decode_73 ?_
            refine sv_icmpN_ne C _ 3 (by omega) (by omega) 112 (by decide) d_M_decode_74 (fun c74 => ?_) (fun c74 => ?_)
            · skip
              refine sv_iload C rfl d_M_decode_112 ?_
              refine sv_iconst C (v := 4) (by decide) d_M_decode_114 ?_
              refine sv_icmpN_ne C _ 4 (by omega) (by omega) 166 (by decide) d_M_decode_115 (fun c115 => ?_) (fun c115 => ?_)
              · skip
                refine sv_aload_n C rfl rfl d_M_decode_166 ?_
                refine sv_get C fg_M_194 1 rfl rfl d_M_decode_167 ?_
                refine sv_aload_n C rfl rfl d_M_decode_170 ?_
                refine sv_get C fg_M_218 1 rfl rfl d_M_decode_171 ?_
                refine sv_iload C rfl d_M_decode_174 ?_
                refine sv_iastN C _ 2 rfl (by omega) (by decide) (_ :: _ :: _ :: _) rfl d_M_decode_176 ?_
                refine sv_aload_n C rfl rfl d_M_decode_177 ?_
                refine sv_dup C rfl d_M_decode_178 ?_
                refine sv_get C fg_M_218 1 rfl rfl d_M_decode_179 ?_
                refine sv_iconst C (v := 1) (by decide) d_M_decode_182 ?_
                refine sv_iaddN C _ 1  d_M_decode_183 ?_
                refine sv_put C fp_M_218 1 rfl rfl rfl (Nat.le_of_ble_eq_true rfl) (_ :: (_, .inr (_, [_, _, _, _, _, _, _, _, _, _, _, _, _, _, _, _])) :: _ :: _) rfl d_M_decode_184 ?_
                refine sv_iload C rfl d_M_decode_187 ?_
                refine sv_iload C rfl d_M_decode_189 ?_
                refine sv_ifN_ne C _ (by omega) 198 (by decide) d_M_decode_191 (fun c191 => ?_) (fun c191 => ?_)
                · skip
                  refine sv_iload C rfl d_M_decode_198 ?_
                  refine sv_iaddN C _ _  d_M_decode_200 ?_
                  refine sv_istore C (by decide) [some _, some _, some _, some _, some _, some _, some _] rfl d_M_decode_201 ?_
                  refine sv_goto C 8 (by decide) d_M_decode_203 ?_
                  refine sv_front 2 (_ :: _ :: _ :: _) rfl rfl ?_
                  refine sv_front 2 (_ :: _ :: _ :: _) rfl rfl ?_
                  have eS : a + pu_step (fun i => pu_u (b i)) a e = a + s := by unfold pu_step; split <;> omega
                  have hz := congrArg nI (pu_ch1 (u := (fun i => pu_u (b i))) (a := a) (e := e) (by omega))
                  exact ih (a + s) (n + 1) _ (Dn ++ [pu_char (fun i => pu_u (b i)) a e]) _ _ ⟨by omega, by omega, by rw [List.length_append, ← q3]; rfl, by omega, pu_snocF q3 q5 hz, by rw [q6, pu_chars_go c11, List.append_assoc, eS]; rfl⟩
                · skip
                  exact absurd c191 (by omega)
              · skip
                exact absurd c115 (by omega)
            · skip
              exact absurd c74 (by omega)
          · skip
            exact absurd c46 (by omega)
  refine sv_aload_n C rfl rfl d_M_decode_0 ?_
  refine sv_iconst C (v := 0) (by decide) d_M_decode_1 ?_
  refine sv_put C fp_M_218 0 rfl rfl rfl (Nat.le_of_ble_eq_true rfl) ((_, .inr (_, [_, _, _, _, _, _, _, _, _, _, _, _, _, _, _, _])) :: _ :: _ :: _) rfl d_M_decode_2 ?_
  refine sv_iload_n C rfl rfl d_M_decode_5 ?_
  refine sv_istore C (by decide) [some _, some _, some _, some _, some _, none, none] rfl d_M_decode_6 ?_
  exact L8 e 0 0 f [] none none ⟨by omega, by omega, rfl, by omega, fun i hi => absurd hi (Nat.not_lt_zero i), rfl⟩
