/-! CONTRACTS: the reference, 4: the stem -/
theorem ltm_sses : sv_txt 157 = [115, 115, 101, 115] := by decide +kernel
theorem ltm_ies : sv_txt 158 = [105, 101, 115] := by decide +kernel
theorem ltm_s : sv_txt 159 = [115] := by decide +kernel
theorem ltm_ss : sv_txt 160 = [115, 115] := by decide +kernel
theorem ltm_y : sv_txt 166 = [121] := by decide +kernel
theorem ltm_ion : sv_txt 156 = [105, 111, 110] := by decide +kernel
theorem ltm_e : sv_txt 124 = [101] := by decide +kernel
theorem ltm_ll : sv_txt 167 = [108, 108] := by decide +kernel
theorem ltm_eed : sv_txt 161 = [101, 101, 100] := by decide +kernel
theorem ltm_ed : sv_txt 162 = [101, 100] := by decide +kernel
theorem ltm_ing : sv_txt 163 = [105, 110, 103] := by decide +kernel
theorem ltm_at : sv_txt 79 = [97, 116] := by decide +kernel
theorem ltm_bl : sv_txt 164 = [98, 108] := by decide +kernel
theorem ltm_iz : sv_txt 165 = [105, 122] := by decide +kernel
def tm_0 : Nat → Nat := fun k => [74, 75, 76, 77, 78, 79, 80, 81, 82, 83, 84, 85, 86, 87, 88, 89, 90, 91, 92, 93, 94, 95, 96, 97, 98, 99, 100, 101, 102, 103, 104, 105, 106].getD k 0
def tm_2 : Nat → Nat := fun k => [107, 108, 109, 110, 111, 112, 113, 114, 115, 116, 117, 118, 119, 120, 121, 122, 123, 124, 125, 126, 127, 116, 128, 108, 129, 108, 130, 120, 131, 132, 133, 134, 135, 126, 136, 120, 137, 132, 138, 139].getD k 0
def tm_3 : Nat → Nat := fun k => [140, 141, 142, 143, 144, 120, 145, 141, 146, 141, 134, 143, 147, 143].getD k 0
def tm_4 : Nat → Nat := fun k => [120, 143, 114, 143, 112, 143, 148, 143, 141, 143, 118, 143, 149, 143, 150, 143, 151, 143, 152, 143, 122, 143, 153, 143, 154, 143, 108, 143, 155, 143, 126, 143, 132, 143, 116, 143, 156, 143].getD k 0
theorem tme_2 : sv_EL (fun k => tm_2 (2 * k)) 20 = pu_E2 := by decide +kernel
theorem tme_3 : sv_EL (fun k => tm_3 (2 * k)) 7 = pu_E3 := by decide +kernel
theorem tme_4 : sv_EL (fun k => tm_4 (2 * k)) 19 = pu_E4 := by decide +kernel
theorem tms_2 : ∀ k, k < 20 → sv_txt (tm_2 (2 * k + 1)) = pu_S2.getD k [] := by decide +kernel
theorem tml_2 : ∀ k, k < 20 → (sv_txt (tm_2 (2 * k + 1))).length ≤ (sv_txt (tm_2 (2 * k))).length := by decide +kernel
theorem tms_3 : ∀ k, k < 7 → sv_txt (tm_3 (2 * k + 1)) = pu_S3.getD k [] := by decide +kernel
theorem tml_3 : ∀ k, k < 7 → (sv_txt (tm_3 (2 * k + 1))).length ≤ (sv_txt (tm_3 (2 * k))).length := by decide +kernel
theorem tm0_eq : (List.range 33).map (fun k => sv_txt (tm_0 k)) = pu_stops := by decide +kernel
theorem pu_rep_none {E S : List (List Int32)} {L : List Int32} (h : pu_lng L E 0 none = none) : pu_rep E S L = L := by simp only [pu_rep, h]
theorem pu_rep_some {E S : List (List Int32)} {L : List Int32} {q : Nat × List Int32} (h : pu_lng L E 0 none = some q) : pu_rep E S L = if 0 < pu_meas L (L.length - q.2.length) then L.take (L.length - q.2.length) ++ S.getD q.1 [] else L := by simp only [pu_rep, h]
theorem pu_s4_none {L : List Int32} (h : pu_lng L pu_E4 0 none = none) : pu_s4 L = L := by simp only [pu_s4, h]
theorem pu_s4_some {L : List Int32} {q : Nat × List Int32} (h : pu_lng L pu_E4 0 none = some q) : pu_s4 L = if (q.2 = [105, 111, 110] → 0 < L.length - q.2.length ∧ (L.getD (L.length - q.2.length - 1) 0 = 115 ∨ L.getD (L.length - q.2.length - 1) 0 = 116)) ∧ 1 < pu_meas L (L.length - q.2.length) then L.take (L.length - q.2.length) else L := by simp only [pu_s4, h]
theorem pu_lng_ok {L : List Int32} {tx : Nat → Nat} {n : Nat} {q : Nat × List Int32} (h : pu_lng L (sv_EL tx n) 0 none = some q) : q.1 < n ∧ q.2 = sv_txt (tx q.1) ∧ (sv_txt (tx q.1)).length ≤ L.length := by
  have h1 := pu_lng_at L (sv_EL tx n) (sv_EL tx n) 0 none rfl (fun q hq => by cases hq) q h
  have h2 := ((pu_lng_spec L (sv_EL tx n) 0 none (fun q hq => by cases hq)).1 q h).1
  rw [sv_EL_len] at h1
  have h3 : q.2 = sv_txt (tx q.1) := by
    rw [← h1.1]
    simp [sv_EL, List.getD_eq_getElem?_getD, h1.2]
  exact ⟨h1.2, h3, by rw [← h3]; exact h2.1⟩
theorem pu_tlen {L : List Int32} {n : Nat} (h : n ≤ L.length) : nI n = nI (L.take n).length := by rw [List.length_take, Nat.min_eq_left h]
theorem pu_tlen2 {L : List Int32} (h : 1 ≤ L.length) (c : Int32) : nI L.length = nI (L.take (L.length - 1) ++ [c]).length := by
  rw [List.length_append, List.length_take, List.length_singleton, Nat.min_eq_left (by omega)]
  congr 1
  omega
def rm_M_stemOneB : Room := { frames := 7, cells := 0, slots := 0, locals := 209 }
set_option maxHeartbeats 4000000 in
set_option maxRecDepth 100000 in
theorem c_M_stemOneB (l : Launch) (g : sv_G) (rest : va_W) (ad : Nat → Nat) (inl th cm km kw : Int32) (f : Nat → Int32) (L : List Int32) (hL : L.length ≤ 255) (hf : pr_W f L) : sv_Mv l y_M_stemOneB b_M_stemOneB 3 none rm_M_stemOneB g [.ref (ad 0)] ((ad 0, .inr (7, [.ref (ad 7), .ref (ad 8), .ref (ad 9), .ref (ad 10), .ref (ad 1), .int inl, .int th, .ref (ad 2), .int cm, .ref (ad 3), .ref (ad 4), .ref (ad 5), .int km, .int kw, .ref (ad 6), .int (nI L.length)])) :: (ad 6, .inl (g.2.1 0, 260, .inl f)) :: rest) (fun w => ∃ f2 : Nat → Int32, w = ((ad 0, .inr (7, [.ref (ad 7), .ref (ad 8), .ref (ad 9), .ref (ad 10), .ref (ad 1), .int inl, .int th, .ref (ad 2), .int cm, .ref (ad 3), .ref (ad 4), .ref (ad 5), .int km, .int kw, .ref (ad 6), .int (nI (pu_s1b L).length)])) :: (ad 6, .inl (g.2.1 0, 260, .inl f2)) :: rest) ∧ pr_W f2 (pu_s1b L)) := by
  refine sv_enter_v (by decide) rfl rfl (Nat.le_of_ble_eq_true rfl) (fun X C hI hr => ?_)
  refine sv_lvE (lv' := [some _, none, none]) rfl ?_
  have j161 : ∀ (Q : List Int32), Q.length ≤ 254 → 1 ≤ Q.length → pr_W f Q → pu_s1b L = pu_s1bm Q → (pu_ends Q [97, 116] ∨ pu_ends Q [98, 108] ∨ pu_ends Q [105, 122]) → sv_V X 3 0 0 ((ad 0, .inr (7, [.ref (ad 7), .ref (ad 8), .ref (ad 9), .ref (ad 10), .ref (ad 1), .int inl, .int th, .ref (ad 2), .int cm, .ref (ad 3), .ref (ad 4), .ref (ad 5), .int km, .int kw, .ref (ad 6), .int (nI Q.length)])) :: (ad 6, .inl (g.2.1 0, 260, .inl f)) :: rest) 161 [some (.ref (ad 0)), some (.int (nI Q.length)), some (.int (if pu_dbl Q then 1 else 0))] [] := by
    intro Q h254 h1 hfQ hP hj
    have hL : Q.length ≤ 255 := by omega
    have hf := hfQ
    have le : (sv_txt 124).length = 1 := by rw [ltm_e]; rfl
    have ml := pu_meas_le Q Q.length
    refine sv_aload_n C rfl rfl d_M_stemOneB_161 ?_
    refine sv_iload_n C rfl rfl d_M_stemOneB_162 ?_
    refine sv_ldcS C ws_124 d_M_stemOneB_163 ?_
    refine sv_callVv C (c_M_instead l g rest ad inl th cm km kw f Q hL hf Q.length 124 (Nat.le_refl _) (by decide) (by omega)) lk_M_303 List.mem_cons_self rfl d_M_stemOneB_165 (by decide) (Nat.le_of_ble_eq_true rfl) (by decide) (fun w hw => ?_)
    obtain ⟨f3, rfl, hf3⟩ := hw
    refine sv_goto C 251 (by decide) d_M_stemOneB_168 ?_
    exact hr _ _ _ d_M_stemOneB_251 (by rw [show pu_s1b L = (Q.take Q.length ++ sv_txt 124) from hP.trans (by rw [pu_s1bm, if_pos hj, List.take_length, ltm_e])]; exact ⟨f3, rfl, hf3⟩)
  have j227 : ∀ (Q : List Int32), Q.length ≤ 254 → 1 ≤ Q.length → pr_W f Q → pu_s1b L = pu_s1bm Q → ¬ (pu_ends Q [97, 116] ∨ pu_ends Q [98, 108] ∨ pu_ends Q [105, 122]) ∧ ¬ (pu_dbl Q ∧ Q.getD (Q.length - 1) 0 ≠ 108 ∧ Q.getD (Q.length - 1) 0 ≠ 115 ∧ Q.getD (Q.length - 1) 0 ≠ 122) → sv_V X 3 0 0 ((ad 0, .inr (7, [.ref (ad 7), .ref (ad 8), .ref (ad 9), .ref (ad 10), .ref (ad 1), .int inl, .int th, .ref (ad 2), .int cm, .ref (ad 3), .ref (ad 4), .ref (ad 5), .int km, .int kw, .ref (ad 6), .int (nI Q.length)])) :: (ad 6, .inl (g.2.1 0, 260, .inl f)) :: rest) 227 [some (.ref (ad 0)), some (.int (nI Q.length)), some (.int (if pu_dbl Q then 1 else 0))] [] := by
    intro Q h254 h1 hfQ hP hj
    have hL : Q.length ≤ 255 := by omega
    have hf := hfQ
    have le : (sv_txt 124).length = 1 := by rw [ltm_e]; rfl
    have ml := pu_meas_le Q Q.length
    refine sv_aload_n C rfl rfl d_M_stemOneB_227 ?_
    refine sv_iload_n C rfl rfl d_M_stemOneB_228 ?_
    refine sv_callVi C (c_M_measure l g rest ad inl th cm km kw f Q hL hf Q.length (by omega)) lk_M_300 List.mem_cons_self rfl d_M_stemOneB_229 (by decide) (Nat.le_of_ble_eq_true rfl) (by decide) (fun r w hw => ?_)
    obtain ⟨rfl, rfl⟩ := hw
    refine sv_iconst C (v := 1) (by decide) d_M_stemOneB_232 ?_
    refine sv_icmpN_ne C _ 1 (by omega) (by omega) 251 (by decide) d_M_stemOneB_233 (fun c233 => ?_) (fun c233 => ?_)
    · skip
      exact hr _ _ _ d_M_stemOneB_251 (by rw [show pu_s1b L = Q from hP.trans (by rw [pu_s1bm, if_neg hj.1, if_neg hj.2, if_neg (fun z => c233 z.1)])]; exact ⟨f, rfl, hf⟩)
    · skip
      refine sv_aload_n C rfl rfl d_M_stemOneB_236 ?_
      refine sv_iload_n C rfl rfl d_M_stemOneB_237 ?_
      refine sv_callVi C (c_M_cvc l g rest ad inl th cm km kw f Q hL hf Q.length (by omega)) lk_M_311 List.mem_cons_self rfl d_M_stemOneB_238 (by decide) (Nat.le_of_ble_eq_true rfl) (by decide) (fun r w hw => ?_)
      obtain ⟨rfl, rfl⟩ := hw
      refine sv_ifB_eq C _ 251 (by decide) d_M_stemOneB_241 (fun c241 => ?_) (fun c241 => ?_)
      · skip
        exact hr _ _ _ d_M_stemOneB_251 (by rw [show pu_s1b L = Q from hP.trans (by rw [pu_s1bm, if_neg hj.1, if_neg hj.2, if_neg (fun z => c241 z.2)])]; exact ⟨f, rfl, hf⟩)
      · skip
        refine sv_aload_n C rfl rfl d_M_stemOneB_244 ?_
        refine sv_iload_n C rfl rfl d_M_stemOneB_245 ?_
        refine sv_ldcS C ws_124 d_M_stemOneB_246 ?_
        refine sv_callVv C (c_M_instead l g rest ad inl th cm km kw f Q hL hf Q.length 124 (Nat.le_refl _) (by decide) (by omega)) lk_M_303 List.mem_cons_self rfl d_M_stemOneB_248 (by decide) (Nat.le_of_ble_eq_true rfl) (by decide) (fun w hw => ?_)
        obtain ⟨f3, rfl, hf3⟩ := hw
        exact hr _ _ _ d_M_stemOneB_251 (by rw [show pu_s1b L = (Q.take Q.length ++ sv_txt 124) from hP.trans (by rw [pu_s1bm, if_neg hj.1, if_neg hj.2, if_pos ⟨c233, c241⟩, List.take_length, ltm_e])]; exact ⟨f3, rfl, hf3⟩)
  have j171 : ∀ (Q : List Int32), Q.length ≤ 254 → 1 ≤ Q.length → pr_W f Q → pu_s1b L = pu_s1bm Q → ¬ (pu_ends Q [97, 116] ∨ pu_ends Q [98, 108] ∨ pu_ends Q [105, 122]) → sv_V X 3 0 0 ((ad 0, .inr (7, [.ref (ad 7), .ref (ad 8), .ref (ad 9), .ref (ad 10), .ref (ad 1), .int inl, .int th, .ref (ad 2), .int cm, .ref (ad 3), .ref (ad 4), .ref (ad 5), .int km, .int kw, .ref (ad 6), .int (nI Q.length)])) :: (ad 6, .inl (g.2.1 0, 260, .inl f)) :: rest) 171 [some (.ref (ad 0)), some (.int (nI Q.length)), some (.int (if pu_dbl Q then 1 else 0))] [] := by
    intro Q h254 h1 hfQ hP hj
    have hL : Q.length ≤ 255 := by omega
    have hf := hfQ
    have le : (sv_txt 124).length = 1 := by rw [ltm_e]; rfl
    have ml := pu_meas_le Q Q.length
    refine sv_iload_n C rfl rfl d_M_stemOneB_171 ?_
    refine sv_ifB_eq C _ 227 (by decide) d_M_stemOneB_172 (fun c172 => ?_) (fun c172 => ?_)
    · skip
      exact j227 Q h254 h1 hfQ hP ⟨hj, fun z => c172 z.1⟩
    · skip
      refine sv_aload_n C rfl rfl d_M_stemOneB_175 ?_
      refine sv_get C fg_M_207 0 rfl rfl d_M_stemOneB_176 ?_
      refine sv_iload_n C rfl rfl d_M_stemOneB_179 ?_
      refine sv_iconst C (v := 1) (by decide) d_M_stemOneB_180 ?_
      refine sv_isubN C _ 1 (by omega) d_M_stemOneB_181 ?_
      refine sv_ialdN C _ 1 rfl (by omega) (by decide) d_M_stemOneB_182 ?_
      refine sv_eqi (hf _ (by omega)) ?_
      refine sv_bipush C (v := 108) (by decide) d_M_stemOneB_183 ?_
      refine sv_icmp_eq C 227 (by decide) d_M_stemOneB_185 (fun c185 => ?_) (fun c185 => ?_)
      · skip
        exact j227 Q h254 h1 hfQ hP ⟨hj, fun z => z.2.1 c185⟩
      · skip
        refine sv_aload_n C rfl rfl d_M_stemOneB_188 ?_
        refine sv_get C fg_M_207 0 rfl rfl d_M_stemOneB_189 ?_
        refine sv_iload_n C rfl rfl d_M_stemOneB_192 ?_
        refine sv_iconst C (v := 1) (by decide) d_M_stemOneB_193 ?_
        refine sv_isubN C _ 1 (by omega) d_M_stemOneB_194 ?_
        refine sv_ialdN C _ 1 rfl (by omega) (by decide) d_M_stemOneB_195 ?_
        refine sv_eqi (hf _ (by omega)) ?_
        refine sv_bipush C (v := 115) (by decide) d_M_stemOneB_196 ?_
        refine sv_icmp_eq C 227 (by decide) d_M_stemOneB_198 (fun c198 => ?_) (fun c198 => ?_)
        · skip
          exact j227 Q h254 h1 hfQ hP ⟨hj, fun z => z.2.2.1 c198⟩
        · skip
          refine sv_aload_n C rfl rfl d_M_stemOneB_201 ?_
          refine sv_get C fg_M_207 0 rfl rfl d_M_stemOneB_202 ?_
          refine sv_iload_n C rfl rfl d_M_stemOneB_205 ?_
          refine sv_iconst C (v := 1) (by decide) d_M_stemOneB_206 ?_
          refine sv_isubN C _ 1 (by omega) d_M_stemOneB_207 ?_
          refine sv_ialdN C _ 1 rfl (by omega) (by decide) d_M_stemOneB_208 ?_
          refine sv_eqi (hf _ (by omega)) ?_
          refine sv_bipush C (v := 122) (by decide) d_M_stemOneB_209 ?_
          refine sv_icmp_eq C 227 (by decide) d_M_stemOneB_211 (fun c211 => ?_) (fun c211 => ?_)
          · skip
            exact j227 Q h254 h1 hfQ hP ⟨hj, fun z => z.2.2.2 c211⟩
          · skip
            refine sv_aload_n C rfl rfl d_M_stemOneB_214 ?_
            refine sv_dup C rfl d_M_stemOneB_215 ?_
            refine sv_get C fg_M_254 0 rfl rfl d_M_stemOneB_216 ?_
            refine sv_iconst C (v := 1) (by decide) d_M_stemOneB_219 ?_
            refine sv_isubN C _ 1 (by omega) d_M_stemOneB_220 ?_
            refine sv_put C fp_M_254 0 rfl rfl rfl (Nat.le_of_ble_eq_true rfl) ((_, .inr (_, [_, _, _, _, _, _, _, _, _, _, _, _, _, _, _, _])) :: _ :: _) rfl d_M_stemOneB_221 ?_
            refine sv_goto C 251 (by decide) d_M_stemOneB_224 ?_
            refine sv_wsE (ws' := ((ad 0, .inr (7, [.ref (ad 7), .ref (ad 8), .ref (ad 9), .ref (ad 10), .ref (ad 1), .int inl, .int th, .ref (ad 2), .int cm, .ref (ad 3), .ref (ad 4), .ref (ad 5), .int km, .int kw, .ref (ad 6), .int (nI (Q.take (Q.length - 1)).length)])) :: (ad 6, .inl (g.2.1 0, 260, .inl f)) :: rest)) (by rw [← pu_tlen (by omega)]) ?_
            exact hr _ _ _ d_M_stemOneB_251 (by rw [show pu_s1b L = Q.take (Q.length - 1) from hP.trans (by rw [pu_s1bm, if_neg hj, if_pos ⟨c172, c185, c198, c211⟩])]; exact ⟨f, rfl, (pr_take hf _)⟩)
  have j132 : ∀ (Q : List Int32), Q.length ≤ 254 → 1 ≤ Q.length → pr_W f Q → pu_s1b L = pu_s1bm Q → sv_V X 3 0 0 ((ad 0, .inr (7, [.ref (ad 7), .ref (ad 8), .ref (ad 9), .ref (ad 10), .ref (ad 1), .int inl, .int th, .ref (ad 2), .int cm, .ref (ad 3), .ref (ad 4), .ref (ad 5), .int km, .int kw, .ref (ad 6), .int (nI Q.length)])) :: (ad 6, .inl (g.2.1 0, 260, .inl f)) :: rest) 132 [some (.ref (ad 0)), some (.int (nI Q.length)), some (.int (if pu_dbl Q then 1 else 0))] [] := by
    intro Q h254 h1 hfQ hP
    have hL : Q.length ≤ 255 := by omega
    have hf := hfQ
    have le : (sv_txt 124).length = 1 := by rw [ltm_e]; rfl
    have ml := pu_meas_le Q Q.length
    refine sv_aload_n C rfl rfl d_M_stemOneB_132 ?_
    refine sv_ldcS C ws_79 d_M_stemOneB_133 ?_
    refine sv_callVi C (c_M_ends l g rest ad inl th cm km kw f Q hL hf 79 (by decide)) lk_M_270 List.mem_cons_self rfl d_M_stemOneB_135 (by decide) (Nat.le_of_ble_eq_true rfl) (by decide) (fun r w hw => ?_)
    obtain ⟨rfl, rfl⟩ := hw
    refine sv_ifB_ne C _ 161 (by decide) d_M_stemOneB_138 (fun c138 => ?_) (fun c138 => ?_)
    · skip
      rw [ltm_at] at c138
      exact j161 Q h254 h1 hfQ hP (Or.inl c138)
    · skip
      rw [ltm_at] at c138
      refine sv_aload_n C rfl rfl d_M_stemOneB_141 ?_
      refine sv_ldcSw C ws_164 d_M_stemOneB_142 ?_
      refine sv_callVi C (c_M_ends l g rest ad inl th cm km kw f Q hL hf 164 (by decide)) lk_M_270 List.mem_cons_self rfl d_M_stemOneB_145 (by decide) (Nat.le_of_ble_eq_true rfl) (by decide) (fun r w hw => ?_)
      obtain ⟨rfl, rfl⟩ := hw
      refine sv_ifB_ne C _ 161 (by decide) d_M_stemOneB_148 (fun c148 => ?_) (fun c148 => ?_)
      · skip
        rw [ltm_bl] at c148
        exact j161 Q h254 h1 hfQ hP (Or.inr (Or.inl c148))
      · skip
        rw [ltm_bl] at c148
        refine sv_aload_n C rfl rfl d_M_stemOneB_151 ?_
        refine sv_ldcSw C ws_165 d_M_stemOneB_152 ?_
        refine sv_callVi C (c_M_ends l g rest ad inl th cm km kw f Q hL hf 165 (by decide)) lk_M_270 List.mem_cons_self rfl d_M_stemOneB_155 (by decide) (Nat.le_of_ble_eq_true rfl) (by decide) (fun r w hw => ?_)
        obtain ⟨rfl, rfl⟩ := hw
        refine sv_ifB_eq C _ 171 (by decide) d_M_stemOneB_158 (fun c158 => ?_) (fun c158 => ?_)
        · skip
          rw [ltm_iz] at c158
          exact j171 Q h254 h1 hfQ hP (fun z => z.elim c138 (fun y => y.elim c148 c158))
        · skip
          rw [ltm_iz] at c158
          exact j161 Q h254 h1 hfQ hP (Or.inr (Or.inr c158))
  have j87 : ∀ (Q : List Int32), Q.length ≤ 254 → 1 ≤ Q.length → pr_W f Q → pu_s1b L = pu_s1bm Q → ∀ w0 : Int32, sv_V X 3 0 0 ((ad 0, .inr (7, [.ref (ad 7), .ref (ad 8), .ref (ad 9), .ref (ad 10), .ref (ad 1), .int inl, .int th, .ref (ad 2), .int cm, .ref (ad 3), .ref (ad 4), .ref (ad 5), .int km, .int kw, .ref (ad 6), .int w0])) :: (ad 6, .inl (g.2.1 0, 260, .inl f)) :: rest) 87 [some (.ref (ad 0)), some (.int (nI Q.length)), none] [] := by
    intro Q h254 h1 hfQ hP w0
    have hL : Q.length ≤ 255 := by omega
    have hf := hfQ
    have le : (sv_txt 124).length = 1 := by rw [ltm_e]; rfl
    have ml := pu_meas_le Q Q.length
    refine sv_aload_n C rfl rfl d_M_stemOneB_87 ?_
    refine sv_iload_n C rfl rfl d_M_stemOneB_88 ?_
    refine sv_put C fp_M_254 0 rfl rfl rfl (Nat.le_of_ble_eq_true rfl) ((_, .inr (_, [_, _, _, _, _, _, _, _, _, _, _, _, _, _, _, _])) :: _ :: _) rfl d_M_stemOneB_89 ?_
    refine sv_iload_n C rfl rfl d_M_stemOneB_92 ?_
    refine sv_iconst C (v := 1) (by decide) d_M_stemOneB_93 ?_
    refine sv_icmpN_le C _ 1 (by omega) (by omega) 130 (by decide) d_M_stemOneB_94 (fun c94 => ?_) (fun c94 => ?_)
    · skip
      refine sv_iconst C (v := 0) (by decide) d_M_stemOneB_130 ?_
      refine sv_istore_n C rfl (by decide) [some _, some _, some _] rfl d_M_stemOneB_131 ?_
      refine sv_lvE (lv' := [some (.ref (ad 0)), some (.int (nI Q.length)), some (.int (if pu_dbl Q then 1 else 0))]) (by rw [if_neg (fun z => by have := z.1; omega)]) ?_
      exact j132 Q h254 h1 hfQ hP
    · skip
      refine sv_aload_n C rfl rfl d_M_stemOneB_97 ?_
      refine sv_get C fg_M_207 0 rfl rfl d_M_stemOneB_98 ?_
      refine sv_iload_n C rfl rfl d_M_stemOneB_101 ?_
      refine sv_iconst C (v := 1) (by decide) d_M_stemOneB_102 ?_
      refine sv_isubN C _ 1 (by omega) d_M_stemOneB_103 ?_
      refine sv_ialdN C _ 1 rfl (by omega) (by decide) d_M_stemOneB_104 ?_
      refine sv_eqi (hf _ (by omega)) ?_
      refine sv_aload_n C rfl rfl d_M_stemOneB_105 ?_
      refine sv_get C fg_M_207 0 rfl rfl d_M_stemOneB_106 ?_
      refine sv_iload_n C rfl rfl d_M_stemOneB_109 ?_
      refine sv_iconst C (v := 2) (by decide) d_M_stemOneB_110 ?_
      refine sv_isubN C _ 2 (by omega) d_M_stemOneB_111 ?_
      refine sv_ialdN C _ 1 rfl (by omega) (by decide) d_M_stemOneB_112 ?_
      refine sv_eqi (hf _ (by omega)) ?_
      refine sv_icmp_ne C 130 (by decide) d_M_stemOneB_113 (fun c113 => ?_) (fun c113 => ?_)
      · skip
        refine sv_iconst C (v := 0) (by decide) d_M_stemOneB_130 ?_
        refine sv_istore_n C rfl (by decide) [some _, some _, some _] rfl d_M_stemOneB_131 ?_
        refine sv_lvE (lv' := [some (.ref (ad 0)), some (.int (nI Q.length)), some (.int (if pu_dbl Q then 1 else 0))]) (by rw [if_neg (fun z => c113 z.2.1)]) ?_
        exact j132 Q h254 h1 hfQ hP
      · skip
        refine sv_aload_n C rfl rfl d_M_stemOneB_116 ?_
        refine sv_iload_n C rfl rfl d_M_stemOneB_117 ?_
        refine sv_iconst C (v := 1) (by decide) d_M_stemOneB_118 ?_
        refine sv_isubN C _ 1 (by omega) d_M_stemOneB_119 ?_
        refine sv_callVi C (c_M_vowel l g rest ad inl th cm km kw f Q hL hf (Q.length - 1) (by omega)) lk_M_277 List.mem_cons_self rfl d_M_stemOneB_120 (by decide) (Nat.le_of_ble_eq_true rfl) (by decide) (fun r w hw => ?_)
        obtain ⟨rfl, rfl⟩ := hw
        refine sv_ifB_ne C _ 130 (by decide) d_M_stemOneB_123 (fun c123 => ?_) (fun c123 => ?_)
        · skip
          refine sv_iconst C (v := 0) (by decide) d_M_stemOneB_130 ?_
          refine sv_istore_n C rfl (by decide) [some _, some _, some _] rfl d_M_stemOneB_131 ?_
          refine sv_lvE (lv' := [some (.ref (ad 0)), some (.int (nI Q.length)), some (.int (if pu_dbl Q then 1 else 0))]) (by rw [if_neg (fun z => by have z3 := z.2.2; rw [c123] at z3; cases z3)]) ?_
          exact j132 Q h254 h1 hfQ hP
        · skip
          refine sv_iconst C (v := 1) (by decide) d_M_stemOneB_126 ?_
          refine sv_goto C 131 (by decide) d_M_stemOneB_127 ?_
          refine sv_istore_n C rfl (by decide) [some _, some _, some _] rfl d_M_stemOneB_131 ?_
          refine sv_lvE (lv' := [some (.ref (ad 0)), some (.int (nI Q.length)), some (.int (if pu_dbl Q then 1 else 0))]) (by rw [if_pos ⟨by omega, c113, pu_vowF c123⟩]) ?_
          exact j132 Q h254 h1 hfQ hP
  refine sv_aload_n C rfl rfl d_M_stemOneB_0 ?_
  refine sv_ldcSw C ws_161 d_M_stemOneB_1 ?_
  refine sv_callVi C (c_M_ends l g rest ad inl th cm km kw f L hL hf 161 (by decide)) lk_M_270 List.mem_cons_self rfl d_M_stemOneB_4 (by decide) (Nat.le_of_ble_eq_true rfl) (by decide) (fun r w hw => ?_)
  obtain ⟨rfl, rfl⟩ := hw
  refine sv_ifB_eq C _ 34 (by decide) d_M_stemOneB_7 (fun c7 => ?_) (fun c7 => ?_)
  · skip
    rw [ltm_eed] at c7
    refine sv_aload_n C rfl rfl d_M_stemOneB_34 ?_
    refine sv_ldcSw C ws_162 d_M_stemOneB_35 ?_
    refine sv_callVi C (c_M_ends l g rest ad inl th cm km kw f L hL hf 162 (by decide)) lk_M_270 List.mem_cons_self rfl d_M_stemOneB_38 (by decide) (Nat.le_of_ble_eq_true rfl) (by decide) (fun r w hw => ?_)
    obtain ⟨rfl, rfl⟩ := hw
    refine sv_ifB_eq C _ 53 (by decide) d_M_stemOneB_41 (fun c41 => ?_) (fun c41 => ?_)
    · skip
      rw [ltm_ed] at c41
      refine sv_aload_n C rfl rfl d_M_stemOneB_53 ?_
      refine sv_ldcSw C ws_163 d_M_stemOneB_54 ?_
      refine sv_callVi C (c_M_ends l g rest ad inl th cm km kw f L hL hf 163 (by decide)) lk_M_270 List.mem_cons_self rfl d_M_stemOneB_57 (by decide) (Nat.le_of_ble_eq_true rfl) (by decide) (fun r w hw => ?_)
      obtain ⟨rfl, rfl⟩ := hw
      refine sv_ifB_eq C _ 72 (by decide) d_M_stemOneB_60 (fun c60 => ?_) (fun c60 => ?_)
      · skip
        rw [ltm_ing] at c60
        refine sv_iconst C (v := (-1)) (by decide) d_M_stemOneB_72 ?_
        refine sv_istore_n C rfl (by decide) [some _, some _, none] rfl d_M_stemOneB_73 ?_
        refine sv_iload_n C rfl rfl d_M_stemOneB_74 ?_
        refine sv_ifZ_lt C 86 (by decide) d_M_stemOneB_75 (fun c75 => ?_) (fun c75 => ?_)
        · skip
          exact hr _ _ _ d_M_stemOneB_86 (by rw [show pu_s1b L = L from by rw [pu_s1b, if_neg c7, if_neg c41, if_neg c60]]; exact ⟨f, rfl, hf⟩)
        · skip
          exact absurd c75 (by decide)
      · skip
        rw [ltm_ing] at c60
        have h3 : 3 ≤ L.length := c60.1
        refine sv_aload_n C rfl rfl d_M_stemOneB_63 ?_
        refine sv_get C fg_M_254 0 rfl rfl d_M_stemOneB_64 ?_
        refine sv_iconst C (v := 3) (by decide) d_M_stemOneB_67 ?_
        refine sv_isubN C _ 3 (by omega) d_M_stemOneB_68 ?_
        refine sv_goto C 73 (by decide) d_M_stemOneB_69 ?_
        refine sv_istore_n C rfl (by decide) [some _, some _, none] rfl d_M_stemOneB_73 ?_
        refine sv_iload_n C rfl rfl d_M_stemOneB_74 ?_
        refine sv_ifZ_lt C 86 (by decide) d_M_stemOneB_75 (fun c75 => ?_) (fun c75 => ?_)
        · skip
          exact absurd c75 (by rw [nI_toInt (by omega)]; omega)
        · skip
          refine sv_aload_n C rfl rfl d_M_stemOneB_78 ?_
          refine sv_iload_n C rfl rfl d_M_stemOneB_79 ?_
          refine sv_callVi C (c_M_anyVowel l g rest ad inl th cm km kw f L hL hf (L.length - 3) (by omega)) lk_M_293 List.mem_cons_self rfl d_M_stemOneB_80 (by decide) (Nat.le_of_ble_eq_true rfl) (by decide) (fun r w hw => ?_)
          obtain ⟨rfl, rfl⟩ := hw
          refine sv_ifB_ne C _ 87 (by decide) d_M_stemOneB_83 (fun c83 => ?_) (fun c83 => ?_)
          · skip
            have hp : 1 ≤ L.length - 3 := pu_anyV_pos c83
            refine sv_lvE (lv' := [some (.ref (ad 0)), some (.int (nI (L.take (L.length - 3)).length)), none]) (by rw [← pu_tlen (by omega)]) ?_
            exact j87 (L.take (L.length - 3)) (by rw [List.length_take]; omega) (by rw [List.length_take]; omega) (pr_take hf _) (by rw [pu_s1b, if_neg c7, if_neg c41, if_pos c60, if_pos c83]) _
          · skip
            exact hr _ _ _ d_M_stemOneB_86 (by rw [show pu_s1b L = L from by rw [pu_s1b, if_neg c7, if_neg c41, if_pos c60, if_neg c83]]; exact ⟨f, rfl, hf⟩)
    · skip
      rw [ltm_ed] at c41
      have h3 : 2 ≤ L.length := c41.1
      refine sv_aload_n C rfl rfl d_M_stemOneB_44 ?_
      refine sv_get C fg_M_254 0 rfl rfl d_M_stemOneB_45 ?_
      refine sv_iconst C (v := 2) (by decide) d_M_stemOneB_48 ?_
      refine sv_isubN C _ 2 (by omega) d_M_stemOneB_49 ?_
      refine sv_goto C 73 (by decide) d_M_stemOneB_50 ?_
      refine sv_istore_n C rfl (by decide) [some _, some _, none] rfl d_M_stemOneB_73 ?_
      refine sv_iload_n C rfl rfl d_M_stemOneB_74 ?_
      refine sv_ifZ_lt C 86 (by decide) d_M_stemOneB_75 (fun c75 => ?_) (fun c75 => ?_)
      · skip
        exact absurd c75 (by rw [nI_toInt (by omega)]; omega)
      · skip
        refine sv_aload_n C rfl rfl d_M_stemOneB_78 ?_
        refine sv_iload_n C rfl rfl d_M_stemOneB_79 ?_
        refine sv_callVi C (c_M_anyVowel l g rest ad inl th cm km kw f L hL hf (L.length - 2) (by omega)) lk_M_293 List.mem_cons_self rfl d_M_stemOneB_80 (by decide) (Nat.le_of_ble_eq_true rfl) (by decide) (fun r w hw => ?_)
        obtain ⟨rfl, rfl⟩ := hw
        refine sv_ifB_ne C _ 87 (by decide) d_M_stemOneB_83 (fun c83 => ?_) (fun c83 => ?_)
        · skip
          have hp : 1 ≤ L.length - 2 := pu_anyV_pos c83
          refine sv_lvE (lv' := [some (.ref (ad 0)), some (.int (nI (L.take (L.length - 2)).length)), none]) (by rw [← pu_tlen (by omega)]) ?_
          exact j87 (L.take (L.length - 2)) (by rw [List.length_take]; omega) (by rw [List.length_take]; omega) (pr_take hf _) (by rw [pu_s1b, if_neg c7, if_pos c41, if_pos c83]) _
        · skip
          exact hr _ _ _ d_M_stemOneB_86 (by rw [show pu_s1b L = L from by rw [pu_s1b, if_neg c7, if_pos c41, if_neg c83]]; exact ⟨f, rfl, hf⟩)
  · skip
    rw [ltm_eed] at c7
    have h3 : 3 ≤ L.length := c7.1
    refine sv_aload_n C rfl rfl d_M_stemOneB_10 ?_
    refine sv_aload_n C rfl rfl d_M_stemOneB_11 ?_
    refine sv_get C fg_M_254 0 rfl rfl d_M_stemOneB_12 ?_
    refine sv_iconst C (v := 3) (by decide) d_M_stemOneB_15 ?_
    refine sv_isubN C _ 3 (by omega) d_M_stemOneB_16 ?_
    have ml := pu_meas_le L (L.length - 3)
    refine sv_callVi C (c_M_measure l g rest ad inl th cm km kw f L hL hf (L.length - 3) (by omega)) lk_M_300 List.mem_cons_self rfl d_M_stemOneB_17 (by decide) (Nat.le_of_ble_eq_true rfl) (by decide) (fun r w hw => ?_)
    obtain ⟨rfl, rfl⟩ := hw
    refine sv_ifN_le C _ (by omega) 33 (by decide) d_M_stemOneB_20 (fun c20 => ?_) (fun c20 => ?_)
    · skip
      exact hr _ _ _ d_M_stemOneB_33 (by rw [show pu_s1b L = L from by rw [pu_s1b, if_pos c7, if_neg (by omega)]]; exact ⟨f, rfl, hf⟩)
    · skip
      refine sv_aload_n C rfl rfl d_M_stemOneB_23 ?_
      refine sv_dup C rfl d_M_stemOneB_24 ?_
      refine sv_get C fg_M_254 0 rfl rfl d_M_stemOneB_25 ?_
      refine sv_iconst C (v := 1) (by decide) d_M_stemOneB_28 ?_
      refine sv_isubN C _ 1 (by omega) d_M_stemOneB_29 ?_
      refine sv_put C fp_M_254 0 rfl rfl rfl (Nat.le_of_ble_eq_true rfl) ((_, .inr (_, [_, _, _, _, _, _, _, _, _, _, _, _, _, _, _, _])) :: _ :: _) rfl d_M_stemOneB_30 ?_
      refine sv_wsE (ws' := ((ad 0, .inr (7, [.ref (ad 7), .ref (ad 8), .ref (ad 9), .ref (ad 10), .ref (ad 1), .int inl, .int th, .ref (ad 2), .int cm, .ref (ad 3), .ref (ad 4), .ref (ad 5), .int km, .int kw, .ref (ad 6), .int (nI (L.take (L.length - 1)).length)])) :: (ad 6, .inl (g.2.1 0, 260, .inl f)) :: rest)) (by rw [← pu_tlen (by omega)]) ?_
      exact hr _ _ _ d_M_stemOneB_33 (by rw [show pu_s1b L = L.take (L.length - 1) from by rw [pu_s1b, if_pos c7, if_pos (by omega)]]; exact ⟨f, rfl, pr_take hf _⟩)

def rm_M_stem : Room := { frames := 8, cells := 0, slots := 0, locals := 231 }
set_option maxHeartbeats 4000000 in
set_option maxRecDepth 100000 in
theorem c_M_stem (l : Launch) (g : sv_G) (rest : va_W) (ad : Nat → Nat) (inl th cm km kw : Int32) (f : Nat → Int32) (L : List Int32) (hL : L.length ≤ 255) (hf : pr_W f L) (h3 : 2 < L.length) (hT2 : sv_SA g rest (ad 8) (2 * 20) tm_2) (hT3 : sv_SA g rest (ad 9) (2 * 7) tm_3) (hT4 : sv_SA g rest (ad 10) (2 * 19) tm_4) : sv_Mv l y_M_stem b_M_stem 4 none rm_M_stem g [.ref (ad 0)] ((ad 0, .inr (7, [.ref (ad 7), .ref (ad 8), .ref (ad 9), .ref (ad 10), .ref (ad 1), .int inl, .int th, .ref (ad 2), .int cm, .ref (ad 3), .ref (ad 4), .ref (ad 5), .int km, .int kw, .ref (ad 6), .int (nI L.length)])) :: (ad 6, .inl (g.2.1 0, 260, .inl f)) :: rest) (fun w => ∃ f2 : Nat → Int32, w = ((ad 0, .inr (7, [.ref (ad 7), .ref (ad 8), .ref (ad 9), .ref (ad 10), .ref (ad 1), .int inl, .int th, .ref (ad 2), .int cm, .ref (ad 3), .ref (ad 4), .ref (ad 5), .int km, .int kw, .ref (ad 6), .int (nI (pu_stem L).length)])) :: (ad 6, .inl (g.2.1 0, 260, .inl f2)) :: rest) ∧ pr_W f2 (pu_stem L)) := by
  refine sv_enter_v (by decide) rfl rfl (Nat.le_of_ble_eq_true rfl) (fun X C hI hr => ?_)
  refine sv_lvE (lv' := [some _, none, none, none]) rfl ?_
  have j372 : ∀ (Q : List Int32) (fq : Nat → Int32) (o1 o2 o3 : Option Value), Q.length ≤ 255 → pr_W fq Q → pu_stem L = (pu_s5b Q) → sv_V X 4 0 0 ((ad 0, .inr (7, [.ref (ad 7), .ref (ad 8), .ref (ad 9), .ref (ad 10), .ref (ad 1), .int inl, .int th, .ref (ad 2), .int cm, .ref (ad 3), .ref (ad 4), .ref (ad 5), .int km, .int kw, .ref (ad 6), .int (nI Q.length)])) :: (ad 6, .inl (g.2.1 0, 260, .inl fq)) :: rest) 372 [some (.ref (ad 0)), o1, o2, o3] [] := by
    intro Q fq o1 o2 o3 hQ hfQ hP
    refine sv_aload_n C rfl rfl d_M_stem_372 ?_
    refine sv_ldcSw C ws_167 d_M_stem_373 ?_
    refine sv_callVi C (c_M_ends l g rest ad inl th cm km kw fq Q hQ hfQ 167 (by decide)) lk_M_270 List.mem_cons_self rfl d_M_stem_376 (by decide) (Nat.le_of_ble_eq_true rfl) (by decide) (fun r w hw => ?_)
    obtain ⟨rfl, rfl⟩ := hw
    refine sv_ifB_eq C _ 404 (by decide) d_M_stem_379 (fun c379 => ?_) (fun c379 => ?_)
    · skip
      rw [ltm_ll] at c379
      exact hr _ _ _ d_M_stem_404 (by rw [show pu_stem L = Q from hP.trans (by rw [pu_s5b, if_neg (fun z => c379 z.1)])]; exact ⟨fq, rfl, hfQ⟩)
    · skip
      rw [ltm_ll] at c379
      have hq1 : 2 ≤ Q.length := c379.1
      have ml := pu_meas_le Q Q.length
      refine sv_aload_n C rfl rfl d_M_stem_382 ?_
      refine sv_aload_n C rfl rfl d_M_stem_383 ?_
      refine sv_get C fg_M_254 0 rfl rfl d_M_stem_384 ?_
      refine sv_callVi C (c_M_measure l g rest ad inl th cm km kw fq Q hQ hfQ Q.length (by omega)) lk_M_300 List.mem_cons_self rfl d_M_stem_387 (by decide) (Nat.le_of_ble_eq_true rfl) (by decide) (fun r w hw => ?_)
      obtain ⟨rfl, rfl⟩ := hw
      refine sv_iconst C (v := 1) (by decide) d_M_stem_390 ?_
      refine sv_icmpN_le C _ 1 (by omega) (by omega) 404 (by decide) d_M_stem_391 (fun c391 => ?_) (fun c391 => ?_)
      · skip
        exact hr _ _ _ d_M_stem_404 (by rw [show pu_stem L = Q from hP.trans (by rw [pu_s5b, if_neg (fun z => absurd z.2 (by omega))])]; exact ⟨fq, rfl, hfQ⟩)
      · skip
        refine sv_aload_n C rfl rfl d_M_stem_394 ?_
        refine sv_dup C rfl d_M_stem_395 ?_
        refine sv_get C fg_M_254 0 rfl rfl d_M_stem_396 ?_
        refine sv_iconst C (v := 1) (by decide) d_M_stem_399 ?_
        refine sv_isubN C _ 1 (by omega) d_M_stem_400 ?_
        refine sv_put C fp_M_254 0 rfl rfl rfl (Nat.le_of_ble_eq_true rfl) ((_, .inr (_, [_, _, _, _, _, _, _, _, _, _, _, _, _, _, _, _])) :: _ :: _) rfl d_M_stem_401 ?_
        refine sv_wsE (ws' := ((ad 0, .inr (7, [.ref (ad 7), .ref (ad 8), .ref (ad 9), .ref (ad 10), .ref (ad 1), .int inl, .int th, .ref (ad 2), .int cm, .ref (ad 3), .ref (ad 4), .ref (ad 5), .int km, .int kw, .ref (ad 6), .int (nI (Q.take (Q.length - 1)).length)])) :: (ad 6, .inl (g.2.1 0, 260, .inl fq)) :: rest)) (by rw [← pu_tlen (by omega)]) ?_
        exact hr _ _ _ d_M_stem_404 (by rw [show pu_stem L = (Q.take (Q.length - 1)) from hP.trans (by rw [pu_s5b, if_pos ⟨c379, by omega⟩])]; exact ⟨fq, rfl, pr_take hfQ _⟩)
  have j319 : ∀ (Q : List Int32) (fq : Nat → Int32) (o1 o2 o3 : Option Value), Q.length ≤ 255 → pr_W fq Q → pu_stem L = (pu_s5b (pu_s5a Q)) → sv_V X 4 0 0 ((ad 0, .inr (7, [.ref (ad 7), .ref (ad 8), .ref (ad 9), .ref (ad 10), .ref (ad 1), .int inl, .int th, .ref (ad 2), .int cm, .ref (ad 3), .ref (ad 4), .ref (ad 5), .int km, .int kw, .ref (ad 6), .int (nI Q.length)])) :: (ad 6, .inl (g.2.1 0, 260, .inl fq)) :: rest) 319 [some (.ref (ad 0)), o1, o2, o3] [] := by
    intro Q fq o1 o2 o3 hQ hfQ hP
    refine sv_aload_n C rfl rfl d_M_stem_319 ?_
    refine sv_ldcS C ws_124 d_M_stem_320 ?_
    refine sv_callVi C (c_M_ends l g rest ad inl th cm km kw fq Q hQ hfQ 124 (by decide)) lk_M_270 List.mem_cons_self rfl d_M_stem_322 (by decide) (Nat.le_of_ble_eq_true rfl) (by decide) (fun r w hw => ?_)
    obtain ⟨rfl, rfl⟩ := hw
    refine sv_ifB_eq C _ 372 (by decide) d_M_stem_325 (fun c325 => ?_) (fun c325 => ?_)
    · skip
      rw [ltm_e] at c325
      exact j372 Q fq _ _ _ (hQ) (hfQ) (hP.trans (congrArg pu_s5b (by rw [pu_s5a, if_neg (fun z => c325 z.1)])))
    · skip
      rw [ltm_e] at c325
      have hq1 : 1 ≤ Q.length := c325.1
      have ml := pu_meas_le Q (Q.length - 1)
      refine sv_aload_n C rfl rfl d_M_stem_328 ?_
      refine sv_aload_n C rfl rfl d_M_stem_329 ?_
      refine sv_get C fg_M_254 0 rfl rfl d_M_stem_330 ?_
      refine sv_iconst C (v := 1) (by decide) d_M_stem_333 ?_
      refine sv_isubN C _ 1 (by omega) d_M_stem_334 ?_
      refine sv_callVi C (c_M_measure l g rest ad inl th cm km kw fq Q hQ hfQ (Q.length - 1) (by omega)) lk_M_300 List.mem_cons_self rfl d_M_stem_335 (by decide) (Nat.le_of_ble_eq_true rfl) (by decide) (fun r w hw => ?_)
      obtain ⟨rfl, rfl⟩ := hw
      refine sv_istore_n C rfl (by decide) [some _, _, some _, _] rfl d_M_stem_338 ?_
      refine sv_iload_n C rfl rfl d_M_stem_339 ?_
      refine sv_iconst C (v := 1) (by decide) d_M_stem_340 ?_
      refine sv_icmpN_gt C _ 1 (by omega) (by omega) 362 (by decide) d_M_stem_341 (fun c341 => ?_) (fun c341 => ?_)
      · skip
        refine sv_aload_n C rfl rfl d_M_stem_362 ?_
        refine sv_dup C rfl d_M_stem_363 ?_
        refine sv_get C fg_M_254 0 rfl rfl d_M_stem_364 ?_
        refine sv_iconst C (v := 1) (by decide) d_M_stem_367 ?_
        refine sv_isubN C _ 1 (by omega) d_M_stem_368 ?_
        refine sv_put C fp_M_254 0 rfl rfl rfl (Nat.le_of_ble_eq_true rfl) ((_, .inr (_, [_, _, _, _, _, _, _, _, _, _, _, _, _, _, _, _])) :: _ :: _) rfl d_M_stem_369 ?_
        refine sv_wsE (ws' := ((ad 0, .inr (7, [.ref (ad 7), .ref (ad 8), .ref (ad 9), .ref (ad 10), .ref (ad 1), .int inl, .int th, .ref (ad 2), .int cm, .ref (ad 3), .ref (ad 4), .ref (ad 5), .int km, .int kw, .ref (ad 6), .int (nI (Q.take (Q.length - 1)).length)])) :: (ad 6, .inl (g.2.1 0, 260, .inl fq)) :: rest)) (by rw [← pu_tlen (by omega)]) ?_
        exact j372 (Q.take (Q.length - 1)) fq _ _ _ (by rw [List.length_take]; omega) (pr_take hfQ _) (hP.trans (congrArg pu_s5b (by rw [pu_s5a, if_pos ⟨c325, Or.inl (by omega)⟩])))
      · skip
        refine sv_iload_n C rfl rfl d_M_stem_344 ?_
        refine sv_iconst C (v := 1) (by decide) d_M_stem_345 ?_
        refine sv_icmpN_ne C _ 1 (by omega) (by omega) 372 (by decide) d_M_stem_346 (fun c346 => ?_) (fun c346 => ?_)
        · skip
          exact j372 Q fq _ _ _ (hQ) (hfQ) (hP.trans (congrArg pu_s5b (by rw [pu_s5a, if_neg (fun z => by rcases z.2 with y | y <;> omega)])))
        · skip
          refine sv_aload_n C rfl rfl d_M_stem_349 ?_
          refine sv_aload_n C rfl rfl d_M_stem_350 ?_
          refine sv_get C fg_M_254 0 rfl rfl d_M_stem_351 ?_
          refine sv_iconst C (v := 1) (by decide) d_M_stem_354 ?_
          refine sv_isubN C _ 1 (by omega) d_M_stem_355 ?_
          refine sv_callVi C (c_M_cvc l g rest ad inl th cm km kw fq Q hQ hfQ (Q.length - 1) (by omega)) lk_M_311 List.mem_cons_self rfl d_M_stem_356 (by decide) (Nat.le_of_ble_eq_true rfl) (by decide) (fun r w hw => ?_)
          obtain ⟨rfl, rfl⟩ := hw
          refine sv_ifB_ne C _ 372 (by decide) d_M_stem_359 (fun c359 => ?_) (fun c359 => ?_)
          · skip
            exact j372 Q fq _ _ _ (hQ) (hfQ) (hP.trans (congrArg pu_s5b (by rw [pu_s5a, if_neg (fun z => z.2.elim (fun y => absurd y (by omega)) (fun y => y.2 c359))])))
          · skip
            refine sv_aload_n C rfl rfl d_M_stem_362 ?_
            refine sv_dup C rfl d_M_stem_363 ?_
            refine sv_get C fg_M_254 0 rfl rfl d_M_stem_364 ?_
            refine sv_iconst C (v := 1) (by decide) d_M_stem_367 ?_
            refine sv_isubN C _ 1 (by omega) d_M_stem_368 ?_
            refine sv_put C fp_M_254 0 rfl rfl rfl (Nat.le_of_ble_eq_true rfl) ((_, .inr (_, [_, _, _, _, _, _, _, _, _, _, _, _, _, _, _, _])) :: _ :: _) rfl d_M_stem_369 ?_
            refine sv_wsE (ws' := ((ad 0, .inr (7, [.ref (ad 7), .ref (ad 8), .ref (ad 9), .ref (ad 10), .ref (ad 1), .int inl, .int th, .ref (ad 2), .int cm, .ref (ad 3), .ref (ad 4), .ref (ad 5), .int km, .int kw, .ref (ad 6), .int (nI (Q.take (Q.length - 1)).length)])) :: (ad 6, .inl (g.2.1 0, 260, .inl fq)) :: rest)) (by rw [← pu_tlen (by omega)]) ?_
            exact j372 (Q.take (Q.length - 1)) fq _ _ _ (by rw [List.length_take]; omega) (pr_take hfQ _) (hP.trans (congrArg pu_s5b (by rw [pu_s5a, if_pos ⟨c325, Or.inr ⟨c346, c359⟩⟩])))
  have j223 : ∀ (Q : List Int32) (fq : Nat → Int32) (o1 : Option Value), Q.length ≤ 255 → pr_W fq Q → pu_stem L = (pu_s5b (pu_s5a (pu_s4 Q))) → sv_V X 4 0 0 ((ad 0, .inr (7, [.ref (ad 7), .ref (ad 8), .ref (ad 9), .ref (ad 10), .ref (ad 1), .int inl, .int th, .ref (ad 2), .int cm, .ref (ad 3), .ref (ad 4), .ref (ad 5), .int km, .int kw, .ref (ad 6), .int (nI Q.length)])) :: (ad 6, .inl (g.2.1 0, 260, .inl fq)) :: rest) 223 [some (.ref (ad 0)), o1, none, none] [] := by
    intro Q fq o1 hQ hfQ hP
    refine sv_aload_n C rfl rfl d_M_stem_223 ?_
    refine sv_aload_n C rfl rfl d_M_stem_224 ?_
    refine sv_get C fg_M_187 0 rfl rfl d_M_stem_225 ?_
    refine sv_callVi C (c_M_longest l g rest ad inl th cm km kw fq Q hQ hfQ (ad 10) 19 tm_4 hT4 (by decide)) lk_M_296 List.mem_cons_self rfl d_M_stem_228 (by decide) (Nat.le_of_ble_eq_true rfl) (by decide) (fun r w hw => ?_)
    obtain ⟨rfl, rfl⟩ := hw
    rcases hlg : pu_lng Q (sv_EL (fun k => tm_4 (2 * k)) 19) 0 none with _ | q
    · skip
      refine sv_eqi (show pf_b none = -1 from rfl) ?_
      rw [tme_4] at hlg
      refine sv_istore_n C rfl (by decide) [some _, some _, none, none] rfl d_M_stem_231 ?_
      refine sv_iload_n C rfl rfl d_M_stem_232 ?_
      refine sv_ifZ_lt C 319 (by decide) d_M_stem_233 (fun c233 => ?_) (fun c233 => ?_)
      · skip
        exact j319 Q fq _ _ _ (hQ) (hfQ) (hP.trans (congrArg (fun z => pu_s5b (pu_s5a z)) (pu_s4_none hlg)))
      · skip
        exact absurd c233 (by decide)
    · skip
      refine sv_eqi (show pf_b (some q) = nI (2 * q.1) from rfl) ?_
      obtain ⟨hq1, hq2, hq3⟩ := pu_lng_ok hlg
      rw [tme_4] at hlg
      have ml := pu_meas_le Q (Q.length - (sv_txt (tm_4 (2 * q.1))).length)
      obtain ⟨fa, hA, hE⟩ := hT4
      have he0 := hE (2 * q.1) (by omega)
      have he1 := hE (2 * q.1 + 1) (by omega)
      have hl0 := sv_len he0.2
      refine sv_istore_n C rfl (by decide) [some _, some _, none, none] rfl d_M_stem_231 ?_
      refine sv_iload_n C rfl rfl d_M_stem_232 ?_
      refine sv_ifZ_lt C 319 (by decide) d_M_stem_233 (fun c233 => ?_) (fun c233 => ?_)
      · skip
        exact absurd c233 (by rw [nI_toInt (by omega)]; omega)
      · skip
        refine sv_aload_n C rfl rfl d_M_stem_236 ?_
        refine sv_get C fg_M_254 0 rfl rfl d_M_stem_237 ?_
        refine sv_aload_n C rfl rfl d_M_stem_240 ?_
        refine sv_get C fg_M_187 0 rfl rfl d_M_stem_241 ?_
        refine sv_iload_n C rfl rfl d_M_stem_244 ?_
        refine sv_aaldSN C _ (List.mem_cons_of_mem _ (List.mem_cons_of_mem _ hA)) (by omega) (by decide) d_M_stem_245 ?_
        refine sv_eqv (w := .ref (g.2.2.1 (tm_4 (2 * q.1)))) (by rw [he0.1]; rfl) ?_
        refine sv_callVsi C (tm_4 (2 * q.1)) he0.2 (c_Str_length l g _ (tm_4 (2 * q.1)) he0.2) lk_M_266 rfl d_M_stem_246 (by decide) (Nat.le_of_ble_eq_true rfl) (by decide) (fun r w hw => ?_)
        obtain ⟨rfl, rfl⟩ := hw
        refine sv_isubN C _ _ (by omega) d_M_stem_249 ?_
        refine sv_istore_n C rfl (by decide) [some _, some _, some _, none] rfl d_M_stem_250 ?_
        refine sv_aload_n C rfl rfl d_M_stem_251 ?_
        refine sv_get C fg_M_187 0 rfl rfl d_M_stem_252 ?_
        refine sv_iload_n C rfl rfl d_M_stem_255 ?_
        refine sv_aaldSN C _ (List.mem_cons_of_mem _ (List.mem_cons_of_mem _ hA)) (by omega) (by decide) d_M_stem_256 ?_
        refine sv_eqv (w := .ref (g.2.2.1 (tm_4 (2 * q.1)))) (by rw [he0.1]; rfl) ?_
        refine sv_ldcS C ws_156 d_M_stem_257 ?_
        refine sv_callVsi C (tm_4 (2 * q.1)) he0.2 (c_Str_equals l g _ (tm_4 (2 * q.1)) 156 he0.2 (by decide)) lk_M_307 rfl d_M_stem_259 (by decide) (Nat.le_of_ble_eq_true rfl) (by decide) (fun r w hw => ?_)
        obtain ⟨rfl, rfl⟩ := hw
        refine sv_ifB_eq C _ 295 (by decide) d_M_stem_262 (fun c262 => ?_) (fun c262 => ?_)
        · skip
          refine sv_iconst C (v := 1) (by decide) d_M_stem_295 ?_
          refine sv_goto C 300 (by decide) d_M_stem_296 ?_
          refine sv_istore_n C rfl (by decide) [some _, some _, some _, some _] rfl d_M_stem_300 ?_
          refine sv_iload_n C rfl rfl d_M_stem_301 ?_
          refine sv_ifZ_eq C 319 (by decide) d_M_stem_302 (fun c302 => ?_) (fun c302 => ?_)
          · skip
            exact absurd c302 (by decide)
          · skip
            refine sv_aload_n C rfl rfl d_M_stem_305 ?_
            refine sv_iload_n C rfl rfl d_M_stem_306 ?_
            refine sv_callVi C (c_M_measure l g rest ad inl th cm km kw fq Q hQ hfQ (Q.length - (sv_txt (tm_4 (2 * q.1))).length) (by omega)) lk_M_300 List.mem_cons_self rfl d_M_stem_307 (by decide) (Nat.le_of_ble_eq_true rfl) (by decide) (fun r w hw => ?_)
            obtain ⟨rfl, rfl⟩ := hw
            refine sv_iconst C (v := 1) (by decide) d_M_stem_310 ?_
            refine sv_icmpN_le C _ 1 (by omega) (by omega) 319 (by decide) d_M_stem_311 (fun c311 => ?_) (fun c311 => ?_)
            · skip
              exact j319 Q fq _ _ _ (hQ) (hfQ) (hP.trans (congrArg (fun z => pu_s5b (pu_s5a z)) ((pu_s4_some hlg).trans (by rw [hq2]; exact if_neg (fun z => absurd z.2 (by omega))))))
            · skip
              refine sv_aload_n C rfl rfl d_M_stem_314 ?_
              refine sv_iload_n C rfl rfl d_M_stem_315 ?_
              refine sv_put C fp_M_254 0 rfl rfl rfl (Nat.le_of_ble_eq_true rfl) ((_, .inr (_, [_, _, _, _, _, _, _, _, _, _, _, _, _, _, _, _])) :: _ :: _) rfl d_M_stem_316 ?_
              refine sv_wsE (ws' := ((ad 0, .inr (7, [.ref (ad 7), .ref (ad 8), .ref (ad 9), .ref (ad 10), .ref (ad 1), .int inl, .int th, .ref (ad 2), .int cm, .ref (ad 3), .ref (ad 4), .ref (ad 5), .int km, .int kw, .ref (ad 6), .int (nI (Q.take (Q.length - (sv_txt (tm_4 (2 * q.1))).length)).length)])) :: (ad 6, .inl (g.2.1 0, 260, .inl fq)) :: rest)) (by rw [← pu_tlen (by omega)]) ?_
              exact j319 (Q.take (Q.length - (sv_txt (tm_4 (2 * q.1))).length)) fq _ _ _ (by rw [List.length_take]; omega) (pr_take hfQ _) (hP.trans (congrArg (fun z => pu_s5b (pu_s5a z)) ((pu_s4_some hlg).trans (by rw [hq2]; exact if_pos ⟨fun z => absurd z (by rw [← ltm_ion]; exact c262), by omega⟩))))
        · skip
          refine sv_iload_n C rfl rfl d_M_stem_265 ?_
          refine sv_ifN_le C _ (by omega) 299 (by decide) d_M_stem_266 (fun c266 => ?_) (fun c266 => ?_)
          · skip
            refine sv_iconst C (v := 0) (by decide) d_M_stem_299 ?_
            refine sv_istore_n C rfl (by decide) [some _, some _, some _, some _] rfl d_M_stem_300 ?_
            refine sv_iload_n C rfl rfl d_M_stem_301 ?_
            refine sv_ifZ_eq C 319 (by decide) d_M_stem_302 (fun c302 => ?_) (fun c302 => ?_)
            · skip
              exact j319 Q fq _ _ _ (hQ) (hfQ) (hP.trans (congrArg (fun z => pu_s5b (pu_s5a z)) ((pu_s4_some hlg).trans (by rw [hq2]; exact if_neg (fun z => absurd (z.1 (by rw [← ltm_ion]; exact c262)).1 (by omega))))))
            · skip
              exact absurd c302 (by decide)
          · skip
            refine sv_aload_n C rfl rfl d_M_stem_269 ?_
            refine sv_get C fg_M_207 0 rfl rfl d_M_stem_270 ?_
            refine sv_iload_n C rfl rfl d_M_stem_273 ?_
            refine sv_iconst C (v := 1) (by decide) d_M_stem_274 ?_
            refine sv_isubN C _ 1 (by omega) d_M_stem_275 ?_
            refine sv_ialdN C _ 1 rfl (by omega) (by decide) d_M_stem_276 ?_
            refine sv_eqi (hfQ _ (by omega)) ?_
            refine sv_bipush C (v := 115) (by decide) d_M_stem_277 ?_
            refine sv_icmp_eq C 295 (by decide) d_M_stem_279 (fun c279 => ?_) (fun c279 => ?_)
            · skip
              refine sv_iconst C (v := 1) (by decide) d_M_stem_295 ?_
              refine sv_goto C 300 (by decide) d_M_stem_296 ?_
              refine sv_istore_n C rfl (by decide) [some _, some _, some _, some _] rfl d_M_stem_300 ?_
              refine sv_iload_n C rfl rfl d_M_stem_301 ?_
              refine sv_ifZ_eq C 319 (by decide) d_M_stem_302 (fun c302 => ?_) (fun c302 => ?_)
              · skip
                exact absurd c302 (by decide)
              · skip
                refine sv_aload_n C rfl rfl d_M_stem_305 ?_
                refine sv_iload_n C rfl rfl d_M_stem_306 ?_
                refine sv_callVi C (c_M_measure l g rest ad inl th cm km kw fq Q hQ hfQ (Q.length - (sv_txt (tm_4 (2 * q.1))).length) (by omega)) lk_M_300 List.mem_cons_self rfl d_M_stem_307 (by decide) (Nat.le_of_ble_eq_true rfl) (by decide) (fun r w hw => ?_)
                obtain ⟨rfl, rfl⟩ := hw
                refine sv_iconst C (v := 1) (by decide) d_M_stem_310 ?_
                refine sv_icmpN_le C _ 1 (by omega) (by omega) 319 (by decide) d_M_stem_311 (fun c311 => ?_) (fun c311 => ?_)
                · skip
                  exact j319 Q fq _ _ _ (hQ) (hfQ) (hP.trans (congrArg (fun z => pu_s5b (pu_s5a z)) ((pu_s4_some hlg).trans (by rw [hq2]; exact if_neg (fun z => absurd z.2 (by omega))))))
                · skip
                  refine sv_aload_n C rfl rfl d_M_stem_314 ?_
                  refine sv_iload_n C rfl rfl d_M_stem_315 ?_
                  refine sv_put C fp_M_254 0 rfl rfl rfl (Nat.le_of_ble_eq_true rfl) ((_, .inr (_, [_, _, _, _, _, _, _, _, _, _, _, _, _, _, _, _])) :: _ :: _) rfl d_M_stem_316 ?_
                  refine sv_wsE (ws' := ((ad 0, .inr (7, [.ref (ad 7), .ref (ad 8), .ref (ad 9), .ref (ad 10), .ref (ad 1), .int inl, .int th, .ref (ad 2), .int cm, .ref (ad 3), .ref (ad 4), .ref (ad 5), .int km, .int kw, .ref (ad 6), .int (nI (Q.take (Q.length - (sv_txt (tm_4 (2 * q.1))).length)).length)])) :: (ad 6, .inl (g.2.1 0, 260, .inl fq)) :: rest)) (by rw [← pu_tlen (by omega)]) ?_
                  exact j319 (Q.take (Q.length - (sv_txt (tm_4 (2 * q.1))).length)) fq _ _ _ (by rw [List.length_take]; omega) (pr_take hfQ _) (hP.trans (congrArg (fun z => pu_s5b (pu_s5a z)) ((pu_s4_some hlg).trans (by rw [hq2]; exact if_pos ⟨fun _ => ⟨by omega, Or.inl c279⟩, by omega⟩))))
            · skip
              refine sv_aload_n C rfl rfl d_M_stem_282 ?_
              refine sv_get C fg_M_207 0 rfl rfl d_M_stem_283 ?_
              refine sv_iload_n C rfl rfl d_M_stem_286 ?_
              refine sv_iconst C (v := 1) (by decide) d_M_stem_287 ?_
              refine sv_isubN C _ 1 (by omega) d_M_stem_288 ?_
              refine sv_ialdN C _ 1 rfl (by omega) (by decide) d_M_stem_289 ?_
              refine sv_eqi (hfQ _ (by omega)) ?_
              refine sv_bipush C (v := 116) (by decide) d_M_stem_290 ?_
              refine sv_icmp_ne C 299 (by decide) d_M_stem_292 (fun c292 => ?_) (fun c292 => ?_)
              · skip
                refine sv_iconst C (v := 0) (by decide) d_M_stem_299 ?_
                refine sv_istore_n C rfl (by decide) [some _, some _, some _, some _] rfl d_M_stem_300 ?_
                refine sv_iload_n C rfl rfl d_M_stem_301 ?_
                refine sv_ifZ_eq C 319 (by decide) d_M_stem_302 (fun c302 => ?_) (fun c302 => ?_)
                · skip
                  exact j319 Q fq _ _ _ (hQ) (hfQ) (hP.trans (congrArg (fun z => pu_s5b (pu_s5a z)) ((pu_s4_some hlg).trans (by rw [hq2]; exact if_neg (fun z => (z.1 (by rw [← ltm_ion]; exact c262)).2.elim c279 c292)))))
                · skip
                  exact absurd c302 (by decide)
              · skip
                refine sv_iconst C (v := 1) (by decide) d_M_stem_295 ?_
                refine sv_goto C 300 (by decide) d_M_stem_296 ?_
                refine sv_istore_n C rfl (by decide) [some _, some _, some _, some _] rfl d_M_stem_300 ?_
                refine sv_iload_n C rfl rfl d_M_stem_301 ?_
                refine sv_ifZ_eq C 319 (by decide) d_M_stem_302 (fun c302 => ?_) (fun c302 => ?_)
                · skip
                  exact absurd c302 (by decide)
                · skip
                  refine sv_aload_n C rfl rfl d_M_stem_305 ?_
                  refine sv_iload_n C rfl rfl d_M_stem_306 ?_
                  refine sv_callVi C (c_M_measure l g rest ad inl th cm km kw fq Q hQ hfQ (Q.length - (sv_txt (tm_4 (2 * q.1))).length) (by omega)) lk_M_300 List.mem_cons_self rfl d_M_stem_307 (by decide) (Nat.le_of_ble_eq_true rfl) (by decide) (fun r w hw => ?_)
                  obtain ⟨rfl, rfl⟩ := hw
                  refine sv_iconst C (v := 1) (by decide) d_M_stem_310 ?_
                  refine sv_icmpN_le C _ 1 (by omega) (by omega) 319 (by decide) d_M_stem_311 (fun c311 => ?_) (fun c311 => ?_)
                  · skip
                    exact j319 Q fq _ _ _ (hQ) (hfQ) (hP.trans (congrArg (fun z => pu_s5b (pu_s5a z)) ((pu_s4_some hlg).trans (by rw [hq2]; exact if_neg (fun z => absurd z.2 (by omega))))))
                  · skip
                    refine sv_aload_n C rfl rfl d_M_stem_314 ?_
                    refine sv_iload_n C rfl rfl d_M_stem_315 ?_
                    refine sv_put C fp_M_254 0 rfl rfl rfl (Nat.le_of_ble_eq_true rfl) ((_, .inr (_, [_, _, _, _, _, _, _, _, _, _, _, _, _, _, _, _])) :: _ :: _) rfl d_M_stem_316 ?_
                    refine sv_wsE (ws' := ((ad 0, .inr (7, [.ref (ad 7), .ref (ad 8), .ref (ad 9), .ref (ad 10), .ref (ad 1), .int inl, .int th, .ref (ad 2), .int cm, .ref (ad 3), .ref (ad 4), .ref (ad 5), .int km, .int kw, .ref (ad 6), .int (nI (Q.take (Q.length - (sv_txt (tm_4 (2 * q.1))).length)).length)])) :: (ad 6, .inl (g.2.1 0, 260, .inl fq)) :: rest)) (by rw [← pu_tlen (by omega)]) ?_
                    exact j319 (Q.take (Q.length - (sv_txt (tm_4 (2 * q.1))).length)) fq _ _ _ (by rw [List.length_take]; omega) (pr_take hfQ _) (hP.trans (congrArg (fun z => pu_s5b (pu_s5a z)) ((pu_s4_some hlg).trans (by rw [hq2]; exact if_pos ⟨fun _ => ⟨by omega, Or.inr c292⟩, by omega⟩))))
  have j163 : ∀ (Q : List Int32) (fq : Nat → Int32) (o1 : Option Value), Q.length ≤ 255 → pr_W fq Q → pu_stem L = (pu_s5b (pu_s5a (pu_s4 (pu_rep pu_E3 pu_S3 Q)))) → sv_V X 4 0 0 ((ad 0, .inr (7, [.ref (ad 7), .ref (ad 8), .ref (ad 9), .ref (ad 10), .ref (ad 1), .int inl, .int th, .ref (ad 2), .int cm, .ref (ad 3), .ref (ad 4), .ref (ad 5), .int km, .int kw, .ref (ad 6), .int (nI Q.length)])) :: (ad 6, .inl (g.2.1 0, 260, .inl fq)) :: rest) 163 [some (.ref (ad 0)), o1, none, none] [] := by
    intro Q fq o1 hQ hfQ hP
    refine sv_aload_n C rfl rfl d_M_stem_163 ?_
    refine sv_aload_n C rfl rfl d_M_stem_164 ?_
    refine sv_get C fg_M_166 0 rfl rfl d_M_stem_165 ?_
    refine sv_callVi C (c_M_longest l g rest ad inl th cm km kw fq Q hQ hfQ (ad 9) 7 tm_3 hT3 (by decide)) lk_M_296 List.mem_cons_self rfl d_M_stem_168 (by decide) (Nat.le_of_ble_eq_true rfl) (by decide) (fun r w hw => ?_)
    obtain ⟨rfl, rfl⟩ := hw
    rcases hlg : pu_lng Q (sv_EL (fun k => tm_3 (2 * k)) 7) 0 none with _ | q
    · skip
      refine sv_eqi (show pf_b none = -1 from rfl) ?_
      rw [tme_3] at hlg
      refine sv_istore_n C rfl (by decide) [some _, some _, none, none] rfl d_M_stem_171 ?_
      refine sv_iload_n C rfl rfl d_M_stem_172 ?_
      refine sv_ifZ_lt C 223 (by decide) d_M_stem_173 (fun c173 => ?_) (fun c173 => ?_)
      · skip
        exact j223 Q fq _ (hQ) (hfQ) (hP.trans (congrArg (fun z => pu_s5b (pu_s5a (pu_s4 z))) (pu_rep_none hlg)))
      · skip
        exact absurd c173 (by decide)
    · skip
      refine sv_eqi (show pf_b (some q) = nI (2 * q.1) from rfl) ?_
      obtain ⟨hq1, hq2, hq3⟩ := pu_lng_ok hlg
      rw [tme_3] at hlg
      have ml := pu_meas_le Q (Q.length - (sv_txt (tm_3 (2 * q.1))).length)
      obtain ⟨fa, hA, hE⟩ := hT3
      have he0 := hE (2 * q.1) (by omega)
      have he1 := hE (2 * q.1 + 1) (by omega)
      have hl0 := sv_len he0.2
      have htl := tml_3 q.1 hq1
      refine sv_istore_n C rfl (by decide) [some _, some _, none, none] rfl d_M_stem_171 ?_
      refine sv_iload_n C rfl rfl d_M_stem_172 ?_
      refine sv_ifZ_lt C 223 (by decide) d_M_stem_173 (fun c173 => ?_) (fun c173 => ?_)
      · skip
        exact absurd c173 (by rw [nI_toInt (by omega)]; omega)
      · skip
        refine sv_aload_n C rfl rfl d_M_stem_176 ?_
        refine sv_aload_n C rfl rfl d_M_stem_177 ?_
        refine sv_get C fg_M_254 0 rfl rfl d_M_stem_178 ?_
        refine sv_aload_n C rfl rfl d_M_stem_181 ?_
        refine sv_get C fg_M_166 0 rfl rfl d_M_stem_182 ?_
        refine sv_iload_n C rfl rfl d_M_stem_185 ?_
        refine sv_aaldSN C _ (List.mem_cons_of_mem _ (List.mem_cons_of_mem _ hA)) (by omega) (by decide) d_M_stem_186 ?_
        refine sv_eqv (w := .ref (g.2.2.1 (tm_3 (2 * q.1)))) (by rw [he0.1]; rfl) ?_
        refine sv_callVsi C (tm_3 (2 * q.1)) he0.2 (c_Str_length l g _ (tm_3 (2 * q.1)) he0.2) lk_M_266 rfl d_M_stem_187 (by decide) (Nat.le_of_ble_eq_true rfl) (by decide) (fun r w hw => ?_)
        obtain ⟨rfl, rfl⟩ := hw
        refine sv_isubN C _ _ (by omega) d_M_stem_190 ?_
        refine sv_callVi C (c_M_measure l g rest ad inl th cm km kw fq Q hQ hfQ (Q.length - (sv_txt (tm_3 (2 * q.1))).length) (by omega)) lk_M_300 List.mem_cons_self rfl d_M_stem_191 (by decide) (Nat.le_of_ble_eq_true rfl) (by decide) (fun r w hw => ?_)
        obtain ⟨rfl, rfl⟩ := hw
        refine sv_ifN_le C _ (by omega) 223 (by decide) d_M_stem_194 (fun c194 => ?_) (fun c194 => ?_)
        · skip
          exact j223 Q fq _ (hQ) (hfQ) (hP.trans (congrArg (fun z => pu_s5b (pu_s5a (pu_s4 z))) ((pu_rep_some hlg).trans (by rw [hq2]; exact if_neg (by omega)))))
        · skip
          refine sv_aload_n C rfl rfl d_M_stem_197 ?_
          refine sv_aload_n C rfl rfl d_M_stem_198 ?_
          refine sv_get C fg_M_254 0 rfl rfl d_M_stem_199 ?_
          refine sv_aload_n C rfl rfl d_M_stem_202 ?_
          refine sv_get C fg_M_166 0 rfl rfl d_M_stem_203 ?_
          refine sv_iload_n C rfl rfl d_M_stem_206 ?_
          refine sv_aaldSN C _ (List.mem_cons_of_mem _ (List.mem_cons_of_mem _ hA)) (by omega) (by decide) d_M_stem_207 ?_
          refine sv_eqv (w := .ref (g.2.2.1 (tm_3 (2 * q.1)))) (by rw [he0.1]; rfl) ?_
          refine sv_callVsi C (tm_3 (2 * q.1)) he0.2 (c_Str_length l g _ (tm_3 (2 * q.1)) he0.2) lk_M_266 rfl d_M_stem_208 (by decide) (Nat.le_of_ble_eq_true rfl) (by decide) (fun r w hw => ?_)
          obtain ⟨rfl, rfl⟩ := hw
          refine sv_isubN C _ _ (by omega) d_M_stem_211 ?_
          refine sv_aload_n C rfl rfl d_M_stem_212 ?_
          refine sv_get C fg_M_166 0 rfl rfl d_M_stem_213 ?_
          refine sv_iload_n C rfl rfl d_M_stem_216 ?_
          refine sv_iconst C (v := 1) (by decide) d_M_stem_217 ?_
          refine sv_iaddN C _ 1  d_M_stem_218 ?_
          refine sv_aaldSN C _ (List.mem_cons_of_mem _ (List.mem_cons_of_mem _ hA)) (by omega) (by decide) d_M_stem_219 ?_
          refine sv_eqv (w := .ref (g.2.2.1 (tm_3 (2 * q.1 + 1)))) (by rw [he1.1]; rfl) ?_
          refine sv_callVv C (c_M_instead l g rest ad inl th cm km kw fq Q hQ hfQ (Q.length - (sv_txt (tm_3 (2 * q.1))).length) (tm_3 (2 * q.1 + 1)) (by omega) he1.2 (by omega)) lk_M_303 List.mem_cons_self rfl d_M_stem_220 (by decide) (Nat.le_of_ble_eq_true rfl) (by decide) (fun w hw => ?_)
          obtain ⟨f9, rfl, hf9⟩ := hw
          exact j223 ((Q.take (Q.length - (sv_txt (tm_3 (2 * q.1))).length)) ++ sv_txt (tm_3 (2 * q.1 + 1))) f9 _ (by rw [List.length_append, List.length_take]; omega) (hf9) (hP.trans (congrArg (fun z => pu_s5b (pu_s5a (pu_s4 z))) ((pu_rep_some hlg).trans (by rw [hq2, ← tms_3 q.1 hq1]; exact if_pos (by omega)))))
  have j103 : ∀ (Q : List Int32) (fq : Nat → Int32), Q.length ≤ 255 → pr_W fq Q → pu_stem L = (pu_s5b (pu_s5a (pu_s4 (pu_rep pu_E3 pu_S3 (pu_rep pu_E2 pu_S2 Q))))) → sv_V X 4 0 0 ((ad 0, .inr (7, [.ref (ad 7), .ref (ad 8), .ref (ad 9), .ref (ad 10), .ref (ad 1), .int inl, .int th, .ref (ad 2), .int cm, .ref (ad 3), .ref (ad 4), .ref (ad 5), .int km, .int kw, .ref (ad 6), .int (nI Q.length)])) :: (ad 6, .inl (g.2.1 0, 260, .inl fq)) :: rest) 103 [some (.ref (ad 0)), none, none, none] [] := by
    intro Q fq  hQ hfQ hP
    refine sv_aload_n C rfl rfl d_M_stem_103 ?_
    refine sv_aload_n C rfl rfl d_M_stem_104 ?_
    refine sv_get C fg_M_147 0 rfl rfl d_M_stem_105 ?_
    refine sv_callVi C (c_M_longest l g rest ad inl th cm km kw fq Q hQ hfQ (ad 8) 20 tm_2 hT2 (by decide)) lk_M_296 List.mem_cons_self rfl d_M_stem_108 (by decide) (Nat.le_of_ble_eq_true rfl) (by decide) (fun r w hw => ?_)
    obtain ⟨rfl, rfl⟩ := hw
    rcases hlg : pu_lng Q (sv_EL (fun k => tm_2 (2 * k)) 20) 0 none with _ | q
    · skip
      refine sv_eqi (show pf_b none = -1 from rfl) ?_
      rw [tme_2] at hlg
      refine sv_istore_n C rfl (by decide) [some _, some _, none, none] rfl d_M_stem_111 ?_
      refine sv_iload_n C rfl rfl d_M_stem_112 ?_
      refine sv_ifZ_lt C 163 (by decide) d_M_stem_113 (fun c113 => ?_) (fun c113 => ?_)
      · skip
        exact j163 Q fq _ (hQ) (hfQ) (hP.trans (congrArg (fun z => pu_s5b (pu_s5a (pu_s4 (pu_rep pu_E3 pu_S3 z)))) (pu_rep_none hlg)))
      · skip
        exact absurd c113 (by decide)
    · skip
      refine sv_eqi (show pf_b (some q) = nI (2 * q.1) from rfl) ?_
      obtain ⟨hq1, hq2, hq3⟩ := pu_lng_ok hlg
      rw [tme_2] at hlg
      have ml := pu_meas_le Q (Q.length - (sv_txt (tm_2 (2 * q.1))).length)
      obtain ⟨fa, hA, hE⟩ := hT2
      have he0 := hE (2 * q.1) (by omega)
      have he1 := hE (2 * q.1 + 1) (by omega)
      have hl0 := sv_len he0.2
      have htl := tml_2 q.1 hq1
      refine sv_istore_n C rfl (by decide) [some _, some _, none, none] rfl d_M_stem_111 ?_
      refine sv_iload_n C rfl rfl d_M_stem_112 ?_
      refine sv_ifZ_lt C 163 (by decide) d_M_stem_113 (fun c113 => ?_) (fun c113 => ?_)
      · skip
        exact absurd c113 (by rw [nI_toInt (by omega)]; omega)
      · skip
        refine sv_aload_n C rfl rfl d_M_stem_116 ?_
        refine sv_aload_n C rfl rfl d_M_stem_117 ?_
        refine sv_get C fg_M_254 0 rfl rfl d_M_stem_118 ?_
        refine sv_aload_n C rfl rfl d_M_stem_121 ?_
        refine sv_get C fg_M_147 0 rfl rfl d_M_stem_122 ?_
        refine sv_iload_n C rfl rfl d_M_stem_125 ?_
        refine sv_aaldSN C _ (List.mem_cons_of_mem _ (List.mem_cons_of_mem _ hA)) (by omega) (by decide) d_M_stem_126 ?_
        refine sv_eqv (w := .ref (g.2.2.1 (tm_2 (2 * q.1)))) (by rw [he0.1]; rfl) ?_
        refine sv_callVsi C (tm_2 (2 * q.1)) he0.2 (c_Str_length l g _ (tm_2 (2 * q.1)) he0.2) lk_M_266 rfl d_M_stem_127 (by decide) (Nat.le_of_ble_eq_true rfl) (by decide) (fun r w hw => ?_)
        obtain ⟨rfl, rfl⟩ := hw
        refine sv_isubN C _ _ (by omega) d_M_stem_130 ?_
        refine sv_callVi C (c_M_measure l g rest ad inl th cm km kw fq Q hQ hfQ (Q.length - (sv_txt (tm_2 (2 * q.1))).length) (by omega)) lk_M_300 List.mem_cons_self rfl d_M_stem_131 (by decide) (Nat.le_of_ble_eq_true rfl) (by decide) (fun r w hw => ?_)
        obtain ⟨rfl, rfl⟩ := hw
        refine sv_ifN_le C _ (by omega) 163 (by decide) d_M_stem_134 (fun c134 => ?_) (fun c134 => ?_)
        · skip
          exact j163 Q fq _ (hQ) (hfQ) (hP.trans (congrArg (fun z => pu_s5b (pu_s5a (pu_s4 (pu_rep pu_E3 pu_S3 z)))) ((pu_rep_some hlg).trans (by rw [hq2]; exact if_neg (by omega)))))
        · skip
          refine sv_aload_n C rfl rfl d_M_stem_137 ?_
          refine sv_aload_n C rfl rfl d_M_stem_138 ?_
          refine sv_get C fg_M_254 0 rfl rfl d_M_stem_139 ?_
          refine sv_aload_n C rfl rfl d_M_stem_142 ?_
          refine sv_get C fg_M_147 0 rfl rfl d_M_stem_143 ?_
          refine sv_iload_n C rfl rfl d_M_stem_146 ?_
          refine sv_aaldSN C _ (List.mem_cons_of_mem _ (List.mem_cons_of_mem _ hA)) (by omega) (by decide) d_M_stem_147 ?_
          refine sv_eqv (w := .ref (g.2.2.1 (tm_2 (2 * q.1)))) (by rw [he0.1]; rfl) ?_
          refine sv_callVsi C (tm_2 (2 * q.1)) he0.2 (c_Str_length l g _ (tm_2 (2 * q.1)) he0.2) lk_M_266 rfl d_M_stem_148 (by decide) (Nat.le_of_ble_eq_true rfl) (by decide) (fun r w hw => ?_)
          obtain ⟨rfl, rfl⟩ := hw
          refine sv_isubN C _ _ (by omega) d_M_stem_151 ?_
          refine sv_aload_n C rfl rfl d_M_stem_152 ?_
          refine sv_get C fg_M_147 0 rfl rfl d_M_stem_153 ?_
          refine sv_iload_n C rfl rfl d_M_stem_156 ?_
          refine sv_iconst C (v := 1) (by decide) d_M_stem_157 ?_
          refine sv_iaddN C _ 1  d_M_stem_158 ?_
          refine sv_aaldSN C _ (List.mem_cons_of_mem _ (List.mem_cons_of_mem _ hA)) (by omega) (by decide) d_M_stem_159 ?_
          refine sv_eqv (w := .ref (g.2.2.1 (tm_2 (2 * q.1 + 1)))) (by rw [he1.1]; rfl) ?_
          refine sv_callVv C (c_M_instead l g rest ad inl th cm km kw fq Q hQ hfQ (Q.length - (sv_txt (tm_2 (2 * q.1))).length) (tm_2 (2 * q.1 + 1)) (by omega) he1.2 (by omega)) lk_M_303 List.mem_cons_self rfl d_M_stem_160 (by decide) (Nat.le_of_ble_eq_true rfl) (by decide) (fun w hw => ?_)
          obtain ⟨f9, rfl, hf9⟩ := hw
          exact j163 ((Q.take (Q.length - (sv_txt (tm_2 (2 * q.1))).length)) ++ sv_txt (tm_2 (2 * q.1 + 1))) f9 _ (by rw [List.length_append, List.length_take]; omega) (hf9) (hP.trans (congrArg (fun z => pu_s5b (pu_s5a (pu_s4 (pu_rep pu_E3 pu_S3 z)))) ((pu_rep_some hlg).trans (by rw [hq2, ← tms_2 q.1 hq1]; exact if_pos (by omega)))))
  have j67 : ∀ (Q : List Int32) (fq : Nat → Int32), Q.length ≤ 255 → pr_W fq Q → pu_stem L = (pu_s5b (pu_s5a (pu_s4 (pu_rep pu_E3 pu_S3 (pu_rep pu_E2 pu_S2 (pu_s1c Q)))))) → sv_V X 4 0 0 ((ad 0, .inr (7, [.ref (ad 7), .ref (ad 8), .ref (ad 9), .ref (ad 10), .ref (ad 1), .int inl, .int th, .ref (ad 2), .int cm, .ref (ad 3), .ref (ad 4), .ref (ad 5), .int km, .int kw, .ref (ad 6), .int (nI Q.length)])) :: (ad 6, .inl (g.2.1 0, 260, .inl fq)) :: rest) 67 [some (.ref (ad 0)), none, none, none] [] := by
    intro Q fq  hQ hfQ hP
    refine sv_aload_n C rfl rfl d_M_stem_67 ?_
    refine sv_ldcSw C ws_166 d_M_stem_68 ?_
    refine sv_callVi C (c_M_ends l g rest ad inl th cm km kw fq Q hQ hfQ 166 (by decide)) lk_M_270 List.mem_cons_self rfl d_M_stem_71 (by decide) (Nat.le_of_ble_eq_true rfl) (by decide) (fun r w hw => ?_)
    obtain ⟨rfl, rfl⟩ := hw
    refine sv_ifB_eq C _ 103 (by decide) d_M_stem_74 (fun c74 => ?_) (fun c74 => ?_)
    · skip
      rw [ltm_y] at c74
      exact j103 Q fq  (hQ) (hfQ) (hP.trans (congrArg (fun z => pu_s5b (pu_s5a (pu_s4 (pu_rep pu_E3 pu_S3 (pu_rep pu_E2 pu_S2 z))))) (by rw [pu_s1c, if_neg (fun z => c74 z.1)])))
    · skip
      rw [ltm_y] at c74
      have hq1 : 1 ≤ Q.length := c74.1
      refine sv_aload_n C rfl rfl d_M_stem_77 ?_
      refine sv_aload_n C rfl rfl d_M_stem_78 ?_
      refine sv_get C fg_M_254 0 rfl rfl d_M_stem_79 ?_
      refine sv_iconst C (v := 1) (by decide) d_M_stem_82 ?_
      refine sv_isubN C _ 1 (by omega) d_M_stem_83 ?_
      refine sv_callVi C (c_M_anyVowel l g rest ad inl th cm km kw fq Q hQ hfQ (Q.length - 1) (by omega)) lk_M_293 List.mem_cons_self rfl d_M_stem_84 (by decide) (Nat.le_of_ble_eq_true rfl) (by decide) (fun r w hw => ?_)
      obtain ⟨rfl, rfl⟩ := hw
      refine sv_ifB_eq C _ 103 (by decide) d_M_stem_87 (fun c87 => ?_) (fun c87 => ?_)
      · skip
        exact j103 Q fq  (hQ) (hfQ) (hP.trans (congrArg (fun z => pu_s5b (pu_s5a (pu_s4 (pu_rep pu_E3 pu_S3 (pu_rep pu_E2 pu_S2 z))))) (by rw [pu_s1c, if_neg (fun z => c87 z.2)])))
      · skip
        refine sv_aload_n C rfl rfl d_M_stem_90 ?_
        refine sv_get C fg_M_207 0 rfl rfl d_M_stem_91 ?_
        refine sv_aload_n C rfl rfl d_M_stem_94 ?_
        refine sv_get C fg_M_254 0 rfl rfl d_M_stem_95 ?_
        refine sv_iconst C (v := 1) (by decide) d_M_stem_98 ?_
        refine sv_isubN C _ 1 (by omega) d_M_stem_99 ?_
        refine sv_bipush C (v := 105) (by decide) d_M_stem_100 ?_
        refine sv_iastN C _ 1 rfl (by omega) (by decide) (_ :: _ :: _) rfl d_M_stem_102 ?_
        refine sv_wsE (ws' := ((ad 0, .inr (7, [.ref (ad 7), .ref (ad 8), .ref (ad 9), .ref (ad 10), .ref (ad 1), .int inl, .int th, .ref (ad 2), .int cm, .ref (ad 3), .ref (ad 4), .ref (ad 5), .int km, .int kw, .ref (ad 6), .int (nI ((Q.take (Q.length - 1)) ++ [105]).length)])) :: (ad 6, .inl (g.2.1 0, 260, .inl (upd fq (Q.length - 1) 105))) :: rest)) (by rw [← pu_tlen2 hq1]) ?_
        exact j103 ((Q.take (Q.length - 1)) ++ [105]) _  (by rw [List.length_append, List.length_take, List.length_singleton]; omega) (pr_snoc (by rw [List.length_take]; omega) (pr_take hfQ _)) (hP.trans (congrArg (fun z => pu_s5b (pu_s5a (pu_s4 (pu_rep pu_E3 pu_S3 (pu_rep pu_E2 pu_S2 z))))) (by rw [pu_s1c, if_pos ⟨c74, c87⟩])))
  have j63 : ∀ (Q : List Int32) (fq : Nat → Int32), Q.length ≤ 255 → pr_W fq Q → pu_stem L = (pu_s5b (pu_s5a (pu_s4 (pu_rep pu_E3 pu_S3 (pu_rep pu_E2 pu_S2 (pu_s1c (pu_s1b Q))))))) → sv_V X 4 0 0 ((ad 0, .inr (7, [.ref (ad 7), .ref (ad 8), .ref (ad 9), .ref (ad 10), .ref (ad 1), .int inl, .int th, .ref (ad 2), .int cm, .ref (ad 3), .ref (ad 4), .ref (ad 5), .int km, .int kw, .ref (ad 6), .int (nI Q.length)])) :: (ad 6, .inl (g.2.1 0, 260, .inl fq)) :: rest) 63 [some (.ref (ad 0)), none, none, none] [] := by
    intro Q fq  hQ hfQ hP
    refine sv_aload_n C rfl rfl d_M_stem_63 ?_
    refine sv_callVv C (c_M_stemOneB l g rest ad inl th cm km kw fq Q hQ hfQ) lk_M_288 List.mem_cons_self rfl d_M_stem_64 (by decide) (Nat.le_of_ble_eq_true rfl) (by decide) (fun w hw => ?_)
    obtain ⟨f9, rfl, hf9⟩ := hw
    have hl9 := pu_len_s1b Q
    exact j67 (pu_s1b Q) f9 (by omega) hf9 hP
  refine sv_aload_n C rfl rfl d_M_stem_0 ?_
  refine sv_ldcSw C ws_157 d_M_stem_1 ?_
  refine sv_callVi C (c_M_ends l g rest ad inl th cm km kw f L hL hf 157 (by decide)) lk_M_270 List.mem_cons_self rfl d_M_stem_4 (by decide) (Nat.le_of_ble_eq_true rfl) (by decide) (fun r w hw => ?_)
  obtain ⟨rfl, rfl⟩ := hw
  refine sv_ifB_ne C _ 20 (by decide) d_M_stem_7 (fun c7 => ?_) (fun c7 => ?_)
  · skip
    rw [ltm_sses] at c7
    refine sv_aload_n C rfl rfl d_M_stem_20 ?_
    refine sv_dup C rfl d_M_stem_21 ?_
    refine sv_get C fg_M_254 0 rfl rfl d_M_stem_22 ?_
    refine sv_iconst C (v := 2) (by decide) d_M_stem_25 ?_
    refine sv_isubN C _ 2 (by omega) d_M_stem_26 ?_
    refine sv_put C fp_M_254 0 rfl rfl rfl (Nat.le_of_ble_eq_true rfl) ((_, .inr (_, [_, _, _, _, _, _, _, _, _, _, _, _, _, _, _, _])) :: _ :: _) rfl d_M_stem_27 ?_
    refine sv_goto C 63 (by decide) d_M_stem_30 ?_
    refine sv_wsE (ws' := ((ad 0, .inr (7, [.ref (ad 7), .ref (ad 8), .ref (ad 9), .ref (ad 10), .ref (ad 1), .int inl, .int th, .ref (ad 2), .int cm, .ref (ad 3), .ref (ad 4), .ref (ad 5), .int km, .int kw, .ref (ad 6), .int (nI (L.take (L.length - 2)).length)])) :: (ad 6, .inl (g.2.1 0, 260, .inl f)) :: rest)) (by rw [← pu_tlen (by omega)]) ?_
    exact j63 (L.take (L.length - 2)) f  (by rw [List.length_take]; omega) (pr_take hf _) (congrArg (fun z => pu_s5b (pu_s5a (pu_s4 (pu_rep pu_E3 pu_S3 (pu_rep pu_E2 pu_S2 (pu_s1c (pu_s1b z))))))) (by rw [pu_s1a, if_pos (Or.inl c7)]))
  · skip
    rw [ltm_sses] at c7
    refine sv_aload_n C rfl rfl d_M_stem_10 ?_
    refine sv_ldcSw C ws_158 d_M_stem_11 ?_
    refine sv_callVi C (c_M_ends l g rest ad inl th cm km kw f L hL hf 158 (by decide)) lk_M_270 List.mem_cons_self rfl d_M_stem_14 (by decide) (Nat.le_of_ble_eq_true rfl) (by decide) (fun r w hw => ?_)
    obtain ⟨rfl, rfl⟩ := hw
    refine sv_ifB_eq C _ 33 (by decide) d_M_stem_17 (fun c17 => ?_) (fun c17 => ?_)
    · skip
      rw [ltm_ies] at c17
      refine sv_aload_n C rfl rfl d_M_stem_33 ?_
      refine sv_ldcSw C ws_159 d_M_stem_34 ?_
      refine sv_callVi C (c_M_ends l g rest ad inl th cm km kw f L hL hf 159 (by decide)) lk_M_270 List.mem_cons_self rfl d_M_stem_37 (by decide) (Nat.le_of_ble_eq_true rfl) (by decide) (fun r w hw => ?_)
      obtain ⟨rfl, rfl⟩ := hw
      refine sv_ifB_eq C _ 63 (by decide) d_M_stem_40 (fun c40 => ?_) (fun c40 => ?_)
      · skip
        rw [ltm_s] at c40
        exact j63 L f  (hL) (hf) (congrArg (fun z => pu_s5b (pu_s5a (pu_s4 (pu_rep pu_E3 pu_S3 (pu_rep pu_E2 pu_S2 (pu_s1c (pu_s1b z))))))) (by rw [pu_s1a, if_neg (fun z => z.elim c7 c17), if_neg (fun z => c40 z.1)]))
      · skip
        rw [ltm_s] at c40
        refine sv_aload_n C rfl rfl d_M_stem_43 ?_
        refine sv_ldcSw C ws_160 d_M_stem_44 ?_
        refine sv_callVi C (c_M_ends l g rest ad inl th cm km kw f L hL hf 160 (by decide)) lk_M_270 List.mem_cons_self rfl d_M_stem_47 (by decide) (Nat.le_of_ble_eq_true rfl) (by decide) (fun r w hw => ?_)
        obtain ⟨rfl, rfl⟩ := hw
        refine sv_ifB_ne C _ 63 (by decide) d_M_stem_50 (fun c50 => ?_) (fun c50 => ?_)
        · skip
          rw [ltm_ss] at c50
          exact j63 L f  (hL) (hf) (congrArg (fun z => pu_s5b (pu_s5a (pu_s4 (pu_rep pu_E3 pu_S3 (pu_rep pu_E2 pu_S2 (pu_s1c (pu_s1b z))))))) (by rw [pu_s1a, if_neg (fun z => z.elim c7 c17), if_neg (fun z => z.2 c50)]))
        · skip
          rw [ltm_ss] at c50
          refine sv_aload_n C rfl rfl d_M_stem_53 ?_
          refine sv_dup C rfl d_M_stem_54 ?_
          refine sv_get C fg_M_254 0 rfl rfl d_M_stem_55 ?_
          refine sv_iconst C (v := 1) (by decide) d_M_stem_58 ?_
          refine sv_isubN C _ 1 (by omega) d_M_stem_59 ?_
          refine sv_put C fp_M_254 0 rfl rfl rfl (Nat.le_of_ble_eq_true rfl) ((_, .inr (_, [_, _, _, _, _, _, _, _, _, _, _, _, _, _, _, _])) :: _ :: _) rfl d_M_stem_60 ?_
          refine sv_wsE (ws' := ((ad 0, .inr (7, [.ref (ad 7), .ref (ad 8), .ref (ad 9), .ref (ad 10), .ref (ad 1), .int inl, .int th, .ref (ad 2), .int cm, .ref (ad 3), .ref (ad 4), .ref (ad 5), .int km, .int kw, .ref (ad 6), .int (nI (L.take (L.length - 1)).length)])) :: (ad 6, .inl (g.2.1 0, 260, .inl f)) :: rest)) (by rw [← pu_tlen (by omega)]) ?_
          exact j63 (L.take (L.length - 1)) f  (by rw [List.length_take]; omega) (pr_take hf _) (congrArg (fun z => pu_s5b (pu_s5a (pu_s4 (pu_rep pu_E3 pu_S3 (pu_rep pu_E2 pu_S2 (pu_s1c (pu_s1b z))))))) (by rw [pu_s1a, if_neg (fun z => z.elim c7 c17), if_pos ⟨c40, c50⟩]))
    · skip
      rw [ltm_ies] at c17
      refine sv_aload_n C rfl rfl d_M_stem_20 ?_
      refine sv_dup C rfl d_M_stem_21 ?_
      refine sv_get C fg_M_254 0 rfl rfl d_M_stem_22 ?_
      refine sv_iconst C (v := 2) (by decide) d_M_stem_25 ?_
      refine sv_isubN C _ 2 (by omega) d_M_stem_26 ?_
      refine sv_put C fp_M_254 0 rfl rfl rfl (Nat.le_of_ble_eq_true rfl) ((_, .inr (_, [_, _, _, _, _, _, _, _, _, _, _, _, _, _, _, _])) :: _ :: _) rfl d_M_stem_27 ?_
      refine sv_goto C 63 (by decide) d_M_stem_30 ?_
      refine sv_wsE (ws' := ((ad 0, .inr (7, [.ref (ad 7), .ref (ad 8), .ref (ad 9), .ref (ad 10), .ref (ad 1), .int inl, .int th, .ref (ad 2), .int cm, .ref (ad 3), .ref (ad 4), .ref (ad 5), .int km, .int kw, .ref (ad 6), .int (nI (L.take (L.length - 2)).length)])) :: (ad 6, .inl (g.2.1 0, 260, .inl f)) :: rest)) (by rw [← pu_tlen (by omega)]) ?_
      exact j63 (L.take (L.length - 2)) f  (by rw [List.length_take]; omega) (pr_take hf _) (congrArg (fun z => pu_s5b (pu_s5a (pu_s4 (pu_rep pu_E3 pu_S3 (pu_rep pu_E2 pu_S2 (pu_s1c (pu_s1b z))))))) (by rw [pu_s1a, if_pos (Or.inr c17)]))
