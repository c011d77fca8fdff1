/-! CONTRACTS: the reference, 5: a word taken -/
theorem pf_stop {M : List Int32} : M ∈ pu_stops ↔ ∃ k, k < 33 ∧ M = sv_txt (tm_0 k) := by
  rw [← tm0_eq, List.mem_map]
  constructor
  · rintro ⟨k, hk, rfl⟩; exact ⟨k, List.mem_range.mp hk, rfl⟩
  · rintro ⟨k, hk, rfl⟩; exact ⟨k, List.mem_range.mpr hk, rfl⟩
theorem pf_small_snoc {M : List Int32} {j : Nat} (h : j < M.length) : pu_small (M.take (j + 1)) ↔ pu_small (M.take j) ∧ (97 ≤ (M.getD j 0).toInt ∧ (M.getD j 0).toInt ≤ 122) := by
  rw [pu_take_snoc h]
  constructor
  · intro z
    exact ⟨fun c hc => z c (List.mem_append_left _ hc), z _ (List.mem_append_right _ (List.mem_singleton.mpr rfl))⟩
  · rintro ⟨z1, z2⟩ c hc
    rcases List.mem_append.mp hc with h1 | h1
    · exact z1 c h1
    · rw [List.mem_singleton.mp h1]; exact z2
theorem pf_if {P Q : Prop} [Decidable P] [Decidable Q] (h : P ↔ Q) : (if P then (1 : Int32) else 0) = if Q then 1 else 0 := by
  by_cases hp : P
  · rw [if_pos hp, if_pos (h.mp hp)]
  · rw [if_neg hp, if_neg (fun z => hp (h.mpr z))]
theorem pf_low_at {O : List Int32} {j : Nat} (h : j < O.length) : (O.map pu_low).getD j 0 = pu_low (O.getD j 0) := by
  rw [List.getD_eq_getElem?_getD, List.getD_eq_getElem?_getD, List.getElem?_map, List.getElem?_eq_getElem h]
  rfl
theorem pc_fit_no {M : List Int32} (h : ¬ (pu_small M ∧ 2 < M.length)) : pc_fit M = M := by unfold pc_fit; rw [if_neg h]
theorem pc_fit_yes {M : List Int32} (h : pu_small M ∧ 2 < M.length) : pc_fit M = pu_stem M := by unfold pc_fit; rw [if_pos h]
def rm_M_token_aIII : Room := { frames := 9, cells := 0, slots := 0, locals := 254 }
set_option maxHeartbeats 4000000 in
set_option maxRecDepth 100000 in
theorem c_M_token_aIII (l : Launch) (g : sv_G) (rest : va_W) (ad : Nat → Nat) (inl th cm wm0 : Int32) (b tf wf0 ch0 po0 st0 : Nat → Int32) (T : List (Nat × List Int32)) (wd p e : Nat) (hT : pu_Tok ch0 po0 st0 T) (hpe : p < e) (h255 : e - p ≤ 255) (he : e ≤ 8192) (ho : (pu_off T T.length) ≤ p) (hl : T.length ≤ p) (hw0 : wd ≤ p) (hT0 : sv_SA g rest (ad 7) 33 tm_0) (hT2 : sv_SA g rest (ad 8) (2 * 20) tm_2) (hT3 : sv_SA g rest (ad 9) (2 * 7) tm_3) (hT4 : sv_SA g rest (ad 10) (2 * 19) tm_4) : sv_Mv l y_M_token_aIII b_M_token_aIII 10 none rm_M_token_aIII g [.ref (ad 0), .ref (ad 2), .int (nI p), .int (nI e)] ((ad 0, .inr (7, [.ref (ad 7), .ref (ad 8), .ref (ad 9), .ref (ad 10), .ref (ad 1), .int inl, .int th, .ref (ad 2), .int cm, .ref (ad 3), .ref (ad 4), .ref (ad 5), .int (nI T.length), .int (nI wd), .ref (ad 6), .int wm0])) :: (ad 1, .inl (g.2.1 1, 8192, .inl b)) :: (ad 2, .inl (g.2.1 0, 8192, .inl tf)) :: (ad 3, .inl (g.2.1 0, 8704, .inl ch0)) :: (ad 4, .inl (g.2.1 0, 8193, .inl st0)) :: (ad 5, .inl (g.2.1 0, 8192, .inl po0)) :: (ad 6, .inl (g.2.1 0, 260, .inl wf0)) :: rest) (fun w => ∃ (wm : Int32) (wf ch po st : Nat → Int32), w = ((ad 0, .inr (7, [.ref (ad 7), .ref (ad 8), .ref (ad 9), .ref (ad 10), .ref (ad 1), .int inl, .int th, .ref (ad 2), .int cm, .ref (ad 3), .ref (ad 4), .ref (ad 5), .int (nI (pu_word (pu_slice tf p (e - p)) (T, wd)).1.length), .int (nI (pu_word (pu_slice tf p (e - p)) (T, wd)).2), .ref (ad 6), .int wm])) :: (ad 1, .inl (g.2.1 1, 8192, .inl b)) :: (ad 2, .inl (g.2.1 0, 8192, .inl tf)) :: (ad 3, .inl (g.2.1 0, 8704, .inl ch)) :: (ad 4, .inl (g.2.1 0, 8193, .inl st)) :: (ad 5, .inl (g.2.1 0, 8192, .inl po)) :: (ad 6, .inl (g.2.1 0, 260, .inl wf)) :: rest) ∧ pu_Tok ch po st (pu_word (pu_slice tf p (e - p)) (T, wd)).1) := by
  have s1 := pu_slice_len tf p (e - p)
  have s2 := pu_len_own (pu_slice tf p (e - p))
  have s3 : ((pu_own (pu_slice tf p (e - p))).map pu_low).length = (pu_own (pu_slice tf p (e - p))).length := List.length_map _
  have s4 := pc_fit_len ((pu_own (pu_slice tf p (e - p))).map pu_low)
  obtain ⟨fa, hA, hE⟩ := hT0
  refine sv_enter_v (by decide) rfl rfl (Nat.le_of_ble_eq_true rfl) (fun X C hI hr => ?_)
  refine sv_lvE (lv' := [some _, some _, some _, some _, none, none, none, none, none, none]) rfl ?_
  have L277 : ∀ (k : Nat) (j : Nat) (f4 ch2 : Nat → Int32) (o5 o8 o9 : Option Value), (¬ ((pu_own (pu_slice tf p (e - p))).map pu_low) ∈ pu_stops ∧ pr_W f4 (pc_fit ((pu_own (pu_slice tf p (e - p))).map pu_low)) ∧ j ≤ (pc_fit ((pu_own (pu_slice tf p (e - p))).map pu_low)).length ∧ (pc_fit ((pu_own (pu_slice tf p (e - p))).map pu_low)).length ≤ j + k ∧ (∀ i, i < (pu_off T T.length) → ch2 i = ch0 i) ∧ ∀ i, i < j → ch2 ((pu_off T T.length) + i) = (pc_fit ((pu_own (pu_slice tf p (e - p))).map pu_low)).getD i 0) → sv_V X 10 0 0 ((ad 0, .inr (7, [.ref (ad 7), .ref (ad 8), .ref (ad 9), .ref (ad 10), .ref (ad 1), .int inl, .int th, .ref (ad 2), .int cm, .ref (ad 3), .ref (ad 4), .ref (ad 5), .int (nI T.length), .int (nI (wd + 1)), .ref (ad 6), .int (nI (pc_fit ((pu_own (pu_slice tf p (e - p))).map pu_low)).length)])) :: (ad 1, .inl (g.2.1 1, 8192, .inl b)) :: (ad 2, .inl (g.2.1 0, 8192, .inl tf)) :: (ad 3, .inl (g.2.1 0, 8704, .inl ch2)) :: (ad 4, .inl (g.2.1 0, 8193, .inl st0)) :: (ad 5, .inl (g.2.1 0, 8192, .inl po0)) :: (ad 6, .inl (g.2.1 0, 260, .inl f4)) :: rest) 277 [some (.ref (ad 0)), some (.ref (ad 2)), some (.int (nI p)), some (.int (nI e)), some (.int (nI (wd))), o5, some (.int (nI ((pu_off T T.length)))), some (.int (nI (j))), o8, o9] [] := by
    intro k
    induction k with
    | zero =>
      intro j f4 ch2 o5 o8 o9 hq
      obtain ⟨hns, hf4, q1, q2, q3, q4⟩ := hq
      refine sv_iload C rfl d_M_token_aIII_277 ?_
      refine sv_aload_n C rfl rfl d_M_token_aIII_279 ?_
      refine sv_get C fg_M_254 0 rfl rfl d_M_token_aIII_280 ?_
      refine sv_icmpN_ge C _ _ (by omega) (by omega) 309 (by decide) d_M_token_aIII_283 (fun c283 => ?_) (fun c283 => ?_)
      · skip
        refine sv_aload_n C rfl rfl d_M_token_aIII_309 ?_
        refine sv_get C fg_M_204 0 rfl rfl d_M_token_aIII_310 ?_
        refine sv_aload_n C rfl rfl d_M_token_aIII_313 ?_
        refine sv_get C fg_M_234 0 rfl rfl d_M_token_aIII_314 ?_
        refine sv_iload C rfl d_M_token_aIII_317 ?_
        refine sv_iastN C _ 5 rfl (by omega) (by decide) (_ :: _ :: _ :: _ :: _ :: _ :: _ :: _) rfl d_M_token_aIII_319 ?_
        refine sv_aload_n C rfl rfl d_M_token_aIII_320 ?_
        refine sv_dup C rfl d_M_token_aIII_321 ?_
        refine sv_get C fg_M_234 0 rfl rfl d_M_token_aIII_322 ?_
        refine sv_iconst C (v := 1) (by decide) d_M_token_aIII_325 ?_
        refine sv_iaddN C _ 1  d_M_token_aIII_326 ?_
        refine sv_put C fp_M_234 0 rfl rfl rfl (Nat.le_of_ble_eq_true rfl) ((_, .inr (_, [_, _, _, _, _, _, _, _, _, _, _, _, _, _, _, _])) :: _ :: _ :: _ :: _ :: _ :: _ :: _) rfl d_M_token_aIII_327 ?_
        refine sv_aload_n C rfl rfl d_M_token_aIII_330 ?_
        refine sv_get C fg_M_201 0 rfl rfl d_M_token_aIII_331 ?_
        refine sv_aload_n C rfl rfl d_M_token_aIII_334 ?_
        refine sv_get C fg_M_234 0 rfl rfl d_M_token_aIII_335 ?_
        refine sv_iload C rfl d_M_token_aIII_338 ?_
        refine sv_aload_n C rfl rfl d_M_token_aIII_340 ?_
        refine sv_get C fg_M_254 0 rfl rfl d_M_token_aIII_341 ?_
        refine sv_iaddN C _ _  d_M_token_aIII_344 ?_
        refine sv_iastN C _ 4 rfl (by omega) (by decide) (_ :: _ :: _ :: _ :: _ :: _ :: _ :: _) rfl d_M_token_aIII_345 ?_
        refine sv_wsE (ws' := ((ad 0, .inr (7, [.ref (ad 7), .ref (ad 8), .ref (ad 9), .ref (ad 10), .ref (ad 1), .int inl, .int th, .ref (ad 2), .int cm, .ref (ad 3), .ref (ad 4), .ref (ad 5), .int (nI (T ++ [(wd, (pc_fit ((pu_own (pu_slice tf p (e - p))).map pu_low)))]).length), .int (nI (wd + 1)), .ref (ad 6), .int (nI (pc_fit ((pu_own (pu_slice tf p (e - p))).map pu_low)).length)])) :: (ad 1, .inl (g.2.1 1, 8192, .inl b)) :: (ad 2, .inl (g.2.1 0, 8192, .inl tf)) :: (ad 3, .inl (g.2.1 0, 8704, .inl ch2)) :: (ad 4, .inl (g.2.1 0, 8193, .inl (upd st0 (T.length + 1) (nI ((pu_off T T.length) + (pc_fit ((pu_own (pu_slice tf p (e - p))).map pu_low)).length))))) :: (ad 5, .inl (g.2.1 0, 8192, .inl (upd po0 T.length (nI wd)))) :: (ad 6, .inl (g.2.1 0, 260, .inl f4)) :: rest)) (by rw [List.length_append]; rfl) ?_
        exact hr _ _ _ d_M_token_aIII_346 (by rw [pu_word_go hns]; exact ⟨_, f4, _, _, _, rfl, pu_Tok_add hT wd (pc_fit ((pu_own (pu_slice tf p (e - p))).map pu_low)) (fun i hi => pk_un (by omega)) pk_us (fun i hi => pk_un (by omega)) pk_us q3 (fun i hi => q4 i (by omega))⟩)
      · skip
        exact absurd c283 (by omega)
    | succ k ih =>
      intro j f4 ch2 o5 o8 o9 hq
      obtain ⟨hns, hf4, q1, q2, q3, q4⟩ := hq
      refine sv_iload C rfl d_M_token_aIII_277 ?_
      refine sv_aload_n C rfl rfl d_M_token_aIII_279 ?_
      refine sv_get C fg_M_254 0 rfl rfl d_M_token_aIII_280 ?_
      refine sv_icmpN_ge C _ _ (by omega) (by omega) 309 (by decide) d_M_token_aIII_283 (fun c283 => ?_) (fun c283 => ?_)
      · skip
        refine sv_aload_n C rfl rfl d_M_token_aIII_309 ?_
        refine sv_get C fg_M_204 0 rfl rfl d_M_token_aIII_310 ?_
        refine sv_aload_n C rfl rfl d_M_token_aIII_313 ?_
        refine sv_get C fg_M_234 0 rfl rfl d_M_token_aIII_314 ?_
        refine sv_iload C rfl d_M_token_aIII_317 ?_
        refine sv_iastN C _ 5 rfl (by omega) (by decide) (_ :: _ :: _ :: _ :: _ :: _ :: _ :: _) rfl d_M_token_aIII_319 ?_
        refine sv_aload_n C rfl rfl d_M_token_aIII_320 ?_
        refine sv_dup C rfl d_M_token_aIII_321 ?_
        refine sv_get C fg_M_234 0 rfl rfl d_M_token_aIII_322 ?_
        refine sv_iconst C (v := 1) (by decide) d_M_token_aIII_325 ?_
        refine sv_iaddN C _ 1  d_M_token_aIII_326 ?_
        refine sv_put C fp_M_234 0 rfl rfl rfl (Nat.le_of_ble_eq_true rfl) ((_, .inr (_, [_, _, _, _, _, _, _, _, _, _, _, _, _, _, _, _])) :: _ :: _ :: _ :: _ :: _ :: _ :: _) rfl d_M_token_aIII_327 ?_
        refine sv_aload_n C rfl rfl d_M_token_aIII_330 ?_
        refine sv_get C fg_M_201 0 rfl rfl d_M_token_aIII_331 ?_
        refine sv_aload_n C rfl rfl d_M_token_aIII_334 ?_
        refine sv_get C fg_M_234 0 rfl rfl d_M_token_aIII_335 ?_
        refine sv_iload C rfl d_M_token_aIII_338 ?_
        refine sv_aload_n C rfl rfl d_M_token_aIII_340 ?_
        refine sv_get C fg_M_254 0 rfl rfl d_M_token_aIII_341 ?_
        refine sv_iaddN C _ _  d_M_token_aIII_344 ?_
        refine sv_iastN C _ 4 rfl (by omega) (by decide) (_ :: _ :: _ :: _ :: _ :: _ :: _ :: _) rfl d_M_token_aIII_345 ?_
        refine sv_wsE (ws' := ((ad 0, .inr (7, [.ref (ad 7), .ref (ad 8), .ref (ad 9), .ref (ad 10), .ref (ad 1), .int inl, .int th, .ref (ad 2), .int cm, .ref (ad 3), .ref (ad 4), .ref (ad 5), .int (nI (T ++ [(wd, (pc_fit ((pu_own (pu_slice tf p (e - p))).map pu_low)))]).length), .int (nI (wd + 1)), .ref (ad 6), .int (nI (pc_fit ((pu_own (pu_slice tf p (e - p))).map pu_low)).length)])) :: (ad 1, .inl (g.2.1 1, 8192, .inl b)) :: (ad 2, .inl (g.2.1 0, 8192, .inl tf)) :: (ad 3, .inl (g.2.1 0, 8704, .inl ch2)) :: (ad 4, .inl (g.2.1 0, 8193, .inl (upd st0 (T.length + 1) (nI ((pu_off T T.length) + (pc_fit ((pu_own (pu_slice tf p (e - p))).map pu_low)).length))))) :: (ad 5, .inl (g.2.1 0, 8192, .inl (upd po0 T.length (nI wd)))) :: (ad 6, .inl (g.2.1 0, 260, .inl f4)) :: rest)) (by rw [List.length_append]; rfl) ?_
        exact hr _ _ _ d_M_token_aIII_346 (by rw [pu_word_go hns]; exact ⟨_, f4, _, _, _, rfl, pu_Tok_add hT wd (pc_fit ((pu_own (pu_slice tf p (e - p))).map pu_low)) (fun i hi => pk_un (by omega)) pk_us (fun i hi => pk_un (by omega)) pk_us q3 (fun i hi => q4 i (by omega))⟩)
      · skip
        refine sv_aload_n C rfl rfl d_M_token_aIII_286 ?_
        refine sv_get C fg_M_198 0 rfl rfl d_M_token_aIII_287 ?_
        refine sv_iload C rfl d_M_token_aIII_290 ?_
        refine sv_iload C rfl d_M_token_aIII_292 ?_
        refine sv_iaddN C _ _  d_M_token_aIII_294 ?_
        refine sv_aload_n C rfl rfl d_M_token_aIII_295 ?_
        refine sv_get C fg_M_207 0 rfl rfl d_M_token_aIII_296 ?_
        refine sv_iload C rfl d_M_token_aIII_299 ?_
        refine sv_ialdN C _ 6 rfl (by omega) (by decide) d_M_token_aIII_301 ?_
        refine sv_eqi (hf4 j (by omega)) ?_
        refine sv_iastN C _ 3 rfl (by omega) (by decide) (_ :: _ :: _ :: _ :: _ :: _ :: _ :: _) rfl d_M_token_aIII_302 ?_
        refine sv_iincN C 1 _ rfl [some _, some _, some _, some _, some _, _, some _, some _, _, _] rfl d_M_token_aIII_303 ?_
        refine sv_goto C 277 (by decide) d_M_token_aIII_306 ?_
        exact ih (j + 1) f4 _ _ _ _ ⟨hns, hf4, by omega, by omega, fun i hi => by rw [pk_un (by omega), q3 i hi], fun i hi => by
          rcases Nat.lt_or_ge i j with h | h
          · rw [pk_un (by omega), q4 i h]
          · have hij : i = j := by omega
            subst hij
            rw [pk_us]⟩
  have j263 : ∀ (f4 : Nat → Int32) (o5 o6 o7 o8 o9 : Option Value), ¬ ((pu_own (pu_slice tf p (e - p))).map pu_low) ∈ pu_stops → pr_W f4 (pc_fit ((pu_own (pu_slice tf p (e - p))).map pu_low)) → sv_V X 10 0 0 ((ad 0, .inr (7, [.ref (ad 7), .ref (ad 8), .ref (ad 9), .ref (ad 10), .ref (ad 1), .int inl, .int th, .ref (ad 2), .int cm, .ref (ad 3), .ref (ad 4), .ref (ad 5), .int (nI T.length), .int (nI (wd + 1)), .ref (ad 6), .int (nI (pc_fit ((pu_own (pu_slice tf p (e - p))).map pu_low)).length)])) :: (ad 1, .inl (g.2.1 1, 8192, .inl b)) :: (ad 2, .inl (g.2.1 0, 8192, .inl tf)) :: (ad 3, .inl (g.2.1 0, 8704, .inl ch0)) :: (ad 4, .inl (g.2.1 0, 8193, .inl st0)) :: (ad 5, .inl (g.2.1 0, 8192, .inl po0)) :: (ad 6, .inl (g.2.1 0, 260, .inl f4)) :: rest) 263 [some (.ref (ad 0)), some (.ref (ad 2)), some (.int (nI p)), some (.int (nI e)), some (.int (nI (wd))), o5, o6, o7, o8, o9] [] := by
    intro f4 o5 o6 o7 o8 o9 hns hf4
    refine sv_aload_n C rfl rfl d_M_token_aIII_263 ?_
    refine sv_get C fg_M_201 0 rfl rfl d_M_token_aIII_264 ?_
    refine sv_aload_n C rfl rfl d_M_token_aIII_267 ?_
    refine sv_get C fg_M_234 0 rfl rfl d_M_token_aIII_268 ?_
    refine sv_ialdN C _ 4 rfl (by omega) (by decide) d_M_token_aIII_271 ?_
    refine sv_eqi (hT.1 T.length (Nat.le_refl _)) ?_
    refine sv_istore C (by decide) [some _, some _, some _, some _, some _, _, some _, _, _, _] rfl d_M_token_aIII_272 ?_
    refine sv_iconst C (v := 0) (by decide) d_M_token_aIII_274 ?_
    refine sv_istore C (by decide) [some _, some _, some _, some _, some _, _, some _, some _, _, _] rfl d_M_token_aIII_275 ?_
    exact L277 (pc_fit ((pu_own (pu_slice tf p (e - p))).map pu_low)).length 0 f4 ch0 _ _ _ ⟨hns, hf4, by omega, by omega, fun i hi => rfl, fun i hi => absurd hi (Nat.not_lt_zero i)⟩
  have L216 : ∀ (k : Nat) (j : Nat) (f3 : Nat → Int32) (o9 : Option Value), (pr_W f3 ((pu_own (pu_slice tf p (e - p))).map pu_low) ∧ j ≤ 33 ∧ 33 ≤ j + k ∧ ∀ i, i < j → ((pu_own (pu_slice tf p (e - p))).map pu_low) ≠ sv_txt (tm_0 i)) → sv_V X 10 0 0 ((ad 0, .inr (7, [.ref (ad 7), .ref (ad 8), .ref (ad 9), .ref (ad 10), .ref (ad 1), .int inl, .int th, .ref (ad 2), .int cm, .ref (ad 3), .ref (ad 4), .ref (ad 5), .int (nI T.length), .int (nI (wd + 1)), .ref (ad 6), .int (nI ((pu_own (pu_slice tf p (e - p))).map pu_low).length)])) :: (ad 1, .inl (g.2.1 1, 8192, .inl b)) :: (ad 2, .inl (g.2.1 0, 8192, .inl tf)) :: (ad 3, .inl (g.2.1 0, 8704, .inl ch0)) :: (ad 4, .inl (g.2.1 0, 8193, .inl st0)) :: (ad 5, .inl (g.2.1 0, 8192, .inl po0)) :: (ad 6, .inl (g.2.1 0, 260, .inl f3)) :: rest) 216 [some (.ref (ad 0)), some (.ref (ad 2)), some (.int (nI p)), some (.int (nI e)), some (.int (nI (wd))), some (.int (if pu_small ((pu_own (pu_slice tf p (e - p))).map pu_low) then 1 else 0)), some (.ref (ad 7)), some (.int (nI (33))), some (.int (nI (j))), o9] [] := by
    intro k
    induction k with
    | zero =>
      intro j f3 o9 hq
      obtain ⟨hf3, q1, q2, q3⟩ := hq
      refine sv_iload C rfl d_M_token_aIII_216 ?_
      refine sv_iload C rfl d_M_token_aIII_218 ?_
      refine sv_icmpN_ge C _ _ (by omega) (by omega) 246 (by decide) d_M_token_aIII_220 (fun c220 => ?_) (fun c220 => ?_)
      · skip
        have hns : ¬ ((pu_own (pu_slice tf p (e - p))).map pu_low) ∈ pu_stops := fun z => by obtain ⟨i, hi, ei⟩ := pf_stop.mp z; exact q3 i (by omega) ei
        refine sv_iload C rfl d_M_token_aIII_246 ?_
        refine sv_ifB_eq C _ 263 (by decide) d_M_token_aIII_248 (fun c248 => ?_) (fun c248 => ?_)
        · skip
          refine sv_wsE (ws' := ((ad 0, .inr (7, [.ref (ad 7), .ref (ad 8), .ref (ad 9), .ref (ad 10), .ref (ad 1), .int inl, .int th, .ref (ad 2), .int cm, .ref (ad 3), .ref (ad 4), .ref (ad 5), .int (nI T.length), .int (nI (wd + 1)), .ref (ad 6), .int (nI (pc_fit ((pu_own (pu_slice tf p (e - p))).map pu_low)).length)])) :: (ad 1, .inl (g.2.1 1, 8192, .inl b)) :: (ad 2, .inl (g.2.1 0, 8192, .inl tf)) :: (ad 3, .inl (g.2.1 0, 8704, .inl ch0)) :: (ad 4, .inl (g.2.1 0, 8193, .inl st0)) :: (ad 5, .inl (g.2.1 0, 8192, .inl po0)) :: (ad 6, .inl (g.2.1 0, 260, .inl f3)) :: rest)) (by rw [pc_fit_no (fun z => c248 z.1)] <;> rfl) ?_
          exact j263 f3 _ _ _ _ _ hns (by rw [pc_fit_no (fun z => c248 z.1)]; exact hf3)
        · skip
          refine sv_aload_n C rfl rfl d_M_token_aIII_251 ?_
          refine sv_get C fg_M_254 0 rfl rfl d_M_token_aIII_252 ?_
          refine sv_iconst C (v := 2) (by decide) d_M_token_aIII_255 ?_
          refine sv_icmpN_le C _ 2 (by omega) (by omega) 263 (by decide) d_M_token_aIII_256 (fun c256 => ?_) (fun c256 => ?_)
          · skip
            refine sv_wsE (ws' := ((ad 0, .inr (7, [.ref (ad 7), .ref (ad 8), .ref (ad 9), .ref (ad 10), .ref (ad 1), .int inl, .int th, .ref (ad 2), .int cm, .ref (ad 3), .ref (ad 4), .ref (ad 5), .int (nI T.length), .int (nI (wd + 1)), .ref (ad 6), .int (nI (pc_fit ((pu_own (pu_slice tf p (e - p))).map pu_low)).length)])) :: (ad 1, .inl (g.2.1 1, 8192, .inl b)) :: (ad 2, .inl (g.2.1 0, 8192, .inl tf)) :: (ad 3, .inl (g.2.1 0, 8704, .inl ch0)) :: (ad 4, .inl (g.2.1 0, 8193, .inl st0)) :: (ad 5, .inl (g.2.1 0, 8192, .inl po0)) :: (ad 6, .inl (g.2.1 0, 260, .inl f3)) :: rest)) (by rw [pc_fit_no (fun z => absurd z.2 (by omega))] <;> rfl) ?_
            exact j263 f3 _ _ _ _ _ hns (by rw [pc_fit_no (fun z => absurd z.2 (by omega))]; exact hf3)
          · skip
            refine sv_aload_n C rfl rfl d_M_token_aIII_259 ?_
            refine sv_front 6 (_ :: _ :: _ :: _ :: _ :: _ :: _ :: _) rfl rfl ?_
            refine sv_front 1 (_ :: _ :: _ :: _ :: _ :: _ :: _ :: _) rfl rfl ?_
            refine sv_callVv C (c_M_stem l g ((ad 1, .inl (g.2.1 1, 8192, .inl b)) :: (ad 2, .inl (g.2.1 0, 8192, .inl tf)) :: (ad 3, .inl (g.2.1 0, 8704, .inl ch0)) :: (ad 4, .inl (g.2.1 0, 8193, .inl st0)) :: (ad 5, .inl (g.2.1 0, 8192, .inl po0)) :: rest) ad inl th cm (nI T.length) (nI (wd + 1)) f3 ((pu_own (pu_slice tf p (e - p))).map pu_low) (by omega) hf3 (by omega) (hT2.mono (fun q h => (List.mem_cons_of_mem _ (List.mem_cons_of_mem _ (List.mem_cons_of_mem _ (List.mem_cons_of_mem _ (List.mem_cons_of_mem _ h))))))) (hT3.mono (fun q h => (List.mem_cons_of_mem _ (List.mem_cons_of_mem _ (List.mem_cons_of_mem _ (List.mem_cons_of_mem _ (List.mem_cons_of_mem _ h))))))) (hT4.mono (fun q h => (List.mem_cons_of_mem _ (List.mem_cons_of_mem _ (List.mem_cons_of_mem _ (List.mem_cons_of_mem _ (List.mem_cons_of_mem _ h)))))))) lk_M_263 List.mem_cons_self rfl d_M_token_aIII_260 (by decide) (Nat.le_of_ble_eq_true rfl) (by decide) (fun w hw => ?_)
            obtain ⟨f4, rfl, hf4⟩ := hw
            refine sv_front 6 (_ :: _ :: _ :: _ :: _ :: _ :: _ :: _) rfl rfl ?_
            refine sv_front 6 (_ :: _ :: _ :: _ :: _ :: _ :: _ :: _) rfl rfl ?_
            refine sv_front 6 (_ :: _ :: _ :: _ :: _ :: _ :: _ :: _) rfl rfl ?_
            refine sv_front 6 (_ :: _ :: _ :: _ :: _ :: _ :: _ :: _) rfl rfl ?_
            refine sv_front 6 (_ :: _ :: _ :: _ :: _ :: _ :: _ :: _) rfl rfl ?_
            refine sv_front 5 (_ :: _ :: _ :: _ :: _ :: _ :: _ :: _) rfl rfl ?_
            refine sv_wsE (ws' := ((ad 0, .inr (7, [.ref (ad 7), .ref (ad 8), .ref (ad 9), .ref (ad 10), .ref (ad 1), .int inl, .int th, .ref (ad 2), .int cm, .ref (ad 3), .ref (ad 4), .ref (ad 5), .int (nI T.length), .int (nI (wd + 1)), .ref (ad 6), .int (nI (pc_fit ((pu_own (pu_slice tf p (e - p))).map pu_low)).length)])) :: (ad 1, .inl (g.2.1 1, 8192, .inl b)) :: (ad 2, .inl (g.2.1 0, 8192, .inl tf)) :: (ad 3, .inl (g.2.1 0, 8704, .inl ch0)) :: (ad 4, .inl (g.2.1 0, 8193, .inl st0)) :: (ad 5, .inl (g.2.1 0, 8192, .inl po0)) :: (ad 6, .inl (g.2.1 0, 260, .inl f4)) :: rest)) (by rw [pc_fit_yes ⟨c248, by omega⟩] <;> rfl) ?_
            exact j263 f4 _ _ _ _ _ hns (by rw [pc_fit_yes ⟨c248, by omega⟩]; exact hf4)
      · skip
        exact absurd c220 (by omega)
    | succ k ih =>
      intro j f3 o9 hq
      obtain ⟨hf3, q1, q2, q3⟩ := hq
      refine sv_iload C rfl d_M_token_aIII_216 ?_
      refine sv_iload C rfl d_M_token_aIII_218 ?_
      refine sv_icmpN_ge C _ _ (by omega) (by omega) 246 (by decide) d_M_token_aIII_220 (fun c220 => ?_) (fun c220 => ?_)
      · skip
        have hns : ¬ ((pu_own (pu_slice tf p (e - p))).map pu_low) ∈ pu_stops := fun z => by obtain ⟨i, hi, ei⟩ := pf_stop.mp z; exact q3 i (by omega) ei
        refine sv_iload C rfl d_M_token_aIII_246 ?_
        refine sv_ifB_eq C _ 263 (by decide) d_M_token_aIII_248 (fun c248 => ?_) (fun c248 => ?_)
        · skip
          refine sv_wsE (ws' := ((ad 0, .inr (7, [.ref (ad 7), .ref (ad 8), .ref (ad 9), .ref (ad 10), .ref (ad 1), .int inl, .int th, .ref (ad 2), .int cm, .ref (ad 3), .ref (ad 4), .ref (ad 5), .int (nI T.length), .int (nI (wd + 1)), .ref (ad 6), .int (nI (pc_fit ((pu_own (pu_slice tf p (e - p))).map pu_low)).length)])) :: (ad 1, .inl (g.2.1 1, 8192, .inl b)) :: (ad 2, .inl (g.2.1 0, 8192, .inl tf)) :: (ad 3, .inl (g.2.1 0, 8704, .inl ch0)) :: (ad 4, .inl (g.2.1 0, 8193, .inl st0)) :: (ad 5, .inl (g.2.1 0, 8192, .inl po0)) :: (ad 6, .inl (g.2.1 0, 260, .inl f3)) :: rest)) (by rw [pc_fit_no (fun z => c248 z.1)] <;> rfl) ?_
          exact j263 f3 _ _ _ _ _ hns (by rw [pc_fit_no (fun z => c248 z.1)]; exact hf3)
        · skip
          refine sv_aload_n C rfl rfl d_M_token_aIII_251 ?_
          refine sv_get C fg_M_254 0 rfl rfl d_M_token_aIII_252 ?_
          refine sv_iconst C (v := 2) (by decide) d_M_token_aIII_255 ?_
          refine sv_icmpN_le C _ 2 (by omega) (by omega) 263 (by decide) d_M_token_aIII_256 (fun c256 => ?_) (fun c256 => ?_)
          · skip
            refine sv_wsE (ws' := ((ad 0, .inr (7, [.ref (ad 7), .ref (ad 8), .ref (ad 9), .ref (ad 10), .ref (ad 1), .int inl, .int th, .ref (ad 2), .int cm, .ref (ad 3), .ref (ad 4), .ref (ad 5), .int (nI T.length), .int (nI (wd + 1)), .ref (ad 6), .int (nI (pc_fit ((pu_own (pu_slice tf p (e - p))).map pu_low)).length)])) :: (ad 1, .inl (g.2.1 1, 8192, .inl b)) :: (ad 2, .inl (g.2.1 0, 8192, .inl tf)) :: (ad 3, .inl (g.2.1 0, 8704, .inl ch0)) :: (ad 4, .inl (g.2.1 0, 8193, .inl st0)) :: (ad 5, .inl (g.2.1 0, 8192, .inl po0)) :: (ad 6, .inl (g.2.1 0, 260, .inl f3)) :: rest)) (by rw [pc_fit_no (fun z => absurd z.2 (by omega))] <;> rfl) ?_
            exact j263 f3 _ _ _ _ _ hns (by rw [pc_fit_no (fun z => absurd z.2 (by omega))]; exact hf3)
          · skip
            refine sv_aload_n C rfl rfl d_M_token_aIII_259 ?_
            refine sv_front 6 (_ :: _ :: _ :: _ :: _ :: _ :: _ :: _) rfl rfl ?_
            refine sv_front 1 (_ :: _ :: _ :: _ :: _ :: _ :: _ :: _) rfl rfl ?_
            refine sv_callVv C (c_M_stem l g ((ad 1, .inl (g.2.1 1, 8192, .inl b)) :: (ad 2, .inl (g.2.1 0, 8192, .inl tf)) :: (ad 3, .inl (g.2.1 0, 8704, .inl ch0)) :: (ad 4, .inl (g.2.1 0, 8193, .inl st0)) :: (ad 5, .inl (g.2.1 0, 8192, .inl po0)) :: rest) ad inl th cm (nI T.length) (nI (wd + 1)) f3 ((pu_own (pu_slice tf p (e - p))).map pu_low) (by omega) hf3 (by omega) (hT2.mono (fun q h => (List.mem_cons_of_mem _ (List.mem_cons_of_mem _ (List.mem_cons_of_mem _ (List.mem_cons_of_mem _ (List.mem_cons_of_mem _ h))))))) (hT3.mono (fun q h => (List.mem_cons_of_mem _ (List.mem_cons_of_mem _ (List.mem_cons_of_mem _ (List.mem_cons_of_mem _ (List.mem_cons_of_mem _ h))))))) (hT4.mono (fun q h => (List.mem_cons_of_mem _ (List.mem_cons_of_mem _ (List.mem_cons_of_mem _ (List.mem_cons_of_mem _ (List.mem_cons_of_mem _ h)))))))) lk_M_263 List.mem_cons_self rfl d_M_token_aIII_260 (by decide) (Nat.le_of_ble_eq_true rfl) (by decide) (fun w hw => ?_)
            obtain ⟨f4, rfl, hf4⟩ := hw
            refine sv_front 6 (_ :: _ :: _ :: _ :: _ :: _ :: _ :: _) rfl rfl ?_
            refine sv_front 6 (_ :: _ :: _ :: _ :: _ :: _ :: _ :: _) rfl rfl ?_
            refine sv_front 6 (_ :: _ :: _ :: _ :: _ :: _ :: _ :: _) rfl rfl ?_
            refine sv_front 6 (_ :: _ :: _ :: _ :: _ :: _ :: _ :: _) rfl rfl ?_
            refine sv_front 6 (_ :: _ :: _ :: _ :: _ :: _ :: _ :: _) rfl rfl ?_
            refine sv_front 5 (_ :: _ :: _ :: _ :: _ :: _ :: _ :: _) rfl rfl ?_
            refine sv_wsE (ws' := ((ad 0, .inr (7, [.ref (ad 7), .ref (ad 8), .ref (ad 9), .ref (ad 10), .ref (ad 1), .int inl, .int th, .ref (ad 2), .int cm, .ref (ad 3), .ref (ad 4), .ref (ad 5), .int (nI T.length), .int (nI (wd + 1)), .ref (ad 6), .int (nI (pc_fit ((pu_own (pu_slice tf p (e - p))).map pu_low)).length)])) :: (ad 1, .inl (g.2.1 1, 8192, .inl b)) :: (ad 2, .inl (g.2.1 0, 8192, .inl tf)) :: (ad 3, .inl (g.2.1 0, 8704, .inl ch0)) :: (ad 4, .inl (g.2.1 0, 8193, .inl st0)) :: (ad 5, .inl (g.2.1 0, 8192, .inl po0)) :: (ad 6, .inl (g.2.1 0, 260, .inl f4)) :: rest)) (by rw [pc_fit_yes ⟨c248, by omega⟩] <;> rfl) ?_
            exact j263 f4 _ _ _ _ _ hns (by rw [pc_fit_yes ⟨c248, by omega⟩]; exact hf4)
      · skip
        have hj := hE j (by omega)
        refine sv_aload C rfl d_M_token_aIII_223 ?_
        refine sv_iload C rfl d_M_token_aIII_225 ?_
        refine sv_aaldSN C _ (List.mem_cons_of_mem _ (List.mem_cons_of_mem _ (List.mem_cons_of_mem _ (List.mem_cons_of_mem _ (List.mem_cons_of_mem _ (List.mem_cons_of_mem _ (List.mem_cons_of_mem _ hA))))))) (by omega) (by decide) d_M_token_aIII_227 ?_
        refine sv_eqv (w := .ref (g.2.2.1 (tm_0 j))) (by rw [hj.1]; rfl) ?_
        refine sv_astore C (by decide) [some _, some _, some _, some _, some _, some _, some _, some _, some _, some _] rfl d_M_token_aIII_228 ?_
        refine sv_aload_n C rfl rfl d_M_token_aIII_230 ?_
        refine sv_aload C rfl d_M_token_aIII_231 ?_
        refine sv_front 6 (_ :: _ :: _ :: _ :: _ :: _ :: _ :: _) rfl rfl ?_
        refine sv_front 1 (_ :: _ :: _ :: _ :: _ :: _ :: _ :: _) rfl rfl ?_
        refine sv_callVi C (c_M_is l g _ ad inl th cm (nI T.length) (nI (wd + 1)) f3 ((pu_own (pu_slice tf p (e - p))).map pu_low) (by omega) hf3 (tm_0 j) hj.2) lk_M_260 List.mem_cons_self rfl d_M_token_aIII_233 (by decide) (Nat.le_of_ble_eq_true rfl) (by decide) (fun r w hw => ?_)
        obtain ⟨rfl, rfl⟩ := hw
        refine sv_ifB_eq C _ 240 (by decide) d_M_token_aIII_236 (fun c236 => ?_) (fun c236 => ?_)
        · skip
          refine sv_iincN C 1 _ rfl [some _, some _, some _, some _, some _, some _, some _, some _, some _, some _] rfl d_M_token_aIII_240 ?_
          refine sv_goto C 216 (by decide) d_M_token_aIII_243 ?_
          refine sv_front 6 (_ :: _ :: _ :: _ :: _ :: _ :: _ :: _) rfl rfl ?_
          refine sv_front 6 (_ :: _ :: _ :: _ :: _ :: _ :: _ :: _) rfl rfl ?_
          refine sv_front 6 (_ :: _ :: _ :: _ :: _ :: _ :: _ :: _) rfl rfl ?_
          refine sv_front 6 (_ :: _ :: _ :: _ :: _ :: _ :: _ :: _) rfl rfl ?_
          refine sv_front 6 (_ :: _ :: _ :: _ :: _ :: _ :: _ :: _) rfl rfl ?_
          refine sv_front 5 (_ :: _ :: _ :: _ :: _ :: _ :: _ :: _) rfl rfl ?_
          exact ih (j + 1) f3 _ ⟨hf3, by omega, by omega, fun i hi => by
            rcases Nat.lt_or_ge i j with h | h
            · exact q3 i h
            · have hij : i = j := by omega
              subst hij
              exact c236⟩
        · skip
          refine sv_front 6 (_ :: _ :: _ :: _ :: _ :: _ :: _ :: _) rfl rfl ?_
          refine sv_front 6 (_ :: _ :: _ :: _ :: _ :: _ :: _ :: _) rfl rfl ?_
          refine sv_front 6 (_ :: _ :: _ :: _ :: _ :: _ :: _ :: _) rfl rfl ?_
          refine sv_front 6 (_ :: _ :: _ :: _ :: _ :: _ :: _ :: _) rfl rfl ?_
          refine sv_front 6 (_ :: _ :: _ :: _ :: _ :: _ :: _ :: _) rfl rfl ?_
          refine sv_front 5 (_ :: _ :: _ :: _ :: _ :: _ :: _ :: _) rfl rfl ?_
          exact hr _ _ _ d_M_token_aIII_239 (by rw [pu_word_stop (pf_stop.mpr ⟨j, by omega, c236⟩)]; exact ⟨_, f3, ch0, po0, st0, rfl, hT⟩)
  have L143 : ∀ (k : Nat) (j : Nat) (f3 : Nat → Int32), (j ≤ (pu_own (pu_slice tf p (e - p))).length ∧ (pu_own (pu_slice tf p (e - p))).length ≤ j + k ∧ (∀ i, i < j → f3 i = pu_low ((pu_own (pu_slice tf p (e - p))).getD i 0)) ∧ ∀ i, j ≤ i → i < (pu_own (pu_slice tf p (e - p))).length → f3 i = (pu_own (pu_slice tf p (e - p))).getD i 0) → sv_V X 10 0 0 ((ad 0, .inr (7, [.ref (ad 7), .ref (ad 8), .ref (ad 9), .ref (ad 10), .ref (ad 1), .int inl, .int th, .ref (ad 2), .int cm, .ref (ad 3), .ref (ad 4), .ref (ad 5), .int (nI T.length), .int (nI (wd + 1)), .ref (ad 6), .int (nI (pu_own (pu_slice tf p (e - p))).length)])) :: (ad 1, .inl (g.2.1 1, 8192, .inl b)) :: (ad 2, .inl (g.2.1 0, 8192, .inl tf)) :: (ad 3, .inl (g.2.1 0, 8704, .inl ch0)) :: (ad 4, .inl (g.2.1 0, 8193, .inl st0)) :: (ad 5, .inl (g.2.1 0, 8192, .inl po0)) :: (ad 6, .inl (g.2.1 0, 260, .inl f3)) :: rest) 143 [some (.ref (ad 0)), some (.ref (ad 2)), some (.int (nI p)), some (.int (nI e)), some (.int (nI (wd))), some (.int (if pu_small (((pu_own (pu_slice tf p (e - p))).map pu_low).take j) then 1 else 0)), some (.int (nI (j))), none, none, none] [] := by
    intro k
    induction k with
    | zero =>
      intro j f3 hq
      obtain ⟨q1, q2, q3, q4⟩ := hq
      refine sv_iload C rfl d_M_token_aIII_143 ?_
      refine sv_aload_n C rfl rfl d_M_token_aIII_145 ?_
      refine sv_get C fg_M_254 0 rfl rfl d_M_token_aIII_146 ?_
      refine sv_icmpN_ge C _ _ (by omega) (by omega) 202 (by decide) d_M_token_aIII_149 (fun c149 => ?_) (fun c149 => ?_)
      · skip
        have hf3 : pr_W f3 ((pu_own (pu_slice tf p (e - p))).map pu_low) := fun i hi => by rw [q3 i (by omega), pf_low_at (by omega)]
        refine sv_wsE (ws' := ((ad 0, .inr (7, [.ref (ad 7), .ref (ad 8), .ref (ad 9), .ref (ad 10), .ref (ad 1), .int inl, .int th, .ref (ad 2), .int cm, .ref (ad 3), .ref (ad 4), .ref (ad 5), .int (nI T.length), .int (nI (wd + 1)), .ref (ad 6), .int (nI ((pu_own (pu_slice tf p (e - p))).map pu_low).length)])) :: (ad 1, .inl (g.2.1 1, 8192, .inl b)) :: (ad 2, .inl (g.2.1 0, 8192, .inl tf)) :: (ad 3, .inl (g.2.1 0, 8704, .inl ch0)) :: (ad 4, .inl (g.2.1 0, 8193, .inl st0)) :: (ad 5, .inl (g.2.1 0, 8192, .inl po0)) :: (ad 6, .inl (g.2.1 0, 260, .inl f3)) :: rest)) (by rw [s3]) ?_
        refine sv_lvE (lv' := [some (.ref (ad 0)), some (.ref (ad 2)), some (.int (nI p)), some (.int (nI e)), some (.int (nI (wd))), some (.int (if pu_small ((pu_own (pu_slice tf p (e - p))).map pu_low) then 1 else 0)), some (.int (nI (j))), none, none, none]) (by rw [show j = ((pu_own (pu_slice tf p (e - p))).map pu_low).length by omega, List.take_length]) ?_
        refine sv_aload_n C rfl rfl d_M_token_aIII_202 ?_
        refine sv_get C fg_M_75 0 rfl rfl d_M_token_aIII_203 ?_
        refine sv_astore C (by decide) [some _, some _, some _, some _, some _, some _, some _, none, none, none] rfl d_M_token_aIII_206 ?_
        refine sv_aload C rfl d_M_token_aIII_208 ?_
        refine sv_alen C (t0 := 5) (v := nI 33) rfl (List.mem_cons_of_mem _ (List.mem_cons_of_mem _ (List.mem_cons_of_mem _ (List.mem_cons_of_mem _ (List.mem_cons_of_mem _ (List.mem_cons_of_mem _ (List.mem_cons_of_mem _ hA))))))) rfl d_M_token_aIII_210 ?_
        refine sv_istore C (by decide) [some _, some _, some _, some _, some _, some _, some _, some _, none, none] rfl d_M_token_aIII_211 ?_
        refine sv_iconst C (v := 0) (by decide) d_M_token_aIII_213 ?_
        refine sv_istore C (by decide) [some _, some _, some _, some _, some _, some _, some _, some _, some _, none] rfl d_M_token_aIII_214 ?_
        exact L216 33 0 f3 _ ⟨hf3, by omega, by omega, fun i hi => absurd hi (Nat.not_lt_zero i)⟩
      · skip
        exact absurd c149 (by omega)
    | succ k ih =>
      intro j f3 hq
      obtain ⟨q1, q2, q3, q4⟩ := hq
      refine sv_iload C rfl d_M_token_aIII_143 ?_
      refine sv_aload_n C rfl rfl d_M_token_aIII_145 ?_
      refine sv_get C fg_M_254 0 rfl rfl d_M_token_aIII_146 ?_
      refine sv_icmpN_ge C _ _ (by omega) (by omega) 202 (by decide) d_M_token_aIII_149 (fun c149 => ?_) (fun c149 => ?_)
      · skip
        have hf3 : pr_W f3 ((pu_own (pu_slice tf p (e - p))).map pu_low) := fun i hi => by rw [q3 i (by omega), pf_low_at (by omega)]
        refine sv_wsE (ws' := ((ad 0, .inr (7, [.ref (ad 7), .ref (ad 8), .ref (ad 9), .ref (ad 10), .ref (ad 1), .int inl, .int th, .ref (ad 2), .int cm, .ref (ad 3), .ref (ad 4), .ref (ad 5), .int (nI T.length), .int (nI (wd + 1)), .ref (ad 6), .int (nI ((pu_own (pu_slice tf p (e - p))).map pu_low).length)])) :: (ad 1, .inl (g.2.1 1, 8192, .inl b)) :: (ad 2, .inl (g.2.1 0, 8192, .inl tf)) :: (ad 3, .inl (g.2.1 0, 8704, .inl ch0)) :: (ad 4, .inl (g.2.1 0, 8193, .inl st0)) :: (ad 5, .inl (g.2.1 0, 8192, .inl po0)) :: (ad 6, .inl (g.2.1 0, 260, .inl f3)) :: rest)) (by rw [s3]) ?_
        refine sv_lvE (lv' := [some (.ref (ad 0)), some (.ref (ad 2)), some (.int (nI p)), some (.int (nI e)), some (.int (nI (wd))), some (.int (if pu_small ((pu_own (pu_slice tf p (e - p))).map pu_low) then 1 else 0)), some (.int (nI (j))), none, none, none]) (by rw [show j = ((pu_own (pu_slice tf p (e - p))).map pu_low).length by omega, List.take_length]) ?_
        refine sv_aload_n C rfl rfl d_M_token_aIII_202 ?_
        refine sv_get C fg_M_75 0 rfl rfl d_M_token_aIII_203 ?_
        refine sv_astore C (by decide) [some _, some _, some _, some _, some _, some _, some _, none, none, none] rfl d_M_token_aIII_206 ?_
        refine sv_aload C rfl d_M_token_aIII_208 ?_
        refine sv_alen C (t0 := 5) (v := nI 33) rfl (List.mem_cons_of_mem _ (List.mem_cons_of_mem _ (List.mem_cons_of_mem _ (List.mem_cons_of_mem _ (List.mem_cons_of_mem _ (List.mem_cons_of_mem _ (List.mem_cons_of_mem _ hA))))))) rfl d_M_token_aIII_210 ?_
        refine sv_istore C (by decide) [some _, some _, some _, some _, some _, some _, some _, some _, none, none] rfl d_M_token_aIII_211 ?_
        refine sv_iconst C (v := 0) (by decide) d_M_token_aIII_213 ?_
        refine sv_istore C (by decide) [some _, some _, some _, some _, some _, some _, some _, some _, some _, none] rfl d_M_token_aIII_214 ?_
        exact L216 33 0 f3 _ ⟨hf3, by omega, by omega, fun i hi => absurd hi (Nat.not_lt_zero i)⟩
      · skip
        refine sv_aload_n C rfl rfl d_M_token_aIII_152 ?_
        refine sv_get C fg_M_207 0 rfl rfl d_M_token_aIII_153 ?_
        refine sv_iload C rfl d_M_token_aIII_156 ?_
        refine sv_aload_n C rfl rfl d_M_token_aIII_158 ?_
        refine sv_get C fg_M_207 0 rfl rfl d_M_token_aIII_159 ?_
        refine sv_iload C rfl d_M_token_aIII_162 ?_
        refine sv_ialdN C _ 6 rfl (by omega) (by decide) d_M_token_aIII_164 ?_
        refine sv_eqi (q4 j (Nat.le_refl _) (by omega)) ?_
        refine sv_callSi C (c_M_lowered l g _ ((pu_own (pu_slice tf p (e - p))).getD j 0)) lk_M_257  d_M_token_aIII_165 (by decide) (Nat.le_of_ble_eq_true rfl) (by decide) (fun r w hw => ?_)
        obtain ⟨rfl, rfl⟩ := hw
        refine sv_iastN C _ 6 rfl (by omega) (by decide) (_ :: _ :: _ :: _ :: _ :: _ :: _ :: _) rfl d_M_token_aIII_168 ?_
        refine sv_aload_n C rfl rfl d_M_token_aIII_169 ?_
        refine sv_get C fg_M_207 0 rfl rfl d_M_token_aIII_170 ?_
        refine sv_iload C rfl d_M_token_aIII_173 ?_
        refine sv_ialdN C _ 6 rfl (by omega) (by decide) d_M_token_aIII_175 ?_
        refine sv_eqi (pk_us.trans (pf_low_at (O := (pu_own (pu_slice tf p (e - p)))) (j := j) (by omega)).symm) ?_
        refine sv_bipush C (v := 97) (by decide) d_M_token_aIII_176 ?_
        refine sv_icmpK_lt C (97) (by decide) 193 (by decide) d_M_token_aIII_178 (fun c178 => ?_) (fun c178 => ?_)
        · skip
          refine sv_iconst C (v := 0) (by decide) d_M_token_aIII_193 ?_
          refine sv_istore C (by decide) [some _, some _, some _, some _, some _, some _, some _, none, none, none] rfl d_M_token_aIII_194 ?_
          refine sv_iincN C 1 _ rfl [some _, some _, some _, some _, some _, some _, some _, none, none, none] rfl d_M_token_aIII_196 ?_
          refine sv_goto C 143 (by decide) d_M_token_aIII_199 ?_
          refine sv_lvE (lv' := [some (.ref (ad 0)), some (.ref (ad 2)), some (.int (nI p)), some (.int (nI e)), some (.int (nI (wd))), some (.int (if pu_small (((pu_own (pu_slice tf p (e - p))).map pu_low).take (j + 1)) then 1 else 0)), some (.int (nI (j + 1))), none, none, none]) (by rw [if_neg (fun z => absurd ((pf_small_snoc (by omega)).mp z).2 (by omega))]) ?_
          exact ih (j + 1) _ ⟨by omega, by omega, fun i hi => by
            rcases Nat.lt_or_ge i j with h | h
            · rw [pk_un (by omega), q3 i h]
            · have hij : i = j := by omega
              subst hij
              rw [pk_us], fun i h1 h2 => by rw [pk_un (by omega), q4 i (by omega) h2]⟩
        · skip
          refine sv_aload_n C rfl rfl d_M_token_aIII_181 ?_
          refine sv_get C fg_M_207 0 rfl rfl d_M_token_aIII_182 ?_
          refine sv_iload C rfl d_M_token_aIII_185 ?_
          refine sv_ialdN C _ 6 rfl (by omega) (by decide) d_M_token_aIII_187 ?_
          refine sv_eqi (pk_us.trans (pf_low_at (O := (pu_own (pu_slice tf p (e - p)))) (j := j) (by omega)).symm) ?_
          refine sv_bipush C (v := 122) (by decide) d_M_token_aIII_188 ?_
          refine sv_icmpK_le C (122) (by decide) 196 (by decide) d_M_token_aIII_190 (fun c190 => ?_) (fun c190 => ?_)
          · skip
            refine sv_iincN C 1 _ rfl [some _, some _, some _, some _, some _, some _, some _, none, none, none] rfl d_M_token_aIII_196 ?_
            refine sv_goto C 143 (by decide) d_M_token_aIII_199 ?_
            refine sv_lvE (lv' := [some (.ref (ad 0)), some (.ref (ad 2)), some (.int (nI p)), some (.int (nI e)), some (.int (nI (wd))), some (.int (if pu_small (((pu_own (pu_slice tf p (e - p))).map pu_low).take (j + 1)) then 1 else 0)), some (.int (nI (j + 1))), none, none, none]) (by rw [pf_if (P := pu_small (((pu_own (pu_slice tf p (e - p))).map pu_low).take (j + 1))) (Q := pu_small (((pu_own (pu_slice tf p (e - p))).map pu_low).take j)) ⟨fun z => ((pf_small_snoc (by omega)).mp z).1, fun z => (pf_small_snoc (by omega)).mpr ⟨z, by omega⟩⟩]) ?_
            exact ih (j + 1) _ ⟨by omega, by omega, fun i hi => by
              rcases Nat.lt_or_ge i j with h | h
              · rw [pk_un (by omega), q3 i h]
              · have hij : i = j := by omega
                subst hij
                rw [pk_us], fun i h1 h2 => by rw [pk_un (by omega), q4 i (by omega) h2]⟩
          · skip
            refine sv_iconst C (v := 0) (by decide) d_M_token_aIII_193 ?_
            refine sv_istore C (by decide) [some _, some _, some _, some _, some _, some _, some _, none, none, none] rfl d_M_token_aIII_194 ?_
            refine sv_iincN C 1 _ rfl [some _, some _, some _, some _, some _, some _, some _, none, none, none] rfl d_M_token_aIII_196 ?_
            refine sv_goto C 143 (by decide) d_M_token_aIII_199 ?_
            refine sv_lvE (lv' := [some (.ref (ad 0)), some (.ref (ad 2)), some (.int (nI p)), some (.int (nI e)), some (.int (nI (wd))), some (.int (if pu_small (((pu_own (pu_slice tf p (e - p))).map pu_low).take (j + 1)) then 1 else 0)), some (.int (nI (j + 1))), none, none, none]) (by rw [if_neg (fun z => absurd ((pf_small_snoc (by omega)).mp z).2 (by omega))]) ?_
            exact ih (j + 1) _ ⟨by omega, by omega, fun i hi => by
              rcases Nat.lt_or_ge i j with h | h
              · rw [pk_un (by omega), q3 i h]
              · have hij : i = j := by omega
                subst hij
                rw [pk_us], fun i h1 h2 => by rw [pk_un (by omega), q4 i (by omega) h2]⟩
  have j137 : ∀ (f2 : Nat → Int32), pr_W f2 (pu_own (pu_slice tf p (e - p))) → sv_V X 10 0 0 ((ad 0, .inr (7, [.ref (ad 7), .ref (ad 8), .ref (ad 9), .ref (ad 10), .ref (ad 1), .int inl, .int th, .ref (ad 2), .int cm, .ref (ad 3), .ref (ad 4), .ref (ad 5), .int (nI T.length), .int (nI (wd + 1)), .ref (ad 6), .int (nI (pu_own (pu_slice tf p (e - p))).length)])) :: (ad 1, .inl (g.2.1 1, 8192, .inl b)) :: (ad 2, .inl (g.2.1 0, 8192, .inl tf)) :: (ad 3, .inl (g.2.1 0, 8704, .inl ch0)) :: (ad 4, .inl (g.2.1 0, 8193, .inl st0)) :: (ad 5, .inl (g.2.1 0, 8192, .inl po0)) :: (ad 6, .inl (g.2.1 0, 260, .inl f2)) :: rest) 137 [some (.ref (ad 0)), some (.ref (ad 2)), some (.int (nI p)), some (.int (nI e)), some (.int (nI (wd))), none, none, none, none, none] [] := by
    intro f2 hf2
    refine sv_iconst C (v := 1) (by decide) d_M_token_aIII_137 ?_
    refine sv_istore C (by decide) [some _, some _, some _, some _, some _, some _, none, none, none, none] rfl d_M_token_aIII_138 ?_
    refine sv_iconst C (v := 0) (by decide) d_M_token_aIII_140 ?_
    refine sv_istore C (by decide) [some _, some _, some _, some _, some _, some _, some _, none, none, none] rfl d_M_token_aIII_141 ?_
    refine sv_lvE (lv' := [some (.ref (ad 0)), some (.ref (ad 2)), some (.int (nI p)), some (.int (nI e)), some (.int (nI (wd))), some (.int (if pu_small (((pu_own (pu_slice tf p (e - p))).map pu_low).take 0) then 1 else 0)), some (.int (nI (0))), none, none, none]) (by rw [if_pos (by rw [List.take_zero]; exact fun c hc => absurd hc List.not_mem_nil)]; rfl) ?_
    exact L143 (pu_own (pu_slice tf p (e - p))).length 0 f2 ⟨by omega, by omega, fun i hi => absurd hi (Nat.not_lt_zero i), fun i _ hi => hf2 i hi⟩
  have L10 : ∀ (k : Nat) (j : Nat) (f2 : Nat → Int32), (j ≤ (pu_slice tf p (e - p)).length ∧ (pu_slice tf p (e - p)).length ≤ j + k ∧ ∀ i, i < j → f2 i = tf (p + i)) → sv_V X 10 0 0 ((ad 0, .inr (7, [.ref (ad 7), .ref (ad 8), .ref (ad 9), .ref (ad 10), .ref (ad 1), .int inl, .int th, .ref (ad 2), .int cm, .ref (ad 3), .ref (ad 4), .ref (ad 5), .int (nI T.length), .int (nI wd), .ref (ad 6), .int (nI (pu_slice tf p (e - p)).length)])) :: (ad 1, .inl (g.2.1 1, 8192, .inl b)) :: (ad 2, .inl (g.2.1 0, 8192, .inl tf)) :: (ad 3, .inl (g.2.1 0, 8704, .inl ch0)) :: (ad 4, .inl (g.2.1 0, 8193, .inl st0)) :: (ad 5, .inl (g.2.1 0, 8192, .inl po0)) :: (ad 6, .inl (g.2.1 0, 260, .inl f2)) :: rest) 10 [some (.ref (ad 0)), some (.ref (ad 2)), some (.int (nI p)), some (.int (nI e)), some (.int (nI (j))), none, none, none, none, none] [] := by
    intro k
    induction k with
    | zero =>
      intro j f2 hq
      obtain ⟨q1, q2, q3⟩ := hq
      refine sv_iload C rfl d_M_token_aIII_10 ?_
      refine sv_aload_n C rfl rfl d_M_token_aIII_12 ?_
      refine sv_get C fg_M_254 0 rfl rfl d_M_token_aIII_13 ?_
      refine sv_icmpN_ge C _ _ (by omega) (by omega) 38 (by decide) d_M_token_aIII_16 (fun c16 => ?_) (fun c16 => ?_)
      · skip
        have hfL : pr_W f2 (pu_slice tf p (e - p)) := pr_slice (fun i hi => q3 i (by omega))
        refine sv_aload_n C rfl rfl d_M_token_aIII_38 ?_
        refine sv_get C fg_M_237 0 rfl rfl d_M_token_aIII_39 ?_
        refine sv_istore C (by decide) [some _, some _, some _, some _, some _, none, none, none, none, none] rfl d_M_token_aIII_42 ?_
        refine sv_aload_n C rfl rfl d_M_token_aIII_44 ?_
        refine sv_dup C rfl d_M_token_aIII_45 ?_
        refine sv_get C fg_M_237 0 rfl rfl d_M_token_aIII_46 ?_
        refine sv_iconst C (v := 1) (by decide) d_M_token_aIII_49 ?_
        refine sv_iaddN C _ 1  d_M_token_aIII_50 ?_
        refine sv_put C fp_M_237 0 rfl rfl rfl (Nat.le_of_ble_eq_true rfl) ((_, .inr (_, [_, _, _, _, _, _, _, _, _, _, _, _, _, _, _, _])) :: _ :: _ :: _ :: _ :: _ :: _ :: _) rfl d_M_token_aIII_51 ?_
        refine sv_aload_n C rfl rfl d_M_token_aIII_54 ?_
        refine sv_get C fg_M_254 0 rfl rfl d_M_token_aIII_55 ?_
        refine sv_iconst C (v := 2) (by decide) d_M_token_aIII_58 ?_
        refine sv_icmpN_le C _ 2 (by omega) (by omega) 137 (by decide) d_M_token_aIII_59 (fun c59 => ?_) (fun c59 => ?_)
        · skip
          refine sv_wsE (ws' := ((ad 0, .inr (7, [.ref (ad 7), .ref (ad 8), .ref (ad 9), .ref (ad 10), .ref (ad 1), .int inl, .int th, .ref (ad 2), .int cm, .ref (ad 3), .ref (ad 4), .ref (ad 5), .int (nI T.length), .int (nI (wd + 1)), .ref (ad 6), .int (nI (pu_own (pu_slice tf p (e - p))).length)])) :: (ad 1, .inl (g.2.1 1, 8192, .inl b)) :: (ad 2, .inl (g.2.1 0, 8192, .inl tf)) :: (ad 3, .inl (g.2.1 0, 8704, .inl ch0)) :: (ad 4, .inl (g.2.1 0, 8193, .inl st0)) :: (ad 5, .inl (g.2.1 0, 8192, .inl po0)) :: (ad 6, .inl (g.2.1 0, 260, .inl f2)) :: rest)) (by rw [show (pu_own (pu_slice tf p (e - p))) = (pu_slice tf p (e - p)) from if_neg (fun z => absurd z.1 (by omega))]) ?_
          exact j137 f2 (pr_own hfL)
        · skip
          refine sv_aload_n C rfl rfl d_M_token_aIII_62 ?_
          refine sv_get C fg_M_207 0 rfl rfl d_M_token_aIII_63 ?_
          refine sv_aload_n C rfl rfl d_M_token_aIII_66 ?_
          refine sv_get C fg_M_254 0 rfl rfl d_M_token_aIII_67 ?_
          refine sv_iconst C (v := 1) (by decide) d_M_token_aIII_70 ?_
          refine sv_isubN C _ 1 (by omega) d_M_token_aIII_71 ?_
          refine sv_ialdN C _ 6 rfl (by omega) (by decide) d_M_token_aIII_72 ?_
          refine sv_eqi (hfL ((pu_slice tf p (e - p)).length - 1) (by omega)) ?_
          refine sv_bipush C (v := 115) (by decide) d_M_token_aIII_73 ?_
          refine sv_icmp_eq C 94 (by decide) d_M_token_aIII_75 (fun c75 => ?_) (fun c75 => ?_)
          · skip
            refine sv_aload_n C rfl rfl d_M_token_aIII_94 ?_
            refine sv_get C fg_M_207 0 rfl rfl d_M_token_aIII_95 ?_
            refine sv_aload_n C rfl rfl d_M_token_aIII_98 ?_
            refine sv_get C fg_M_254 0 rfl rfl d_M_token_aIII_99 ?_
            refine sv_iconst C (v := 2) (by decide) d_M_token_aIII_102 ?_
            refine sv_isubN C _ 2 (by omega) d_M_token_aIII_103 ?_
            refine sv_ialdN C _ 6 rfl (by omega) (by decide) d_M_token_aIII_104 ?_
            refine sv_eqi (hfL ((pu_slice tf p (e - p)).length - 2) (by omega)) ?_
            refine sv_bipush C (v := 39) (by decide) d_M_token_aIII_105 ?_
            refine sv_icmp_eq C 127 (by decide) d_M_token_aIII_107 (fun c107 => ?_) (fun c107 => ?_)
            · skip
              refine sv_aload_n C rfl rfl d_M_token_aIII_127 ?_
              refine sv_dup C rfl d_M_token_aIII_128 ?_
              refine sv_get C fg_M_254 0 rfl rfl d_M_token_aIII_129 ?_
              refine sv_iconst C (v := 2) (by decide) d_M_token_aIII_132 ?_
              refine sv_isubN C _ 2 (by omega) d_M_token_aIII_133 ?_
              refine sv_put C fp_M_254 0 rfl rfl rfl (Nat.le_of_ble_eq_true rfl) ((_, .inr (_, [_, _, _, _, _, _, _, _, _, _, _, _, _, _, _, _])) :: _ :: _ :: _ :: _ :: _ :: _ :: _) rfl d_M_token_aIII_134 ?_
              refine sv_wsE (ws' := ((ad 0, .inr (7, [.ref (ad 7), .ref (ad 8), .ref (ad 9), .ref (ad 10), .ref (ad 1), .int inl, .int th, .ref (ad 2), .int cm, .ref (ad 3), .ref (ad 4), .ref (ad 5), .int (nI T.length), .int (nI (wd + 1)), .ref (ad 6), .int (nI (pu_own (pu_slice tf p (e - p))).length)])) :: (ad 1, .inl (g.2.1 1, 8192, .inl b)) :: (ad 2, .inl (g.2.1 0, 8192, .inl tf)) :: (ad 3, .inl (g.2.1 0, 8704, .inl ch0)) :: (ad 4, .inl (g.2.1 0, 8193, .inl st0)) :: (ad 5, .inl (g.2.1 0, 8192, .inl po0)) :: (ad 6, .inl (g.2.1 0, 260, .inl f2)) :: rest)) (by rw [show (pu_own (pu_slice tf p (e - p))) = ((pu_slice tf p (e - p)).take ((pu_slice tf p (e - p)).length - 2)) from if_pos ⟨by omega, Or.inl c107, Or.inl c75⟩, ← pu_tlen (by omega)]) ?_
              exact j137 f2 (pr_own hfL)
            · skip
              refine sv_aload_n C rfl rfl d_M_token_aIII_110 ?_
              refine sv_get C fg_M_207 0 rfl rfl d_M_token_aIII_111 ?_
              refine sv_aload_n C rfl rfl d_M_token_aIII_114 ?_
              refine sv_get C fg_M_254 0 rfl rfl d_M_token_aIII_115 ?_
              refine sv_iconst C (v := 2) (by decide) d_M_token_aIII_118 ?_
              refine sv_isubN C _ 2 (by omega) d_M_token_aIII_119 ?_
              refine sv_ialdN C _ 6 rfl (by omega) (by decide) d_M_token_aIII_120 ?_
              refine sv_eqi (hfL ((pu_slice tf p (e - p)).length - 2) (by omega)) ?_
              refine sv_sipush C (v := 8217) (by decide) d_M_token_aIII_121 ?_
              refine sv_icmp_ne C 137 (by decide) d_M_token_aIII_124 (fun c124 => ?_) (fun c124 => ?_)
              · skip
                refine sv_wsE (ws' := ((ad 0, .inr (7, [.ref (ad 7), .ref (ad 8), .ref (ad 9), .ref (ad 10), .ref (ad 1), .int inl, .int th, .ref (ad 2), .int cm, .ref (ad 3), .ref (ad 4), .ref (ad 5), .int (nI T.length), .int (nI (wd + 1)), .ref (ad 6), .int (nI (pu_own (pu_slice tf p (e - p))).length)])) :: (ad 1, .inl (g.2.1 1, 8192, .inl b)) :: (ad 2, .inl (g.2.1 0, 8192, .inl tf)) :: (ad 3, .inl (g.2.1 0, 8704, .inl ch0)) :: (ad 4, .inl (g.2.1 0, 8193, .inl st0)) :: (ad 5, .inl (g.2.1 0, 8192, .inl po0)) :: (ad 6, .inl (g.2.1 0, 260, .inl f2)) :: rest)) (by rw [show (pu_own (pu_slice tf p (e - p))) = (pu_slice tf p (e - p)) from if_neg (fun z => z.2.1.elim c107 c124)]) ?_
                exact j137 f2 (pr_own hfL)
              · skip
                refine sv_aload_n C rfl rfl d_M_token_aIII_127 ?_
                refine sv_dup C rfl d_M_token_aIII_128 ?_
                refine sv_get C fg_M_254 0 rfl rfl d_M_token_aIII_129 ?_
                refine sv_iconst C (v := 2) (by decide) d_M_token_aIII_132 ?_
                refine sv_isubN C _ 2 (by omega) d_M_token_aIII_133 ?_
                refine sv_put C fp_M_254 0 rfl rfl rfl (Nat.le_of_ble_eq_true rfl) ((_, .inr (_, [_, _, _, _, _, _, _, _, _, _, _, _, _, _, _, _])) :: _ :: _ :: _ :: _ :: _ :: _ :: _) rfl d_M_token_aIII_134 ?_
                refine sv_wsE (ws' := ((ad 0, .inr (7, [.ref (ad 7), .ref (ad 8), .ref (ad 9), .ref (ad 10), .ref (ad 1), .int inl, .int th, .ref (ad 2), .int cm, .ref (ad 3), .ref (ad 4), .ref (ad 5), .int (nI T.length), .int (nI (wd + 1)), .ref (ad 6), .int (nI (pu_own (pu_slice tf p (e - p))).length)])) :: (ad 1, .inl (g.2.1 1, 8192, .inl b)) :: (ad 2, .inl (g.2.1 0, 8192, .inl tf)) :: (ad 3, .inl (g.2.1 0, 8704, .inl ch0)) :: (ad 4, .inl (g.2.1 0, 8193, .inl st0)) :: (ad 5, .inl (g.2.1 0, 8192, .inl po0)) :: (ad 6, .inl (g.2.1 0, 260, .inl f2)) :: rest)) (by rw [show (pu_own (pu_slice tf p (e - p))) = ((pu_slice tf p (e - p)).take ((pu_slice tf p (e - p)).length - 2)) from if_pos ⟨by omega, Or.inr c124, Or.inl c75⟩, ← pu_tlen (by omega)]) ?_
                exact j137 f2 (pr_own hfL)
          · skip
            refine sv_aload_n C rfl rfl d_M_token_aIII_78 ?_
            refine sv_get C fg_M_207 0 rfl rfl d_M_token_aIII_79 ?_
            refine sv_aload_n C rfl rfl d_M_token_aIII_82 ?_
            refine sv_get C fg_M_254 0 rfl rfl d_M_token_aIII_83 ?_
            refine sv_iconst C (v := 1) (by decide) d_M_token_aIII_86 ?_
            refine sv_isubN C _ 1 (by omega) d_M_token_aIII_87 ?_
            refine sv_ialdN C _ 6 rfl (by omega) (by decide) d_M_token_aIII_88 ?_
            refine sv_eqi (hfL ((pu_slice tf p (e - p)).length - 1) (by omega)) ?_
            refine sv_bipush C (v := 83) (by decide) d_M_token_aIII_89 ?_
            refine sv_icmp_ne C 137 (by decide) d_M_token_aIII_91 (fun c91 => ?_) (fun c91 => ?_)
            · skip
              refine sv_wsE (ws' := ((ad 0, .inr (7, [.ref (ad 7), .ref (ad 8), .ref (ad 9), .ref (ad 10), .ref (ad 1), .int inl, .int th, .ref (ad 2), .int cm, .ref (ad 3), .ref (ad 4), .ref (ad 5), .int (nI T.length), .int (nI (wd + 1)), .ref (ad 6), .int (nI (pu_own (pu_slice tf p (e - p))).length)])) :: (ad 1, .inl (g.2.1 1, 8192, .inl b)) :: (ad 2, .inl (g.2.1 0, 8192, .inl tf)) :: (ad 3, .inl (g.2.1 0, 8704, .inl ch0)) :: (ad 4, .inl (g.2.1 0, 8193, .inl st0)) :: (ad 5, .inl (g.2.1 0, 8192, .inl po0)) :: (ad 6, .inl (g.2.1 0, 260, .inl f2)) :: rest)) (by rw [show (pu_own (pu_slice tf p (e - p))) = (pu_slice tf p (e - p)) from if_neg (fun z => z.2.2.elim c75 c91)]) ?_
              exact j137 f2 (pr_own hfL)
            · skip
              refine sv_aload_n C rfl rfl d_M_token_aIII_94 ?_
              refine sv_get C fg_M_207 0 rfl rfl d_M_token_aIII_95 ?_
              refine sv_aload_n C rfl rfl d_M_token_aIII_98 ?_
              refine sv_get C fg_M_254 0 rfl rfl d_M_token_aIII_99 ?_
              refine sv_iconst C (v := 2) (by decide) d_M_token_aIII_102 ?_
              refine sv_isubN C _ 2 (by omega) d_M_token_aIII_103 ?_
              refine sv_ialdN C _ 6 rfl (by omega) (by decide) d_M_token_aIII_104 ?_
              refine sv_eqi (hfL ((pu_slice tf p (e - p)).length - 2) (by omega)) ?_
              refine sv_bipush C (v := 39) (by decide) d_M_token_aIII_105 ?_
              refine sv_icmp_eq C 127 (by decide) d_M_token_aIII_107 (fun c107 => ?_) (fun c107 => ?_)
              · skip
                refine sv_aload_n C rfl rfl d_M_token_aIII_127 ?_
                refine sv_dup C rfl d_M_token_aIII_128 ?_
                refine sv_get C fg_M_254 0 rfl rfl d_M_token_aIII_129 ?_
                refine sv_iconst C (v := 2) (by decide) d_M_token_aIII_132 ?_
                refine sv_isubN C _ 2 (by omega) d_M_token_aIII_133 ?_
                refine sv_put C fp_M_254 0 rfl rfl rfl (Nat.le_of_ble_eq_true rfl) ((_, .inr (_, [_, _, _, _, _, _, _, _, _, _, _, _, _, _, _, _])) :: _ :: _ :: _ :: _ :: _ :: _ :: _) rfl d_M_token_aIII_134 ?_
                refine sv_wsE (ws' := ((ad 0, .inr (7, [.ref (ad 7), .ref (ad 8), .ref (ad 9), .ref (ad 10), .ref (ad 1), .int inl, .int th, .ref (ad 2), .int cm, .ref (ad 3), .ref (ad 4), .ref (ad 5), .int (nI T.length), .int (nI (wd + 1)), .ref (ad 6), .int (nI (pu_own (pu_slice tf p (e - p))).length)])) :: (ad 1, .inl (g.2.1 1, 8192, .inl b)) :: (ad 2, .inl (g.2.1 0, 8192, .inl tf)) :: (ad 3, .inl (g.2.1 0, 8704, .inl ch0)) :: (ad 4, .inl (g.2.1 0, 8193, .inl st0)) :: (ad 5, .inl (g.2.1 0, 8192, .inl po0)) :: (ad 6, .inl (g.2.1 0, 260, .inl f2)) :: rest)) (by rw [show (pu_own (pu_slice tf p (e - p))) = ((pu_slice tf p (e - p)).take ((pu_slice tf p (e - p)).length - 2)) from if_pos ⟨by omega, Or.inl c107, Or.inr c91⟩, ← pu_tlen (by omega)]) ?_
                exact j137 f2 (pr_own hfL)
              · skip
                refine sv_aload_n C rfl rfl d_M_token_aIII_110 ?_
                refine sv_get C fg_M_207 0 rfl rfl d_M_token_aIII_111 ?_
                refine sv_aload_n C rfl rfl d_M_token_aIII_114 ?_
                refine sv_get C fg_M_254 0 rfl rfl d_M_token_aIII_115 ?_
                refine sv_iconst C (v := 2) (by decide) d_M_token_aIII_118 ?_
                refine sv_isubN C _ 2 (by omega) d_M_token_aIII_119 ?_
                refine sv_ialdN C _ 6 rfl (by omega) (by decide) d_M_token_aIII_120 ?_
                refine sv_eqi (hfL ((pu_slice tf p (e - p)).length - 2) (by omega)) ?_
                refine sv_sipush C (v := 8217) (by decide) d_M_token_aIII_121 ?_
                refine sv_icmp_ne C 137 (by decide) d_M_token_aIII_124 (fun c124 => ?_) (fun c124 => ?_)
                · skip
                  refine sv_wsE (ws' := ((ad 0, .inr (7, [.ref (ad 7), .ref (ad 8), .ref (ad 9), .ref (ad 10), .ref (ad 1), .int inl, .int th, .ref (ad 2), .int cm, .ref (ad 3), .ref (ad 4), .ref (ad 5), .int (nI T.length), .int (nI (wd + 1)), .ref (ad 6), .int (nI (pu_own (pu_slice tf p (e - p))).length)])) :: (ad 1, .inl (g.2.1 1, 8192, .inl b)) :: (ad 2, .inl (g.2.1 0, 8192, .inl tf)) :: (ad 3, .inl (g.2.1 0, 8704, .inl ch0)) :: (ad 4, .inl (g.2.1 0, 8193, .inl st0)) :: (ad 5, .inl (g.2.1 0, 8192, .inl po0)) :: (ad 6, .inl (g.2.1 0, 260, .inl f2)) :: rest)) (by rw [show (pu_own (pu_slice tf p (e - p))) = (pu_slice tf p (e - p)) from if_neg (fun z => z.2.1.elim c107 c124)]) ?_
                  exact j137 f2 (pr_own hfL)
                · skip
                  refine sv_aload_n C rfl rfl d_M_token_aIII_127 ?_
                  refine sv_dup C rfl d_M_token_aIII_128 ?_
                  refine sv_get C fg_M_254 0 rfl rfl d_M_token_aIII_129 ?_
                  refine sv_iconst C (v := 2) (by decide) d_M_token_aIII_132 ?_
                  refine sv_isubN C _ 2 (by omega) d_M_token_aIII_133 ?_
                  refine sv_put C fp_M_254 0 rfl rfl rfl (Nat.le_of_ble_eq_true rfl) ((_, .inr (_, [_, _, _, _, _, _, _, _, _, _, _, _, _, _, _, _])) :: _ :: _ :: _ :: _ :: _ :: _ :: _) rfl d_M_token_aIII_134 ?_
                  refine sv_wsE (ws' := ((ad 0, .inr (7, [.ref (ad 7), .ref (ad 8), .ref (ad 9), .ref (ad 10), .ref (ad 1), .int inl, .int th, .ref (ad 2), .int cm, .ref (ad 3), .ref (ad 4), .ref (ad 5), .int (nI T.length), .int (nI (wd + 1)), .ref (ad 6), .int (nI (pu_own (pu_slice tf p (e - p))).length)])) :: (ad 1, .inl (g.2.1 1, 8192, .inl b)) :: (ad 2, .inl (g.2.1 0, 8192, .inl tf)) :: (ad 3, .inl (g.2.1 0, 8704, .inl ch0)) :: (ad 4, .inl (g.2.1 0, 8193, .inl st0)) :: (ad 5, .inl (g.2.1 0, 8192, .inl po0)) :: (ad 6, .inl (g.2.1 0, 260, .inl f2)) :: rest)) (by rw [show (pu_own (pu_slice tf p (e - p))) = ((pu_slice tf p (e - p)).take ((pu_slice tf p (e - p)).length - 2)) from if_pos ⟨by omega, Or.inr c124, Or.inr c91⟩, ← pu_tlen (by omega)]) ?_
                  exact j137 f2 (pr_own hfL)
      · skip
        exact absurd c16 (by omega)
    | succ k ih =>
      intro j f2 hq
      obtain ⟨q1, q2, q3⟩ := hq
      refine sv_iload C rfl d_M_token_aIII_10 ?_
      refine sv_aload_n C rfl rfl d_M_token_aIII_12 ?_
      refine sv_get C fg_M_254 0 rfl rfl d_M_token_aIII_13 ?_
      refine sv_icmpN_ge C _ _ (by omega) (by omega) 38 (by decide) d_M_token_aIII_16 (fun c16 => ?_) (fun c16 => ?_)
      · skip
        have hfL : pr_W f2 (pu_slice tf p (e - p)) := pr_slice (fun i hi => q3 i (by omega))
        refine sv_aload_n C rfl rfl d_M_token_aIII_38 ?_
        refine sv_get C fg_M_237 0 rfl rfl d_M_token_aIII_39 ?_
        refine sv_istore C (by decide) [some _, some _, some _, some _, some _, none, none, none, none, none] rfl d_M_token_aIII_42 ?_
        refine sv_aload_n C rfl rfl d_M_token_aIII_44 ?_
        refine sv_dup C rfl d_M_token_aIII_45 ?_
        refine sv_get C fg_M_237 0 rfl rfl d_M_token_aIII_46 ?_
        refine sv_iconst C (v := 1) (by decide) d_M_token_aIII_49 ?_
        refine sv_iaddN C _ 1  d_M_token_aIII_50 ?_
        refine sv_put C fp_M_237 0 rfl rfl rfl (Nat.le_of_ble_eq_true rfl) ((_, .inr (_, [_, _, _, _, _, _, _, _, _, _, _, _, _, _, _, _])) :: _ :: _ :: _ :: _ :: _ :: _ :: _) rfl d_M_token_aIII_51 ?_
        refine sv_aload_n C rfl rfl d_M_token_aIII_54 ?_
        refine sv_get C fg_M_254 0 rfl rfl d_M_token_aIII_55 ?_
        refine sv_iconst C (v := 2) (by decide) d_M_token_aIII_58 ?_
        refine sv_icmpN_le C _ 2 (by omega) (by omega) 137 (by decide) d_M_token_aIII_59 (fun c59 => ?_) (fun c59 => ?_)
        · skip
          refine sv_wsE (ws' := ((ad 0, .inr (7, [.ref (ad 7), .ref (ad 8), .ref (ad 9), .ref (ad 10), .ref (ad 1), .int inl, .int th, .ref (ad 2), .int cm, .ref (ad 3), .ref (ad 4), .ref (ad 5), .int (nI T.length), .int (nI (wd + 1)), .ref (ad 6), .int (nI (pu_own (pu_slice tf p (e - p))).length)])) :: (ad 1, .inl (g.2.1 1, 8192, .inl b)) :: (ad 2, .inl (g.2.1 0, 8192, .inl tf)) :: (ad 3, .inl (g.2.1 0, 8704, .inl ch0)) :: (ad 4, .inl (g.2.1 0, 8193, .inl st0)) :: (ad 5, .inl (g.2.1 0, 8192, .inl po0)) :: (ad 6, .inl (g.2.1 0, 260, .inl f2)) :: rest)) (by rw [show (pu_own (pu_slice tf p (e - p))) = (pu_slice tf p (e - p)) from if_neg (fun z => absurd z.1 (by omega))]) ?_
          exact j137 f2 (pr_own hfL)
        · skip
          refine sv_aload_n C rfl rfl d_M_token_aIII_62 ?_
          refine sv_get C fg_M_207 0 rfl rfl d_M_token_aIII_63 ?_
          refine sv_aload_n C rfl rfl d_M_token_aIII_66 ?_
          refine sv_get C fg_M_254 0 rfl rfl d_M_token_aIII_67 ?_
          refine sv_iconst C (v := 1) (by decide) d_M_token_aIII_70 ?_
          refine sv_isubN C _ 1 (by omega) d_M_token_aIII_71 ?_
          refine sv_ialdN C _ 6 rfl (by omega) (by decide) d_M_token_aIII_72 ?_
          refine sv_eqi (hfL ((pu_slice tf p (e - p)).length - 1) (by omega)) ?_
          refine sv_bipush C (v := 115) (by decide) d_M_token_aIII_73 ?_
          refine sv_icmp_eq C 94 (by decide) d_M_token_aIII_75 (fun c75 => ?_) (fun c75 => ?_)
          · skip
            refine sv_aload_n C rfl rfl d_M_token_aIII_94 ?_
            refine sv_get C fg_M_207 0 rfl rfl d_M_token_aIII_95 ?_
            refine sv_aload_n C rfl rfl d_M_token_aIII_98 ?_
            refine sv_get C fg_M_254 0 rfl rfl d_M_token_aIII_99 ?_
            refine sv_iconst C (v := 2) (by decide) d_M_token_aIII_102 ?_
            refine sv_isubN C _ 2 (by omega) d_M_token_aIII_103 ?_
            refine sv_ialdN C _ 6 rfl (by omega) (by decide) d_M_token_aIII_104 ?_
            refine sv_eqi (hfL ((pu_slice tf p (e - p)).length - 2) (by omega)) ?_
            refine sv_bipush C (v := 39) (by decide) d_M_token_aIII_105 ?_
            refine sv_icmp_eq C 127 (by decide) d_M_token_aIII_107 (fun c107 => ?_) (fun c107 => ?_)
            · skip
              refine sv_aload_n C rfl rfl d_M_token_aIII_127 ?_
              refine sv_dup C rfl d_M_token_aIII_128 ?_
              refine sv_get C fg_M_254 0 rfl rfl d_M_token_aIII_129 ?_
              refine sv_iconst C (v := 2) (by decide) d_M_token_aIII_132 ?_
              refine sv_isubN C _ 2 (by omega) d_M_token_aIII_133 ?_
              refine sv_put C fp_M_254 0 rfl rfl rfl (Nat.le_of_ble_eq_true rfl) ((_, .inr (_, [_, _, _, _, _, _, _, _, _, _, _, _, _, _, _, _])) :: _ :: _ :: _ :: _ :: _ :: _ :: _) rfl d_M_token_aIII_134 ?_
              refine sv_wsE (ws' := ((ad 0, .inr (7, [.ref (ad 7), .ref (ad 8), .ref (ad 9), .ref (ad 10), .ref (ad 1), .int inl, .int th, .ref (ad 2), .int cm, .ref (ad 3), .ref (ad 4), .ref (ad 5), .int (nI T.length), .int (nI (wd + 1)), .ref (ad 6), .int (nI (pu_own (pu_slice tf p (e - p))).length)])) :: (ad 1, .inl (g.2.1 1, 8192, .inl b)) :: (ad 2, .inl (g.2.1 0, 8192, .inl tf)) :: (ad 3, .inl (g.2.1 0, 8704, .inl ch0)) :: (ad 4, .inl (g.2.1 0, 8193, .inl st0)) :: (ad 5, .inl (g.2.1 0, 8192, .inl po0)) :: (ad 6, .inl (g.2.1 0, 260, .inl f2)) :: rest)) (by rw [show (pu_own (pu_slice tf p (e - p))) = ((pu_slice tf p (e - p)).take ((pu_slice tf p (e - p)).length - 2)) from if_pos ⟨by omega, Or.inl c107, Or.inl c75⟩, ← pu_tlen (by omega)]) ?_
              exact j137 f2 (pr_own hfL)
            · skip
              refine sv_aload_n C rfl rfl d_M_token_aIII_110 ?_
              refine sv_get C fg_M_207 0 rfl rfl d_M_token_aIII_111 ?_
              refine sv_aload_n C rfl rfl d_M_token_aIII_114 ?_
              refine sv_get C fg_M_254 0 rfl rfl d_M_token_aIII_115 ?_
              refine sv_iconst C (v := 2) (by decide) d_M_token_aIII_118 ?_
              refine sv_isubN C _ 2 (by omega) d_M_token_aIII_119 ?_
              refine sv_ialdN C _ 6 rfl (by omega) (by decide) d_M_token_aIII_120 ?_
              refine sv_eqi (hfL ((pu_slice tf p (e - p)).length - 2) (by omega)) ?_
              refine sv_sipush C (v := 8217) (by decide) d_M_token_aIII_121 ?_
              refine sv_icmp_ne C 137 (by decide) d_M_token_aIII_124 (fun c124 => ?_) (fun c124 => ?_)
              · skip
                refine sv_wsE (ws' := ((ad 0, .inr (7, [.ref (ad 7), .ref (ad 8), .ref (ad 9), .ref (ad 10), .ref (ad 1), .int inl, .int th, .ref (ad 2), .int cm, .ref (ad 3), .ref (ad 4), .ref (ad 5), .int (nI T.length), .int (nI (wd + 1)), .ref (ad 6), .int (nI (pu_own (pu_slice tf p (e - p))).length)])) :: (ad 1, .inl (g.2.1 1, 8192, .inl b)) :: (ad 2, .inl (g.2.1 0, 8192, .inl tf)) :: (ad 3, .inl (g.2.1 0, 8704, .inl ch0)) :: (ad 4, .inl (g.2.1 0, 8193, .inl st0)) :: (ad 5, .inl (g.2.1 0, 8192, .inl po0)) :: (ad 6, .inl (g.2.1 0, 260, .inl f2)) :: rest)) (by rw [show (pu_own (pu_slice tf p (e - p))) = (pu_slice tf p (e - p)) from if_neg (fun z => z.2.1.elim c107 c124)]) ?_
                exact j137 f2 (pr_own hfL)
              · skip
                refine sv_aload_n C rfl rfl d_M_token_aIII_127 ?_
                refine sv_dup C rfl d_M_token_aIII_128 ?_
                refine sv_get C fg_M_254 0 rfl rfl d_M_token_aIII_129 ?_
                refine sv_iconst C (v := 2) (by decide) d_M_token_aIII_132 ?_
                refine sv_isubN C _ 2 (by omega) d_M_token_aIII_133 ?_
                refine sv_put C fp_M_254 0 rfl rfl rfl (Nat.le_of_ble_eq_true rfl) ((_, .inr (_, [_, _, _, _, _, _, _, _, _, _, _, _, _, _, _, _])) :: _ :: _ :: _ :: _ :: _ :: _ :: _) rfl d_M_token_aIII_134 ?_
                refine sv_wsE (ws' := ((ad 0, .inr (7, [.ref (ad 7), .ref (ad 8), .ref (ad 9), .ref (ad 10), .ref (ad 1), .int inl, .int th, .ref (ad 2), .int cm, .ref (ad 3), .ref (ad 4), .ref (ad 5), .int (nI T.length), .int (nI (wd + 1)), .ref (ad 6), .int (nI (pu_own (pu_slice tf p (e - p))).length)])) :: (ad 1, .inl (g.2.1 1, 8192, .inl b)) :: (ad 2, .inl (g.2.1 0, 8192, .inl tf)) :: (ad 3, .inl (g.2.1 0, 8704, .inl ch0)) :: (ad 4, .inl (g.2.1 0, 8193, .inl st0)) :: (ad 5, .inl (g.2.1 0, 8192, .inl po0)) :: (ad 6, .inl (g.2.1 0, 260, .inl f2)) :: rest)) (by rw [show (pu_own (pu_slice tf p (e - p))) = ((pu_slice tf p (e - p)).take ((pu_slice tf p (e - p)).length - 2)) from if_pos ⟨by omega, Or.inr c124, Or.inl c75⟩, ← pu_tlen (by omega)]) ?_
                exact j137 f2 (pr_own hfL)
          · skip
            refine sv_aload_n C rfl rfl d_M_token_aIII_78 ?_
            refine sv_get C fg_M_207 0 rfl rfl d_M_token_aIII_79 ?_
            refine sv_aload_n C rfl rfl d_M_token_aIII_82 ?_
            refine sv_get C fg_M_254 0 rfl rfl d_M_token_aIII_83 ?_
            refine sv_iconst C (v := 1) (by decide) d_M_token_aIII_86 ?_
            refine sv_isubN C _ 1 (by omega) d_M_token_aIII_87 ?_
            refine sv_ialdN C _ 6 rfl (by omega) (by decide) d_M_token_aIII_88 ?_
            refine sv_eqi (hfL ((pu_slice tf p (e - p)).length - 1) (by omega)) ?_
            refine sv_bipush C (v := 83) (by decide) d_M_token_aIII_89 ?_
            refine sv_icmp_ne C 137 (by decide) d_M_token_aIII_91 (fun c91 => ?_) (fun c91 => ?_)
            · skip
              refine sv_wsE (ws' := ((ad 0, .inr (7, [.ref (ad 7), .ref (ad 8), .ref (ad 9), .ref (ad 10), .ref (ad 1), .int inl, .int th, .ref (ad 2), .int cm, .ref (ad 3), .ref (ad 4), .ref (ad 5), .int (nI T.length), .int (nI (wd + 1)), .ref (ad 6), .int (nI (pu_own (pu_slice tf p (e - p))).length)])) :: (ad 1, .inl (g.2.1 1, 8192, .inl b)) :: (ad 2, .inl (g.2.1 0, 8192, .inl tf)) :: (ad 3, .inl (g.2.1 0, 8704, .inl ch0)) :: (ad 4, .inl (g.2.1 0, 8193, .inl st0)) :: (ad 5, .inl (g.2.1 0, 8192, .inl po0)) :: (ad 6, .inl (g.2.1 0, 260, .inl f2)) :: rest)) (by rw [show (pu_own (pu_slice tf p (e - p))) = (pu_slice tf p (e - p)) from if_neg (fun z => z.2.2.elim c75 c91)]) ?_
              exact j137 f2 (pr_own hfL)
            · skip
              refine sv_aload_n C rfl rfl d_M_token_aIII_94 ?_
              refine sv_get C fg_M_207 0 rfl rfl d_M_token_aIII_95 ?_
              refine sv_aload_n C rfl rfl d_M_token_aIII_98 ?_
              refine sv_get C fg_M_254 0 rfl rfl d_M_token_aIII_99 ?_
              refine sv_iconst C (v := 2) (by decide) d_M_token_aIII_102 ?_
              refine sv_isubN C _ 2 (by omega) d_M_token_aIII_103 ?_
              refine sv_ialdN C _ 6 rfl (by omega) (by decide) d_M_token_aIII_104 ?_
              refine sv_eqi (hfL ((pu_slice tf p (e - p)).length - 2) (by omega)) ?_
              refine sv_bipush C (v := 39) (by decide) d_M_token_aIII_105 ?_
              refine sv_icmp_eq C 127 (by decide) d_M_token_aIII_107 (fun c107 => ?_) (fun c107 => ?_)
              · skip
                refine sv_aload_n C rfl rfl d_M_token_aIII_127 ?_
                refine sv_dup C rfl d_M_token_aIII_128 ?_
                refine sv_get C fg_M_254 0 rfl rfl d_M_token_aIII_129 ?_
                refine sv_iconst C (v := 2) (by decide) d_M_token_aIII_132 ?_
                refine sv_isubN C _ 2 (by omega) d_M_token_aIII_133 ?_
                refine sv_put C fp_M_254 0 rfl rfl rfl (Nat.le_of_ble_eq_true rfl) ((_, .inr (_, [_, _, _, _, _, _, _, _, _, _, _, _, _, _, _, _])) :: _ :: _ :: _ :: _ :: _ :: _ :: _) rfl d_M_token_aIII_134 ?_
                refine sv_wsE (ws' := ((ad 0, .inr (7, [.ref (ad 7), .ref (ad 8), .ref (ad 9), .ref (ad 10), .ref (ad 1), .int inl, .int th, .ref (ad 2), .int cm, .ref (ad 3), .ref (ad 4), .ref (ad 5), .int (nI T.length), .int (nI (wd + 1)), .ref (ad 6), .int (nI (pu_own (pu_slice tf p (e - p))).length)])) :: (ad 1, .inl (g.2.1 1, 8192, .inl b)) :: (ad 2, .inl (g.2.1 0, 8192, .inl tf)) :: (ad 3, .inl (g.2.1 0, 8704, .inl ch0)) :: (ad 4, .inl (g.2.1 0, 8193, .inl st0)) :: (ad 5, .inl (g.2.1 0, 8192, .inl po0)) :: (ad 6, .inl (g.2.1 0, 260, .inl f2)) :: rest)) (by rw [show (pu_own (pu_slice tf p (e - p))) = ((pu_slice tf p (e - p)).take ((pu_slice tf p (e - p)).length - 2)) from if_pos ⟨by omega, Or.inl c107, Or.inr c91⟩, ← pu_tlen (by omega)]) ?_
                exact j137 f2 (pr_own hfL)
              · skip
                refine sv_aload_n C rfl rfl d_M_token_aIII_110 ?_
                refine sv_get C fg_M_207 0 rfl rfl d_M_token_aIII_111 ?_
                refine sv_aload_n C rfl rfl d_M_token_aIII_114 ?_
                refine sv_get C fg_M_254 0 rfl rfl d_M_token_aIII_115 ?_
                refine sv_iconst C (v := 2) (by decide) d_M_token_aIII_118 ?_
                refine sv_isubN C _ 2 (by omega) d_M_token_aIII_119 ?_
                refine sv_ialdN C _ 6 rfl (by omega) (by decide) d_M_token_aIII_120 ?_
                refine sv_eqi (hfL ((pu_slice tf p (e - p)).length - 2) (by omega)) ?_
                refine sv_sipush C (v := 8217) (by decide) d_M_token_aIII_121 ?_
                refine sv_icmp_ne C 137 (by decide) d_M_token_aIII_124 (fun c124 => ?_) (fun c124 => ?_)
                · skip
                  refine sv_wsE (ws' := ((ad 0, .inr (7, [.ref (ad 7), .ref (ad 8), .ref (ad 9), .ref (ad 10), .ref (ad 1), .int inl, .int th, .ref (ad 2), .int cm, .ref (ad 3), .ref (ad 4), .ref (ad 5), .int (nI T.length), .int (nI (wd + 1)), .ref (ad 6), .int (nI (pu_own (pu_slice tf p (e - p))).length)])) :: (ad 1, .inl (g.2.1 1, 8192, .inl b)) :: (ad 2, .inl (g.2.1 0, 8192, .inl tf)) :: (ad 3, .inl (g.2.1 0, 8704, .inl ch0)) :: (ad 4, .inl (g.2.1 0, 8193, .inl st0)) :: (ad 5, .inl (g.2.1 0, 8192, .inl po0)) :: (ad 6, .inl (g.2.1 0, 260, .inl f2)) :: rest)) (by rw [show (pu_own (pu_slice tf p (e - p))) = (pu_slice tf p (e - p)) from if_neg (fun z => z.2.1.elim c107 c124)]) ?_
                  exact j137 f2 (pr_own hfL)
                · skip
                  refine sv_aload_n C rfl rfl d_M_token_aIII_127 ?_
                  refine sv_dup C rfl d_M_token_aIII_128 ?_
                  refine sv_get C fg_M_254 0 rfl rfl d_M_token_aIII_129 ?_
                  refine sv_iconst C (v := 2) (by decide) d_M_token_aIII_132 ?_
                  refine sv_isubN C _ 2 (by omega) d_M_token_aIII_133 ?_
                  refine sv_put C fp_M_254 0 rfl rfl rfl (Nat.le_of_ble_eq_true rfl) ((_, .inr (_, [_, _, _, _, _, _, _, _, _, _, _, _, _, _, _, _])) :: _ :: _ :: _ :: _ :: _ :: _ :: _) rfl d_M_token_aIII_134 ?_
                  refine sv_wsE (ws' := ((ad 0, .inr (7, [.ref (ad 7), .ref (ad 8), .ref (ad 9), .ref (ad 10), .ref (ad 1), .int inl, .int th, .ref (ad 2), .int cm, .ref (ad 3), .ref (ad 4), .ref (ad 5), .int (nI T.length), .int (nI (wd + 1)), .ref (ad 6), .int (nI (pu_own (pu_slice tf p (e - p))).length)])) :: (ad 1, .inl (g.2.1 1, 8192, .inl b)) :: (ad 2, .inl (g.2.1 0, 8192, .inl tf)) :: (ad 3, .inl (g.2.1 0, 8704, .inl ch0)) :: (ad 4, .inl (g.2.1 0, 8193, .inl st0)) :: (ad 5, .inl (g.2.1 0, 8192, .inl po0)) :: (ad 6, .inl (g.2.1 0, 260, .inl f2)) :: rest)) (by rw [show (pu_own (pu_slice tf p (e - p))) = ((pu_slice tf p (e - p)).take ((pu_slice tf p (e - p)).length - 2)) from if_pos ⟨by omega, Or.inr c124, Or.inr c91⟩, ← pu_tlen (by omega)]) ?_
                  exact j137 f2 (pr_own hfL)
      · skip
        refine sv_aload_n C rfl rfl d_M_token_aIII_19 ?_
        refine sv_get C fg_M_207 0 rfl rfl d_M_token_aIII_20 ?_
        refine sv_iload C rfl d_M_token_aIII_23 ?_
        refine sv_aload_n C rfl rfl d_M_token_aIII_25 ?_
        refine sv_iload_n C rfl rfl d_M_token_aIII_26 ?_
        refine sv_iload C rfl d_M_token_aIII_27 ?_
        refine sv_iaddN C _ _  d_M_token_aIII_29 ?_
        refine sv_ialdN C _ 2 rfl (by omega) (by decide) d_M_token_aIII_30 ?_
        refine sv_iastN C _ 6 rfl (by omega) (by decide) (_ :: _ :: _ :: _ :: _ :: _ :: _ :: _) rfl d_M_token_aIII_31 ?_
        refine sv_iincN C 1 _ rfl [some _, some _, some _, some _, some _, none, none, none, none, none] rfl d_M_token_aIII_32 ?_
        refine sv_goto C 10 (by decide) d_M_token_aIII_35 ?_
        exact ih (j + 1) _ ⟨by omega, by omega, fun i hi => by
          rcases Nat.lt_or_ge i j with h | h
          · rw [pk_un (by omega), q3 i h]
          · have hij : i = j := by omega
            subst hij
            rw [pk_us]⟩
  refine sv_aload_n C rfl rfl d_M_token_aIII_0 ?_
  refine sv_iload_n C rfl rfl d_M_token_aIII_1 ?_
  refine sv_iload_n C rfl rfl d_M_token_aIII_2 ?_
  refine sv_isubN C _ _ (by omega) d_M_token_aIII_3 ?_
  refine sv_put C fp_M_254 0 rfl rfl rfl (Nat.le_of_ble_eq_true rfl) ((_, .inr (_, [_, _, _, _, _, _, _, _, _, _, _, _, _, _, _, _])) :: _ :: _ :: _ :: _ :: _ :: _ :: _) rfl d_M_token_aIII_4 ?_
  refine sv_iconst C (v := 0) (by decide) d_M_token_aIII_7 ?_
  refine sv_istore C (by decide) [some _, some _, some _, some _, some _, none, none, none, none, none] rfl d_M_token_aIII_8 ?_
  refine sv_wsE (ws' := ((ad 0, .inr (7, [.ref (ad 7), .ref (ad 8), .ref (ad 9), .ref (ad 10), .ref (ad 1), .int inl, .int th, .ref (ad 2), .int cm, .ref (ad 3), .ref (ad 4), .ref (ad 5), .int (nI T.length), .int (nI wd), .ref (ad 6), .int (nI (pu_slice tf p (e - p)).length)])) :: (ad 1, .inl (g.2.1 1, 8192, .inl b)) :: (ad 2, .inl (g.2.1 0, 8192, .inl tf)) :: (ad 3, .inl (g.2.1 0, 8704, .inl ch0)) :: (ad 4, .inl (g.2.1 0, 8193, .inl st0)) :: (ad 5, .inl (g.2.1 0, 8192, .inl po0)) :: (ad 6, .inl (g.2.1 0, 260, .inl wf0)) :: rest)) (by rw [s1]) ?_
  exact L10 (pu_slice tf p (e - p)).length 0 wf0 ⟨by omega, by omega, fun i hi => absurd hi (Nat.not_lt_zero i)⟩
