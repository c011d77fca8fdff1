/-! CONTRACTS: Stemmer, 4: the whole -/
theorem sv_EA.mono {g : sv_G} {r r2 : va_W} {aa n : Nat} {tx sb : Nat → Nat} (h : sv_EA g r aa n tx sb) (hm : ∀ q, q ∈ r → q ∈ r2) : sv_EA g r2 aa n tx sb := by
  obtain ⟨fa, ea, h1, h2⟩ := h
  exact ⟨fa, ea, hm _ h1, fun k hk => ⟨(h2 k hk).1, hm _ (h2 k hk).2.1, (h2 k hk).2.2⟩⟩
def sv_E5 (g : sv_G) (rest : va_W) (x1 x2 x3 x4 x5 : Nat) : Prop := sv_EA g rest x1 4 tx_1a sb_1a ∧ sv_EA g rest x2 3 tx_1b sb_1b ∧ sv_EA g rest x3 20 tx_2 sb_2 ∧ sv_EA g rest x4 7 tx_3 sb_3 ∧ sv_EA g rest x5 19 tx_4 sb_4
theorem sv_E5.mono {g : sv_G} {r r2 : va_W} {x1 x2 x3 x4 x5 : Nat} (h : sv_E5 g r x1 x2 x3 x4 x5) (hm : ∀ q, q ∈ r → q ∈ r2) : sv_E5 g r2 x1 x2 x3 x4 x5 := ⟨h.1.mono hm, h.2.1.mono hm, h.2.2.1.mono hm, h.2.2.2.1.mono hm, h.2.2.2.2.mono hm⟩
theorem pc_repl_2 (L : List Int32) : pc_repl tx_2 sb_2 20 0 L = pu_rep pu_E2 pu_S2 L := by
  unfold pc_repl pu_rep
  rw [te_2]
  cases hq : pu_lng L pu_E2 0 none with
  | none => rfl
  | some q =>
    have h1 := pu_lng_at L pu_E2 pu_E2 0 none rfl (fun q hq => by cases hq) q hq
    show (if 0 < pu_meas L (L.length - q.2.length) then L.take (L.length - q.2.length) ++ sv_txt (sb_2 q.1) else L) = _
    rw [ts_2 q.1 h1.2]
theorem pc_repl_3 (L : List Int32) : pc_repl tx_3 sb_3 7 0 L = pu_rep pu_E3 pu_S3 L := by
  unfold pc_repl pu_rep
  rw [te_3]
  cases hq : pu_lng L pu_E3 0 none with
  | none => rfl
  | some q =>
    have h1 := pu_lng_at L pu_E3 pu_E3 0 none rfl (fun q hq => by cases hq) q hq
    show (if 0 < pu_meas L (L.length - q.2.length) then L.take (L.length - q.2.length) ++ sv_txt (sb_3 q.1) else L) = _
    rw [ts_3 q.1 h1.2]
theorem pu_s1a_pos {L : List Int32} (h : 3 ≤ L.length) : 1 ≤ (pu_s1a L).length := by
  unfold pu_s1a
  repeat' split
  all_goals first | omega | (rw [List.length_take]; omega)
theorem pu_s1bm_pos {L : List Int32} (h : 1 ≤ L.length) : 1 ≤ (pu_s1bm L).length := by
  unfold pu_s1bm
  split
  · rw [List.length_append]; omega
  · split
    · rename_i h2
      have := h2.1.1
      rw [List.length_take]; omega
    · split
      · rw [List.length_append]; omega
      · exact h
theorem pu_s1b_pos {L : List Int32} (h : 1 ≤ L.length) : 1 ≤ (pu_s1b L).length := by
  unfold pu_s1b
  split
  · rename_i h2
    have h3 := h2.1
    simp only [List.length_cons, List.length_nil] at h3
    split
    · rw [List.length_take]; omega
    · exact h
  · split
    · split
      · rename_i h5
        have := pu_anyV_pos h5
        exact pu_s1bm_pos (by rw [List.length_take]; omega)
      · exact h
    · split
      · split
        · rename_i h5
          have := pu_anyV_pos h5
          exact pu_s1bm_pos (by rw [List.length_take]; omega)
        · exact h
      · exact h
/-- what the stemming makes of a word -/
def pc_fit (L : List Int32) : List Int32 := if pu_small L ∧ 2 < L.length then pu_stem L else L
theorem pc_fit_len (L : List Int32) : (pc_fit L).length ≤ L.length := by
  unfold pc_fit
  split
  · exact pu_len_stem L
  · exact Nat.le_refl _
theorem pc_len_1a (L : List Int32) : (pc_s1a L).length ≤ L.length := by rw [pc_s1a_eq]; exact pu_len_s1a L
theorem pc_len_1b (L : List Int32) : (pc_s1b L).length ≤ L.length := by rw [pc_s1b_eq]; exact pu_len_s1b L
theorem pc_len_r2 (L : List Int32) : (pc_repl tx_2 sb_2 20 0 L).length ≤ L.length := by rw [pc_repl_2]; exact pu_len_rep pu_S2_le L
theorem pc_len_r3 (L : List Int32) : (pc_repl tx_3 sb_3 7 0 L).length ≤ L.length := by rw [pc_repl_3]; exact pu_len_rep pu_S3_le L
theorem pc_len_s4 (L : List Int32) : (pc_s4 L).length ≤ L.length := by rw [pc_s4_eq]; exact pu_len_s4 L
def rm_Sm_stemIfFit : Room := { frames := 10, cells := 0, slots := 0, locals := 278 }
set_option maxHeartbeats 4000000 in
set_option maxRecDepth 100000 in
theorem c_Sm_stemIfFit (l : Launch) (g : sv_G) (rest : va_W) (hS hW hwc hv x1 x2 x3 x4 x5 : Nat) (f v : Nat → Int32) (L : List Int32) (hL : L.length ≤ 255) (hf : pr_W f L) (hE : sv_E5 g rest x1 x2 x3 x4 x5) : sv_Mv l y_Sm_stemIfFit b_Sm_stemIfFit 1 none rm_Sm_stemIfFit g [.ref hS] ((hS, .inr (2, [.ref hW, .ref hv, .ref x1, .ref x2, .ref x3, .ref x4, .ref x5])) :: (hW, .inr (5, [.ref hwc, .int (nI L.length)])) :: (hwc, .inl (g.2.1 0, 255, .inl f)) :: (hv, .inl (g.2.1 2, 255, .inl v)) :: rest) (fun w => ∃ f2 v2 : Nat → Int32, w = ((hS, .inr (2, [.ref hW, .ref hv, .ref x1, .ref x2, .ref x3, .ref x4, .ref x5])) :: (hW, .inr (5, [.ref hwc, .int (nI (pc_fit L).length)])) :: (hwc, .inl (g.2.1 0, 255, .inl f2)) :: (hv, .inl (g.2.1 2, 255, .inl v2)) :: rest) ∧ pr_W f2 (pc_fit L)) := by
  have l0 := hL
  have l1 := pc_len_1a L
  have l2 := pc_len_1b (pc_s1a L)
  have l3 := pu_len_s1c (pc_s1b (pc_s1a L))
  have l4 := pc_len_r2 (pu_s1c (pc_s1b (pc_s1a L)))
  have l5 := pc_len_r3 (pc_repl tx_2 sb_2 20 0 (pu_s1c (pc_s1b (pc_s1a L))))
  have l6 := pc_len_s4 (pc_repl tx_3 sb_3 7 0 (pc_repl tx_2 sb_2 20 0 (pu_s1c (pc_s1b (pc_s1a L)))))
  have l7 := pu_len_s5a (pc_s4 (pc_repl tx_3 sb_3 7 0 (pc_repl tx_2 sb_2 20 0 (pu_s1c (pc_s1b (pc_s1a L))))))
  have l8 := pu_len_s5b (pu_s5a (pc_s4 (pc_repl tx_3 sb_3 7 0 (pc_repl tx_2 sb_2 20 0 (pu_s1c (pc_s1b (pc_s1a L)))))))
  refine sv_enter_v (by decide) rfl rfl (Nat.le_of_ble_eq_true rfl) (fun X C hI hr => ?_)
  refine sv_lvE (lv' := [some _]) rfl ?_
  refine sv_aload_n C rfl rfl d_Sm_stemIfFit_0 ?_
  refine sv_get C fg_Sm_153 0 rfl rfl d_Sm_stemIfFit_1 ?_
  refine sv_get C fg_Sm_161 1 rfl rfl d_Sm_stemIfFit_4 ?_
  refine sv_iconst C (v := 2) (by decide) d_Sm_stemIfFit_7 ?_
  refine sv_icmpN_le C _ 2 (by omega) (by omega) 21 (by decide) d_Sm_stemIfFit_8 (fun c8 => ?_) (fun c8 => ?_)
  · skip
    exact hr _ _ _ d_Sm_stemIfFit_21 (by rw [show pc_fit L = L from if_neg (fun z => by first | exact absurd z.2 (by omega) | exact c18 z.1)]; exact ⟨f, v, rfl, hf⟩)
  · skip
    refine sv_aload_n C rfl rfl d_Sm_stemIfFit_11 ?_
    refine sv_get C fg_Sm_153 0 rfl rfl d_Sm_stemIfFit_12 ?_
    refine sv_rot [1, 2, 0, 3] [_, _, _, _] [_, _, _, _] _ (_ :: _ :: _ :: _ :: _) rfl rfl rfl rfl ?_
    refine sv_callVi C (c_Wo_isSmallLetters l g _ hW hwc f L hL hf) lk_Sm_165 List.mem_cons_self rfl d_Sm_stemIfFit_15 (by decide) (Nat.le_of_ble_eq_true rfl) (by decide) (fun r w hw => ?_)
    obtain ⟨rfl, rfl⟩ := hw
    refine sv_ifB_ne C _ 22 (by decide) d_Sm_stemIfFit_18 (fun c18 => ?_) (fun c18 => ?_)
    · skip
      refine sv_aload_n C rfl rfl d_Sm_stemIfFit_22 ?_
      refine sv_rot [2, 0, 1, 3] [_, _, _, _] [_, _, _, _] _ (_ :: _ :: _ :: _ :: _) rfl rfl rfl rfl ?_
      refine sv_callVv C (c_Sm_markVowels l g rest hS hW hwc hv x1 x2 x3 x4 x5 f v L hL hf) lk_Sm_169 List.mem_cons_self rfl d_Sm_stemIfFit_23 (by decide) (Nat.le_of_ble_eq_true rfl) (by decide) (fun w hw => ?_)
      obtain ⟨v0, rfl, hV0⟩ := hw
      obtain ⟨f0, rfl⟩ : ∃ y, y = f := ⟨f, rfl⟩
      have hf0 := hf
      have p1 : 1 ≤ (pc_s1a L).length := by rw [pc_s1a_eq]; exact pu_s1a_pos (by omega)
      have p2 : 1 ≤ (pc_s1b (pc_s1a L)).length := by rw [pc_s1b_eq]; exact pu_s1b_pos p1
      refine sv_aload_n C rfl rfl d_Sm_stemIfFit_26 ?_
      refine sv_callVv C (c_Sm_step1a l g rest hS hW hwc hv x1 x2 x3 x4 x5 f0 v0 L (by omega) hf0 hV0 hE.1) lk_Sm_172 List.mem_cons_self rfl d_Sm_stemIfFit_27 (by decide) (Nat.le_of_ble_eq_true rfl) (by decide) (fun w hw => ?_)
      obtain ⟨f1, v1, rfl, hf1, hV1⟩ := hw
      refine sv_aload_n C rfl rfl d_Sm_stemIfFit_30 ?_
      refine sv_callVv C (c_Sm_step1b l g rest hS hW hwc hv x1 x2 x3 x4 x5 f1 v1 (pc_s1a L) (by omega) hf1 hV1 hE.2.1) lk_Sm_175 List.mem_cons_self rfl d_Sm_stemIfFit_31 (by decide) (Nat.le_of_ble_eq_true rfl) (by decide) (fun w hw => ?_)
      obtain ⟨f2, v2, rfl, hf2, hV2⟩ := hw
      refine sv_aload_n C rfl rfl d_Sm_stemIfFit_34 ?_
      refine sv_callVv C (c_Sm_step1c l g rest hS hW hwc hv x1 x2 x3 x4 x5 f2 v2 (pc_s1b (pc_s1a L)) (by omega) hf2 hV2 p2) lk_Sm_178 List.mem_cons_self rfl d_Sm_stemIfFit_35 (by decide) (Nat.le_of_ble_eq_true rfl) (by decide) (fun w hw => ?_)
      obtain ⟨f3, v3, rfl, hf3, hV3⟩ := hw
      refine sv_aload_n C rfl rfl d_Sm_stemIfFit_38 ?_
      refine sv_aload_n C rfl rfl d_Sm_stemIfFit_39 ?_
      refine sv_get C fg_Sm_107 0 rfl rfl d_Sm_stemIfFit_40 ?_
      refine sv_iconst C (v := 0) (by decide) d_Sm_stemIfFit_43 ?_
      refine sv_callVv C (c_Sm_replaceIfAbove l g rest hS hW hwc hv x1 x2 x3 x4 x5 f3 v3 (pu_s1c (pc_s1b (pc_s1a L))) (by omega) hf3 hV3 x3 20 tx_2 sb_2 hE.2.2.1 (by decide) tl_2 0 (by decide)) lk_Sm_181 List.mem_cons_self rfl d_Sm_stemIfFit_44 (by decide) (Nat.le_of_ble_eq_true rfl) (by decide) (fun w hw => ?_)
      obtain ⟨f4, v4, rfl, hf4, hV4⟩ := hw
      refine sv_aload_n C rfl rfl d_Sm_stemIfFit_47 ?_
      refine sv_aload_n C rfl rfl d_Sm_stemIfFit_48 ?_
      refine sv_get C fg_Sm_124 0 rfl rfl d_Sm_stemIfFit_49 ?_
      refine sv_iconst C (v := 0) (by decide) d_Sm_stemIfFit_52 ?_
      refine sv_callVv C (c_Sm_replaceIfAbove l g rest hS hW hwc hv x1 x2 x3 x4 x5 f4 v4 (pc_repl tx_2 sb_2 20 0 (pu_s1c (pc_s1b (pc_s1a L)))) (by omega) hf4 hV4 x4 7 tx_3 sb_3 hE.2.2.2.1 (by decide) tl_3 0 (by decide)) lk_Sm_181 List.mem_cons_self rfl d_Sm_stemIfFit_53 (by decide) (Nat.le_of_ble_eq_true rfl) (by decide) (fun w hw => ?_)
      obtain ⟨f5, v5, rfl, hf5, hV5⟩ := hw
      refine sv_aload_n C rfl rfl d_Sm_stemIfFit_56 ?_
      refine sv_callVv C (c_Sm_step4 l g rest hS hW hwc hv x1 x2 x3 x4 x5 f5 v5 (pc_repl tx_3 sb_3 7 0 (pc_repl tx_2 sb_2 20 0 (pu_s1c (pc_s1b (pc_s1a L))))) (by omega) hf5 hV5 hE.2.2.2.2) lk_Sm_185 List.mem_cons_self rfl d_Sm_stemIfFit_57 (by decide) (Nat.le_of_ble_eq_true rfl) (by decide) (fun w hw => ?_)
      obtain ⟨f6, v6, rfl, hf6, hV6⟩ := hw
      refine sv_aload_n C rfl rfl d_Sm_stemIfFit_60 ?_
      refine sv_callVv C (c_Sm_step5a l g rest hS hW hwc hv x1 x2 x3 x4 x5 f6 v6 (pc_s4 (pc_repl tx_3 sb_3 7 0 (pc_repl tx_2 sb_2 20 0 (pu_s1c (pc_s1b (pc_s1a L)))))) (by omega) hf6 hV6 ) lk_Sm_188 List.mem_cons_self rfl d_Sm_stemIfFit_61 (by decide) (Nat.le_of_ble_eq_true rfl) (by decide) (fun w hw => ?_)
      obtain ⟨f7, v7, rfl, hf7, hV7⟩ := hw
      refine sv_aload_n C rfl rfl d_Sm_stemIfFit_64 ?_
      refine sv_callVv C (c_Sm_step5b l g rest hS hW hwc hv x1 x2 x3 x4 x5 f7 v7 (pu_s5a (pc_s4 (pc_repl tx_3 sb_3 7 0 (pc_repl tx_2 sb_2 20 0 (pu_s1c (pc_s1b (pc_s1a L))))))) (by omega) hf7 hV7 ) lk_Sm_191 List.mem_cons_self rfl d_Sm_stemIfFit_65 (by decide) (Nat.le_of_ble_eq_true rfl) (by decide) (fun w hw => ?_)
      obtain ⟨f8, v8, rfl, hf8, hV8⟩ := hw
      exact hr _ _ _ d_Sm_stemIfFit_68 (by rw [show pc_fit L = (pu_s5b (pu_s5a (pc_s4 (pc_repl tx_3 sb_3 7 0 (pc_repl tx_2 sb_2 20 0 (pu_s1c (pc_s1b (pc_s1a L)))))))) from by rw [pc_fit, if_pos ⟨c18, by omega⟩, pu_stem, pc_s1a_eq, pc_s1b_eq, pc_repl_2, pc_repl_3, pc_s4_eq]]; exact ⟨f8, v8, rfl, hf8⟩)
    · skip
      refine sv_rot [2, 0, 1, 3] [_, _, _, _] [_, _, _, _] _ (_ :: _ :: _ :: _ :: _) rfl rfl rfl rfl ?_
      exact hr _ _ _ d_Sm_stemIfFit_21 (by rw [show pc_fit L = L from if_neg (fun z => by first | exact absurd z.2 (by omega) | exact c18 z.1)]; exact ⟨f, v, rfl, hf⟩)
