/-! CONTRACTS: Stemmer, 3: the steps -/
theorem ltx_eed : sv_txt 7 = [101, 101, 100] := by decide +kernel
theorem ltx_at : sv_txt 60 = [97, 116] := by decide +kernel
theorem ltx_bl : sv_txt 61 = [98, 108] := by decide +kernel
theorem ltx_iz : sv_txt 62 = [105, 122] := by decide +kernel
theorem ltx_e : sv_txt 28 = [101] := by decide +kernel
theorem ltx_l : sv_txt 63 = [108] := by decide +kernel
theorem ltx_s : sv_txt 5 = [115] := by decide +kernel
theorem ltx_z : sv_txt 64 = [122] := by decide +kernel
theorem ltx_y : sv_txt 65 = [121] := by decide +kernel
theorem ltx_i : sv_txt 4 = [105] := by decide +kernel
theorem ltx_ion : sv_txt 56 = [105, 111, 110] := by decide +kernel
theorem ltx_sion : sv_txt 66 = [115, 105, 111, 110] := by decide +kernel
theorem ltx_tion : sv_txt 14 = [116, 105, 111, 110] := by decide +kernel
theorem ltx_ll : sv_txt 67 = [108, 108] := by decide +kernel
theorem ltx_nil : sv_txt 6 = [] := by decide +kernel
theorem pc_repl_none {tx sb : Nat → Nat} {n bd : Nat} {L : List Int32} (h : pu_lng L (sv_EL tx n) 0 none = none) : pc_repl tx sb n bd L = L := by
  simp only [pc_repl, h]
theorem pc_repl_some {tx sb : Nat → Nat} {n bd : Nat} {L : List Int32} {q : Nat × List Int32} (h : pu_lng L (sv_EL tx n) 0 none = some q) (h2 : q.2 = sv_txt (tx q.1)) : pc_repl tx sb n bd L = if bd < pu_meas L (L.length - (sv_txt (tx q.1)).length) then L.take (L.length - (sv_txt (tx q.1)).length) ++ sv_txt (sb q.1) else L := by
  simp only [pc_repl, h]
  rw [h2]
def rm_Sm_replaceIfAbove : Room := { frames := 8, cells := 0, slots := 0, locals := 234 }
set_option maxHeartbeats 4000000 in
set_option maxRecDepth 100000 in
theorem c_Sm_replaceIfAbove (l : Launch) (g : sv_G) (rest : va_W) (hS hW hwc hv x1 x2 x3 x4 x5 : Nat) (f v : Nat → Int32) (L : List Int32) (hL : L.length ≤ 255) (hf : pr_W f L) (hV : pr_V v L) (aa n : Nat) (tx sb : Nat → Nat) (hE0 : sv_EA g rest aa n tx sb) (hn : n ≤ 20) (tl : ∀ k, k < n → (sv_txt (sb k)).length ≤ (sv_txt (tx k)).length) (bd : Nat) (hbd : bd < 10) : sv_Mv l y_Sm_replaceIfAbove b_Sm_replaceIfAbove 4 none rm_Sm_replaceIfAbove g [.ref hS, .ref aa, .int (nI bd)] ((hS, .inr (2, [.ref hW, .ref hv, .ref x1, .ref x2, .ref x3, .ref x4, .ref x5])) :: (hW, .inr (5, [.ref hwc, .int (nI L.length)])) :: (hwc, .inl (g.2.1 0, 255, .inl f)) :: (hv, .inl (g.2.1 2, 255, .inl v)) :: rest) (fun w => ∃ f2 v2 : Nat → Int32, w = ((hS, .inr (2, [.ref hW, .ref hv, .ref x1, .ref x2, .ref x3, .ref x4, .ref x5])) :: (hW, .inr (5, [.ref hwc, .int (nI (pc_repl tx sb n bd L).length)])) :: (hwc, .inl (g.2.1 0, 255, .inl f2)) :: (hv, .inl (g.2.1 2, 255, .inl v2)) :: rest) ∧ pr_W f2 (pc_repl tx sb n bd L) ∧ pr_V v2 (pc_repl tx sb n bd L)) := by
  refine sv_enter_v (by decide) rfl rfl (Nat.le_of_ble_eq_true rfl) (fun X C hI hr => ?_)
  refine sv_lvE (lv' := [some _, some _, some _, none]) rfl ?_
  refine sv_aload_n C rfl rfl d_Sm_replaceIfAbove_0 ?_
  refine sv_aload_n C rfl rfl d_Sm_replaceIfAbove_1 ?_
  refine sv_callVq C (c_Sm_longest l g rest hS hW hwc hv x1 x2 x3 x4 x5 f v L hL hf hV aa n tx sb hE0 hn) lk_Sm_194 List.mem_cons_self rfl d_Sm_replaceIfAbove_2 (by decide) (Nat.le_of_ble_eq_true rfl) (by decide) (fun r w hw => ?_)
  skip
  obtain ⟨rfl, hfd⟩ := hw
  rcases hlg : pu_lng L (sv_EL tx n) 0 none with _ | q
  · skip
    rw [hlg] at hfd
    obtain rfl : r = none := hfd
    refine sv_astore_nN C rfl (by decide) [some _, some _, some _, some _] rfl d_Sm_replaceIfAbove_5 ?_
    refine sv_aload_nN C rfl rfl d_Sm_replaceIfAbove_6 ?_
    refine sv_ifnullN C 36 (by decide) d_Sm_replaceIfAbove_7 ?_
    first
      | exact hr _ _ _ d_Sm_replaceIfAbove_36 (by rw [show pc_repl tx sb n bd L = L from pc_repl_none hlg]; exact ⟨f, v, rfl, hf, hV⟩)
      | exact hr _ _ _ d_Sm_replaceIfAbove_36 (by rw [show pc_repl tx sb n bd L = L from (pc_repl_some hlg hq2).trans (if_neg (by omega))]; exact ⟨f, v, rfl, hf, hV⟩)
      | exact hr _ _ _ d_Sm_replaceIfAbove_36 (by rw [show pc_repl tx sb n bd L = (L.take (L.length - (sv_txt (tx q.1)).length) ++ sv_txt (sb q.1)) from (pc_repl_some hlg hq2).trans (if_pos (by omega))]; exact ⟨f2, v2, rfl, hf2, hV2⟩)
  · skip
    rw [hlg] at hfd
    obtain ⟨a, rfl, hm, hq1, hq2⟩ := hfd
    have hen := ((pu_lng_spec L (sv_EL tx n) 0 none (fun q hq => by cases hq)).1 q hlg).1
    have hle : (sv_txt (tx q.1)).length ≤ L.length := by rw [← hq2]; exact hen.1
    obtain ⟨fa, ea, hA, hE⟩ := hE0
    have ht := (hE q.1 hq1).2.2.1
    have hs := (hE q.1 hq1).2.2.2.1
    have hsl := tl q.1 hq1
    have ml := pu_meas_le L (L.length - (sv_txt (tx q.1)).length)
    refine sv_astore_n C rfl (by decide) [some _, some _, some _, some _] rfl d_Sm_replaceIfAbove_5 ?_
    refine sv_aload_n C rfl rfl d_Sm_replaceIfAbove_6 ?_
    refine sv_ifnull C d_Sm_replaceIfAbove_7 ?_
    refine sv_aload_n C rfl rfl d_Sm_replaceIfAbove_10 ?_
    refine sv_aload_n C rfl rfl d_Sm_replaceIfAbove_11 ?_
    refine sv_aload_n C rfl rfl d_Sm_replaceIfAbove_12 ?_
    refine sv_callVi C (c_Sm_stemBefore l g rest hS hW hwc hv x1 x2 x3 x4 x5 f v L hL hf hV a (tx q.1) (sb q.1) hm ht hle) lk_Sm_198 List.mem_cons_self rfl d_Sm_replaceIfAbove_13 (by decide) (Nat.le_of_ble_eq_true rfl) (by decide) (fun r w hw => ?_)
    obtain ⟨rfl, rfl⟩ := hw
    refine sv_callVi C (c_Sm_measure l g rest hS hW hwc hv x1 x2 x3 x4 x5 f v L hL hf hV (L.length - (sv_txt (tx q.1)).length) (by omega)) lk_Sm_219 List.mem_cons_self rfl d_Sm_replaceIfAbove_16 (by decide) (Nat.le_of_ble_eq_true rfl) (by decide) (fun r w hw => ?_)
    obtain ⟨rfl, rfl⟩ := hw
    refine sv_iload_n C rfl rfl d_Sm_replaceIfAbove_19 ?_
    refine sv_icmpN_le C _ _ (by omega) (by omega) 36 (by decide) d_Sm_replaceIfAbove_20 (fun c20 => ?_) (fun c20 => ?_)
    · skip
      first
        | exact hr _ _ _ d_Sm_replaceIfAbove_36 (by rw [show pc_repl tx sb n bd L = L from pc_repl_none hlg]; exact ⟨f, v, rfl, hf, hV⟩)
        | exact hr _ _ _ d_Sm_replaceIfAbove_36 (by rw [show pc_repl tx sb n bd L = L from (pc_repl_some hlg hq2).trans (if_neg (by omega))]; exact ⟨f, v, rfl, hf, hV⟩)
        | exact hr _ _ _ d_Sm_replaceIfAbove_36 (by rw [show pc_repl tx sb n bd L = (L.take (L.length - (sv_txt (tx q.1)).length) ++ sv_txt (sb q.1)) from (pc_repl_some hlg hq2).trans (if_pos (by omega))]; exact ⟨f2, v2, rfl, hf2, hV2⟩)
    · skip
      refine sv_aload_n C rfl rfl d_Sm_replaceIfAbove_23 ?_
      refine sv_aload_n C rfl rfl d_Sm_replaceIfAbove_24 ?_
      refine sv_aload_n C rfl rfl d_Sm_replaceIfAbove_25 ?_
      refine sv_callVi C (c_Sm_stemBefore l g rest hS hW hwc hv x1 x2 x3 x4 x5 f v L hL hf hV a (tx q.1) (sb q.1) hm ht hle) lk_Sm_198 List.mem_cons_self rfl d_Sm_replaceIfAbove_26 (by decide) (Nat.le_of_ble_eq_true rfl) (by decide) (fun r w hw => ?_)
      obtain ⟨rfl, rfl⟩ := hw
      refine sv_aload_n C rfl rfl d_Sm_replaceIfAbove_29 ?_
      refine sv_getM C fg_Sm_202 (List.mem_cons_of_mem _ (List.mem_cons_of_mem _ (List.mem_cons_of_mem _ (List.mem_cons_of_mem _ hm)))) rfl d_Sm_replaceIfAbove_30 ?_
      refine sv_callVv C (c_Sm_become l g rest hS hW hwc hv x1 x2 x3 x4 x5 f v L hL hf (L.length - (sv_txt (tx q.1)).length) (sb q.1) (by omega) hs (by omega)) lk_Sm_206 List.mem_cons_self rfl d_Sm_replaceIfAbove_33 (by decide) (Nat.le_of_ble_eq_true rfl) (by decide) (fun w hw => ?_)
      obtain ⟨f2, v2, rfl, hf2, hV2⟩ := hw
      first
        | exact hr _ _ _ d_Sm_replaceIfAbove_36 (by rw [show pc_repl tx sb n bd L = L from pc_repl_none hlg]; exact ⟨f, v, rfl, hf, hV⟩)
        | exact hr _ _ _ d_Sm_replaceIfAbove_36 (by rw [show pc_repl tx sb n bd L = L from (pc_repl_some hlg hq2).trans (if_neg (by omega))]; exact ⟨f, v, rfl, hf, hV⟩)
        | exact hr _ _ _ d_Sm_replaceIfAbove_36 (by rw [show pc_repl tx sb n bd L = (L.take (L.length - (sv_txt (tx q.1)).length) ++ sv_txt (sb q.1)) from (pc_repl_some hlg hq2).trans (if_pos (by omega))]; exact ⟨f2, v2, rfl, hf2, hV2⟩)

theorem pc_s1a_none {L : List Int32} (h : pu_lng L (sv_EL tx_1a 4) 0 none = none) : pc_s1a L = L := by
  rw [te_1a] at h
  simp only [pc_s1a, h]
theorem pc_s1a_some {L : List Int32} {q : Nat × List Int32} (h : pu_lng L (sv_EL tx_1a 4) 0 none = some q) (h1 : q.1 < 4) (h2 : q.2 = sv_txt (tx_1a q.1)) : pc_s1a L = L.take (L.length - (sv_txt (tx_1a q.1)).length) ++ sv_txt (sb_1a q.1) := by
  rw [te_1a] at h
  simp only [pc_s1a, h]
  rw [h2, ts_1a q.1 h1]
def rm_Sm_step1a : Room := { frames := 8, cells := 0, slots := 0, locals := 234 }
set_option maxHeartbeats 4000000 in
set_option maxRecDepth 100000 in
theorem c_Sm_step1a (l : Launch) (g : sv_G) (rest : va_W) (hS hW hwc hv x1 x2 x3 x4 x5 : Nat) (f v : Nat → Int32) (L : List Int32) (hL : L.length ≤ 255) (hf : pr_W f L) (hV : pr_V v L) (hE0 : sv_EA g rest x1 4 tx_1a sb_1a) : sv_Mv l y_Sm_step1a b_Sm_step1a 2 none rm_Sm_step1a g [.ref hS] ((hS, .inr (2, [.ref hW, .ref hv, .ref x1, .ref x2, .ref x3, .ref x4, .ref x5])) :: (hW, .inr (5, [.ref hwc, .int (nI L.length)])) :: (hwc, .inl (g.2.1 0, 255, .inl f)) :: (hv, .inl (g.2.1 2, 255, .inl v)) :: rest) (fun w => ∃ f2 v2 : Nat → Int32, w = ((hS, .inr (2, [.ref hW, .ref hv, .ref x1, .ref x2, .ref x3, .ref x4, .ref x5])) :: (hW, .inr (5, [.ref hwc, .int (nI (pc_s1a L).length)])) :: (hwc, .inl (g.2.1 0, 255, .inl f2)) :: (hv, .inl (g.2.1 2, 255, .inl v2)) :: rest) ∧ pr_W f2 (pc_s1a L) ∧ pr_V v2 (pc_s1a L)) := by
  have tl := tl_1a
  refine sv_enter_v (by decide) rfl rfl (Nat.le_of_ble_eq_true rfl) (fun X C hI hr => ?_)
  refine sv_lvE (lv' := [some _, none]) rfl ?_
  refine sv_aload_n C rfl rfl d_Sm_step1a_0 ?_
  refine sv_aload_n C rfl rfl d_Sm_step1a_1 ?_
  refine sv_get C fg_Sm_24 0 rfl rfl d_Sm_step1a_2 ?_
  refine sv_callVq C (c_Sm_longest l g rest hS hW hwc hv x1 x2 x3 x4 x5 f v L hL hf hV x1 4 tx_1a sb_1a hE0 (by decide)) lk_Sm_194 List.mem_cons_self rfl d_Sm_step1a_5 (by decide) (Nat.le_of_ble_eq_true rfl) (by decide) (fun r w hw => ?_)
  skip
  obtain ⟨rfl, hfd⟩ := hw
  rcases hlg : pu_lng L (sv_EL tx_1a 4) 0 none with _ | q
  · skip
    rw [hlg] at hfd
    obtain rfl : r = none := hfd
    refine sv_astore_nN C rfl (by decide) [some _, some _] rfl d_Sm_step1a_8 ?_
    refine sv_aload_nN C rfl rfl d_Sm_step1a_9 ?_
    refine sv_ifnullN C 26 (by decide) d_Sm_step1a_10 ?_
    first
      | exact hr _ _ _ d_Sm_step1a_26 (by rw [show pc_s1a L = L from pc_s1a_none hlg]; exact ⟨f, v, rfl, hf, hV⟩)
      | exact hr _ _ _ d_Sm_step1a_26 (by rw [show pc_s1a L = (L.take (L.length - (sv_txt (tx_1a q.1)).length) ++ sv_txt (sb_1a q.1)) from pc_s1a_some hlg hq1 hq2]; exact ⟨f2, v2, rfl, hf2, hV2⟩)
  · skip
    rw [hlg] at hfd
    obtain ⟨a, rfl, hm, hq1, hq2⟩ := hfd
    have hen := ((pu_lng_spec L (sv_EL tx_1a 4) 0 none (fun q hq => by cases hq)).1 q hlg).1
    have hle : (sv_txt (tx_1a q.1)).length ≤ L.length := by rw [← hq2]; exact hen.1
    obtain ⟨fa, ea, hA, hE⟩ := hE0
    have ht := (hE q.1 hq1).2.2.1
    have hs := (hE q.1 hq1).2.2.2.1
    have hsl := tl q.1 hq1
    have ml := pu_meas_le L (L.length - (sv_txt (tx_1a q.1)).length)
    refine sv_astore_n C rfl (by decide) [some _, some _] rfl d_Sm_step1a_8 ?_
    refine sv_aload_n C rfl rfl d_Sm_step1a_9 ?_
    refine sv_ifnull C d_Sm_step1a_10 ?_
    refine sv_aload_n C rfl rfl d_Sm_step1a_13 ?_
    refine sv_aload_n C rfl rfl d_Sm_step1a_14 ?_
    refine sv_aload_n C rfl rfl d_Sm_step1a_15 ?_
    refine sv_callVi C (c_Sm_stemBefore l g rest hS hW hwc hv x1 x2 x3 x4 x5 f v L hL hf hV a (tx_1a q.1) (sb_1a q.1) hm ht hle) lk_Sm_198 List.mem_cons_self rfl d_Sm_step1a_16 (by decide) (Nat.le_of_ble_eq_true rfl) (by decide) (fun r w hw => ?_)
    obtain ⟨rfl, rfl⟩ := hw
    refine sv_aload_n C rfl rfl d_Sm_step1a_19 ?_
    refine sv_getM C fg_Sm_202 (List.mem_cons_of_mem _ (List.mem_cons_of_mem _ (List.mem_cons_of_mem _ (List.mem_cons_of_mem _ hm)))) rfl d_Sm_step1a_20 ?_
    refine sv_callVv C (c_Sm_become l g rest hS hW hwc hv x1 x2 x3 x4 x5 f v L hL hf (L.length - (sv_txt (tx_1a q.1)).length) (sb_1a q.1) (by omega) hs (by omega)) lk_Sm_206 List.mem_cons_self rfl d_Sm_step1a_23 (by decide) (Nat.le_of_ble_eq_true rfl) (by decide) (fun w hw => ?_)
    obtain ⟨f2, v2, rfl, hf2, hV2⟩ := hw
    first
      | exact hr _ _ _ d_Sm_step1a_26 (by rw [show pc_s1a L = L from pc_s1a_none hlg]; exact ⟨f, v, rfl, hf, hV⟩)
      | exact hr _ _ _ d_Sm_step1a_26 (by rw [show pc_s1a L = (L.take (L.length - (sv_txt (tx_1a q.1)).length) ++ sv_txt (sb_1a q.1)) from pc_s1a_some hlg hq1 hq2]; exact ⟨f2, v2, rfl, hf2, hV2⟩)

def rm_Sm_mendAfter1b : Room := { frames := 8, cells := 0, slots := 0, locals := 230 }
set_option maxHeartbeats 4000000 in
set_option maxRecDepth 100000 in
theorem c_Sm_mendAfter1b (l : Launch) (g : sv_G) (rest : va_W) (hS hW hwc hv x1 x2 x3 x4 x5 : Nat) (f v : Nat → Int32) (L : List Int32) (hL0 : L.length ≤ 254) (hL : L.length ≤ 255) (hf : pr_W f L) (hV : pr_V v L) (h1 : 1 ≤ L.length) : sv_Mv l y_Sm_mendAfter1b b_Sm_mendAfter1b 1 none rm_Sm_mendAfter1b g [.ref hS] ((hS, .inr (2, [.ref hW, .ref hv, .ref x1, .ref x2, .ref x3, .ref x4, .ref x5])) :: (hW, .inr (5, [.ref hwc, .int (nI L.length)])) :: (hwc, .inl (g.2.1 0, 255, .inl f)) :: (hv, .inl (g.2.1 2, 255, .inl v)) :: rest) (fun w => ∃ f2 v2 : Nat → Int32, w = ((hS, .inr (2, [.ref hW, .ref hv, .ref x1, .ref x2, .ref x3, .ref x4, .ref x5])) :: (hW, .inr (5, [.ref hwc, .int (nI (pc_mend L).length)])) :: (hwc, .inl (g.2.1 0, 255, .inl f2)) :: (hv, .inl (g.2.1 2, 255, .inl v2)) :: rest) ∧ pr_W f2 (pc_mend L) ∧ pr_V v2 (pc_mend L)) := by
  have le : (sv_txt 28).length = 1 := by rw [ltx_e]; rfl
  have ln : (sv_txt 6).length = 0 := by rw [ltx_nil]; rfl
  have ml := pu_meas_le L L.length
  refine sv_enter_v (by decide) rfl rfl (Nat.le_of_ble_eq_true rfl) (fun X C hI hr => ?_)
  refine sv_lvE (lv' := [some _]) rfl ?_
  have j36 : (pu_ends L [97, 116] ∨ pu_ends L [98, 108] ∨ pu_ends L [105, 122]) → sv_V X 1 0 0 ((hS, .inr (2, [.ref hW, .ref hv, .ref x1, .ref x2, .ref x3, .ref x4, .ref x5])) :: (hW, .inr (5, [.ref hwc, .int (nI L.length)])) :: (hwc, .inl (g.2.1 0, 255, .inl f)) :: (hv, .inl (g.2.1 2, 255, .inl v)) :: rest) 36 [some (.ref hS)] [] := by
    intro hj
    refine sv_aload_n C rfl rfl d_Sm_mendAfter1b_36 ?_
    refine sv_aload_n C rfl rfl d_Sm_mendAfter1b_37 ?_
    refine sv_get C fg_Sm_153 0 rfl rfl d_Sm_mendAfter1b_38 ?_
    refine sv_get C fg_Sm_161 1 rfl rfl d_Sm_mendAfter1b_41 ?_
    refine sv_ldcS C ws_28 d_Sm_mendAfter1b_44 ?_
    refine sv_callVv C (c_Sm_become l g rest hS hW hwc hv x1 x2 x3 x4 x5 f v L hL hf L.length 28 (by omega) (by decide) (by omega)) lk_Sm_206 List.mem_cons_self rfl d_Sm_mendAfter1b_46 (by decide) (Nat.le_of_ble_eq_true rfl) (by decide) (fun w hw => ?_)
    obtain ⟨f2, v2, rfl, hf2, hV2⟩ := hw
    refine sv_goto C 155 (by decide) d_Sm_mendAfter1b_49 ?_
    first
      | exact hr _ _ _ d_Sm_mendAfter1b_155 (by rw [show pc_mend L = L.take L.length ++ sv_txt 28 from by rw [pc_mend, if_pos hj, List.take_length, ltx_e]]; exact ⟨f2, v2, rfl, hf2, hV2⟩)
      | exact hr _ _ _ d_Sm_mendAfter1b_155 (by rw [show pc_mend L = L.take (L.length - 1) ++ sv_txt 6 from by rw [pc_mend, if_neg hj, if_pos ⟨c56, c68, c80, c92⟩, ltx_nil, List.append_nil]]; exact ⟨f2, v2, rfl, hf2, hV2⟩)
      | exact hr _ _ _ d_Sm_mendAfter1b_155 (by rw [show pc_mend L = L.take L.length ++ sv_txt 28 from by rw [pc_mend, if_neg hj.1, if_neg hj.2, if_pos ⟨c125, c139⟩, List.take_length, ltx_e]]; exact ⟨f2, v2, rfl, hf2, hV2⟩)
      | exact hr _ _ _ d_Sm_mendAfter1b_155 (by rw [show pc_mend L = L from by rw [pc_mend, if_neg hj.1, if_neg hj.2, if_neg (fun z => by first | exact c125 z.1 | exact c139 z.2)]]; exact ⟨f, v, rfl, hf, hV⟩)
  have j113 : ¬ (pu_ends L [97, 116] ∨ pu_ends L [98, 108] ∨ pu_ends L [105, 122]) ∧ ¬ (pu_dbl L ∧ ¬ pu_ends L [108] ∧ ¬ pu_ends L [115] ∧ ¬ pu_ends L [122]) → sv_V X 1 0 0 ((hS, .inr (2, [.ref hW, .ref hv, .ref x1, .ref x2, .ref x3, .ref x4, .ref x5])) :: (hW, .inr (5, [.ref hwc, .int (nI L.length)])) :: (hwc, .inl (g.2.1 0, 255, .inl f)) :: (hv, .inl (g.2.1 2, 255, .inl v)) :: rest) 113 [some (.ref hS)] [] := by
    intro hj
    refine sv_aload_n C rfl rfl d_Sm_mendAfter1b_113 ?_
    refine sv_aload_n C rfl rfl d_Sm_mendAfter1b_114 ?_
    refine sv_get C fg_Sm_153 0 rfl rfl d_Sm_mendAfter1b_115 ?_
    refine sv_get C fg_Sm_161 1 rfl rfl d_Sm_mendAfter1b_118 ?_
    refine sv_callVi C (c_Sm_measure l g rest hS hW hwc hv x1 x2 x3 x4 x5 f v L hL hf hV L.length (by omega)) lk_Sm_219 List.mem_cons_self rfl d_Sm_mendAfter1b_121 (by decide) (Nat.le_of_ble_eq_true rfl) (by decide) (fun r w hw => ?_)
    obtain ⟨rfl, rfl⟩ := hw
    refine sv_iconst C (v := 1) (by decide) d_Sm_mendAfter1b_124 ?_
    refine sv_icmpN_ne C _ 1 (by omega) (by omega) 155 (by decide) d_Sm_mendAfter1b_125 (fun c125 => ?_) (fun c125 => ?_)
    · skip
      first
        | exact hr _ _ _ d_Sm_mendAfter1b_155 (by rw [show pc_mend L = L.take L.length ++ sv_txt 28 from by rw [pc_mend, if_pos hj, List.take_length, ltx_e]]; exact ⟨f2, v2, rfl, hf2, hV2⟩)
        | exact hr _ _ _ d_Sm_mendAfter1b_155 (by rw [show pc_mend L = L.take (L.length - 1) ++ sv_txt 6 from by rw [pc_mend, if_neg hj, if_pos ⟨c56, c68, c80, c92⟩, ltx_nil, List.append_nil]]; exact ⟨f2, v2, rfl, hf2, hV2⟩)
        | exact hr _ _ _ d_Sm_mendAfter1b_155 (by rw [show pc_mend L = L.take L.length ++ sv_txt 28 from by rw [pc_mend, if_neg hj.1, if_neg hj.2, if_pos ⟨c125, c139⟩, List.take_length, ltx_e]]; exact ⟨f2, v2, rfl, hf2, hV2⟩)
        | exact hr _ _ _ d_Sm_mendAfter1b_155 (by rw [show pc_mend L = L from by rw [pc_mend, if_neg hj.1, if_neg hj.2, if_neg (fun z => by first | exact c125 z.1 | exact c139 z.2)]]; exact ⟨f, v, rfl, hf, hV⟩)
    · skip
      refine sv_aload_n C rfl rfl d_Sm_mendAfter1b_128 ?_
      refine sv_aload_n C rfl rfl d_Sm_mendAfter1b_129 ?_
      refine sv_get C fg_Sm_153 0 rfl rfl d_Sm_mendAfter1b_130 ?_
      refine sv_get C fg_Sm_161 1 rfl rfl d_Sm_mendAfter1b_133 ?_
      refine sv_callVi C (c_Sm_isCvc l g rest hS hW hwc hv x1 x2 x3 x4 x5 f v L hL hf hV L.length (by omega)) lk_Sm_247 List.mem_cons_self rfl d_Sm_mendAfter1b_136 (by decide) (Nat.le_of_ble_eq_true rfl) (by decide) (fun r w hw => ?_)
      obtain ⟨rfl, rfl⟩ := hw
      refine sv_ifB_eq C _ 155 (by decide) d_Sm_mendAfter1b_139 (fun c139 => ?_) (fun c139 => ?_)
      · skip
        first
          | exact hr _ _ _ d_Sm_mendAfter1b_155 (by rw [show pc_mend L = L.take L.length ++ sv_txt 28 from by rw [pc_mend, if_pos hj, List.take_length, ltx_e]]; exact ⟨f2, v2, rfl, hf2, hV2⟩)
          | exact hr _ _ _ d_Sm_mendAfter1b_155 (by rw [show pc_mend L = L.take (L.length - 1) ++ sv_txt 6 from by rw [pc_mend, if_neg hj, if_pos ⟨c56, c68, c80, c92⟩, ltx_nil, List.append_nil]]; exact ⟨f2, v2, rfl, hf2, hV2⟩)
          | exact hr _ _ _ d_Sm_mendAfter1b_155 (by rw [show pc_mend L = L.take L.length ++ sv_txt 28 from by rw [pc_mend, if_neg hj.1, if_neg hj.2, if_pos ⟨c125, c139⟩, List.take_length, ltx_e]]; exact ⟨f2, v2, rfl, hf2, hV2⟩)
          | exact hr _ _ _ d_Sm_mendAfter1b_155 (by rw [show pc_mend L = L from by rw [pc_mend, if_neg hj.1, if_neg hj.2, if_neg (fun z => by first | exact c125 z.1 | exact c139 z.2)]]; exact ⟨f, v, rfl, hf, hV⟩)
      · skip
        refine sv_aload_n C rfl rfl d_Sm_mendAfter1b_142 ?_
        refine sv_aload_n C rfl rfl d_Sm_mendAfter1b_143 ?_
        refine sv_get C fg_Sm_153 0 rfl rfl d_Sm_mendAfter1b_144 ?_
        refine sv_get C fg_Sm_161 1 rfl rfl d_Sm_mendAfter1b_147 ?_
        refine sv_ldcS C ws_28 d_Sm_mendAfter1b_150 ?_
        refine sv_callVv C (c_Sm_become l g rest hS hW hwc hv x1 x2 x3 x4 x5 f v L hL hf L.length 28 (by omega) (by decide) (by omega)) lk_Sm_206 List.mem_cons_self rfl d_Sm_mendAfter1b_152 (by decide) (Nat.le_of_ble_eq_true rfl) (by decide) (fun w hw => ?_)
        obtain ⟨f2, v2, rfl, hf2, hV2⟩ := hw
        first
          | exact hr _ _ _ d_Sm_mendAfter1b_155 (by rw [show pc_mend L = L.take L.length ++ sv_txt 28 from by rw [pc_mend, if_pos hj, List.take_length, ltx_e]]; exact ⟨f2, v2, rfl, hf2, hV2⟩)
          | exact hr _ _ _ d_Sm_mendAfter1b_155 (by rw [show pc_mend L = L.take (L.length - 1) ++ sv_txt 6 from by rw [pc_mend, if_neg hj, if_pos ⟨c56, c68, c80, c92⟩, ltx_nil, List.append_nil]]; exact ⟨f2, v2, rfl, hf2, hV2⟩)
          | exact hr _ _ _ d_Sm_mendAfter1b_155 (by rw [show pc_mend L = L.take L.length ++ sv_txt 28 from by rw [pc_mend, if_neg hj.1, if_neg hj.2, if_pos ⟨c125, c139⟩, List.take_length, ltx_e]]; exact ⟨f2, v2, rfl, hf2, hV2⟩)
          | exact hr _ _ _ d_Sm_mendAfter1b_155 (by rw [show pc_mend L = L from by rw [pc_mend, if_neg hj.1, if_neg hj.2, if_neg (fun z => by first | exact c125 z.1 | exact c139 z.2)]]; exact ⟨f, v, rfl, hf, hV⟩)
  have j52 : ¬ (pu_ends L [97, 116] ∨ pu_ends L [98, 108] ∨ pu_ends L [105, 122]) → sv_V X 1 0 0 ((hS, .inr (2, [.ref hW, .ref hv, .ref x1, .ref x2, .ref x3, .ref x4, .ref x5])) :: (hW, .inr (5, [.ref hwc, .int (nI L.length)])) :: (hwc, .inl (g.2.1 0, 255, .inl f)) :: (hv, .inl (g.2.1 2, 255, .inl v)) :: rest) 52 [some (.ref hS)] [] := by
    intro hj
    refine sv_aload_n C rfl rfl d_Sm_mendAfter1b_52 ?_
    refine sv_callVi C (c_Sm_isDouble l g rest hS hW hwc hv x1 x2 x3 x4 x5 f v L hL hf hV h1) lk_Sm_240 List.mem_cons_self rfl d_Sm_mendAfter1b_53 (by decide) (Nat.le_of_ble_eq_true rfl) (by decide) (fun r w hw => ?_)
    obtain ⟨rfl, rfl⟩ := hw
    refine sv_ifB_eq C _ 113 (by decide) d_Sm_mendAfter1b_56 (fun c56 => ?_) (fun c56 => ?_)
    · skip
      exact j113 ⟨hj, fun z => by first | exact c56 z.1 | exact z.2.1 c68 | exact z.2.2.1 c80 | exact z.2.2.2 c92⟩
    · skip
      refine sv_aload_n C rfl rfl d_Sm_mendAfter1b_59 ?_
      refine sv_get C fg_Sm_153 0 rfl rfl d_Sm_mendAfter1b_60 ?_
      refine sv_ldcS C ws_63 d_Sm_mendAfter1b_63 ?_
      refine sv_rot [1, 2, 0, 3] [_, _, _, _] [_, _, _, _] _ (_ :: _ :: _ :: _ :: _) rfl rfl rfl rfl ?_
      refine sv_callVi C (c_Wo_endsWith l g ((hS, .inr (2, [.ref hW, .ref hv, .ref x1, .ref x2, .ref x3, .ref x4, .ref x5])) :: (hv, .inl (g.2.1 2, 255, .inl v)) :: rest) hW hwc f L hL hf 63 (by decide) (by rw [ltx_l]; decide)) lk_Sm_232 List.mem_cons_self rfl d_Sm_mendAfter1b_65 (by decide) (Nat.le_of_ble_eq_true rfl) (by decide) (fun r w hw => ?_)
      obtain ⟨rfl, rfl⟩ := hw
      refine sv_ifB_ne C _ 113 (by decide) d_Sm_mendAfter1b_68 (fun c68 => ?_) (fun c68 => ?_)
      · skip
        rw [ltx_l] at c68
        refine sv_rot [2, 0, 1, 3] [_, _, _, _] [_, _, _, _] _ (_ :: _ :: _ :: _ :: _) rfl rfl rfl rfl ?_
        exact j113 ⟨hj, fun z => by first | exact c56 z.1 | exact z.2.1 c68 | exact z.2.2.1 c80 | exact z.2.2.2 c92⟩
      · skip
        rw [ltx_l] at c68
        refine sv_aload_n C rfl rfl d_Sm_mendAfter1b_71 ?_
        refine sv_get C fg_Sm_153 2 rfl rfl d_Sm_mendAfter1b_72 ?_
        refine sv_ldcS C ws_5 d_Sm_mendAfter1b_75 ?_
        refine sv_callVi C (c_Wo_endsWith l g ((hS, .inr (2, [.ref hW, .ref hv, .ref x1, .ref x2, .ref x3, .ref x4, .ref x5])) :: (hv, .inl (g.2.1 2, 255, .inl v)) :: rest) hW hwc f L hL hf 5 (by decide) (by rw [ltx_s]; decide)) lk_Sm_232 List.mem_cons_self rfl d_Sm_mendAfter1b_77 (by decide) (Nat.le_of_ble_eq_true rfl) (by decide) (fun r w hw => ?_)
        obtain ⟨rfl, rfl⟩ := hw
        refine sv_ifB_ne C _ 113 (by decide) d_Sm_mendAfter1b_80 (fun c80 => ?_) (fun c80 => ?_)
        · skip
          rw [ltx_s] at c80
          refine sv_rot [2, 0, 1, 3] [_, _, _, _] [_, _, _, _] _ (_ :: _ :: _ :: _ :: _) rfl rfl rfl rfl ?_
          exact j113 ⟨hj, fun z => by first | exact c56 z.1 | exact z.2.1 c68 | exact z.2.2.1 c80 | exact z.2.2.2 c92⟩
        · skip
          rw [ltx_s] at c80
          refine sv_aload_n C rfl rfl d_Sm_mendAfter1b_83 ?_
          refine sv_get C fg_Sm_153 2 rfl rfl d_Sm_mendAfter1b_84 ?_
          refine sv_ldcS C ws_64 d_Sm_mendAfter1b_87 ?_
          refine sv_callVi C (c_Wo_endsWith l g ((hS, .inr (2, [.ref hW, .ref hv, .ref x1, .ref x2, .ref x3, .ref x4, .ref x5])) :: (hv, .inl (g.2.1 2, 255, .inl v)) :: rest) hW hwc f L hL hf 64 (by decide) (by rw [ltx_z]; decide)) lk_Sm_232 List.mem_cons_self rfl d_Sm_mendAfter1b_89 (by decide) (Nat.le_of_ble_eq_true rfl) (by decide) (fun r w hw => ?_)
          obtain ⟨rfl, rfl⟩ := hw
          refine sv_ifB_ne C _ 113 (by decide) d_Sm_mendAfter1b_92 (fun c92 => ?_) (fun c92 => ?_)
          · skip
            rw [ltx_z] at c92
            refine sv_rot [2, 0, 1, 3] [_, _, _, _] [_, _, _, _] _ (_ :: _ :: _ :: _ :: _) rfl rfl rfl rfl ?_
            exact j113 ⟨hj, fun z => by first | exact c56 z.1 | exact z.2.1 c68 | exact z.2.2.1 c80 | exact z.2.2.2 c92⟩
          · skip
            rw [ltx_z] at c92
            refine sv_aload_n C rfl rfl d_Sm_mendAfter1b_95 ?_
            refine sv_aload_n C rfl rfl d_Sm_mendAfter1b_96 ?_
            refine sv_get C fg_Sm_153 2 rfl rfl d_Sm_mendAfter1b_97 ?_
            refine sv_get C fg_Sm_161 0 rfl rfl d_Sm_mendAfter1b_100 ?_
            refine sv_iconst C (v := 1) (by decide) d_Sm_mendAfter1b_103 ?_
            refine sv_isubN C _ 1 (by omega) d_Sm_mendAfter1b_104 ?_
            refine sv_ldcS C ws_6 d_Sm_mendAfter1b_105 ?_
            refine sv_rot [2, 0, 1, 3] [_, _, _, _] [_, _, _, _] _ (_ :: _ :: _ :: _ :: _) rfl rfl rfl rfl ?_
            refine sv_callVv C (c_Sm_become l g rest hS hW hwc hv x1 x2 x3 x4 x5 f v L hL hf (L.length - 1) 6 (by omega) (by decide) (by omega)) lk_Sm_206 List.mem_cons_self rfl d_Sm_mendAfter1b_107 (by decide) (Nat.le_of_ble_eq_true rfl) (by decide) (fun w hw => ?_)
            obtain ⟨f2, v2, rfl, hf2, hV2⟩ := hw
            refine sv_goto C 155 (by decide) d_Sm_mendAfter1b_110 ?_
            first
              | exact hr _ _ _ d_Sm_mendAfter1b_155 (by rw [show pc_mend L = L.take L.length ++ sv_txt 28 from by rw [pc_mend, if_pos hj, List.take_length, ltx_e]]; exact ⟨f2, v2, rfl, hf2, hV2⟩)
              | exact hr _ _ _ d_Sm_mendAfter1b_155 (by rw [show pc_mend L = L.take (L.length - 1) ++ sv_txt 6 from by rw [pc_mend, if_neg hj, if_pos ⟨c56, c68, c80, c92⟩, ltx_nil, List.append_nil]]; exact ⟨f2, v2, rfl, hf2, hV2⟩)
              | exact hr _ _ _ d_Sm_mendAfter1b_155 (by rw [show pc_mend L = L.take L.length ++ sv_txt 28 from by rw [pc_mend, if_neg hj.1, if_neg hj.2, if_pos ⟨c125, c139⟩, List.take_length, ltx_e]]; exact ⟨f2, v2, rfl, hf2, hV2⟩)
              | exact hr _ _ _ d_Sm_mendAfter1b_155 (by rw [show pc_mend L = L from by rw [pc_mend, if_neg hj.1, if_neg hj.2, if_neg (fun z => by first | exact c125 z.1 | exact c139 z.2)]]; exact ⟨f, v, rfl, hf, hV⟩)
  refine sv_aload_n C rfl rfl d_Sm_mendAfter1b_0 ?_
  refine sv_get C fg_Sm_153 0 rfl rfl d_Sm_mendAfter1b_1 ?_
  refine sv_ldcS C ws_60 d_Sm_mendAfter1b_4 ?_
  refine sv_rot [1, 2, 0, 3] [_, _, _, _] [_, _, _, _] _ (_ :: _ :: _ :: _ :: _) rfl rfl rfl rfl ?_
  refine sv_callVi C (c_Wo_endsWith l g ((hS, .inr (2, [.ref hW, .ref hv, .ref x1, .ref x2, .ref x3, .ref x4, .ref x5])) :: (hv, .inl (g.2.1 2, 255, .inl v)) :: rest) hW hwc f L hL hf 60 (by decide) (by rw [ltx_at]; decide)) lk_Sm_232 List.mem_cons_self rfl d_Sm_mendAfter1b_6 (by decide) (Nat.le_of_ble_eq_true rfl) (by decide) (fun r w hw => ?_)
  obtain ⟨rfl, rfl⟩ := hw
  refine sv_ifB_ne C _ 36 (by decide) d_Sm_mendAfter1b_9 (fun c9 => ?_) (fun c9 => ?_)
  · skip
    rw [ltx_at] at c9
    refine sv_rot [2, 0, 1, 3] [_, _, _, _] [_, _, _, _] _ (_ :: _ :: _ :: _ :: _) rfl rfl rfl rfl ?_
    exact j36 (by first | exact Or.inl c9 | exact Or.inr (Or.inl c21) | exact Or.inr (Or.inr c33))
  · skip
    rw [ltx_at] at c9
    refine sv_aload_n C rfl rfl d_Sm_mendAfter1b_12 ?_
    refine sv_get C fg_Sm_153 2 rfl rfl d_Sm_mendAfter1b_13 ?_
    refine sv_ldcS C ws_61 d_Sm_mendAfter1b_16 ?_
    refine sv_callVi C (c_Wo_endsWith l g ((hS, .inr (2, [.ref hW, .ref hv, .ref x1, .ref x2, .ref x3, .ref x4, .ref x5])) :: (hv, .inl (g.2.1 2, 255, .inl v)) :: rest) hW hwc f L hL hf 61 (by decide) (by rw [ltx_bl]; decide)) lk_Sm_232 List.mem_cons_self rfl d_Sm_mendAfter1b_18 (by decide) (Nat.le_of_ble_eq_true rfl) (by decide) (fun r w hw => ?_)
    obtain ⟨rfl, rfl⟩ := hw
    refine sv_ifB_ne C _ 36 (by decide) d_Sm_mendAfter1b_21 (fun c21 => ?_) (fun c21 => ?_)
    · skip
      rw [ltx_bl] at c21
      refine sv_rot [2, 0, 1, 3] [_, _, _, _] [_, _, _, _] _ (_ :: _ :: _ :: _ :: _) rfl rfl rfl rfl ?_
      exact j36 (by first | exact Or.inl c9 | exact Or.inr (Or.inl c21) | exact Or.inr (Or.inr c33))
    · skip
      rw [ltx_bl] at c21
      refine sv_aload_n C rfl rfl d_Sm_mendAfter1b_24 ?_
      refine sv_get C fg_Sm_153 2 rfl rfl d_Sm_mendAfter1b_25 ?_
      refine sv_ldcS C ws_62 d_Sm_mendAfter1b_28 ?_
      refine sv_callVi C (c_Wo_endsWith l g ((hS, .inr (2, [.ref hW, .ref hv, .ref x1, .ref x2, .ref x3, .ref x4, .ref x5])) :: (hv, .inl (g.2.1 2, 255, .inl v)) :: rest) hW hwc f L hL hf 62 (by decide) (by rw [ltx_iz]; decide)) lk_Sm_232 List.mem_cons_self rfl d_Sm_mendAfter1b_30 (by decide) (Nat.le_of_ble_eq_true rfl) (by decide) (fun r w hw => ?_)
      obtain ⟨rfl, rfl⟩ := hw
      refine sv_ifB_eq C _ 52 (by decide) d_Sm_mendAfter1b_33 (fun c33 => ?_) (fun c33 => ?_)
      · skip
        rw [ltx_iz] at c33
        refine sv_rot [2, 0, 1, 3] [_, _, _, _] [_, _, _, _] _ (_ :: _ :: _ :: _ :: _) rfl rfl rfl rfl ?_
        exact j52 (fun z => by rcases z with z | z | z <;> first | exact c9 z | exact c21 z | exact c33 z)
      · skip
        rw [ltx_iz] at c33
        refine sv_rot [2, 0, 1, 3] [_, _, _, _] [_, _, _, _] _ (_ :: _ :: _ :: _ :: _) rfl rfl rfl rfl ?_
        exact j36 (by first | exact Or.inl c9 | exact Or.inr (Or.inl c21) | exact Or.inr (Or.inr c33))

theorem pc_s1b_none {L : List Int32} (h : pu_lng L (sv_EL tx_1b 3) 0 none = none) : pc_s1b L = L := by
  rw [te_1b] at h
  simp only [pc_s1b, h]
theorem pc_s1b_some {L : List Int32} {q : Nat × List Int32} (h : pu_lng L (sv_EL tx_1b 3) 0 none = some q) (h1 : q.1 < 3) (h2 : q.2 = sv_txt (tx_1b q.1)) : pc_s1b L = if sv_txt (tx_1b q.1) = sv_txt 7 then (if 0 < pu_meas L (L.length - (sv_txt (tx_1b q.1)).length) then (L.take (L.length - (sv_txt (tx_1b q.1)).length) ++ sv_txt (sb_1b q.1)) else L) else if pu_anyV L (L.length - (sv_txt (tx_1b q.1)).length) = true then pc_mend (L.take (L.length - (sv_txt (tx_1b q.1)).length) ++ sv_txt (sb_1b q.1)) else L := by
  rw [te_1b] at h
  simp only [pc_s1b, h]
  rw [h2, ts_1b q.1 h1, ltx_eed]
theorem pu_anyV_pos {L : List Int32} {m : Nat} (h : pu_anyV L m = true) : 1 ≤ m := by
  cases m with
  | zero => cases h
  | succ m => omega
def rm_Sm_step1b : Room := { frames := 9, cells := 0, slots := 0, locals := 250 }
set_option maxHeartbeats 4000000 in
set_option maxRecDepth 100000 in
theorem c_Sm_step1b (l : Launch) (g : sv_G) (rest : va_W) (hS hW hwc hv x1 x2 x3 x4 x5 : Nat) (f v : Nat → Int32) (L : List Int32) (hL : L.length ≤ 255) (hf : pr_W f L) (hV : pr_V v L) (hE0 : sv_EA g rest x2 3 tx_1b sb_1b) : sv_Mv l y_Sm_step1b b_Sm_step1b 3 none rm_Sm_step1b g [.ref hS] ((hS, .inr (2, [.ref hW, .ref hv, .ref x1, .ref x2, .ref x3, .ref x4, .ref x5])) :: (hW, .inr (5, [.ref hwc, .int (nI L.length)])) :: (hwc, .inl (g.2.1 0, 255, .inl f)) :: (hv, .inl (g.2.1 2, 255, .inl v)) :: rest) (fun w => ∃ f2 v2 : Nat → Int32, w = ((hS, .inr (2, [.ref hW, .ref hv, .ref x1, .ref x2, .ref x3, .ref x4, .ref x5])) :: (hW, .inr (5, [.ref hwc, .int (nI (pc_s1b L).length)])) :: (hwc, .inl (g.2.1 0, 255, .inl f2)) :: (hv, .inl (g.2.1 2, 255, .inl v2)) :: rest) ∧ pr_W f2 (pc_s1b L) ∧ pr_V v2 (pc_s1b L)) := by
  have tl := tl_1b
  have tp : ∀ k, k < 3 → (sv_txt (sb_1b k)).length + 1 ≤ (sv_txt (tx_1b k)).length := by decide +kernel
  refine sv_enter_v (by decide) rfl rfl (Nat.le_of_ble_eq_true rfl) (fun X C hI hr => ?_)
  refine sv_lvE (lv' := [some _, none, none]) rfl ?_
  refine sv_aload_n C rfl rfl d_Sm_step1b_0 ?_
  refine sv_aload_n C rfl rfl d_Sm_step1b_1 ?_
  refine sv_get C fg_Sm_38 0 rfl rfl d_Sm_step1b_2 ?_
  refine sv_callVq C (c_Sm_longest l g rest hS hW hwc hv x1 x2 x3 x4 x5 f v L hL hf hV x2 3 tx_1b sb_1b hE0 (by decide)) lk_Sm_194 List.mem_cons_self rfl d_Sm_step1b_5 (by decide) (Nat.le_of_ble_eq_true rfl) (by decide) (fun r w hw => ?_)
  skip
  obtain ⟨rfl, hfd⟩ := hw
  rcases hlg : pu_lng L (sv_EL tx_1b 3) 0 none with _ | q
  · skip
    rw [hlg] at hfd
    obtain rfl : r = none := hfd
    refine sv_astore_nN C rfl (by decide) [some _, some _, none] rfl d_Sm_step1b_8 ?_
    refine sv_aload_nN C rfl rfl d_Sm_step1b_9 ?_
    refine sv_ifnonnullN C d_Sm_step1b_10 ?_
    exact hr _ _ _ d_Sm_step1b_13 (by rw [show pc_s1b L = L from pc_s1b_none hlg]; exact ⟨f, v, rfl, hf, hV⟩)
  · skip
    rw [hlg] at hfd
    obtain ⟨a, rfl, hm, hq1, hq2⟩ := hfd
    have hen := ((pu_lng_spec L (sv_EL tx_1b 3) 0 none (fun q hq => by cases hq)).1 q hlg).1
    have hle : (sv_txt (tx_1b q.1)).length ≤ L.length := by rw [← hq2]; exact hen.1
    obtain ⟨fa, ea, hA, hE⟩ := hE0
    have ht := (hE q.1 hq1).2.2.1
    have hs := (hE q.1 hq1).2.2.2.1
    have hsl := tl q.1 hq1
    have ml := pu_meas_le L (L.length - (sv_txt (tx_1b q.1)).length)
    refine sv_astore_n C rfl (by decide) [some _, some _, none] rfl d_Sm_step1b_8 ?_
    refine sv_aload_n C rfl rfl d_Sm_step1b_9 ?_
    refine sv_ifnonnull C 14 (by decide) d_Sm_step1b_10 ?_
    refine sv_aload_n C rfl rfl d_Sm_step1b_14 ?_
    refine sv_aload_n C rfl rfl d_Sm_step1b_15 ?_
    refine sv_callVi C (c_Sm_stemBefore l g rest hS hW hwc hv x1 x2 x3 x4 x5 f v L hL hf hV a (tx_1b q.1) (sb_1b q.1) hm ht hle) lk_Sm_198 List.mem_cons_self rfl d_Sm_step1b_16 (by decide) (Nat.le_of_ble_eq_true rfl) (by decide) (fun r w hw => ?_)
    obtain ⟨rfl, rfl⟩ := hw
    refine sv_istore_n C rfl (by decide) [some _, some _, some _] rfl d_Sm_step1b_19 ?_
    refine sv_aload_n C rfl rfl d_Sm_step1b_20 ?_
    refine sv_getM C fg_Sm_210 (List.mem_cons_of_mem _ (List.mem_cons_of_mem _ (List.mem_cons_of_mem _ (List.mem_cons_of_mem _ hm)))) rfl d_Sm_step1b_21 ?_
    refine sv_ldcS C ws_7 d_Sm_step1b_24 ?_
    refine sv_callVsi C (tx_1b q.1) ht (c_Str_equals l g _ (tx_1b q.1) 7 ht (by decide)) lk_Sm_213 rfl d_Sm_step1b_26 (by decide) (Nat.le_of_ble_eq_true rfl) (by decide) (fun r w hw => ?_)
    obtain ⟨rfl, rfl⟩ := hw
    refine sv_ifB_eq C _ 52 (by decide) d_Sm_step1b_29 (fun c29 => ?_) (fun c29 => ?_)
    · skip
      refine sv_aload_n C rfl rfl d_Sm_step1b_52 ?_
      refine sv_iload_n C rfl rfl d_Sm_step1b_53 ?_
      refine sv_callVi C (c_Sm_hasVowel l g rest hS hW hwc hv x1 x2 x3 x4 x5 f v L hL hf hV (L.length - (sv_txt (tx_1b q.1)).length) (by omega)) lk_Sm_223 List.mem_cons_self rfl d_Sm_step1b_54 (by decide) (Nat.le_of_ble_eq_true rfl) (by decide) (fun r w hw => ?_)
      obtain ⟨rfl, rfl⟩ := hw
      refine sv_ifB_eq C _ 73 (by decide) d_Sm_step1b_57 (fun c57 => ?_) (fun c57 => ?_)
      · skip
        first
          | exact hr _ _ _ d_Sm_step1b_73 (by rw [show pc_s1b L = pc_mend (L.take (L.length - (sv_txt (tx_1b q.1)).length) ++ sv_txt (sb_1b q.1)) from (pc_s1b_some hlg hq1 hq2).trans (by rw [if_neg c29, if_pos c57])]; exact ⟨f3, v3, rfl, hf3, hV3⟩)
          | exact hr _ _ _ d_Sm_step1b_73 (by rw [show pc_s1b L = (L.take (L.length - (sv_txt (tx_1b q.1)).length) ++ sv_txt (sb_1b q.1)) from (pc_s1b_some hlg hq1 hq2).trans (by rw [if_pos c29, if_pos (by omega)])]; exact ⟨f2, v2, rfl, hf2, hV2⟩)
          | exact hr _ _ _ d_Sm_step1b_73 (by rw [show pc_s1b L = L from (pc_s1b_some hlg hq1 hq2).trans (by rw [if_pos c29, if_neg (by omega)])]; exact ⟨f, v, rfl, hf, hV⟩)
          | exact hr _ _ _ d_Sm_step1b_73 (by rw [show pc_s1b L = L from (pc_s1b_some hlg hq1 hq2).trans (by rw [if_neg c29, if_neg c57])]; exact ⟨f, v, rfl, hf, hV⟩)
      · skip
        refine sv_aload_n C rfl rfl d_Sm_step1b_60 ?_
        refine sv_iload_n C rfl rfl d_Sm_step1b_61 ?_
        refine sv_aload_n C rfl rfl d_Sm_step1b_62 ?_
        refine sv_getM C fg_Sm_202 (List.mem_cons_of_mem _ (List.mem_cons_of_mem _ (List.mem_cons_of_mem _ (List.mem_cons_of_mem _ hm)))) rfl d_Sm_step1b_63 ?_
        refine sv_callVv C (c_Sm_become l g rest hS hW hwc hv x1 x2 x3 x4 x5 f v L hL hf (L.length - (sv_txt (tx_1b q.1)).length) (sb_1b q.1) (by omega) hs (by omega)) lk_Sm_206 List.mem_cons_self rfl d_Sm_step1b_66 (by decide) (Nat.le_of_ble_eq_true rfl) (by decide) (fun w hw => ?_)
        obtain ⟨f2, v2, rfl, hf2, hV2⟩ := hw
        refine sv_aload_n C rfl rfl d_Sm_step1b_69 ?_
        have hp := pu_anyV_pos c57
        have tq := tp q.1 hq1
        have hlen : (L.take (L.length - (sv_txt (tx_1b q.1)).length) ++ sv_txt (sb_1b q.1)).length = (L.length - (sv_txt (tx_1b q.1)).length) + (sv_txt (sb_1b q.1)).length := by rw [List.length_append, List.length_take]; omega
        refine sv_callVv C (c_Sm_mendAfter1b l g rest hS hW hwc hv x1 x2 x3 x4 x5 f2 v2 (L.take (L.length - (sv_txt (tx_1b q.1)).length) ++ sv_txt (sb_1b q.1)) (by omega) (by omega) hf2 hV2 (by omega)) lk_Sm_227 List.mem_cons_self rfl d_Sm_step1b_70 (by decide) (Nat.le_of_ble_eq_true rfl) (by decide) (fun w hw => ?_)
        obtain ⟨f3, v3, rfl, hf3, hV3⟩ := hw
        first
          | exact hr _ _ _ d_Sm_step1b_73 (by rw [show pc_s1b L = pc_mend (L.take (L.length - (sv_txt (tx_1b q.1)).length) ++ sv_txt (sb_1b q.1)) from (pc_s1b_some hlg hq1 hq2).trans (by rw [if_neg c29, if_pos c57])]; exact ⟨f3, v3, rfl, hf3, hV3⟩)
          | exact hr _ _ _ d_Sm_step1b_73 (by rw [show pc_s1b L = (L.take (L.length - (sv_txt (tx_1b q.1)).length) ++ sv_txt (sb_1b q.1)) from (pc_s1b_some hlg hq1 hq2).trans (by rw [if_pos c29, if_pos (by omega)])]; exact ⟨f2, v2, rfl, hf2, hV2⟩)
          | exact hr _ _ _ d_Sm_step1b_73 (by rw [show pc_s1b L = L from (pc_s1b_some hlg hq1 hq2).trans (by rw [if_pos c29, if_neg (by omega)])]; exact ⟨f, v, rfl, hf, hV⟩)
          | exact hr _ _ _ d_Sm_step1b_73 (by rw [show pc_s1b L = L from (pc_s1b_some hlg hq1 hq2).trans (by rw [if_neg c29, if_neg c57])]; exact ⟨f, v, rfl, hf, hV⟩)
    · skip
      refine sv_aload_n C rfl rfl d_Sm_step1b_32 ?_
      refine sv_iload_n C rfl rfl d_Sm_step1b_33 ?_
      refine sv_callVi C (c_Sm_measure l g rest hS hW hwc hv x1 x2 x3 x4 x5 f v L hL hf hV (L.length - (sv_txt (tx_1b q.1)).length) (by omega)) lk_Sm_219 List.mem_cons_self rfl d_Sm_step1b_34 (by decide) (Nat.le_of_ble_eq_true rfl) (by decide) (fun r w hw => ?_)
      obtain ⟨rfl, rfl⟩ := hw
      refine sv_ifN_le C _ (by omega) 73 (by decide) d_Sm_step1b_37 (fun c37 => ?_) (fun c37 => ?_)
      · skip
        first
          | exact hr _ _ _ d_Sm_step1b_73 (by rw [show pc_s1b L = pc_mend (L.take (L.length - (sv_txt (tx_1b q.1)).length) ++ sv_txt (sb_1b q.1)) from (pc_s1b_some hlg hq1 hq2).trans (by rw [if_neg c29, if_pos c57])]; exact ⟨f3, v3, rfl, hf3, hV3⟩)
          | exact hr _ _ _ d_Sm_step1b_73 (by rw [show pc_s1b L = (L.take (L.length - (sv_txt (tx_1b q.1)).length) ++ sv_txt (sb_1b q.1)) from (pc_s1b_some hlg hq1 hq2).trans (by rw [if_pos c29, if_pos (by omega)])]; exact ⟨f2, v2, rfl, hf2, hV2⟩)
          | exact hr _ _ _ d_Sm_step1b_73 (by rw [show pc_s1b L = L from (pc_s1b_some hlg hq1 hq2).trans (by rw [if_pos c29, if_neg (by omega)])]; exact ⟨f, v, rfl, hf, hV⟩)
          | exact hr _ _ _ d_Sm_step1b_73 (by rw [show pc_s1b L = L from (pc_s1b_some hlg hq1 hq2).trans (by rw [if_neg c29, if_neg c57])]; exact ⟨f, v, rfl, hf, hV⟩)
      · skip
        refine sv_aload_n C rfl rfl d_Sm_step1b_40 ?_
        refine sv_iload_n C rfl rfl d_Sm_step1b_41 ?_
        refine sv_aload_n C rfl rfl d_Sm_step1b_42 ?_
        refine sv_getM C fg_Sm_202 (List.mem_cons_of_mem _ (List.mem_cons_of_mem _ (List.mem_cons_of_mem _ (List.mem_cons_of_mem _ hm)))) rfl d_Sm_step1b_43 ?_
        refine sv_callVv C (c_Sm_become l g rest hS hW hwc hv x1 x2 x3 x4 x5 f v L hL hf (L.length - (sv_txt (tx_1b q.1)).length) (sb_1b q.1) (by omega) hs (by omega)) lk_Sm_206 List.mem_cons_self rfl d_Sm_step1b_46 (by decide) (Nat.le_of_ble_eq_true rfl) (by decide) (fun w hw => ?_)
        obtain ⟨f2, v2, rfl, hf2, hV2⟩ := hw
        refine sv_goto C 73 (by decide) d_Sm_step1b_49 ?_
        first
          | exact hr _ _ _ d_Sm_step1b_73 (by rw [show pc_s1b L = pc_mend (L.take (L.length - (sv_txt (tx_1b q.1)).length) ++ sv_txt (sb_1b q.1)) from (pc_s1b_some hlg hq1 hq2).trans (by rw [if_neg c29, if_pos c57])]; exact ⟨f3, v3, rfl, hf3, hV3⟩)
          | exact hr _ _ _ d_Sm_step1b_73 (by rw [show pc_s1b L = (L.take (L.length - (sv_txt (tx_1b q.1)).length) ++ sv_txt (sb_1b q.1)) from (pc_s1b_some hlg hq1 hq2).trans (by rw [if_pos c29, if_pos (by omega)])]; exact ⟨f2, v2, rfl, hf2, hV2⟩)
          | exact hr _ _ _ d_Sm_step1b_73 (by rw [show pc_s1b L = L from (pc_s1b_some hlg hq1 hq2).trans (by rw [if_pos c29, if_neg (by omega)])]; exact ⟨f, v, rfl, hf, hV⟩)
          | exact hr _ _ _ d_Sm_step1b_73 (by rw [show pc_s1b L = L from (pc_s1b_some hlg hq1 hq2).trans (by rw [if_neg c29, if_neg c57])]; exact ⟨f, v, rfl, hf, hV⟩)

def rm_Sm_step1c : Room := { frames := 8, cells := 0, slots := 0, locals := 230 }
set_option maxHeartbeats 4000000 in
set_option maxRecDepth 100000 in
theorem c_Sm_step1c (l : Launch) (g : sv_G) (rest : va_W) (hS hW hwc hv x1 x2 x3 x4 x5 : Nat) (f v : Nat → Int32) (L : List Int32) (hL : L.length ≤ 255) (hf : pr_W f L) (hV : pr_V v L) (h1 : 1 ≤ L.length) : sv_Mv l y_Sm_step1c b_Sm_step1c 2 none rm_Sm_step1c g [.ref hS] ((hS, .inr (2, [.ref hW, .ref hv, .ref x1, .ref x2, .ref x3, .ref x4, .ref x5])) :: (hW, .inr (5, [.ref hwc, .int (nI L.length)])) :: (hwc, .inl (g.2.1 0, 255, .inl f)) :: (hv, .inl (g.2.1 2, 255, .inl v)) :: rest) (fun w => ∃ f2 v2 : Nat → Int32, w = ((hS, .inr (2, [.ref hW, .ref hv, .ref x1, .ref x2, .ref x3, .ref x4, .ref x5])) :: (hW, .inr (5, [.ref hwc, .int (nI (pu_s1c L).length)])) :: (hwc, .inl (g.2.1 0, 255, .inl f2)) :: (hv, .inl (g.2.1 2, 255, .inl v2)) :: rest) ∧ pr_W f2 (pu_s1c L) ∧ pr_V v2 (pu_s1c L)) := by
  have li : (sv_txt 4).length = 1 := by rw [ltx_i]; rfl
  refine sv_enter_v (by decide) rfl rfl (Nat.le_of_ble_eq_true rfl) (fun X C hI hr => ?_)
  refine sv_lvE (lv' := [some _, none]) rfl ?_
  refine sv_aload_n C rfl rfl d_Sm_step1c_0 ?_
  refine sv_get C fg_Sm_153 0 rfl rfl d_Sm_step1c_1 ?_
  refine sv_get C fg_Sm_161 1 rfl rfl d_Sm_step1c_4 ?_
  refine sv_iconst C (v := 1) (by decide) d_Sm_step1c_7 ?_
  refine sv_isubN C _ 1 (by omega) d_Sm_step1c_8 ?_
  refine sv_istore_n C rfl (by decide) [some _, some _] rfl d_Sm_step1c_9 ?_
  refine sv_aload_n C rfl rfl d_Sm_step1c_10 ?_
  refine sv_get C fg_Sm_153 0 rfl rfl d_Sm_step1c_11 ?_
  refine sv_ldcS C ws_65 d_Sm_step1c_14 ?_
  refine sv_rot [1, 2, 0, 3] [_, _, _, _] [_, _, _, _] _ (_ :: _ :: _ :: _ :: _) rfl rfl rfl rfl ?_
  refine sv_callVi C (c_Wo_endsWith l g ((hS, .inr (2, [.ref hW, .ref hv, .ref x1, .ref x2, .ref x3, .ref x4, .ref x5])) :: (hv, .inl (g.2.1 2, 255, .inl v)) :: rest) hW hwc f L hL hf 65 (by decide) (by rw [ltx_y]; decide)) lk_Sm_232 List.mem_cons_self rfl d_Sm_step1c_16 (by decide) (Nat.le_of_ble_eq_true rfl) (by decide) (fun r w hw => ?_)
  obtain ⟨rfl, rfl⟩ := hw
  refine sv_ifB_eq C _ 37 (by decide) d_Sm_step1c_19 (fun c19 => ?_) (fun c19 => ?_)
  · skip
    rw [ltx_y] at c19
    refine sv_rot [2, 0, 1, 3] [_, _, _, _] [_, _, _, _] _ (_ :: _ :: _ :: _ :: _) rfl rfl rfl rfl ?_
    first
      | exact hr _ _ _ d_Sm_step1c_37 (by rw [show pu_s1c L = L.take (L.length - 1) ++ sv_txt 4 from by rw [pu_s1c, if_pos ⟨c19, c27⟩, ltx_i]]; exact ⟨f2, v2, rfl, hf2, hV2⟩)
      | exact hr _ _ _ d_Sm_step1c_37 (by rw [show pu_s1c L = L from by rw [pu_s1c, if_neg (fun z => by first | exact c19 z.1 | exact c27 z.2)]]; exact ⟨f, v, rfl, hf, hV⟩)
  · skip
    rw [ltx_y] at c19
    refine sv_aload_n C rfl rfl d_Sm_step1c_22 ?_
    refine sv_iload_n C rfl rfl d_Sm_step1c_23 ?_
    refine sv_rot [2, 0, 1, 3] [_, _, _, _] [_, _, _, _] _ (_ :: _ :: _ :: _ :: _) rfl rfl rfl rfl ?_
    refine sv_callVi C (c_Sm_hasVowel l g rest hS hW hwc hv x1 x2 x3 x4 x5 f v L hL hf hV (L.length - 1) (by omega)) lk_Sm_223 List.mem_cons_self rfl d_Sm_step1c_24 (by decide) (Nat.le_of_ble_eq_true rfl) (by decide) (fun r w hw => ?_)
    obtain ⟨rfl, rfl⟩ := hw
    refine sv_ifB_eq C _ 37 (by decide) d_Sm_step1c_27 (fun c27 => ?_) (fun c27 => ?_)
    · skip
      first
        | exact hr _ _ _ d_Sm_step1c_37 (by rw [show pu_s1c L = L.take (L.length - 1) ++ sv_txt 4 from by rw [pu_s1c, if_pos ⟨c19, c27⟩, ltx_i]]; exact ⟨f2, v2, rfl, hf2, hV2⟩)
        | exact hr _ _ _ d_Sm_step1c_37 (by rw [show pu_s1c L = L from by rw [pu_s1c, if_neg (fun z => by first | exact c19 z.1 | exact c27 z.2)]]; exact ⟨f, v, rfl, hf, hV⟩)
    · skip
      refine sv_aload_n C rfl rfl d_Sm_step1c_30 ?_
      refine sv_iload_n C rfl rfl d_Sm_step1c_31 ?_
      refine sv_ldcS C ws_4 d_Sm_step1c_32 ?_
      refine sv_callVv C (c_Sm_become l g rest hS hW hwc hv x1 x2 x3 x4 x5 f v L hL hf (L.length - 1) 4 (by omega) (by decide) (by omega)) lk_Sm_206 List.mem_cons_self rfl d_Sm_step1c_34 (by decide) (Nat.le_of_ble_eq_true rfl) (by decide) (fun w hw => ?_)
      obtain ⟨f2, v2, rfl, hf2, hV2⟩ := hw
      first
        | exact hr _ _ _ d_Sm_step1c_37 (by rw [show pu_s1c L = L.take (L.length - 1) ++ sv_txt 4 from by rw [pu_s1c, if_pos ⟨c19, c27⟩, ltx_i]]; exact ⟨f2, v2, rfl, hf2, hV2⟩)
        | exact hr _ _ _ d_Sm_step1c_37 (by rw [show pu_s1c L = L from by rw [pu_s1c, if_neg (fun z => by first | exact c19 z.1 | exact c27 z.2)]]; exact ⟨f, v, rfl, hf, hV⟩)

theorem pc_s4_repl {L : List Int32} (h : ¬ (pu_ends L [105, 111, 110] ∧ ¬ pu_ends L [115, 105, 111, 110] ∧ ¬ pu_ends L [116, 105, 111, 110])) : pc_s4 L = pc_repl tx_4 sb_4 19 1 L := by
  rw [pc_s4, if_neg h]
  unfold pc_repl
  rw [te_4]
  cases hq : pu_lng L pu_E4c 0 none with
  | none => rfl
  | some q =>
    have h1 := pu_lng_at L pu_E4c pu_E4c 0 none rfl (fun q hq => by cases hq) q hq
    show (if 1 < pu_meas L (L.length - q.2.length) then L.take (L.length - q.2.length) else L) = (if 1 < pu_meas L (L.length - q.2.length) then L.take (L.length - q.2.length) ++ sv_txt (sb_4 q.1) else L)
    rw [ts_4 q.1 h1.2, List.append_nil]
def rm_Sm_step4 : Room := { frames := 9, cells := 0, slots := 0, locals := 257 }
set_option maxHeartbeats 4000000 in
set_option maxRecDepth 100000 in
theorem c_Sm_step4 (l : Launch) (g : sv_G) (rest : va_W) (hS hW hwc hv x1 x2 x3 x4 x5 : Nat) (f v : Nat → Int32) (L : List Int32) (hL : L.length ≤ 255) (hf : pr_W f L) (hV : pr_V v L) (hE0 : sv_EA g rest x5 19 tx_4 sb_4) : sv_Mv l y_Sm_step4 b_Sm_step4 2 none rm_Sm_step4 g [.ref hS] ((hS, .inr (2, [.ref hW, .ref hv, .ref x1, .ref x2, .ref x3, .ref x4, .ref x5])) :: (hW, .inr (5, [.ref hwc, .int (nI L.length)])) :: (hwc, .inl (g.2.1 0, 255, .inl f)) :: (hv, .inl (g.2.1 2, 255, .inl v)) :: rest) (fun w => ∃ f2 v2 : Nat → Int32, w = ((hS, .inr (2, [.ref hW, .ref hv, .ref x1, .ref x2, .ref x3, .ref x4, .ref x5])) :: (hW, .inr (5, [.ref hwc, .int (nI (pc_s4 L).length)])) :: (hwc, .inl (g.2.1 0, 255, .inl f2)) :: (hv, .inl (g.2.1 2, 255, .inl v2)) :: rest) ∧ pr_W f2 (pc_s4 L) ∧ pr_V v2 (pc_s4 L)) := by
  refine sv_enter_v (by decide) rfl rfl (Nat.le_of_ble_eq_true rfl) (fun X C hI hr => ?_)
  refine sv_lvE (lv' := [some _, none]) rfl ?_
  refine sv_aload_n C rfl rfl d_Sm_step4_0 ?_
  refine sv_get C fg_Sm_153 0 rfl rfl d_Sm_step4_1 ?_
  refine sv_ldcS C ws_56 d_Sm_step4_4 ?_
  refine sv_rot [1, 2, 0, 3] [_, _, _, _] [_, _, _, _] _ (_ :: _ :: _ :: _ :: _) rfl rfl rfl rfl ?_
  refine sv_callVi C (c_Wo_endsWith l g ((hS, .inr (2, [.ref hW, .ref hv, .ref x1, .ref x2, .ref x3, .ref x4, .ref x5])) :: (hv, .inl (g.2.1 2, 255, .inl v)) :: rest) hW hwc f L hL hf 56 (by decide) (by rw [ltx_ion]; decide)) lk_Sm_232 List.mem_cons_self rfl d_Sm_step4_6 (by decide) (Nat.le_of_ble_eq_true rfl) (by decide) (fun r w hw => ?_)
  obtain ⟨rfl, rfl⟩ := hw
  refine sv_ifB_eq C _ 40 (by decide) d_Sm_step4_9 (fun c9 => ?_) (fun c9 => ?_)
  · skip
    rw [ltx_ion] at c9
    refine sv_iconst C (v := 0) (by decide) d_Sm_step4_40 ?_
    refine sv_istore_n C rfl (by decide) [some _, some _] rfl d_Sm_step4_41 ?_
    refine sv_iload_n C rfl rfl d_Sm_step4_42 ?_
    refine sv_ifZ_ne C 55 (by decide) d_Sm_step4_43 (fun c43 => ?_) (fun c43 => ?_)
    · skip
      exact absurd c43 (by decide)
    · skip
      refine sv_aload_n C rfl rfl d_Sm_step4_46 ?_
      refine sv_aload_n C rfl rfl d_Sm_step4_47 ?_
      refine sv_get C fg_Sm_145 2 rfl rfl d_Sm_step4_48 ?_
      refine sv_iconst C (v := 1) (by decide) d_Sm_step4_51 ?_
      refine sv_rot [2, 0, 1, 3] [_, _, _, _] [_, _, _, _] _ (_ :: _ :: _ :: _ :: _) rfl rfl rfl rfl ?_
      refine sv_callVv C (c_Sm_replaceIfAbove l g rest hS hW hwc hv x1 x2 x3 x4 x5 f v L hL hf hV x5 19 tx_4 sb_4 hE0 (by decide) tl_4 1 (by decide)) lk_Sm_181 List.mem_cons_self rfl d_Sm_step4_52 (by decide) (Nat.le_of_ble_eq_true rfl) (by decide) (fun w hw => ?_)
      obtain ⟨f2, v2, rfl, hf2, hV2⟩ := hw
      first
        | exact hr _ _ _ d_Sm_step4_55 (by rw [show pc_s4 L = L from by rw [pc_s4, if_pos ⟨c9, c21, c33⟩]]; exact ⟨f, v, rfl, hf, hV⟩)
        | exact hr _ _ _ d_Sm_step4_55 (by rw [show pc_s4 L = pc_repl tx_4 sb_4 19 1 L from pc_s4_repl (fun z => by first | exact c9 z.1 | exact z.2.1 c21 | exact z.2.2 c33)]; exact ⟨f2, v2, rfl, hf2, hV2⟩)
  · skip
    rw [ltx_ion] at c9
    refine sv_aload_n C rfl rfl d_Sm_step4_12 ?_
    refine sv_get C fg_Sm_153 2 rfl rfl d_Sm_step4_13 ?_
    refine sv_ldcS C ws_66 d_Sm_step4_16 ?_
    refine sv_callVi C (c_Wo_endsWith l g ((hS, .inr (2, [.ref hW, .ref hv, .ref x1, .ref x2, .ref x3, .ref x4, .ref x5])) :: (hv, .inl (g.2.1 2, 255, .inl v)) :: rest) hW hwc f L hL hf 66 (by decide) (by rw [ltx_sion]; decide)) lk_Sm_232 List.mem_cons_self rfl d_Sm_step4_18 (by decide) (Nat.le_of_ble_eq_true rfl) (by decide) (fun r w hw => ?_)
    obtain ⟨rfl, rfl⟩ := hw
    refine sv_ifB_ne C _ 40 (by decide) d_Sm_step4_21 (fun c21 => ?_) (fun c21 => ?_)
    · skip
      rw [ltx_sion] at c21
      refine sv_iconst C (v := 0) (by decide) d_Sm_step4_40 ?_
      refine sv_istore_n C rfl (by decide) [some _, some _] rfl d_Sm_step4_41 ?_
      refine sv_iload_n C rfl rfl d_Sm_step4_42 ?_
      refine sv_ifZ_ne C 55 (by decide) d_Sm_step4_43 (fun c43 => ?_) (fun c43 => ?_)
      · skip
        exact absurd c43 (by decide)
      · skip
        refine sv_aload_n C rfl rfl d_Sm_step4_46 ?_
        refine sv_aload_n C rfl rfl d_Sm_step4_47 ?_
        refine sv_get C fg_Sm_145 2 rfl rfl d_Sm_step4_48 ?_
        refine sv_iconst C (v := 1) (by decide) d_Sm_step4_51 ?_
        refine sv_rot [2, 0, 1, 3] [_, _, _, _] [_, _, _, _] _ (_ :: _ :: _ :: _ :: _) rfl rfl rfl rfl ?_
        refine sv_callVv C (c_Sm_replaceIfAbove l g rest hS hW hwc hv x1 x2 x3 x4 x5 f v L hL hf hV x5 19 tx_4 sb_4 hE0 (by decide) tl_4 1 (by decide)) lk_Sm_181 List.mem_cons_self rfl d_Sm_step4_52 (by decide) (Nat.le_of_ble_eq_true rfl) (by decide) (fun w hw => ?_)
        obtain ⟨f2, v2, rfl, hf2, hV2⟩ := hw
        first
          | exact hr _ _ _ d_Sm_step4_55 (by rw [show pc_s4 L = L from by rw [pc_s4, if_pos ⟨c9, c21, c33⟩]]; exact ⟨f, v, rfl, hf, hV⟩)
          | exact hr _ _ _ d_Sm_step4_55 (by rw [show pc_s4 L = pc_repl tx_4 sb_4 19 1 L from pc_s4_repl (fun z => by first | exact c9 z.1 | exact z.2.1 c21 | exact z.2.2 c33)]; exact ⟨f2, v2, rfl, hf2, hV2⟩)
    · skip
      rw [ltx_sion] at c21
      refine sv_aload_n C rfl rfl d_Sm_step4_24 ?_
      refine sv_get C fg_Sm_153 2 rfl rfl d_Sm_step4_25 ?_
      refine sv_ldcS C ws_14 d_Sm_step4_28 ?_
      refine sv_callVi C (c_Wo_endsWith l g ((hS, .inr (2, [.ref hW, .ref hv, .ref x1, .ref x2, .ref x3, .ref x4, .ref x5])) :: (hv, .inl (g.2.1 2, 255, .inl v)) :: rest) hW hwc f L hL hf 14 (by decide) (by rw [ltx_tion]; decide)) lk_Sm_232 List.mem_cons_self rfl d_Sm_step4_30 (by decide) (Nat.le_of_ble_eq_true rfl) (by decide) (fun r w hw => ?_)
      obtain ⟨rfl, rfl⟩ := hw
      refine sv_ifB_ne C _ 40 (by decide) d_Sm_step4_33 (fun c33 => ?_) (fun c33 => ?_)
      · skip
        rw [ltx_tion] at c33
        refine sv_iconst C (v := 0) (by decide) d_Sm_step4_40 ?_
        refine sv_istore_n C rfl (by decide) [some _, some _] rfl d_Sm_step4_41 ?_
        refine sv_iload_n C rfl rfl d_Sm_step4_42 ?_
        refine sv_ifZ_ne C 55 (by decide) d_Sm_step4_43 (fun c43 => ?_) (fun c43 => ?_)
        · skip
          exact absurd c43 (by decide)
        · skip
          refine sv_aload_n C rfl rfl d_Sm_step4_46 ?_
          refine sv_aload_n C rfl rfl d_Sm_step4_47 ?_
          refine sv_get C fg_Sm_145 2 rfl rfl d_Sm_step4_48 ?_
          refine sv_iconst C (v := 1) (by decide) d_Sm_step4_51 ?_
          refine sv_rot [2, 0, 1, 3] [_, _, _, _] [_, _, _, _] _ (_ :: _ :: _ :: _ :: _) rfl rfl rfl rfl ?_
          refine sv_callVv C (c_Sm_replaceIfAbove l g rest hS hW hwc hv x1 x2 x3 x4 x5 f v L hL hf hV x5 19 tx_4 sb_4 hE0 (by decide) tl_4 1 (by decide)) lk_Sm_181 List.mem_cons_self rfl d_Sm_step4_52 (by decide) (Nat.le_of_ble_eq_true rfl) (by decide) (fun w hw => ?_)
          obtain ⟨f2, v2, rfl, hf2, hV2⟩ := hw
          first
            | exact hr _ _ _ d_Sm_step4_55 (by rw [show pc_s4 L = L from by rw [pc_s4, if_pos ⟨c9, c21, c33⟩]]; exact ⟨f, v, rfl, hf, hV⟩)
            | exact hr _ _ _ d_Sm_step4_55 (by rw [show pc_s4 L = pc_repl tx_4 sb_4 19 1 L from pc_s4_repl (fun z => by first | exact c9 z.1 | exact z.2.1 c21 | exact z.2.2 c33)]; exact ⟨f2, v2, rfl, hf2, hV2⟩)
      · skip
        rw [ltx_tion] at c33
        refine sv_iconst C (v := 1) (by decide) d_Sm_step4_36 ?_
        refine sv_goto C 41 (by decide) d_Sm_step4_37 ?_
        refine sv_istore_n C rfl (by decide) [some _, some _] rfl d_Sm_step4_41 ?_
        refine sv_iload_n C rfl rfl d_Sm_step4_42 ?_
        refine sv_ifZ_ne C 55 (by decide) d_Sm_step4_43 (fun c43 => ?_) (fun c43 => ?_)
        · skip
          refine sv_rot [2, 0, 1, 3] [_, _, _, _] [_, _, _, _] _ (_ :: _ :: _ :: _ :: _) rfl rfl rfl rfl ?_
          first
            | exact hr _ _ _ d_Sm_step4_55 (by rw [show pc_s4 L = L from by rw [pc_s4, if_pos ⟨c9, c21, c33⟩]]; exact ⟨f, v, rfl, hf, hV⟩)
            | exact hr _ _ _ d_Sm_step4_55 (by rw [show pc_s4 L = pc_repl tx_4 sb_4 19 1 L from pc_s4_repl (fun z => by first | exact c9 z.1 | exact z.2.1 c21 | exact z.2.2 c33)]; exact ⟨f2, v2, rfl, hf2, hV2⟩)
        · skip
          exact absurd c43 (by decide)

def rm_Sm_step5a : Room := { frames := 8, cells := 0, slots := 0, locals := 230 }
set_option maxHeartbeats 4000000 in
set_option maxRecDepth 100000 in
theorem c_Sm_step5a (l : Launch) (g : sv_G) (rest : va_W) (hS hW hwc hv x1 x2 x3 x4 x5 : Nat) (f v : Nat → Int32) (L : List Int32) (hL : L.length ≤ 255) (hf : pr_W f L) (hV : pr_V v L) : sv_Mv l y_Sm_step5a b_Sm_step5a 3 none rm_Sm_step5a g [.ref hS] ((hS, .inr (2, [.ref hW, .ref hv, .ref x1, .ref x2, .ref x3, .ref x4, .ref x5])) :: (hW, .inr (5, [.ref hwc, .int (nI L.length)])) :: (hwc, .inl (g.2.1 0, 255, .inl f)) :: (hv, .inl (g.2.1 2, 255, .inl v)) :: rest) (fun w => ∃ f2 v2 : Nat → Int32, w = ((hS, .inr (2, [.ref hW, .ref hv, .ref x1, .ref x2, .ref x3, .ref x4, .ref x5])) :: (hW, .inr (5, [.ref hwc, .int (nI (pu_s5a L).length)])) :: (hwc, .inl (g.2.1 0, 255, .inl f2)) :: (hv, .inl (g.2.1 2, 255, .inl v2)) :: rest) ∧ pr_W f2 (pu_s5a L) ∧ pr_V v2 (pu_s5a L)) := by
  have ln : (sv_txt 6).length = 0 := by rw [ltx_nil]; rfl
  have ml := pu_meas_le L (L.length - 1)
  refine sv_enter_v (by decide) rfl rfl (Nat.le_of_ble_eq_true rfl) (fun X C hI hr => ?_)
  refine sv_lvE (lv' := [some _, none, none]) rfl ?_
  refine sv_aload_n C rfl rfl d_Sm_step5a_0 ?_
  refine sv_get C fg_Sm_153 0 rfl rfl d_Sm_step5a_1 ?_
  refine sv_ldcS C ws_28 d_Sm_step5a_4 ?_
  refine sv_rot [1, 2, 0, 3] [_, _, _, _] [_, _, _, _] _ (_ :: _ :: _ :: _ :: _) rfl rfl rfl rfl ?_
  refine sv_callVi C (c_Wo_endsWith l g ((hS, .inr (2, [.ref hW, .ref hv, .ref x1, .ref x2, .ref x3, .ref x4, .ref x5])) :: (hv, .inl (g.2.1 2, 255, .inl v)) :: rest) hW hwc f L hL hf 28 (by decide) (by rw [ltx_e]; decide)) lk_Sm_232 List.mem_cons_self rfl d_Sm_step5a_6 (by decide) (Nat.le_of_ble_eq_true rfl) (by decide) (fun r w hw => ?_)
  obtain ⟨rfl, rfl⟩ := hw
  refine sv_ifB_ne C _ 13 (by decide) d_Sm_step5a_9 (fun c9 => ?_) (fun c9 => ?_)
  · skip
    rw [ltx_e] at c9
    have h1 : 1 ≤ L.length := c9.1
    refine sv_aload_n C rfl rfl d_Sm_step5a_13 ?_
    refine sv_get C fg_Sm_153 2 rfl rfl d_Sm_step5a_14 ?_
    refine sv_get C fg_Sm_161 0 rfl rfl d_Sm_step5a_17 ?_
    refine sv_iconst C (v := 1) (by decide) d_Sm_step5a_20 ?_
    refine sv_isubN C _ 1 (by omega) d_Sm_step5a_21 ?_
    refine sv_istore_n C rfl (by decide) [some _, some _, none] rfl d_Sm_step5a_22 ?_
    refine sv_aload_n C rfl rfl d_Sm_step5a_23 ?_
    refine sv_iload_n C rfl rfl d_Sm_step5a_24 ?_
    refine sv_rot [2, 0, 1, 3] [_, _, _, _] [_, _, _, _] _ (_ :: _ :: _ :: _ :: _) rfl rfl rfl rfl ?_
    refine sv_callVi C (c_Sm_measure l g rest hS hW hwc hv x1 x2 x3 x4 x5 f v L hL hf hV (L.length - 1) (by omega)) lk_Sm_219 List.mem_cons_self rfl d_Sm_step5a_25 (by decide) (Nat.le_of_ble_eq_true rfl) (by decide) (fun r w hw => ?_)
    obtain ⟨rfl, rfl⟩ := hw
    refine sv_istore_n C rfl (by decide) [some _, some _, some _] rfl d_Sm_step5a_28 ?_
    refine sv_iload_n C rfl rfl d_Sm_step5a_29 ?_
    refine sv_iconst C (v := 1) (by decide) d_Sm_step5a_30 ?_
    refine sv_icmpN_gt C _ 1 (by omega) (by omega) 47 (by decide) d_Sm_step5a_31 (fun c31 => ?_) (fun c31 => ?_)
    · skip
      refine sv_aload_n C rfl rfl d_Sm_step5a_47 ?_
      refine sv_iload_n C rfl rfl d_Sm_step5a_48 ?_
      refine sv_ldcS C ws_6 d_Sm_step5a_49 ?_
      refine sv_callVv C (c_Sm_become l g rest hS hW hwc hv x1 x2 x3 x4 x5 f v L hL hf (L.length - 1) 6 (by omega) (by decide) (by omega)) lk_Sm_206 List.mem_cons_self rfl d_Sm_step5a_51 (by decide) (Nat.le_of_ble_eq_true rfl) (by decide) (fun w hw => ?_)
      obtain ⟨f2, v2, rfl, hf2, hV2⟩ := hw
      first
        | exact hr _ _ _ d_Sm_step5a_54 (by rw [show pu_s5a L = L.take (L.length - 1) ++ sv_txt 6 from by rw [pu_s5a, if_pos ⟨c9, by first | exact Or.inl c31 | exact Or.inr ⟨c36, c44⟩⟩, ltx_nil, List.append_nil]]; exact ⟨f2, v2, rfl, hf2, hV2⟩)
        | exact hr _ _ _ d_Sm_step5a_54 (by rw [show pu_s5a L = L from by rw [pu_s5a, if_neg (fun z => by rcases z.2 with y | y <;> first | omega | exact y.2 c44)]]; exact ⟨f, v, rfl, hf, hV⟩)
    · skip
      refine sv_iload_n C rfl rfl d_Sm_step5a_34 ?_
      refine sv_iconst C (v := 1) (by decide) d_Sm_step5a_35 ?_
      refine sv_icmpN_ne C _ 1 (by omega) (by omega) 54 (by decide) d_Sm_step5a_36 (fun c36 => ?_) (fun c36 => ?_)
      · skip
        first
          | exact hr _ _ _ d_Sm_step5a_54 (by rw [show pu_s5a L = L.take (L.length - 1) ++ sv_txt 6 from by rw [pu_s5a, if_pos ⟨c9, by first | exact Or.inl c31 | exact Or.inr ⟨c36, c44⟩⟩, ltx_nil, List.append_nil]]; exact ⟨f2, v2, rfl, hf2, hV2⟩)
          | exact hr _ _ _ d_Sm_step5a_54 (by rw [show pu_s5a L = L from by rw [pu_s5a, if_neg (fun z => by rcases z.2 with y | y <;> first | omega | exact y.2 c44)]]; exact ⟨f, v, rfl, hf, hV⟩)
      · skip
        refine sv_aload_n C rfl rfl d_Sm_step5a_39 ?_
        refine sv_iload_n C rfl rfl d_Sm_step5a_40 ?_
        refine sv_callVi C (c_Sm_isCvc l g rest hS hW hwc hv x1 x2 x3 x4 x5 f v L hL hf hV (L.length - 1) (by omega)) lk_Sm_247 List.mem_cons_self rfl d_Sm_step5a_41 (by decide) (Nat.le_of_ble_eq_true rfl) (by decide) (fun r w hw => ?_)
        obtain ⟨rfl, rfl⟩ := hw
        refine sv_ifB_ne C _ 54 (by decide) d_Sm_step5a_44 (fun c44 => ?_) (fun c44 => ?_)
        · skip
          first
            | exact hr _ _ _ d_Sm_step5a_54 (by rw [show pu_s5a L = L.take (L.length - 1) ++ sv_txt 6 from by rw [pu_s5a, if_pos ⟨c9, by first | exact Or.inl c31 | exact Or.inr ⟨c36, c44⟩⟩, ltx_nil, List.append_nil]]; exact ⟨f2, v2, rfl, hf2, hV2⟩)
            | exact hr _ _ _ d_Sm_step5a_54 (by rw [show pu_s5a L = L from by rw [pu_s5a, if_neg (fun z => by rcases z.2 with y | y <;> first | omega | exact y.2 c44)]]; exact ⟨f, v, rfl, hf, hV⟩)
        · skip
          refine sv_aload_n C rfl rfl d_Sm_step5a_47 ?_
          refine sv_iload_n C rfl rfl d_Sm_step5a_48 ?_
          refine sv_ldcS C ws_6 d_Sm_step5a_49 ?_
          refine sv_callVv C (c_Sm_become l g rest hS hW hwc hv x1 x2 x3 x4 x5 f v L hL hf (L.length - 1) 6 (by omega) (by decide) (by omega)) lk_Sm_206 List.mem_cons_self rfl d_Sm_step5a_51 (by decide) (Nat.le_of_ble_eq_true rfl) (by decide) (fun w hw => ?_)
          obtain ⟨f2, v2, rfl, hf2, hV2⟩ := hw
          first
            | exact hr _ _ _ d_Sm_step5a_54 (by rw [show pu_s5a L = L.take (L.length - 1) ++ sv_txt 6 from by rw [pu_s5a, if_pos ⟨c9, by first | exact Or.inl c31 | exact Or.inr ⟨c36, c44⟩⟩, ltx_nil, List.append_nil]]; exact ⟨f2, v2, rfl, hf2, hV2⟩)
            | exact hr _ _ _ d_Sm_step5a_54 (by rw [show pu_s5a L = L from by rw [pu_s5a, if_neg (fun z => by rcases z.2 with y | y <;> first | omega | exact y.2 c44)]]; exact ⟨f, v, rfl, hf, hV⟩)
  · skip
    rw [ltx_e] at c9
    refine sv_rot [2, 0, 1, 3] [_, _, _, _] [_, _, _, _] _ (_ :: _ :: _ :: _ :: _) rfl rfl rfl rfl ?_
    exact hr _ _ _ d_Sm_step5a_12 (by rw [show pu_s5a L = L from by rw [pu_s5a, if_neg (fun z => c9 z.1)]]; exact ⟨f, v, rfl, hf, hV⟩)

def rm_Sm_step5b : Room := { frames := 8, cells := 0, slots := 0, locals := 230 }
set_option maxHeartbeats 4000000 in
set_option maxRecDepth 100000 in
theorem c_Sm_step5b (l : Launch) (g : sv_G) (rest : va_W) (hS hW hwc hv x1 x2 x3 x4 x5 : Nat) (f v : Nat → Int32) (L : List Int32) (hL : L.length ≤ 255) (hf : pr_W f L) (hV : pr_V v L) : sv_Mv l y_Sm_step5b b_Sm_step5b 1 none rm_Sm_step5b g [.ref hS] ((hS, .inr (2, [.ref hW, .ref hv, .ref x1, .ref x2, .ref x3, .ref x4, .ref x5])) :: (hW, .inr (5, [.ref hwc, .int (nI L.length)])) :: (hwc, .inl (g.2.1 0, 255, .inl f)) :: (hv, .inl (g.2.1 2, 255, .inl v)) :: rest) (fun w => ∃ f2 v2 : Nat → Int32, w = ((hS, .inr (2, [.ref hW, .ref hv, .ref x1, .ref x2, .ref x3, .ref x4, .ref x5])) :: (hW, .inr (5, [.ref hwc, .int (nI (pu_s5b L).length)])) :: (hwc, .inl (g.2.1 0, 255, .inl f2)) :: (hv, .inl (g.2.1 2, 255, .inl v2)) :: rest) ∧ pr_W f2 (pu_s5b L) ∧ pr_V v2 (pu_s5b L)) := by
  have ln : (sv_txt 6).length = 0 := by rw [ltx_nil]; rfl
  have ml := pu_meas_le L L.length
  refine sv_enter_v (by decide) rfl rfl (Nat.le_of_ble_eq_true rfl) (fun X C hI hr => ?_)
  refine sv_lvE (lv' := [some _]) rfl ?_
  refine sv_aload_n C rfl rfl d_Sm_step5b_0 ?_
  refine sv_get C fg_Sm_153 0 rfl rfl d_Sm_step5b_1 ?_
  refine sv_ldcS C ws_67 d_Sm_step5b_4 ?_
  refine sv_rot [1, 2, 0, 3] [_, _, _, _] [_, _, _, _] _ (_ :: _ :: _ :: _ :: _) rfl rfl rfl rfl ?_
  refine sv_callVi C (c_Wo_endsWith l g ((hS, .inr (2, [.ref hW, .ref hv, .ref x1, .ref x2, .ref x3, .ref x4, .ref x5])) :: (hv, .inl (g.2.1 2, 255, .inl v)) :: rest) hW hwc f L hL hf 67 (by decide) (by rw [ltx_ll]; decide)) lk_Sm_232 List.mem_cons_self rfl d_Sm_step5b_6 (by decide) (Nat.le_of_ble_eq_true rfl) (by decide) (fun r w hw => ?_)
  obtain ⟨rfl, rfl⟩ := hw
  refine sv_ifB_eq C _ 42 (by decide) d_Sm_step5b_9 (fun c9 => ?_) (fun c9 => ?_)
  · skip
    rw [ltx_ll] at c9
    refine sv_rot [2, 0, 1, 3] [_, _, _, _] [_, _, _, _] _ (_ :: _ :: _ :: _ :: _) rfl rfl rfl rfl ?_
    first
      | exact hr _ _ _ d_Sm_step5b_42 (by rw [show pu_s5b L = L.take (L.length - 1) ++ sv_txt 6 from by rw [pu_s5b, if_pos ⟨c9, by omega⟩, ltx_nil, List.append_nil]]; exact ⟨f2, v2, rfl, hf2, hV2⟩)
      | exact hr _ _ _ d_Sm_step5b_42 (by rw [show pu_s5b L = L from by rw [pu_s5b, if_neg (fun z => by first | exact c9 z.1 | omega)]]; exact ⟨f, v, rfl, hf, hV⟩)
  · skip
    rw [ltx_ll] at c9
    have h1 : 2 ≤ L.length := c9.1
    refine sv_aload_n C rfl rfl d_Sm_step5b_12 ?_
    refine sv_aload_n C rfl rfl d_Sm_step5b_13 ?_
    refine sv_get C fg_Sm_153 2 rfl rfl d_Sm_step5b_14 ?_
    refine sv_get C fg_Sm_161 0 rfl rfl d_Sm_step5b_17 ?_
    refine sv_rot [2, 0, 1, 3] [_, _, _, _] [_, _, _, _] _ (_ :: _ :: _ :: _ :: _) rfl rfl rfl rfl ?_
    refine sv_callVi C (c_Sm_measure l g rest hS hW hwc hv x1 x2 x3 x4 x5 f v L hL hf hV L.length (by omega)) lk_Sm_219 List.mem_cons_self rfl d_Sm_step5b_20 (by decide) (Nat.le_of_ble_eq_true rfl) (by decide) (fun r w hw => ?_)
    obtain ⟨rfl, rfl⟩ := hw
    refine sv_iconst C (v := 1) (by decide) d_Sm_step5b_23 ?_
    refine sv_icmpN_le C _ 1 (by omega) (by omega) 42 (by decide) d_Sm_step5b_24 (fun c24 => ?_) (fun c24 => ?_)
    · skip
      first
        | exact hr _ _ _ d_Sm_step5b_42 (by rw [show pu_s5b L = L.take (L.length - 1) ++ sv_txt 6 from by rw [pu_s5b, if_pos ⟨c9, by omega⟩, ltx_nil, List.append_nil]]; exact ⟨f2, v2, rfl, hf2, hV2⟩)
        | exact hr _ _ _ d_Sm_step5b_42 (by rw [show pu_s5b L = L from by rw [pu_s5b, if_neg (fun z => by first | exact c9 z.1 | omega)]]; exact ⟨f, v, rfl, hf, hV⟩)
    · skip
      refine sv_aload_n C rfl rfl d_Sm_step5b_27 ?_
      refine sv_aload_n C rfl rfl d_Sm_step5b_28 ?_
      refine sv_get C fg_Sm_153 0 rfl rfl d_Sm_step5b_29 ?_
      refine sv_get C fg_Sm_161 1 rfl rfl d_Sm_step5b_32 ?_
      refine sv_iconst C (v := 1) (by decide) d_Sm_step5b_35 ?_
      refine sv_isubN C _ 1 (by omega) d_Sm_step5b_36 ?_
      refine sv_ldcS C ws_6 d_Sm_step5b_37 ?_
      refine sv_callVv C (c_Sm_become l g rest hS hW hwc hv x1 x2 x3 x4 x5 f v L hL hf (L.length - 1) 6 (by omega) (by decide) (by omega)) lk_Sm_206 List.mem_cons_self rfl d_Sm_step5b_39 (by decide) (Nat.le_of_ble_eq_true rfl) (by decide) (fun w hw => ?_)
      obtain ⟨f2, v2, rfl, hf2, hV2⟩ := hw
      first
        | exact hr _ _ _ d_Sm_step5b_42 (by rw [show pu_s5b L = L.take (L.length - 1) ++ sv_txt 6 from by rw [pu_s5b, if_pos ⟨c9, by omega⟩, ltx_nil, List.append_nil]]; exact ⟨f2, v2, rfl, hf2, hV2⟩)
        | exact hr _ _ _ d_Sm_step5b_42 (by rw [show pu_s5b L = L from by rw [pu_s5b, if_neg (fun z => by first | exact c9 z.1 | omega)]]; exact ⟨f, v, rfl, hf, hV⟩)
