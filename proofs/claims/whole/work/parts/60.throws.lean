/-! CONTRACTS: WordChain, what throws -/
set_option maxHeartbeats 4000000 in
set_option maxRecDepth 100000 in
theorem c_X_feed_x (l : Launch) (hfl : l.flags = pinnedFlags ++ [noTraceFlag]) (g : sv_G) (rest : va_W) (ad : Nat → Nat) (inl wd n : Nat) (wn : Int32) (b tf kf wf vf ch po st : Nat → Int32) (T : List (Nat × List Int32)) (p0 p1 p2 p3 p4 : Int32) (h : 8192 < inl + 20) (hi : inl ≤ 8192) : sv_Mx l y_X_feed b_X_feed 6 (some (.int)) rm_thr g [.ref (ad 0), .int p0, .int p1, .int p2, .int p3, .int p4] ((ad 0, .inr (6, [.ref (ad 1), .int (nI inl), .ref (ad 2), .ref (ad 4), .ref (ad 6), .ref (ad 10), .int (nI wd)])) :: (ad 1, .inl (g.2.1 1, 8192, .inl b)) :: (ad 2, .inr (3, [.ref (ad 3), .int (nI n)])) :: (ad 3, .inl (g.2.1 0, 8192, .inl tf)) :: (ad 4, .inr (1, [.ref (ad 5)])) :: (ad 5, .inl (g.2.1 0, 33, .inl kf)) :: (ad 6, .inr (2, [.ref (ad 7), .ref (ad 9), .ref (ad 14), .ref (ad 15), .ref (ad 16), .ref (ad 17), .ref (ad 18)])) :: (ad 7, .inr (5, [.ref (ad 8), .int wn])) :: (ad 8, .inl (g.2.1 0, 255, .inl wf)) :: (ad 9, .inl (g.2.1 2, 255, .inl vf)) :: (ad 10, .inr (4, [.ref (ad 11), .ref (ad 12), .ref (ad 13), .int (nI T.length)])) :: (ad 11, .inl (g.2.1 0, 8192, .inl ch)) :: (ad 12, .inl (g.2.1 0, 8192, .inl po)) :: (ad 13, .inl (g.2.1 0, 8193, .inl st)) :: rest) "java/lang/IndexOutOfBoundsException" := by
  refine sv_enter_x de_IO_0 de_IO_1 de_IO_2 de_IO_5 (by decide) hfl (by decide +kernel) (by decide +kernel) (by decide +kernel) wn_IO wi_IO oa_IO (by decide) rfl (Nat.le_of_ble_eq_true rfl) (fun X C hr => ?_)
  refine sv_lvE (lv' := [some _, some _, some _, some _, some _, some _]) rfl ?_
  refine sv_aload_n C rfl rfl d_X_feed_0 ?_
  refine sv_get C fg_X_13 0 rfl rfl d_X_feed_1 ?_
  refine sv_bipush C (v := 20) (by decide) d_X_feed_4 ?_
  refine sv_iaddN C _ 20  d_X_feed_6 ?_
  refine sv_sipush C (v := 8192) (by decide) d_X_feed_7 ?_
  refine sv_icmpN_le C _ 8192 (by omega) (by omega) 23 (by decide) d_X_feed_10 (fun c10 => ?_) (fun c10 => ?_)
  · skip
    exact absurd c10 (by omega)
  · skip
    exact hr 13 _ _ _ _ _ ws_68 wk_X_50 d_X_feed_13 d_X_feed_16 d_X_feed_17 d_X_feed_19 d_X_feed_22

set_option maxHeartbeats 4000000 in
set_option maxRecDepth 100000 in
theorem c_X_end_x1 (l : Launch) (hfl : l.flags = pinnedFlags ++ [noTraceFlag]) (g : sv_G) (rest : va_W) (ad : Nat → Nat) (inl wd n : Nat) (wn : Int32) (b tf kf wf vf ch po st : Nat → Int32) (T : List (Nat × List Int32)) (q : Int32) (hq : q.toInt < 0 ∨ 19 < q.toInt) : sv_Mx l y_X_end b_X_end 2 (some (.int)) rm_thr g [.ref (ad 0), .int q] ((ad 0, .inr (6, [.ref (ad 1), .int (nI inl), .ref (ad 2), .ref (ad 4), .ref (ad 6), .ref (ad 10), .int (nI wd)])) :: (ad 1, .inl (g.2.1 1, 8192, .inl b)) :: (ad 2, .inr (3, [.ref (ad 3), .int (nI n)])) :: (ad 3, .inl (g.2.1 0, 8192, .inl tf)) :: (ad 4, .inr (1, [.ref (ad 5)])) :: (ad 5, .inl (g.2.1 0, 33, .inl kf)) :: (ad 6, .inr (2, [.ref (ad 7), .ref (ad 9), .ref (ad 14), .ref (ad 15), .ref (ad 16), .ref (ad 17), .ref (ad 18)])) :: (ad 7, .inr (5, [.ref (ad 8), .int wn])) :: (ad 8, .inl (g.2.1 0, 255, .inl wf)) :: (ad 9, .inl (g.2.1 2, 255, .inl vf)) :: (ad 10, .inr (4, [.ref (ad 11), .ref (ad 12), .ref (ad 13), .int (nI T.length)])) :: (ad 11, .inl (g.2.1 0, 8192, .inl ch)) :: (ad 12, .inl (g.2.1 0, 8192, .inl po)) :: (ad 13, .inl (g.2.1 0, 8193, .inl st)) :: rest) "java/lang/IllegalArgumentException" := by
  refine sv_enter_x de_IA_0 de_IA_1 de_IA_2 de_IA_5 (by decide) hfl (by decide +kernel) (by decide +kernel) (by decide +kernel) wn_IA wi_IA oa_IA (by decide) rfl (Nat.le_of_ble_eq_true rfl) (fun X C hr => ?_)
  refine sv_lvE (lv' := [some _, some _]) rfl ?_
  refine sv_iload_n C rfl rfl d_X_end_0 ?_
  refine sv_ifZ_lt C 21 (by decide) d_X_end_1 (fun c1 => ?_) (fun c1 => ?_)
  · skip
    exact hr 21 _ _ _ _ _ ws_69 wk_X_60 d_X_end_21 d_X_end_24 d_X_end_25 d_X_end_27 d_X_end_30
  · skip
    refine sv_iload_n C rfl rfl d_X_end_4 ?_
    refine sv_bipush C (v := 20) (by decide) d_X_end_5 ?_
    refine sv_icmpK_ge C (20) (by decide) 21 (by decide) d_X_end_7 (fun c7 => ?_) (fun c7 => ?_)
    · skip
      exact hr 21 _ _ _ _ _ ws_69 wk_X_60 d_X_end_21 d_X_end_24 d_X_end_25 d_X_end_27 d_X_end_30
    · skip
      exact absurd hq (by omega)

set_option maxHeartbeats 4000000 in
set_option maxRecDepth 100000 in
theorem c_X_end_x2 (l : Launch) (hfl : l.flags = pinnedFlags ++ [noTraceFlag]) (g : sv_G) (rest : va_W) (ad : Nat → Nat) (inl wd n : Nat) (wn : Int32) (b tf kf wf vf ch po st : Nat → Int32) (T : List (Nat × List Int32)) (m : Nat) (hm : m < 20) (h : inl < 20 - m) : sv_Mx l y_X_end b_X_end 2 (some (.int)) rm_thr g [.ref (ad 0), .int (nI m)] ((ad 0, .inr (6, [.ref (ad 1), .int (nI inl), .ref (ad 2), .ref (ad 4), .ref (ad 6), .ref (ad 10), .int (nI wd)])) :: (ad 1, .inl (g.2.1 1, 8192, .inl b)) :: (ad 2, .inr (3, [.ref (ad 3), .int (nI n)])) :: (ad 3, .inl (g.2.1 0, 8192, .inl tf)) :: (ad 4, .inr (1, [.ref (ad 5)])) :: (ad 5, .inl (g.2.1 0, 33, .inl kf)) :: (ad 6, .inr (2, [.ref (ad 7), .ref (ad 9), .ref (ad 14), .ref (ad 15), .ref (ad 16), .ref (ad 17), .ref (ad 18)])) :: (ad 7, .inr (5, [.ref (ad 8), .int wn])) :: (ad 8, .inl (g.2.1 0, 255, .inl wf)) :: (ad 9, .inl (g.2.1 2, 255, .inl vf)) :: (ad 10, .inr (4, [.ref (ad 11), .ref (ad 12), .ref (ad 13), .int (nI T.length)])) :: (ad 11, .inl (g.2.1 0, 8192, .inl ch)) :: (ad 12, .inl (g.2.1 0, 8192, .inl po)) :: (ad 13, .inl (g.2.1 0, 8193, .inl st)) :: rest) "java/lang/IllegalArgumentException" := by
  refine sv_enter_x de_IA_0 de_IA_1 de_IA_2 de_IA_5 (by decide) hfl (by decide +kernel) (by decide +kernel) (by decide +kernel) wn_IA wi_IA oa_IA (by decide) rfl (Nat.le_of_ble_eq_true rfl) (fun X C hr => ?_)
  refine sv_lvE (lv' := [some _, some _]) rfl ?_
  refine sv_iload_n C rfl rfl d_X_end_0 ?_
  refine sv_ifZ_lt C 21 (by decide) d_X_end_1 (fun c1 => ?_) (fun c1 => ?_)
  · skip
    exact absurd c1 (by rw [nI_toInt (by omega)]; omega)
  · skip
    refine sv_iload_n C rfl rfl d_X_end_4 ?_
    refine sv_bipush C (v := 20) (by decide) d_X_end_5 ?_
    refine sv_icmpN_ge C _ 20 (by omega) (by omega) 21 (by decide) d_X_end_7 (fun c7 => ?_) (fun c7 => ?_)
    · skip
      exact absurd c7 (by omega)
    · skip
      refine sv_bipush C (v := 20) (by decide) d_X_end_10 ?_
      refine sv_iload_n C rfl rfl d_X_end_12 ?_
      refine sv_isubN C 20 _ (by omega) d_X_end_13 ?_
      refine sv_aload_n C rfl rfl d_X_end_14 ?_
      refine sv_get C fg_X_13 0 rfl rfl d_X_end_15 ?_
      refine sv_icmpN_le C _ _ (by omega) (by omega) 31 (by decide) d_X_end_18 (fun c18 => ?_) (fun c18 => ?_)
      · skip
        exact absurd c18 (by omega)
      · skip
        exact hr 21 _ _ _ _ _ ws_69 wk_X_60 d_X_end_21 d_X_end_24 d_X_end_25 d_X_end_27 d_X_end_30

set_option maxHeartbeats 4000000 in
set_option maxRecDepth 100000 in
theorem c_X_token_x1 (l : Launch) (hfl : l.flags = pinnedFlags ++ [noTraceFlag]) (g : sv_G) (rest : va_W) (ad : Nat → Nat) (inl wd n : Nat) (wn : Int32) (b tf kf wf vf ch po st : Nat → Int32) (T : List (Nat × List Int32)) (i q : Int32) (hq : q.toInt < 0 ∨ 1 < q.toInt) : sv_Mx l y_X_token b_X_token 3 (some (.int)) rm_thr g [.ref (ad 0), .int i, .int q] ((ad 0, .inr (6, [.ref (ad 1), .int (nI inl), .ref (ad 2), .ref (ad 4), .ref (ad 6), .ref (ad 10), .int (nI wd)])) :: (ad 1, .inl (g.2.1 1, 8192, .inl b)) :: (ad 2, .inr (3, [.ref (ad 3), .int (nI n)])) :: (ad 3, .inl (g.2.1 0, 8192, .inl tf)) :: (ad 4, .inr (1, [.ref (ad 5)])) :: (ad 5, .inl (g.2.1 0, 33, .inl kf)) :: (ad 6, .inr (2, [.ref (ad 7), .ref (ad 9), .ref (ad 14), .ref (ad 15), .ref (ad 16), .ref (ad 17), .ref (ad 18)])) :: (ad 7, .inr (5, [.ref (ad 8), .int wn])) :: (ad 8, .inl (g.2.1 0, 255, .inl wf)) :: (ad 9, .inl (g.2.1 2, 255, .inl vf)) :: (ad 10, .inr (4, [.ref (ad 11), .ref (ad 12), .ref (ad 13), .int (nI T.length)])) :: (ad 11, .inl (g.2.1 0, 8192, .inl ch)) :: (ad 12, .inl (g.2.1 0, 8192, .inl po)) :: (ad 13, .inl (g.2.1 0, 8193, .inl st)) :: rest) "java/lang/IllegalArgumentException" := by
  refine sv_enter_x de_IA_0 de_IA_1 de_IA_2 de_IA_5 (by decide) hfl (by decide +kernel) (by decide +kernel) (by decide +kernel) wn_IA wi_IA oa_IA (by decide) rfl (Nat.le_of_ble_eq_true rfl) (fun X C hr => ?_)
  refine sv_lvE (lv' := [some _, some _, some _]) rfl ?_
  refine sv_iload_n C rfl rfl d_X_token_0 ?_
  refine sv_ifZ_eq C 19 (by decide) d_X_token_1 (fun c1 => ?_) (fun c1 => ?_)
  · skip
    exact absurd hq (by omega)
  · skip
    refine sv_iload_n C rfl rfl d_X_token_4 ?_
    refine sv_iconst C (v := 1) (by decide) d_X_token_5 ?_
    refine sv_icmpK_eq C (1) (by decide) 19 (by decide) d_X_token_6 (fun c6 => ?_) (fun c6 => ?_)
    · skip
      exact absurd hq (by omega)
    · skip
      exact hr 9 _ _ _ _ _ ws_70 wk_X_60 d_X_token_9 d_X_token_12 d_X_token_13 d_X_token_15 d_X_token_18

set_option maxHeartbeats 4000000 in
set_option maxRecDepth 100000 in
theorem c_X_token_x2 (l : Launch) (hfl : l.flags = pinnedFlags ++ [noTraceFlag]) (g : sv_G) (rest : va_W) (ad : Nat → Nat) (inl wd n : Nat) (wn : Int32) (b tf kf wf vf ch po st : Nat → Int32) (T : List (Nat × List Int32)) (hT : pu_Tok ch po st T) (hn : T.length ≤ 8192) (ho : pu_off T T.length ≤ 8192) (i q : Int32) (hq : q.toInt = 0 ∨ q.toInt = 1) (hi : ¬ (0 ≤ i.toInt ∧ i.toInt < T.length)) : sv_Mx l y_X_token b_X_token 3 (some (.int)) rm_thr g [.ref (ad 0), .int i, .int q] ((ad 0, .inr (6, [.ref (ad 1), .int (nI inl), .ref (ad 2), .ref (ad 4), .ref (ad 6), .ref (ad 10), .int (nI wd)])) :: (ad 1, .inl (g.2.1 1, 8192, .inl b)) :: (ad 2, .inr (3, [.ref (ad 3), .int (nI n)])) :: (ad 3, .inl (g.2.1 0, 8192, .inl tf)) :: (ad 4, .inr (1, [.ref (ad 5)])) :: (ad 5, .inl (g.2.1 0, 33, .inl kf)) :: (ad 6, .inr (2, [.ref (ad 7), .ref (ad 9), .ref (ad 14), .ref (ad 15), .ref (ad 16), .ref (ad 17), .ref (ad 18)])) :: (ad 7, .inr (5, [.ref (ad 8), .int wn])) :: (ad 8, .inl (g.2.1 0, 255, .inl wf)) :: (ad 9, .inl (g.2.1 2, 255, .inl vf)) :: (ad 10, .inr (4, [.ref (ad 11), .ref (ad 12), .ref (ad 13), .int (nI T.length)])) :: (ad 11, .inl (g.2.1 0, 8192, .inl ch)) :: (ad 12, .inl (g.2.1 0, 8192, .inl po)) :: (ad 13, .inl (g.2.1 0, 8193, .inl st)) :: rest) "java/util/NoSuchElementException" := by
  refine sv_enter_x de_NS_0 de_NS_1 de_NS_2 de_NS_5 (by decide) hfl (by decide +kernel) (by decide +kernel) (by decide +kernel) wn_NS wi_NS oa_NS (by decide) rfl (Nat.le_of_ble_eq_true rfl) (fun X C hr => ?_)
  refine sv_lvE (lv' := [some _, some _, some _]) rfl ?_
  refine sv_iload_n C rfl rfl d_X_token_0 ?_
  refine sv_ifZ_eq C 19 (by decide) d_X_token_1 (fun c1 => ?_) (fun c1 => ?_)
  · skip
    refine sv_aload_n C rfl rfl d_X_token_19 ?_
    refine sv_get C fg_X_43 0 rfl rfl d_X_token_20 ?_
    refine sv_iload_n C rfl rfl d_X_token_23 ?_
    refine sv_front 13 (_ :: _ :: _ :: _ :: _ :: _ :: _ :: _ :: _ :: _ :: _ :: _ :: _ :: _ :: _) rfl rfl ?_
    refine sv_front 13 (_ :: _ :: _ :: _ :: _ :: _ :: _ :: _ :: _ :: _ :: _ :: _ :: _ :: _ :: _) rfl rfl ?_
    refine sv_front 13 (_ :: _ :: _ :: _ :: _ :: _ :: _ :: _ :: _ :: _ :: _ :: _ :: _ :: _ :: _) rfl rfl ?_
    refine sv_front 13 (_ :: _ :: _ :: _ :: _ :: _ :: _ :: _ :: _ :: _ :: _ :: _ :: _ :: _ :: _) rfl rfl ?_
    refine sv_callVi C (c_To_has l g _ (ad 10) (ad 11) (ad 12) (ad 13) ch po st T hT hn ho i) lk_X_98 List.mem_cons_self rfl d_X_token_24 (by decide) (Nat.le_of_ble_eq_true rfl) (by decide) (fun r w hw => ?_)
    obtain ⟨rfl, rfl⟩ := hw
    refine sv_ifB_ne C _ 40 (by decide) d_X_token_27 (fun c27 => ?_) (fun c27 => ?_)
    · skip
      exact absurd c27 hi
    · skip
      refine sv_front 13 (_ :: _ :: _ :: _ :: _ :: _ :: _ :: _ :: _ :: _ :: _ :: _ :: _ :: _ :: _) rfl rfl ?_
      refine sv_front 13 (_ :: _ :: _ :: _ :: _ :: _ :: _ :: _ :: _ :: _ :: _ :: _ :: _ :: _ :: _) rfl rfl ?_
      refine sv_front 13 (_ :: _ :: _ :: _ :: _ :: _ :: _ :: _ :: _ :: _ :: _ :: _ :: _ :: _ :: _) rfl rfl ?_
      refine sv_front 13 (_ :: _ :: _ :: _ :: _ :: _ :: _ :: _ :: _ :: _ :: _ :: _ :: _ :: _ :: _) rfl rfl ?_
      refine sv_front 13 (_ :: _ :: _ :: _ :: _ :: _ :: _ :: _ :: _ :: _ :: _ :: _ :: _ :: _ :: _) rfl rfl ?_
      refine sv_front 13 (_ :: _ :: _ :: _ :: _ :: _ :: _ :: _ :: _ :: _ :: _ :: _ :: _ :: _ :: _) rfl rfl ?_
      refine sv_front 13 (_ :: _ :: _ :: _ :: _ :: _ :: _ :: _ :: _ :: _ :: _ :: _ :: _ :: _ :: _) rfl rfl ?_
      refine sv_front 13 (_ :: _ :: _ :: _ :: _ :: _ :: _ :: _ :: _ :: _ :: _ :: _ :: _ :: _ :: _) rfl rfl ?_
      refine sv_front 13 (_ :: _ :: _ :: _ :: _ :: _ :: _ :: _ :: _ :: _ :: _ :: _ :: _ :: _ :: _) rfl rfl ?_
      refine sv_front 13 (_ :: _ :: _ :: _ :: _ :: _ :: _ :: _ :: _ :: _ :: _ :: _ :: _ :: _ :: _) rfl rfl ?_
      exact hr 30 _ _ _ _ _ ws_71 wk_X_102 d_X_token_30 d_X_token_33 d_X_token_34 d_X_token_36 d_X_token_39
  · skip
    refine sv_iload_n C rfl rfl d_X_token_4 ?_
    refine sv_iconst C (v := 1) (by decide) d_X_token_5 ?_
    refine sv_icmpK_eq C (1) (by decide) 19 (by decide) d_X_token_6 (fun c6 => ?_) (fun c6 => ?_)
    · skip
      refine sv_aload_n C rfl rfl d_X_token_19 ?_
      refine sv_get C fg_X_43 0 rfl rfl d_X_token_20 ?_
      refine sv_iload_n C rfl rfl d_X_token_23 ?_
      refine sv_front 13 (_ :: _ :: _ :: _ :: _ :: _ :: _ :: _ :: _ :: _ :: _ :: _ :: _ :: _ :: _) rfl rfl ?_
      refine sv_front 13 (_ :: _ :: _ :: _ :: _ :: _ :: _ :: _ :: _ :: _ :: _ :: _ :: _ :: _ :: _) rfl rfl ?_
      refine sv_front 13 (_ :: _ :: _ :: _ :: _ :: _ :: _ :: _ :: _ :: _ :: _ :: _ :: _ :: _ :: _) rfl rfl ?_
      refine sv_front 13 (_ :: _ :: _ :: _ :: _ :: _ :: _ :: _ :: _ :: _ :: _ :: _ :: _ :: _ :: _) rfl rfl ?_
      refine sv_callVi C (c_To_has l g _ (ad 10) (ad 11) (ad 12) (ad 13) ch po st T hT hn ho i) lk_X_98 List.mem_cons_self rfl d_X_token_24 (by decide) (Nat.le_of_ble_eq_true rfl) (by decide) (fun r w hw => ?_)
      obtain ⟨rfl, rfl⟩ := hw
      refine sv_ifB_ne C _ 40 (by decide) d_X_token_27 (fun c27 => ?_) (fun c27 => ?_)
      · skip
        exact absurd c27 hi
      · skip
        refine sv_front 13 (_ :: _ :: _ :: _ :: _ :: _ :: _ :: _ :: _ :: _ :: _ :: _ :: _ :: _ :: _) rfl rfl ?_
        refine sv_front 13 (_ :: _ :: _ :: _ :: _ :: _ :: _ :: _ :: _ :: _ :: _ :: _ :: _ :: _ :: _) rfl rfl ?_
        refine sv_front 13 (_ :: _ :: _ :: _ :: _ :: _ :: _ :: _ :: _ :: _ :: _ :: _ :: _ :: _ :: _) rfl rfl ?_
        refine sv_front 13 (_ :: _ :: _ :: _ :: _ :: _ :: _ :: _ :: _ :: _ :: _ :: _ :: _ :: _ :: _) rfl rfl ?_
        refine sv_front 13 (_ :: _ :: _ :: _ :: _ :: _ :: _ :: _ :: _ :: _ :: _ :: _ :: _ :: _ :: _) rfl rfl ?_
        refine sv_front 13 (_ :: _ :: _ :: _ :: _ :: _ :: _ :: _ :: _ :: _ :: _ :: _ :: _ :: _ :: _) rfl rfl ?_
        refine sv_front 13 (_ :: _ :: _ :: _ :: _ :: _ :: _ :: _ :: _ :: _ :: _ :: _ :: _ :: _ :: _) rfl rfl ?_
        refine sv_front 13 (_ :: _ :: _ :: _ :: _ :: _ :: _ :: _ :: _ :: _ :: _ :: _ :: _ :: _ :: _) rfl rfl ?_
        refine sv_front 13 (_ :: _ :: _ :: _ :: _ :: _ :: _ :: _ :: _ :: _ :: _ :: _ :: _ :: _ :: _) rfl rfl ?_
        refine sv_front 13 (_ :: _ :: _ :: _ :: _ :: _ :: _ :: _ :: _ :: _ :: _ :: _ :: _ :: _ :: _) rfl rfl ?_
        exact hr 30 _ _ _ _ _ ws_71 wk_X_102 d_X_token_30 d_X_token_33 d_X_token_34 d_X_token_36 d_X_token_39
    · skip
      exact absurd hq (by omega)

set_option maxHeartbeats 4000000 in
set_option maxRecDepth 100000 in
theorem c_X_character_x1 (l : Launch) (hfl : l.flags = pinnedFlags ++ [noTraceFlag]) (g : sv_G) (rest : va_W) (ad : Nat → Nat) (inl wd n : Nat) (wn : Int32) (b tf kf wf vf ch po st : Nat → Int32) (T : List (Nat × List Int32)) (hT : pu_Tok ch po st T) (hn : T.length ≤ 8192) (ho : pu_off T T.length ≤ 8192) (i k0 : Int32) (hi : ¬ (0 ≤ i.toInt ∧ i.toInt < T.length)) : sv_Mx l y_X_character b_X_character 3 (some (.int)) rm_thr g [.ref (ad 0), .int i, .int k0] ((ad 0, .inr (6, [.ref (ad 1), .int (nI inl), .ref (ad 2), .ref (ad 4), .ref (ad 6), .ref (ad 10), .int (nI wd)])) :: (ad 1, .inl (g.2.1 1, 8192, .inl b)) :: (ad 2, .inr (3, [.ref (ad 3), .int (nI n)])) :: (ad 3, .inl (g.2.1 0, 8192, .inl tf)) :: (ad 4, .inr (1, [.ref (ad 5)])) :: (ad 5, .inl (g.2.1 0, 33, .inl kf)) :: (ad 6, .inr (2, [.ref (ad 7), .ref (ad 9), .ref (ad 14), .ref (ad 15), .ref (ad 16), .ref (ad 17), .ref (ad 18)])) :: (ad 7, .inr (5, [.ref (ad 8), .int wn])) :: (ad 8, .inl (g.2.1 0, 255, .inl wf)) :: (ad 9, .inl (g.2.1 2, 255, .inl vf)) :: (ad 10, .inr (4, [.ref (ad 11), .ref (ad 12), .ref (ad 13), .int (nI T.length)])) :: (ad 11, .inl (g.2.1 0, 8192, .inl ch)) :: (ad 12, .inl (g.2.1 0, 8192, .inl po)) :: (ad 13, .inl (g.2.1 0, 8193, .inl st)) :: rest) "java/util/NoSuchElementException" := by
  refine sv_enter_x de_NS_0 de_NS_1 de_NS_2 de_NS_5 (by decide) hfl (by decide +kernel) (by decide +kernel) (by decide +kernel) wn_NS wi_NS oa_NS (by decide) rfl (Nat.le_of_ble_eq_true rfl) (fun X C hr => ?_)
  refine sv_lvE (lv' := [some _, some _, some _]) rfl ?_
  refine sv_aload_n C rfl rfl d_X_character_0 ?_
  refine sv_get C fg_X_43 0 rfl rfl d_X_character_1 ?_
  refine sv_iload_n C rfl rfl d_X_character_4 ?_
  refine sv_front 13 (_ :: _ :: _ :: _ :: _ :: _ :: _ :: _ :: _ :: _ :: _ :: _ :: _ :: _ :: _) rfl rfl ?_
  refine sv_front 13 (_ :: _ :: _ :: _ :: _ :: _ :: _ :: _ :: _ :: _ :: _ :: _ :: _ :: _ :: _) rfl rfl ?_
  refine sv_front 13 (_ :: _ :: _ :: _ :: _ :: _ :: _ :: _ :: _ :: _ :: _ :: _ :: _ :: _ :: _) rfl rfl ?_
  refine sv_front 13 (_ :: _ :: _ :: _ :: _ :: _ :: _ :: _ :: _ :: _ :: _ :: _ :: _ :: _ :: _) rfl rfl ?_
  refine sv_callVi C (c_To_has l g _ (ad 10) (ad 11) (ad 12) (ad 13) ch po st T hT hn ho i) lk_X_98 List.mem_cons_self rfl d_X_character_5 (by decide) (Nat.le_of_ble_eq_true rfl) (by decide) (fun r w hw => ?_)
  obtain ⟨rfl, rfl⟩ := hw
  refine sv_ifB_eq C _ 27 (by decide) d_X_character_8 (fun c8 => ?_) (fun c8 => ?_)
  · skip
    refine sv_front 13 (_ :: _ :: _ :: _ :: _ :: _ :: _ :: _ :: _ :: _ :: _ :: _ :: _ :: _ :: _) rfl rfl ?_
    refine sv_front 13 (_ :: _ :: _ :: _ :: _ :: _ :: _ :: _ :: _ :: _ :: _ :: _ :: _ :: _ :: _) rfl rfl ?_
    refine sv_front 13 (_ :: _ :: _ :: _ :: _ :: _ :: _ :: _ :: _ :: _ :: _ :: _ :: _ :: _ :: _) rfl rfl ?_
    refine sv_front 13 (_ :: _ :: _ :: _ :: _ :: _ :: _ :: _ :: _ :: _ :: _ :: _ :: _ :: _ :: _) rfl rfl ?_
    refine sv_front 13 (_ :: _ :: _ :: _ :: _ :: _ :: _ :: _ :: _ :: _ :: _ :: _ :: _ :: _ :: _) rfl rfl ?_
    refine sv_front 13 (_ :: _ :: _ :: _ :: _ :: _ :: _ :: _ :: _ :: _ :: _ :: _ :: _ :: _ :: _) rfl rfl ?_
    refine sv_front 13 (_ :: _ :: _ :: _ :: _ :: _ :: _ :: _ :: _ :: _ :: _ :: _ :: _ :: _ :: _) rfl rfl ?_
    refine sv_front 13 (_ :: _ :: _ :: _ :: _ :: _ :: _ :: _ :: _ :: _ :: _ :: _ :: _ :: _ :: _) rfl rfl ?_
    refine sv_front 13 (_ :: _ :: _ :: _ :: _ :: _ :: _ :: _ :: _ :: _ :: _ :: _ :: _ :: _ :: _) rfl rfl ?_
    refine sv_front 13 (_ :: _ :: _ :: _ :: _ :: _ :: _ :: _ :: _ :: _ :: _ :: _ :: _ :: _ :: _) rfl rfl ?_
    exact hr 27 _ _ _ _ _ ws_72 wk_X_102 d_X_character_27 d_X_character_30 d_X_character_31 d_X_character_33 d_X_character_36
  · skip
    exact absurd c8 hi

set_option maxHeartbeats 4000000 in
set_option maxRecDepth 100000 in
theorem c_X_character_x2 (l : Launch) (hfl : l.flags = pinnedFlags ++ [noTraceFlag]) (g : sv_G) (rest : va_W) (ad : Nat → Nat) (inl wd n : Nat) (wn : Int32) (b tf kf wf vf ch po st : Nat → Int32) (T : List (Nat × List Int32)) (hT : pu_Tok ch po st T) (hn : T.length ≤ 8192) (ho : pu_off T T.length ≤ 8192) (i : Nat) (hi : i < T.length) (k0 : Int32) (hk : k0.toInt < 0 ∨ ((T.getD i (0, [])).2.length : Int) ≤ k0.toInt) : sv_Mx l y_X_character b_X_character 3 (some (.int)) rm_thr g [.ref (ad 0), .int (nI i), .int k0] ((ad 0, .inr (6, [.ref (ad 1), .int (nI inl), .ref (ad 2), .ref (ad 4), .ref (ad 6), .ref (ad 10), .int (nI wd)])) :: (ad 1, .inl (g.2.1 1, 8192, .inl b)) :: (ad 2, .inr (3, [.ref (ad 3), .int (nI n)])) :: (ad 3, .inl (g.2.1 0, 8192, .inl tf)) :: (ad 4, .inr (1, [.ref (ad 5)])) :: (ad 5, .inl (g.2.1 0, 33, .inl kf)) :: (ad 6, .inr (2, [.ref (ad 7), .ref (ad 9), .ref (ad 14), .ref (ad 15), .ref (ad 16), .ref (ad 17), .ref (ad 18)])) :: (ad 7, .inr (5, [.ref (ad 8), .int wn])) :: (ad 8, .inl (g.2.1 0, 255, .inl wf)) :: (ad 9, .inl (g.2.1 2, 255, .inl vf)) :: (ad 10, .inr (4, [.ref (ad 11), .ref (ad 12), .ref (ad 13), .int (nI T.length)])) :: (ad 11, .inl (g.2.1 0, 8192, .inl ch)) :: (ad 12, .inl (g.2.1 0, 8192, .inl po)) :: (ad 13, .inl (g.2.1 0, 8193, .inl st)) :: rest) "java/util/NoSuchElementException" := by
  have ei : (nI i).toInt = (i : Int) := nI_toInt (by omega)
  have eo := pu_off_in hi
  refine sv_enter_x de_NS_0 de_NS_1 de_NS_2 de_NS_5 (by decide) hfl (by decide +kernel) (by decide +kernel) (by decide +kernel) wn_NS wi_NS oa_NS (by decide) rfl (Nat.le_of_ble_eq_true rfl) (fun X C hr => ?_)
  refine sv_lvE (lv' := [some _, some _, some _]) rfl ?_
  refine sv_aload_n C rfl rfl d_X_character_0 ?_
  refine sv_get C fg_X_43 0 rfl rfl d_X_character_1 ?_
  refine sv_iload_n C rfl rfl d_X_character_4 ?_
  refine sv_front 13 (_ :: _ :: _ :: _ :: _ :: _ :: _ :: _ :: _ :: _ :: _ :: _ :: _ :: _ :: _) rfl rfl ?_
  refine sv_front 13 (_ :: _ :: _ :: _ :: _ :: _ :: _ :: _ :: _ :: _ :: _ :: _ :: _ :: _ :: _) rfl rfl ?_
  refine sv_front 13 (_ :: _ :: _ :: _ :: _ :: _ :: _ :: _ :: _ :: _ :: _ :: _ :: _ :: _ :: _) rfl rfl ?_
  refine sv_front 13 (_ :: _ :: _ :: _ :: _ :: _ :: _ :: _ :: _ :: _ :: _ :: _ :: _ :: _ :: _) rfl rfl ?_
  refine sv_callVi C (c_To_has l g _ (ad 10) (ad 11) (ad 12) (ad 13) ch po st T hT hn ho (nI i)) lk_X_98 List.mem_cons_self rfl d_X_character_5 (by decide) (Nat.le_of_ble_eq_true rfl) (by decide) (fun r w hw => ?_)
  obtain ⟨rfl, rfl⟩ := hw
  refine sv_ifB_eq C _ 27 (by decide) d_X_character_8 (fun c8 => ?_) (fun c8 => ?_)
  · skip
    exact absurd ⟨by omega, by omega⟩ c8
  · skip
    refine sv_iload_n C rfl rfl d_X_character_11 ?_
    refine sv_ifZ_lt C 27 (by decide) d_X_character_12 (fun c12 => ?_) (fun c12 => ?_)
    · skip
      refine sv_front 13 (_ :: _ :: _ :: _ :: _ :: _ :: _ :: _ :: _ :: _ :: _ :: _ :: _ :: _ :: _) rfl rfl ?_
      refine sv_front 13 (_ :: _ :: _ :: _ :: _ :: _ :: _ :: _ :: _ :: _ :: _ :: _ :: _ :: _ :: _) rfl rfl ?_
      refine sv_front 13 (_ :: _ :: _ :: _ :: _ :: _ :: _ :: _ :: _ :: _ :: _ :: _ :: _ :: _ :: _) rfl rfl ?_
      refine sv_front 13 (_ :: _ :: _ :: _ :: _ :: _ :: _ :: _ :: _ :: _ :: _ :: _ :: _ :: _ :: _) rfl rfl ?_
      refine sv_front 13 (_ :: _ :: _ :: _ :: _ :: _ :: _ :: _ :: _ :: _ :: _ :: _ :: _ :: _ :: _) rfl rfl ?_
      refine sv_front 13 (_ :: _ :: _ :: _ :: _ :: _ :: _ :: _ :: _ :: _ :: _ :: _ :: _ :: _ :: _) rfl rfl ?_
      refine sv_front 13 (_ :: _ :: _ :: _ :: _ :: _ :: _ :: _ :: _ :: _ :: _ :: _ :: _ :: _ :: _) rfl rfl ?_
      refine sv_front 13 (_ :: _ :: _ :: _ :: _ :: _ :: _ :: _ :: _ :: _ :: _ :: _ :: _ :: _ :: _) rfl rfl ?_
      refine sv_front 13 (_ :: _ :: _ :: _ :: _ :: _ :: _ :: _ :: _ :: _ :: _ :: _ :: _ :: _ :: _) rfl rfl ?_
      refine sv_front 13 (_ :: _ :: _ :: _ :: _ :: _ :: _ :: _ :: _ :: _ :: _ :: _ :: _ :: _ :: _) rfl rfl ?_
      exact hr 27 _ _ _ _ _ ws_72 wk_X_102 d_X_character_27 d_X_character_30 d_X_character_31 d_X_character_33 d_X_character_36
    · skip
      refine sv_iload_n C rfl rfl d_X_character_15 ?_
      refine sv_aload_n C rfl rfl d_X_character_16 ?_
      refine sv_get C fg_X_43 4 rfl rfl d_X_character_17 ?_
      refine sv_iload_n C rfl rfl d_X_character_20 ?_
      refine sv_callVi C (c_To_lengthOf l g _ (ad 10) (ad 11) (ad 12) (ad 13) ch po st T hT hn ho i hi) lk_X_111 List.mem_cons_self rfl d_X_character_21 (by decide) (Nat.le_of_ble_eq_true rfl) (by decide) (fun r w hw => ?_)
      obtain ⟨rfl, rfl⟩ := hw
      refine sv_icmp_lt C 37 (by decide) d_X_character_24 (fun c24 => ?_) (fun c24 => ?_)
      · skip
        rw [Int32.lt_iff_toInt_lt, nI_toInt (by omega)] at c24
        exact absurd hk (by omega)
      · skip
        refine sv_front 13 (_ :: _ :: _ :: _ :: _ :: _ :: _ :: _ :: _ :: _ :: _ :: _ :: _ :: _ :: _) rfl rfl ?_
        refine sv_front 13 (_ :: _ :: _ :: _ :: _ :: _ :: _ :: _ :: _ :: _ :: _ :: _ :: _ :: _ :: _) rfl rfl ?_
        refine sv_front 13 (_ :: _ :: _ :: _ :: _ :: _ :: _ :: _ :: _ :: _ :: _ :: _ :: _ :: _ :: _) rfl rfl ?_
        refine sv_front 13 (_ :: _ :: _ :: _ :: _ :: _ :: _ :: _ :: _ :: _ :: _ :: _ :: _ :: _ :: _) rfl rfl ?_
        refine sv_front 13 (_ :: _ :: _ :: _ :: _ :: _ :: _ :: _ :: _ :: _ :: _ :: _ :: _ :: _ :: _) rfl rfl ?_
        refine sv_front 13 (_ :: _ :: _ :: _ :: _ :: _ :: _ :: _ :: _ :: _ :: _ :: _ :: _ :: _ :: _) rfl rfl ?_
        refine sv_front 13 (_ :: _ :: _ :: _ :: _ :: _ :: _ :: _ :: _ :: _ :: _ :: _ :: _ :: _ :: _) rfl rfl ?_
        refine sv_front 13 (_ :: _ :: _ :: _ :: _ :: _ :: _ :: _ :: _ :: _ :: _ :: _ :: _ :: _ :: _) rfl rfl ?_
        refine sv_front 13 (_ :: _ :: _ :: _ :: _ :: _ :: _ :: _ :: _ :: _ :: _ :: _ :: _ :: _ :: _) rfl rfl ?_
        refine sv_front 13 (_ :: _ :: _ :: _ :: _ :: _ :: _ :: _ :: _ :: _ :: _ :: _ :: _ :: _ :: _) rfl rfl ?_
        exact hr 27 _ _ _ _ _ ws_72 wk_X_102 d_X_character_27 d_X_character_30 d_X_character_31 d_X_character_33 d_X_character_36

set_option maxHeartbeats 4000000 in
set_option maxRecDepth 100000 in
theorem c_X_first_x (l : Launch) (hfl : l.flags = pinnedFlags ++ [noTraceFlag]) (g : sv_G) (rest : va_W) (ad : Nat → Nat) (inl wd n : Nat) (wn : Int32) (b tf kf wf vf ch po st : Nat → Int32) (T : List (Nat × List Int32)) (hT : pu_Tok ch po st T) (hn : T.length ≤ 8192) (ho : pu_off T T.length ≤ 8192) (i : Int32) (hi : ¬ (0 ≤ i.toInt ∧ i.toInt < T.length)) : sv_Mx l y_X_first b_X_first 2 (some (.int)) rm_thr g [.ref (ad 0), .int i] ((ad 0, .inr (6, [.ref (ad 1), .int (nI inl), .ref (ad 2), .ref (ad 4), .ref (ad 6), .ref (ad 10), .int (nI wd)])) :: (ad 1, .inl (g.2.1 1, 8192, .inl b)) :: (ad 2, .inr (3, [.ref (ad 3), .int (nI n)])) :: (ad 3, .inl (g.2.1 0, 8192, .inl tf)) :: (ad 4, .inr (1, [.ref (ad 5)])) :: (ad 5, .inl (g.2.1 0, 33, .inl kf)) :: (ad 6, .inr (2, [.ref (ad 7), .ref (ad 9), .ref (ad 14), .ref (ad 15), .ref (ad 16), .ref (ad 17), .ref (ad 18)])) :: (ad 7, .inr (5, [.ref (ad 8), .int wn])) :: (ad 8, .inl (g.2.1 0, 255, .inl wf)) :: (ad 9, .inl (g.2.1 2, 255, .inl vf)) :: (ad 10, .inr (4, [.ref (ad 11), .ref (ad 12), .ref (ad 13), .int (nI T.length)])) :: (ad 11, .inl (g.2.1 0, 8192, .inl ch)) :: (ad 12, .inl (g.2.1 0, 8192, .inl po)) :: (ad 13, .inl (g.2.1 0, 8193, .inl st)) :: rest) "java/util/NoSuchElementException" := by
  refine sv_enter_x de_NS_0 de_NS_1 de_NS_2 de_NS_5 (by decide) hfl (by decide +kernel) (by decide +kernel) (by decide +kernel) wn_NS wi_NS oa_NS (by decide) rfl (Nat.le_of_ble_eq_true rfl) (fun X C hr => ?_)
  refine sv_lvE (lv' := [some _, some _]) rfl ?_
  refine sv_aload_n C rfl rfl d_X_first_0 ?_
  refine sv_get C fg_X_43 0 rfl rfl d_X_first_1 ?_
  refine sv_iload_n C rfl rfl d_X_first_4 ?_
  refine sv_front 13 (_ :: _ :: _ :: _ :: _ :: _ :: _ :: _ :: _ :: _ :: _ :: _ :: _ :: _ :: _) rfl rfl ?_
  refine sv_front 13 (_ :: _ :: _ :: _ :: _ :: _ :: _ :: _ :: _ :: _ :: _ :: _ :: _ :: _ :: _) rfl rfl ?_
  refine sv_front 13 (_ :: _ :: _ :: _ :: _ :: _ :: _ :: _ :: _ :: _ :: _ :: _ :: _ :: _ :: _) rfl rfl ?_
  refine sv_front 13 (_ :: _ :: _ :: _ :: _ :: _ :: _ :: _ :: _ :: _ :: _ :: _ :: _ :: _ :: _) rfl rfl ?_
  refine sv_callVi C (c_To_has l g _ (ad 10) (ad 11) (ad 12) (ad 13) ch po st T hT hn ho i) lk_X_98 List.mem_cons_self rfl d_X_first_5 (by decide) (Nat.le_of_ble_eq_true rfl) (by decide) (fun r w hw => ?_)
  obtain ⟨rfl, rfl⟩ := hw
  refine sv_ifB_ne C _ 21 (by decide) d_X_first_8 (fun c8 => ?_) (fun c8 => ?_)
  · skip
    exact absurd c8 hi
  · skip
    refine sv_front 13 (_ :: _ :: _ :: _ :: _ :: _ :: _ :: _ :: _ :: _ :: _ :: _ :: _ :: _ :: _) rfl rfl ?_
    refine sv_front 13 (_ :: _ :: _ :: _ :: _ :: _ :: _ :: _ :: _ :: _ :: _ :: _ :: _ :: _ :: _) rfl rfl ?_
    refine sv_front 13 (_ :: _ :: _ :: _ :: _ :: _ :: _ :: _ :: _ :: _ :: _ :: _ :: _ :: _ :: _) rfl rfl ?_
    refine sv_front 13 (_ :: _ :: _ :: _ :: _ :: _ :: _ :: _ :: _ :: _ :: _ :: _ :: _ :: _ :: _) rfl rfl ?_
    refine sv_front 13 (_ :: _ :: _ :: _ :: _ :: _ :: _ :: _ :: _ :: _ :: _ :: _ :: _ :: _ :: _) rfl rfl ?_
    refine sv_front 13 (_ :: _ :: _ :: _ :: _ :: _ :: _ :: _ :: _ :: _ :: _ :: _ :: _ :: _ :: _) rfl rfl ?_
    refine sv_front 13 (_ :: _ :: _ :: _ :: _ :: _ :: _ :: _ :: _ :: _ :: _ :: _ :: _ :: _ :: _) rfl rfl ?_
    refine sv_front 13 (_ :: _ :: _ :: _ :: _ :: _ :: _ :: _ :: _ :: _ :: _ :: _ :: _ :: _ :: _) rfl rfl ?_
    refine sv_front 13 (_ :: _ :: _ :: _ :: _ :: _ :: _ :: _ :: _ :: _ :: _ :: _ :: _ :: _ :: _) rfl rfl ?_
    refine sv_front 13 (_ :: _ :: _ :: _ :: _ :: _ :: _ :: _ :: _ :: _ :: _ :: _ :: _ :: _ :: _) rfl rfl ?_
    exact hr 11 _ _ _ _ _ ws_71 wk_X_102 d_X_first_11 d_X_first_14 d_X_first_15 d_X_first_17 d_X_first_20

set_option maxHeartbeats 4000000 in
set_option maxRecDepth 100000 in
theorem c_X_sort_x (l : Launch) (hfl : l.flags = pinnedFlags ++ [noTraceFlag]) (g : sv_G) (ws : va_W) (hX : Nat) (c : Int32) (h1 : c.toInt < 0 ∨ 1114111 < c.toInt) : sv_Mx l y_X_sort b_X_sort 2 (some (.int)) rm_thr g [.ref hX, .int c] ws "java/lang/IllegalArgumentException" := by
  refine sv_enter_x de_IA_0 de_IA_1 de_IA_2 de_IA_5 (by decide) hfl (by decide +kernel) (by decide +kernel) (by decide +kernel) wn_IA wi_IA oa_IA (by decide) rfl (Nat.le_of_ble_eq_true rfl) (fun X C hr => ?_)
  refine sv_lvE (lv' := [some _, some _]) rfl ?_
  refine sv_iload_n C rfl rfl d_X_sort_0 ?_
  refine sv_ifZ_lt C 10 (by decide) d_X_sort_1 (fun c1 => ?_) (fun c1 => ?_)
  · skip
    exact hr 10 _ _ _ _ _ ws_73 wk_X_60 d_X_sort_10 d_X_sort_13 d_X_sort_14 d_X_sort_16 d_X_sort_19
  · skip
    refine sv_iload_n C rfl rfl d_X_sort_4 ?_
    refine sv_ldc C wc_X_125 d_X_sort_5 ?_
    refine sv_icmpK_le C (1114111) (by decide) 20 (by decide) d_X_sort_7 (fun c7 => ?_) (fun c7 => ?_)
    · skip
      exact absurd h1 (by omega)
    · skip
      exact hr 10 _ _ _ _ _ ws_73 wk_X_60 d_X_sort_10 d_X_sort_13 d_X_sort_14 d_X_sort_16 d_X_sort_19
