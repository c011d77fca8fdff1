/-! CONTRACTS: WordChain, 4: what answers -/
def rm_X_count : Room := { frames := 0, cells := 0, slots := 0, locals := 0 }
set_option maxHeartbeats 4000000 in
set_option maxRecDepth 100000 in
theorem c_X_count (l : Launch) (g : sv_G) (rest : va_W) (ad : Nat → Nat) (inl wd n : Nat) (wn : Int32) (b tf kf wf vf ch po st : Nat → Int32) (T : List (Nat × List Int32)) (hT : pu_Tok ch po st T) (hn : T.length ≤ 8192) (ho : pu_off T T.length ≤ 8192) (q : Int32) : sv_Mi l y_X_count b_X_count 2 (some (.int)) rm_X_count g [.ref (ad 0), .int q] ((ad 0, .inr (6, [.ref (ad 1), .int (nI inl), .ref (ad 2), .ref (ad 4), .ref (ad 6), .ref (ad 10), .int (nI wd)])) :: (ad 1, .inl (g.2.1 1, 8192, .inl b)) :: (ad 2, .inr (3, [.ref (ad 3), .int (nI n)])) :: (ad 3, .inl (g.2.1 0, 8192, .inl tf)) :: (ad 4, .inr (1, [.ref (ad 5)])) :: (ad 5, .inl (g.2.1 0, 33, .inl kf)) :: (ad 6, .inr (2, [.ref (ad 7), .ref (ad 9), .ref (ad 14), .ref (ad 15), .ref (ad 16), .ref (ad 17), .ref (ad 18)])) :: (ad 7, .inr (5, [.ref (ad 8), .int wn])) :: (ad 8, .inl (g.2.1 0, 255, .inl wf)) :: (ad 9, .inl (g.2.1 2, 255, .inl vf)) :: (ad 10, .inr (4, [.ref (ad 11), .ref (ad 12), .ref (ad 13), .int (nI T.length)])) :: (ad 11, .inl (g.2.1 0, 8192, .inl ch)) :: (ad 12, .inl (g.2.1 0, 8192, .inl po)) :: (ad 13, .inl (g.2.1 0, 8193, .inl st)) :: rest) (fun r w => r = (if q.toInt = 0 then nI inl else if q.toInt = 1 then nI T.length else if q.toInt = 2 then nI wd else if q.toInt = 3 then nI n else if q.toInt = 4 then nI (pu_off T T.length) else -1) ∧ w = ((ad 0, .inr (6, [.ref (ad 1), .int (nI inl), .ref (ad 2), .ref (ad 4), .ref (ad 6), .ref (ad 10), .int (nI wd)])) :: (ad 1, .inl (g.2.1 1, 8192, .inl b)) :: (ad 2, .inr (3, [.ref (ad 3), .int (nI n)])) :: (ad 3, .inl (g.2.1 0, 8192, .inl tf)) :: (ad 4, .inr (1, [.ref (ad 5)])) :: (ad 5, .inl (g.2.1 0, 33, .inl kf)) :: (ad 6, .inr (2, [.ref (ad 7), .ref (ad 9), .ref (ad 14), .ref (ad 15), .ref (ad 16), .ref (ad 17), .ref (ad 18)])) :: (ad 7, .inr (5, [.ref (ad 8), .int wn])) :: (ad 8, .inl (g.2.1 0, 255, .inl wf)) :: (ad 9, .inl (g.2.1 2, 255, .inl vf)) :: (ad 10, .inr (4, [.ref (ad 11), .ref (ad 12), .ref (ad 13), .int (nI T.length)])) :: (ad 11, .inl (g.2.1 0, 8192, .inl ch)) :: (ad 12, .inl (g.2.1 0, 8192, .inl po)) :: (ad 13, .inl (g.2.1 0, 8193, .inl st)) :: rest)) := by
  refine sv_enter_i (by decide) rfl rfl (Nat.le_of_ble_eq_true rfl) (fun X C hI hr => ?_)
  refine sv_lvE (lv' := [some _, some _]) rfl ?_
  refine sv_iload_n C rfl rfl d_X_count_0 ?_
  have hc : q.toInt = 0 ∨ q.toInt = 1 ∨ q.toInt = 2 ∨ q.toInt = 3 ∨ q.toInt = 4 ∨ (q.toInt < 0 ∨ 4 < q.toInt) := by omega
  rcases hc with x | x | x | x | x | x
  · skip
    refine sv_tableIn C 36 d_X_count_1 (by omega) (by omega) (off := 35) (by rw [x]; rfl) (by decide) ?_
    refine sv_aload_n C rfl rfl d_X_count_36 ?_
    refine sv_get C fg_X_13 0 rfl rfl d_X_count_37 ?_
    exact hr _ _ _ _ d_X_count_40 rfl ⟨by first | (simp [x]; done) | (rw [if_neg (by omega), if_neg (by omega), if_neg (by omega), if_neg (by omega), if_neg (by omega)]), rfl⟩
  · skip
    refine sv_tableIn C 41 d_X_count_1 (by omega) (by omega) (off := 40) (by rw [x]; rfl) (by decide) ?_
    refine sv_aload_n C rfl rfl d_X_count_41 ?_
    refine sv_get C fg_X_43 0 rfl rfl d_X_count_42 ?_
    refine sv_get C fg_X_93 10 rfl rfl d_X_count_45 ?_
    exact hr _ _ _ _ d_X_count_48 rfl ⟨by first | (simp [x]; done) | (rw [if_neg (by omega), if_neg (by omega), if_neg (by omega), if_neg (by omega), if_neg (by omega)]), rfl⟩
  · skip
    refine sv_tableIn C 49 d_X_count_1 (by omega) (by omega) (off := 48) (by rw [x]; rfl) (by decide) ?_
    refine sv_aload_n C rfl rfl d_X_count_49 ?_
    refine sv_get C fg_X_47 0 rfl rfl d_X_count_50 ?_
    exact hr _ _ _ _ d_X_count_53 rfl ⟨by first | (simp [x]; done) | (rw [if_neg (by omega), if_neg (by omega), if_neg (by omega), if_neg (by omega), if_neg (by omega)]), rfl⟩
  · skip
    refine sv_tableIn C 54 d_X_count_1 (by omega) (by omega) (off := 53) (by rw [x]; rfl) (by decide) ?_
    refine sv_aload_n C rfl rfl d_X_count_54 ?_
    refine sv_get C fg_X_22 0 rfl rfl d_X_count_55 ?_
    refine sv_get C fg_X_72 2 rfl rfl d_X_count_58 ?_
    exact hr _ _ _ _ d_X_count_61 rfl ⟨by first | (simp [x]; done) | (rw [if_neg (by omega), if_neg (by omega), if_neg (by omega), if_neg (by omega), if_neg (by omega)]), rfl⟩
  · skip
    refine sv_tableIn C 62 d_X_count_1 (by omega) (by omega) (off := 61) (by rw [x]; rfl) (by decide) ?_
    refine sv_aload_n C rfl rfl d_X_count_62 ?_
    refine sv_get C fg_X_43 0 rfl rfl d_X_count_63 ?_
    refine sv_get C fg_X_119 10 rfl rfl d_X_count_66 ?_
    refine sv_aload_n C rfl rfl d_X_count_69 ?_
    refine sv_get C fg_X_43 0 rfl rfl d_X_count_70 ?_
    refine sv_get C fg_X_93 10 rfl rfl d_X_count_73 ?_
    refine sv_ialdN C _ 13 rfl (by omega) (by decide) d_X_count_76 ?_
    refine sv_eqi (hT.1 T.length (Nat.le_refl _)) ?_
    exact hr _ _ _ _ d_X_count_77 rfl ⟨by first | (simp [x]; done) | (rw [if_neg (by omega), if_neg (by omega), if_neg (by omega), if_neg (by omega), if_neg (by omega)]), rfl⟩
  · skip
    refine sv_tableOut C 78 d_X_count_1 x (by decide) ?_
    refine sv_iconst C (v := (-1)) (by decide) d_X_count_78 ?_
    exact hr _ _ _ _ d_X_count_79 rfl ⟨by first | (simp [x]; done) | (rw [if_neg (by omega), if_neg (by omega), if_neg (by omega), if_neg (by omega), if_neg (by omega)]), rfl⟩

def rm_X_end : Room := { frames := 1, cells := 0, slots := 0, locals := 80 }
set_option maxHeartbeats 4000000 in
set_option maxRecDepth 100000 in
theorem c_X_end (l : Launch) (g : sv_G) (rest : va_W) (ad : Nat → Nat) (inl wd n : Nat) (wn : Int32) (b tf kf wf vf ch po st : Nat → Int32) (T : List (Nat × List Int32)) (m : Nat) (hm : m < 20) (h : 20 - m ≤ inl) (hi : inl ≤ 8192) : sv_Mi l y_X_end b_X_end 2 (some (.int)) rm_X_end g [.ref (ad 0), .int (nI m)] ((ad 0, .inr (6, [.ref (ad 1), .int (nI inl), .ref (ad 2), .ref (ad 4), .ref (ad 6), .ref (ad 10), .int (nI wd)])) :: (ad 1, .inl (g.2.1 1, 8192, .inl b)) :: (ad 2, .inr (3, [.ref (ad 3), .int (nI n)])) :: (ad 3, .inl (g.2.1 0, 8192, .inl tf)) :: (ad 4, .inr (1, [.ref (ad 5)])) :: (ad 5, .inl (g.2.1 0, 33, .inl kf)) :: (ad 6, .inr (2, [.ref (ad 7), .ref (ad 9), .ref (ad 14), .ref (ad 15), .ref (ad 16), .ref (ad 17), .ref (ad 18)])) :: (ad 7, .inr (5, [.ref (ad 8), .int wn])) :: (ad 8, .inl (g.2.1 0, 255, .inl wf)) :: (ad 9, .inl (g.2.1 2, 255, .inl vf)) :: (ad 10, .inr (4, [.ref (ad 11), .ref (ad 12), .ref (ad 13), .int (nI T.length)])) :: (ad 11, .inl (g.2.1 0, 8192, .inl ch)) :: (ad 12, .inl (g.2.1 0, 8192, .inl po)) :: (ad 13, .inl (g.2.1 0, 8193, .inl st)) :: rest) (fun r w => r = nI (inl - (20 - m)) ∧ w = ((ad 0, .inr (6, [.ref (ad 1), .int (nI (inl - (20 - m))), .ref (ad 2), .ref (ad 4), .ref (ad 6), .ref (ad 10), .int (nI wd)])) :: (ad 1, .inl (g.2.1 1, 8192, .inl b)) :: (ad 2, .inr (3, [.ref (ad 3), .int (nI n)])) :: (ad 3, .inl (g.2.1 0, 8192, .inl tf)) :: (ad 4, .inr (1, [.ref (ad 5)])) :: (ad 5, .inl (g.2.1 0, 33, .inl kf)) :: (ad 6, .inr (2, [.ref (ad 7), .ref (ad 9), .ref (ad 14), .ref (ad 15), .ref (ad 16), .ref (ad 17), .ref (ad 18)])) :: (ad 7, .inr (5, [.ref (ad 8), .int wn])) :: (ad 8, .inl (g.2.1 0, 255, .inl wf)) :: (ad 9, .inl (g.2.1 2, 255, .inl vf)) :: (ad 10, .inr (4, [.ref (ad 11), .ref (ad 12), .ref (ad 13), .int (nI T.length)])) :: (ad 11, .inl (g.2.1 0, 8192, .inl ch)) :: (ad 12, .inl (g.2.1 0, 8192, .inl po)) :: (ad 13, .inl (g.2.1 0, 8193, .inl st)) :: rest)) := by
  refine sv_enter_i (by decide) rfl rfl (Nat.le_of_ble_eq_true rfl) (fun X C hI hr => ?_)
  refine sv_lvE (lv' := [some _, some _]) rfl ?_
  refine sv_iload_n C rfl rfl d_X_end_0 ?_
  refine sv_ifZ_lt C 21 (by decide) d_X_end_1 (fun c1 => ?_) (fun c1 => ?_)
  · skip
    exact absurd c1 (by rw [nI_toInt (by omega)]; omega)
  · skip
    refine sv_iload_n C rfl rfl d_X_end_4 ?_
    refine sv_bipush C (v := 20) (by decide) d_X_end_5 ?_
    refine sv_icmpN_ge C _ 20 (by omega) (by omega) 21 (by decide) d_X_end_7 (fun c7 => ?_) (fun c7 => ?_)
    · skip
      exact absurd c7 (by omega)
    · skip
      refine sv_bipush C (v := 20) (by decide) d_X_end_10 ?_
      refine sv_iload_n C rfl rfl d_X_end_12 ?_
      refine sv_isubN C 20 _ (by omega) d_X_end_13 ?_
      refine sv_aload_n C rfl rfl d_X_end_14 ?_
      refine sv_get C fg_X_13 0 rfl rfl d_X_end_15 ?_
      refine sv_icmpN_le C _ _ (by omega) (by omega) 31 (by decide) d_X_end_18 (fun c18 => ?_) (fun c18 => ?_)
      · skip
        refine sv_aload_n C rfl rfl d_X_end_31 ?_
        refine sv_dup C rfl d_X_end_32 ?_
        refine sv_get C fg_X_13 0 rfl rfl d_X_end_33 ?_
        refine sv_bipush C (v := 20) (by decide) d_X_end_36 ?_
        refine sv_iload_n C rfl rfl d_X_end_38 ?_
        refine sv_isubN C 20 _ (by omega) d_X_end_39 ?_
        refine sv_isubN C _ _ (by omega) d_X_end_40 ?_
        refine sv_put C fp_X_13 0 rfl rfl rfl (Nat.le_of_ble_eq_true rfl) ((_, .inr (_, [_, _, _, _, _, _, _])) :: _ :: _ :: _ :: _ :: _ :: _ :: _ :: _ :: _ :: _ :: _ :: _ :: _ :: _) rfl d_X_end_41 ?_
        refine sv_aload_n C rfl rfl d_X_end_44 ?_
        refine sv_get C fg_X_13 0 rfl rfl d_X_end_45 ?_
        exact hr _ _ _ _ d_X_end_48 rfl ⟨rfl, rfl⟩
      · skip
        exact absurd c18 (by omega)

def rm_X_token : Room := { frames := 1, cells := 0, slots := 0, locals := 80 }
set_option maxHeartbeats 4000000 in
set_option maxRecDepth 100000 in
theorem c_X_token (l : Launch) (g : sv_G) (rest : va_W) (ad : Nat → Nat) (inl wd n : Nat) (wn : Int32) (b tf kf wf vf ch po st : Nat → Int32) (T : List (Nat × List Int32)) (hT : pu_Tok ch po st T) (hn : T.length ≤ 8192) (ho : pu_off T T.length ≤ 8192) (i : Nat) (hi : i < T.length) (q : Int32) (hq : q.toInt = 0 ∨ q.toInt = 1) : sv_Mi l y_X_token b_X_token 3 (some (.int)) rm_X_token g [.ref (ad 0), .int (nI i), .int q] ((ad 0, .inr (6, [.ref (ad 1), .int (nI inl), .ref (ad 2), .ref (ad 4), .ref (ad 6), .ref (ad 10), .int (nI wd)])) :: (ad 1, .inl (g.2.1 1, 8192, .inl b)) :: (ad 2, .inr (3, [.ref (ad 3), .int (nI n)])) :: (ad 3, .inl (g.2.1 0, 8192, .inl tf)) :: (ad 4, .inr (1, [.ref (ad 5)])) :: (ad 5, .inl (g.2.1 0, 33, .inl kf)) :: (ad 6, .inr (2, [.ref (ad 7), .ref (ad 9), .ref (ad 14), .ref (ad 15), .ref (ad 16), .ref (ad 17), .ref (ad 18)])) :: (ad 7, .inr (5, [.ref (ad 8), .int wn])) :: (ad 8, .inl (g.2.1 0, 255, .inl wf)) :: (ad 9, .inl (g.2.1 2, 255, .inl vf)) :: (ad 10, .inr (4, [.ref (ad 11), .ref (ad 12), .ref (ad 13), .int (nI T.length)])) :: (ad 11, .inl (g.2.1 0, 8192, .inl ch)) :: (ad 12, .inl (g.2.1 0, 8192, .inl po)) :: (ad 13, .inl (g.2.1 0, 8193, .inl st)) :: rest) (fun r w => r = (if q.toInt = 0 then nI (T.getD i (0, [])).1 else nI (T.getD i (0, [])).2.length) ∧ w = ((ad 0, .inr (6, [.ref (ad 1), .int (nI inl), .ref (ad 2), .ref (ad 4), .ref (ad 6), .ref (ad 10), .int (nI wd)])) :: (ad 1, .inl (g.2.1 1, 8192, .inl b)) :: (ad 2, .inr (3, [.ref (ad 3), .int (nI n)])) :: (ad 3, .inl (g.2.1 0, 8192, .inl tf)) :: (ad 4, .inr (1, [.ref (ad 5)])) :: (ad 5, .inl (g.2.1 0, 33, .inl kf)) :: (ad 6, .inr (2, [.ref (ad 7), .ref (ad 9), .ref (ad 14), .ref (ad 15), .ref (ad 16), .ref (ad 17), .ref (ad 18)])) :: (ad 7, .inr (5, [.ref (ad 8), .int wn])) :: (ad 8, .inl (g.2.1 0, 255, .inl wf)) :: (ad 9, .inl (g.2.1 2, 255, .inl vf)) :: (ad 10, .inr (4, [.ref (ad 11), .ref (ad 12), .ref (ad 13), .int (nI T.length)])) :: (ad 11, .inl (g.2.1 0, 8192, .inl ch)) :: (ad 12, .inl (g.2.1 0, 8192, .inl po)) :: (ad 13, .inl (g.2.1 0, 8193, .inl st)) :: rest)) := by
  have ei : (nI i).toInt = (i : Int) := nI_toInt (by omega)
  refine sv_enter_i (by decide) rfl rfl (Nat.le_of_ble_eq_true rfl) (fun X C hI hr => ?_)
  refine sv_lvE (lv' := [some _, some _, some _]) rfl ?_
  refine sv_iload_n C rfl rfl d_X_token_0 ?_
  refine sv_ifZ_eq C 19 (by decide) d_X_token_1 (fun c1 => ?_) (fun c1 => ?_)
  · skip
    refine sv_aload_n C rfl rfl d_X_token_19 ?_
    refine sv_get C fg_X_43 0 rfl rfl d_X_token_20 ?_
    refine sv_iload_n C rfl rfl d_X_token_23 ?_
    refine sv_front 13 (_ :: _ :: _ :: _ :: _ :: _ :: _ :: _ :: _ :: _ :: _ :: _ :: _ :: _ :: _) rfl rfl ?_
    refine sv_front 13 (_ :: _ :: _ :: _ :: _ :: _ :: _ :: _ :: _ :: _ :: _ :: _ :: _ :: _ :: _) rfl rfl ?_
    refine sv_front 13 (_ :: _ :: _ :: _ :: _ :: _ :: _ :: _ :: _ :: _ :: _ :: _ :: _ :: _ :: _) rfl rfl ?_
    refine sv_front 13 (_ :: _ :: _ :: _ :: _ :: _ :: _ :: _ :: _ :: _ :: _ :: _ :: _ :: _ :: _) rfl rfl ?_
    refine sv_callVi C (c_To_has l g _ (ad 10) (ad 11) (ad 12) (ad 13) ch po st T hT hn ho (nI i)) lk_X_98 List.mem_cons_self rfl d_X_token_24 (by decide) (Nat.le_of_ble_eq_true rfl) (by decide) (fun r w hw => ?_)
    obtain ⟨rfl, rfl⟩ := hw
    refine sv_ifB_ne C _ 40 (by decide) d_X_token_27 (fun c27 => ?_) (fun c27 => ?_)
    · skip
      refine sv_iload_n C rfl rfl d_X_token_40 ?_
      refine sv_ifZ_ne C 56 (by decide) d_X_token_41 (fun c41 => ?_) (fun c41 => ?_)
      · skip
        refine sv_aload_n C rfl rfl d_X_token_56 ?_
        refine sv_get C fg_X_43 4 rfl rfl d_X_token_57 ?_
        refine sv_iload_n C rfl rfl d_X_token_60 ?_
        refine sv_callVi C (c_To_lengthOf l g _ (ad 10) (ad 11) (ad 12) (ad 13) ch po st T hT hn ho i hi) lk_X_111 List.mem_cons_self rfl d_X_token_61 (by decide) (Nat.le_of_ble_eq_true rfl) (by decide) (fun r w hw => ?_)
        obtain ⟨rfl, rfl⟩ := hw
        refine sv_front 13 (_ :: _ :: _ :: _ :: _ :: _ :: _ :: _ :: _ :: _ :: _ :: _ :: _ :: _ :: _) rfl rfl ?_
        refine sv_front 13 (_ :: _ :: _ :: _ :: _ :: _ :: _ :: _ :: _ :: _ :: _ :: _ :: _ :: _ :: _) rfl rfl ?_
        refine sv_front 13 (_ :: _ :: _ :: _ :: _ :: _ :: _ :: _ :: _ :: _ :: _ :: _ :: _ :: _ :: _) rfl rfl ?_
        refine sv_front 13 (_ :: _ :: _ :: _ :: _ :: _ :: _ :: _ :: _ :: _ :: _ :: _ :: _ :: _ :: _) rfl rfl ?_
        refine sv_front 13 (_ :: _ :: _ :: _ :: _ :: _ :: _ :: _ :: _ :: _ :: _ :: _ :: _ :: _ :: _) rfl rfl ?_
        refine sv_front 13 (_ :: _ :: _ :: _ :: _ :: _ :: _ :: _ :: _ :: _ :: _ :: _ :: _ :: _ :: _) rfl rfl ?_
        refine sv_front 13 (_ :: _ :: _ :: _ :: _ :: _ :: _ :: _ :: _ :: _ :: _ :: _ :: _ :: _ :: _) rfl rfl ?_
        refine sv_front 13 (_ :: _ :: _ :: _ :: _ :: _ :: _ :: _ :: _ :: _ :: _ :: _ :: _ :: _ :: _) rfl rfl ?_
        refine sv_front 13 (_ :: _ :: _ :: _ :: _ :: _ :: _ :: _ :: _ :: _ :: _ :: _ :: _ :: _ :: _) rfl rfl ?_
        refine sv_front 13 (_ :: _ :: _ :: _ :: _ :: _ :: _ :: _ :: _ :: _ :: _ :: _ :: _ :: _ :: _) rfl rfl ?_
        exact hr _ _ _ _ d_X_token_64 rfl ⟨by first | exact (if_pos c41).symm | exact (if_neg c41).symm, rfl⟩
      · skip
        refine sv_aload_n C rfl rfl d_X_token_44 ?_
        refine sv_get C fg_X_43 4 rfl rfl d_X_token_45 ?_
        refine sv_get C fg_X_107 0 rfl rfl d_X_token_48 ?_
        refine sv_iload_n C rfl rfl d_X_token_51 ?_
        refine sv_ialdN C _ 2 rfl (by omega) (by decide) d_X_token_52 ?_
        refine sv_eqi (hT.2.1 i hi) ?_
        refine sv_goto C 64 (by decide) d_X_token_53 ?_
        refine sv_front 13 (_ :: _ :: _ :: _ :: _ :: _ :: _ :: _ :: _ :: _ :: _ :: _ :: _ :: _ :: _) rfl rfl ?_
        refine sv_front 13 (_ :: _ :: _ :: _ :: _ :: _ :: _ :: _ :: _ :: _ :: _ :: _ :: _ :: _ :: _) rfl rfl ?_
        refine sv_front 13 (_ :: _ :: _ :: _ :: _ :: _ :: _ :: _ :: _ :: _ :: _ :: _ :: _ :: _ :: _) rfl rfl ?_
        refine sv_front 13 (_ :: _ :: _ :: _ :: _ :: _ :: _ :: _ :: _ :: _ :: _ :: _ :: _ :: _ :: _) rfl rfl ?_
        refine sv_front 13 (_ :: _ :: _ :: _ :: _ :: _ :: _ :: _ :: _ :: _ :: _ :: _ :: _ :: _ :: _) rfl rfl ?_
        refine sv_front 13 (_ :: _ :: _ :: _ :: _ :: _ :: _ :: _ :: _ :: _ :: _ :: _ :: _ :: _ :: _) rfl rfl ?_
        refine sv_front 13 (_ :: _ :: _ :: _ :: _ :: _ :: _ :: _ :: _ :: _ :: _ :: _ :: _ :: _ :: _) rfl rfl ?_
        refine sv_front 13 (_ :: _ :: _ :: _ :: _ :: _ :: _ :: _ :: _ :: _ :: _ :: _ :: _ :: _ :: _) rfl rfl ?_
        refine sv_front 13 (_ :: _ :: _ :: _ :: _ :: _ :: _ :: _ :: _ :: _ :: _ :: _ :: _ :: _ :: _) rfl rfl ?_
        refine sv_front 13 (_ :: _ :: _ :: _ :: _ :: _ :: _ :: _ :: _ :: _ :: _ :: _ :: _ :: _ :: _) rfl rfl ?_
        exact hr _ _ _ _ d_X_token_64 rfl ⟨by first | exact (if_pos c41).symm | exact (if_neg c41).symm, rfl⟩
    · skip
      exact absurd ⟨by omega, by omega⟩ c27
  · skip
    refine sv_iload_n C rfl rfl d_X_token_4 ?_
    refine sv_iconst C (v := 1) (by decide) d_X_token_5 ?_
    refine sv_icmpK_eq C (1) (by decide) 19 (by decide) d_X_token_6 (fun c6 => ?_) (fun c6 => ?_)
    · skip
      refine sv_aload_n C rfl rfl d_X_token_19 ?_
      refine sv_get C fg_X_43 0 rfl rfl d_X_token_20 ?_
      refine sv_iload_n C rfl rfl d_X_token_23 ?_
      refine sv_front 13 (_ :: _ :: _ :: _ :: _ :: _ :: _ :: _ :: _ :: _ :: _ :: _ :: _ :: _ :: _) rfl rfl ?_
      refine sv_front 13 (_ :: _ :: _ :: _ :: _ :: _ :: _ :: _ :: _ :: _ :: _ :: _ :: _ :: _ :: _) rfl rfl ?_
      refine sv_front 13 (_ :: _ :: _ :: _ :: _ :: _ :: _ :: _ :: _ :: _ :: _ :: _ :: _ :: _ :: _) rfl rfl ?_
      refine sv_front 13 (_ :: _ :: _ :: _ :: _ :: _ :: _ :: _ :: _ :: _ :: _ :: _ :: _ :: _ :: _) rfl rfl ?_
      refine sv_callVi C (c_To_has l g _ (ad 10) (ad 11) (ad 12) (ad 13) ch po st T hT hn ho (nI i)) lk_X_98 List.mem_cons_self rfl d_X_token_24 (by decide) (Nat.le_of_ble_eq_true rfl) (by decide) (fun r w hw => ?_)
      obtain ⟨rfl, rfl⟩ := hw
      refine sv_ifB_ne C _ 40 (by decide) d_X_token_27 (fun c27 => ?_) (fun c27 => ?_)
      · skip
        refine sv_iload_n C rfl rfl d_X_token_40 ?_
        refine sv_ifZ_ne C 56 (by decide) d_X_token_41 (fun c41 => ?_) (fun c41 => ?_)
        · skip
          refine sv_aload_n C rfl rfl d_X_token_56 ?_
          refine sv_get C fg_X_43 4 rfl rfl d_X_token_57 ?_
          refine sv_iload_n C rfl rfl d_X_token_60 ?_
          refine sv_callVi C (c_To_lengthOf l g _ (ad 10) (ad 11) (ad 12) (ad 13) ch po st T hT hn ho i hi) lk_X_111 List.mem_cons_self rfl d_X_token_61 (by decide) (Nat.le_of_ble_eq_true rfl) (by decide) (fun r w hw => ?_)
          obtain ⟨rfl, rfl⟩ := hw
          refine sv_front 13 (_ :: _ :: _ :: _ :: _ :: _ :: _ :: _ :: _ :: _ :: _ :: _ :: _ :: _ :: _) rfl rfl ?_
          refine sv_front 13 (_ :: _ :: _ :: _ :: _ :: _ :: _ :: _ :: _ :: _ :: _ :: _ :: _ :: _ :: _) rfl rfl ?_
          refine sv_front 13 (_ :: _ :: _ :: _ :: _ :: _ :: _ :: _ :: _ :: _ :: _ :: _ :: _ :: _ :: _) rfl rfl ?_
          refine sv_front 13 (_ :: _ :: _ :: _ :: _ :: _ :: _ :: _ :: _ :: _ :: _ :: _ :: _ :: _ :: _) rfl rfl ?_
          refine sv_front 13 (_ :: _ :: _ :: _ :: _ :: _ :: _ :: _ :: _ :: _ :: _ :: _ :: _ :: _ :: _) rfl rfl ?_
          refine sv_front 13 (_ :: _ :: _ :: _ :: _ :: _ :: _ :: _ :: _ :: _ :: _ :: _ :: _ :: _ :: _) rfl rfl ?_
          refine sv_front 13 (_ :: _ :: _ :: _ :: _ :: _ :: _ :: _ :: _ :: _ :: _ :: _ :: _ :: _ :: _) rfl rfl ?_
          refine sv_front 13 (_ :: _ :: _ :: _ :: _ :: _ :: _ :: _ :: _ :: _ :: _ :: _ :: _ :: _ :: _) rfl rfl ?_
          refine sv_front 13 (_ :: _ :: _ :: _ :: _ :: _ :: _ :: _ :: _ :: _ :: _ :: _ :: _ :: _ :: _) rfl rfl ?_
          refine sv_front 13 (_ :: _ :: _ :: _ :: _ :: _ :: _ :: _ :: _ :: _ :: _ :: _ :: _ :: _ :: _) rfl rfl ?_
          exact hr _ _ _ _ d_X_token_64 rfl ⟨by first | exact (if_pos c41).symm | exact (if_neg c41).symm, rfl⟩
        · skip
          refine sv_aload_n C rfl rfl d_X_token_44 ?_
          refine sv_get C fg_X_43 4 rfl rfl d_X_token_45 ?_
          refine sv_get C fg_X_107 0 rfl rfl d_X_token_48 ?_
          refine sv_iload_n C rfl rfl d_X_token_51 ?_
          refine sv_ialdN C _ 2 rfl (by omega) (by decide) d_X_token_52 ?_
          refine sv_eqi (hT.2.1 i hi) ?_
          refine sv_goto C 64 (by decide) d_X_token_53 ?_
          refine sv_front 13 (_ :: _ :: _ :: _ :: _ :: _ :: _ :: _ :: _ :: _ :: _ :: _ :: _ :: _ :: _) rfl rfl ?_
          refine sv_front 13 (_ :: _ :: _ :: _ :: _ :: _ :: _ :: _ :: _ :: _ :: _ :: _ :: _ :: _ :: _) rfl rfl ?_
          refine sv_front 13 (_ :: _ :: _ :: _ :: _ :: _ :: _ :: _ :: _ :: _ :: _ :: _ :: _ :: _ :: _) rfl rfl ?_
          refine sv_front 13 (_ :: _ :: _ :: _ :: _ :: _ :: _ :: _ :: _ :: _ :: _ :: _ :: _ :: _ :: _) rfl rfl ?_
          refine sv_front 13 (_ :: _ :: _ :: _ :: _ :: _ :: _ :: _ :: _ :: _ :: _ :: _ :: _ :: _ :: _) rfl rfl ?_
          refine sv_front 13 (_ :: _ :: _ :: _ :: _ :: _ :: _ :: _ :: _ :: _ :: _ :: _ :: _ :: _ :: _) rfl rfl ?_
          refine sv_front 13 (_ :: _ :: _ :: _ :: _ :: _ :: _ :: _ :: _ :: _ :: _ :: _ :: _ :: _ :: _) rfl rfl ?_
          refine sv_front 13 (_ :: _ :: _ :: _ :: _ :: _ :: _ :: _ :: _ :: _ :: _ :: _ :: _ :: _ :: _) rfl rfl ?_
          refine sv_front 13 (_ :: _ :: _ :: _ :: _ :: _ :: _ :: _ :: _ :: _ :: _ :: _ :: _ :: _ :: _) rfl rfl ?_
          refine sv_front 13 (_ :: _ :: _ :: _ :: _ :: _ :: _ :: _ :: _ :: _ :: _ :: _ :: _ :: _ :: _) rfl rfl ?_
          exact hr _ _ _ _ d_X_token_64 rfl ⟨by first | exact (if_pos c41).symm | exact (if_neg c41).symm, rfl⟩
      · skip
        exact absurd ⟨by omega, by omega⟩ c27
    · skip
      exact absurd hq (by omega)

def rm_X_character : Room := { frames := 1, cells := 0, slots := 0, locals := 80 }
set_option maxHeartbeats 4000000 in
set_option maxRecDepth 100000 in
theorem c_X_character (l : Launch) (g : sv_G) (rest : va_W) (ad : Nat → Nat) (inl wd n : Nat) (wn : Int32) (b tf kf wf vf ch po st : Nat → Int32) (T : List (Nat × List Int32)) (hT : pu_Tok ch po st T) (hn : T.length ≤ 8192) (ho : pu_off T T.length ≤ 8192) (i : Nat) (hi : i < T.length) (k0 : Nat) (hk : k0 < (T.getD i (0, [])).2.length) : sv_Mi l y_X_character b_X_character 3 (some (.int)) rm_X_character g [.ref (ad 0), .int (nI i), .int (nI k0)] ((ad 0, .inr (6, [.ref (ad 1), .int (nI inl), .ref (ad 2), .ref (ad 4), .ref (ad 6), .ref (ad 10), .int (nI wd)])) :: (ad 1, .inl (g.2.1 1, 8192, .inl b)) :: (ad 2, .inr (3, [.ref (ad 3), .int (nI n)])) :: (ad 3, .inl (g.2.1 0, 8192, .inl tf)) :: (ad 4, .inr (1, [.ref (ad 5)])) :: (ad 5, .inl (g.2.1 0, 33, .inl kf)) :: (ad 6, .inr (2, [.ref (ad 7), .ref (ad 9), .ref (ad 14), .ref (ad 15), .ref (ad 16), .ref (ad 17), .ref (ad 18)])) :: (ad 7, .inr (5, [.ref (ad 8), .int wn])) :: (ad 8, .inl (g.2.1 0, 255, .inl wf)) :: (ad 9, .inl (g.2.1 2, 255, .inl vf)) :: (ad 10, .inr (4, [.ref (ad 11), .ref (ad 12), .ref (ad 13), .int (nI T.length)])) :: (ad 11, .inl (g.2.1 0, 8192, .inl ch)) :: (ad 12, .inl (g.2.1 0, 8192, .inl po)) :: (ad 13, .inl (g.2.1 0, 8193, .inl st)) :: rest) (fun r w => r = (T.getD i (0, [])).2.getD k0 0 ∧ w = ((ad 0, .inr (6, [.ref (ad 1), .int (nI inl), .ref (ad 2), .ref (ad 4), .ref (ad 6), .ref (ad 10), .int (nI wd)])) :: (ad 1, .inl (g.2.1 1, 8192, .inl b)) :: (ad 2, .inr (3, [.ref (ad 3), .int (nI n)])) :: (ad 3, .inl (g.2.1 0, 8192, .inl tf)) :: (ad 4, .inr (1, [.ref (ad 5)])) :: (ad 5, .inl (g.2.1 0, 33, .inl kf)) :: (ad 6, .inr (2, [.ref (ad 7), .ref (ad 9), .ref (ad 14), .ref (ad 15), .ref (ad 16), .ref (ad 17), .ref (ad 18)])) :: (ad 7, .inr (5, [.ref (ad 8), .int wn])) :: (ad 8, .inl (g.2.1 0, 255, .inl wf)) :: (ad 9, .inl (g.2.1 2, 255, .inl vf)) :: (ad 10, .inr (4, [.ref (ad 11), .ref (ad 12), .ref (ad 13), .int (nI T.length)])) :: (ad 11, .inl (g.2.1 0, 8192, .inl ch)) :: (ad 12, .inl (g.2.1 0, 8192, .inl po)) :: (ad 13, .inl (g.2.1 0, 8193, .inl st)) :: rest)) := by
  have ei : (nI i).toInt = (i : Int) := nI_toInt (by omega)
  have eo := pu_off_in hi
  refine sv_enter_i (by decide) rfl rfl (Nat.le_of_ble_eq_true rfl) (fun X C hI hr => ?_)
  refine sv_lvE (lv' := [some _, some _, some _]) rfl ?_
  refine sv_aload_n C rfl rfl d_X_character_0 ?_
  refine sv_get C fg_X_43 0 rfl rfl d_X_character_1 ?_
  refine sv_iload_n C rfl rfl d_X_character_4 ?_
  refine sv_front 13 (_ :: _ :: _ :: _ :: _ :: _ :: _ :: _ :: _ :: _ :: _ :: _ :: _ :: _ :: _) rfl rfl ?_
  refine sv_front 13 (_ :: _ :: _ :: _ :: _ :: _ :: _ :: _ :: _ :: _ :: _ :: _ :: _ :: _ :: _) rfl rfl ?_
  refine sv_front 13 (_ :: _ :: _ :: _ :: _ :: _ :: _ :: _ :: _ :: _ :: _ :: _ :: _ :: _ :: _) rfl rfl ?_
  refine sv_front 13 (_ :: _ :: _ :: _ :: _ :: _ :: _ :: _ :: _ :: _ :: _ :: _ :: _ :: _ :: _) rfl rfl ?_
  refine sv_callVi C (c_To_has l g _ (ad 10) (ad 11) (ad 12) (ad 13) ch po st T hT hn ho (nI i)) lk_X_98 List.mem_cons_self rfl d_X_character_5 (by decide) (Nat.le_of_ble_eq_true rfl) (by decide) (fun r w hw => ?_)
  obtain ⟨rfl, rfl⟩ := hw
  refine sv_ifB_eq C _ 27 (by decide) d_X_character_8 (fun c8 => ?_) (fun c8 => ?_)
  · skip
    exact absurd ⟨by omega, by omega⟩ c8
  · skip
    refine sv_iload_n C rfl rfl d_X_character_11 ?_
    refine sv_ifZ_lt C 27 (by decide) d_X_character_12 (fun c12 => ?_) (fun c12 => ?_)
    · skip
      exact absurd c12 (by rw [nI_toInt (by omega)]; omega)
    · skip
      refine sv_iload_n C rfl rfl d_X_character_15 ?_
      refine sv_aload_n C rfl rfl d_X_character_16 ?_
      refine sv_get C fg_X_43 4 rfl rfl d_X_character_17 ?_
      refine sv_iload_n C rfl rfl d_X_character_20 ?_
      refine sv_callVi C (c_To_lengthOf l g _ (ad 10) (ad 11) (ad 12) (ad 13) ch po st T hT hn ho i hi) lk_X_111 List.mem_cons_self rfl d_X_character_21 (by decide) (Nat.le_of_ble_eq_true rfl) (by decide) (fun r w hw => ?_)
      obtain ⟨rfl, rfl⟩ := hw
      refine sv_icmpN_lt C _ _ (by omega) (by omega) 37 (by decide) d_X_character_24 (fun c24 => ?_) (fun c24 => ?_)
      · skip
        refine sv_aload_n C rfl rfl d_X_character_37 ?_
        refine sv_get C fg_X_43 4 rfl rfl d_X_character_38 ?_
        refine sv_get C fg_X_116 0 rfl rfl d_X_character_41 ?_
        refine sv_aload_n C rfl rfl d_X_character_44 ?_
        refine sv_get C fg_X_43 4 rfl rfl d_X_character_45 ?_
        refine sv_get C fg_X_119 0 rfl rfl d_X_character_48 ?_
        refine sv_iload_n C rfl rfl d_X_character_51 ?_
        refine sv_ialdN C _ 3 rfl (by omega) (by decide) d_X_character_52 ?_
        refine sv_eqi (hT.1 i (by omega)) ?_
        refine sv_iload_n C rfl rfl d_X_character_53 ?_
        refine sv_iaddN C _ _  d_X_character_54 ?_
        refine sv_ialdN C _ 1 rfl (by omega) (by decide) d_X_character_55 ?_
        refine sv_eqi (hT.2.2 i hi k0 hk) ?_
        refine sv_front 13 (_ :: _ :: _ :: _ :: _ :: _ :: _ :: _ :: _ :: _ :: _ :: _ :: _ :: _ :: _) rfl rfl ?_
        refine sv_front 13 (_ :: _ :: _ :: _ :: _ :: _ :: _ :: _ :: _ :: _ :: _ :: _ :: _ :: _ :: _) rfl rfl ?_
        refine sv_front 13 (_ :: _ :: _ :: _ :: _ :: _ :: _ :: _ :: _ :: _ :: _ :: _ :: _ :: _ :: _) rfl rfl ?_
        refine sv_front 13 (_ :: _ :: _ :: _ :: _ :: _ :: _ :: _ :: _ :: _ :: _ :: _ :: _ :: _ :: _) rfl rfl ?_
        refine sv_front 13 (_ :: _ :: _ :: _ :: _ :: _ :: _ :: _ :: _ :: _ :: _ :: _ :: _ :: _ :: _) rfl rfl ?_
        refine sv_front 13 (_ :: _ :: _ :: _ :: _ :: _ :: _ :: _ :: _ :: _ :: _ :: _ :: _ :: _ :: _) rfl rfl ?_
        refine sv_front 13 (_ :: _ :: _ :: _ :: _ :: _ :: _ :: _ :: _ :: _ :: _ :: _ :: _ :: _ :: _) rfl rfl ?_
        refine sv_front 13 (_ :: _ :: _ :: _ :: _ :: _ :: _ :: _ :: _ :: _ :: _ :: _ :: _ :: _ :: _) rfl rfl ?_
        refine sv_front 13 (_ :: _ :: _ :: _ :: _ :: _ :: _ :: _ :: _ :: _ :: _ :: _ :: _ :: _ :: _) rfl rfl ?_
        refine sv_front 13 (_ :: _ :: _ :: _ :: _ :: _ :: _ :: _ :: _ :: _ :: _ :: _ :: _ :: _ :: _) rfl rfl ?_
        exact hr _ _ _ _ d_X_character_56 rfl ⟨rfl, rfl⟩
      · skip
        exact absurd c24 (by omega)

def rm_X_first : Room := { frames := 3, cells := 0, slots := 0, locals := 80 }
set_option maxHeartbeats 4000000 in
set_option maxRecDepth 100000 in
theorem c_X_first (l : Launch) (g : sv_G) (rest : va_W) (ad : Nat → Nat) (inl wd n : Nat) (wn : Int32) (b tf kf wf vf ch po st : Nat → Int32) (T : List (Nat × List Int32)) (hT : pu_Tok ch po st T) (hn : T.length ≤ 8192) (ho : pu_off T T.length ≤ 8192) (i : Nat) (hi : i < T.length) : sv_Mi l y_X_first b_X_first 2 (some (.int)) rm_X_first g [.ref (ad 0), .int (nI i)] ((ad 0, .inr (6, [.ref (ad 1), .int (nI inl), .ref (ad 2), .ref (ad 4), .ref (ad 6), .ref (ad 10), .int (nI wd)])) :: (ad 1, .inl (g.2.1 1, 8192, .inl b)) :: (ad 2, .inr (3, [.ref (ad 3), .int (nI n)])) :: (ad 3, .inl (g.2.1 0, 8192, .inl tf)) :: (ad 4, .inr (1, [.ref (ad 5)])) :: (ad 5, .inl (g.2.1 0, 33, .inl kf)) :: (ad 6, .inr (2, [.ref (ad 7), .ref (ad 9), .ref (ad 14), .ref (ad 15), .ref (ad 16), .ref (ad 17), .ref (ad 18)])) :: (ad 7, .inr (5, [.ref (ad 8), .int wn])) :: (ad 8, .inl (g.2.1 0, 255, .inl wf)) :: (ad 9, .inl (g.2.1 2, 255, .inl vf)) :: (ad 10, .inr (4, [.ref (ad 11), .ref (ad 12), .ref (ad 13), .int (nI T.length)])) :: (ad 11, .inl (g.2.1 0, 8192, .inl ch)) :: (ad 12, .inl (g.2.1 0, 8192, .inl po)) :: (ad 13, .inl (g.2.1 0, 8193, .inl st)) :: rest) (fun r w => r = nI (pu_first T i i 0) ∧ w = ((ad 0, .inr (6, [.ref (ad 1), .int (nI inl), .ref (ad 2), .ref (ad 4), .ref (ad 6), .ref (ad 10), .int (nI wd)])) :: (ad 1, .inl (g.2.1 1, 8192, .inl b)) :: (ad 2, .inr (3, [.ref (ad 3), .int (nI n)])) :: (ad 3, .inl (g.2.1 0, 8192, .inl tf)) :: (ad 4, .inr (1, [.ref (ad 5)])) :: (ad 5, .inl (g.2.1 0, 33, .inl kf)) :: (ad 6, .inr (2, [.ref (ad 7), .ref (ad 9), .ref (ad 14), .ref (ad 15), .ref (ad 16), .ref (ad 17), .ref (ad 18)])) :: (ad 7, .inr (5, [.ref (ad 8), .int wn])) :: (ad 8, .inl (g.2.1 0, 255, .inl wf)) :: (ad 9, .inl (g.2.1 2, 255, .inl vf)) :: (ad 10, .inr (4, [.ref (ad 11), .ref (ad 12), .ref (ad 13), .int (nI T.length)])) :: (ad 11, .inl (g.2.1 0, 8192, .inl ch)) :: (ad 12, .inl (g.2.1 0, 8192, .inl po)) :: (ad 13, .inl (g.2.1 0, 8193, .inl st)) :: rest)) := by
  have ei : (nI i).toInt = (i : Int) := nI_toInt (by omega)
  refine sv_enter_i (by decide) rfl rfl (Nat.le_of_ble_eq_true rfl) (fun X C hI hr => ?_)
  refine sv_lvE (lv' := [some _, some _]) rfl ?_
  refine sv_aload_n C rfl rfl d_X_first_0 ?_
  refine sv_get C fg_X_43 0 rfl rfl d_X_first_1 ?_
  refine sv_iload_n C rfl rfl d_X_first_4 ?_
  refine sv_front 13 (_ :: _ :: _ :: _ :: _ :: _ :: _ :: _ :: _ :: _ :: _ :: _ :: _ :: _ :: _) rfl rfl ?_
  refine sv_front 13 (_ :: _ :: _ :: _ :: _ :: _ :: _ :: _ :: _ :: _ :: _ :: _ :: _ :: _ :: _) rfl rfl ?_
  refine sv_front 13 (_ :: _ :: _ :: _ :: _ :: _ :: _ :: _ :: _ :: _ :: _ :: _ :: _ :: _ :: _) rfl rfl ?_
  refine sv_front 13 (_ :: _ :: _ :: _ :: _ :: _ :: _ :: _ :: _ :: _ :: _ :: _ :: _ :: _ :: _) rfl rfl ?_
  refine sv_callVi C (c_To_has l g _ (ad 10) (ad 11) (ad 12) (ad 13) ch po st T hT hn ho (nI i)) lk_X_98 List.mem_cons_self rfl d_X_first_5 (by decide) (Nat.le_of_ble_eq_true rfl) (by decide) (fun r w hw => ?_)
  obtain ⟨rfl, rfl⟩ := hw
  refine sv_ifB_ne C _ 21 (by decide) d_X_first_8 (fun c8 => ?_) (fun c8 => ?_)
  · skip
    refine sv_aload_n C rfl rfl d_X_first_21 ?_
    refine sv_get C fg_X_43 4 rfl rfl d_X_first_22 ?_
    refine sv_iload_n C rfl rfl d_X_first_25 ?_
    refine sv_callVi C (c_To_firstLike l g _ (ad 10) (ad 11) (ad 12) (ad 13) ch po st T hT hn ho i hi) lk_X_122 List.mem_cons_self rfl d_X_first_26 (by decide) (Nat.le_of_ble_eq_true rfl) (by decide) (fun r w hw => ?_)
    obtain ⟨rfl, rfl⟩ := hw
    refine sv_front 13 (_ :: _ :: _ :: _ :: _ :: _ :: _ :: _ :: _ :: _ :: _ :: _ :: _ :: _ :: _) rfl rfl ?_
    refine sv_front 13 (_ :: _ :: _ :: _ :: _ :: _ :: _ :: _ :: _ :: _ :: _ :: _ :: _ :: _ :: _) rfl rfl ?_
    refine sv_front 13 (_ :: _ :: _ :: _ :: _ :: _ :: _ :: _ :: _ :: _ :: _ :: _ :: _ :: _ :: _) rfl rfl ?_
    refine sv_front 13 (_ :: _ :: _ :: _ :: _ :: _ :: _ :: _ :: _ :: _ :: _ :: _ :: _ :: _ :: _) rfl rfl ?_
    refine sv_front 13 (_ :: _ :: _ :: _ :: _ :: _ :: _ :: _ :: _ :: _ :: _ :: _ :: _ :: _ :: _) rfl rfl ?_
    refine sv_front 13 (_ :: _ :: _ :: _ :: _ :: _ :: _ :: _ :: _ :: _ :: _ :: _ :: _ :: _ :: _) rfl rfl ?_
    refine sv_front 13 (_ :: _ :: _ :: _ :: _ :: _ :: _ :: _ :: _ :: _ :: _ :: _ :: _ :: _ :: _) rfl rfl ?_
    refine sv_front 13 (_ :: _ :: _ :: _ :: _ :: _ :: _ :: _ :: _ :: _ :: _ :: _ :: _ :: _ :: _) rfl rfl ?_
    refine sv_front 13 (_ :: _ :: _ :: _ :: _ :: _ :: _ :: _ :: _ :: _ :: _ :: _ :: _ :: _ :: _) rfl rfl ?_
    refine sv_front 13 (_ :: _ :: _ :: _ :: _ :: _ :: _ :: _ :: _ :: _ :: _ :: _ :: _ :: _ :: _) rfl rfl ?_
    exact hr _ _ _ _ d_X_first_29 rfl ⟨rfl, rfl⟩
  · skip
    exact absurd ⟨by omega, by omega⟩ c8

def rm_X_sort : Room := { frames := 2, cells := 0, slots := 0, locals := 80 }
set_option maxHeartbeats 4000000 in
set_option maxRecDepth 100000 in
theorem c_X_sort (l : Launch) (g : sv_G) (ws : va_W) (hX : Nat) (c : Int32) (h1 : 0 ≤ c.toInt) (h2 : c.toInt ≤ 1114111) : sv_Mi l y_X_sort b_X_sort 2 (some (.int)) rm_X_sort g [.ref hX, .int c] ws (fun r w => r = nI (pu_sort c.toInt) ∧ w = ws) := by
  refine sv_enter_i (by decide) rfl rfl (Nat.le_of_ble_eq_true rfl) (fun X C hI hr => ?_)
  refine sv_lvE (lv' := [some _, some _]) rfl ?_
  refine sv_iload_n C rfl rfl d_X_sort_0 ?_
  refine sv_ifZ_lt C 10 (by decide) d_X_sort_1 (fun c1 => ?_) (fun c1 => ?_)
  · skip
    exact absurd c1 (by omega)
  · skip
    refine sv_iload_n C rfl rfl d_X_sort_4 ?_
    refine sv_ldc C wc_X_125 d_X_sort_5 ?_
    refine sv_icmpK_le C (1114111) (by decide) 20 (by decide) d_X_sort_7 (fun c7 => ?_) (fun c7 => ?_)
    · skip
      refine sv_iload_n C rfl rfl d_X_sort_20 ?_
      refine sv_callSi C (c_So_of l g _ c) lk_X_128  d_X_sort_21 (by decide) (Nat.le_of_ble_eq_true rfl) (by decide) (fun r w hw => ?_)
      obtain ⟨rfl, rfl⟩ := hw
      exact hr _ _ _ _ d_X_sort_24 rfl ⟨rfl, rfl⟩
    · skip
      exact absurd c7 (by omega)
