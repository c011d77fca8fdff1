/-! CONTRACTS: Sorts -/
def rm_So_isLetter : Room := { frames := 0, cells := 0, slots := 0, locals := 0 }
set_option maxHeartbeats 4000000 in
set_option maxRecDepth 100000 in
theorem c_So_isLetter (l : Launch) (g : sv_G) (ws : va_W) (c : Int32) : sv_Mi l y_So_isLetter b_So_isLetter 1 (some (.boolean)) rm_So_isLetter g [.int c] ws (fun r w => r = (if pu_letterP c.toInt then 1 else 0) ∧ w = ws) := by
  refine sv_enter_i (by decide) rfl rfl (Nat.le_of_ble_eq_true rfl) (fun X C hI hr => ?_)
  refine sv_lvE (lv' := [some _]) rfl ?_
  have j80 : pu_letterP c.toInt → sv_V X 1 0 0 ws 80 [some (.int c)] [] := by
    intro hj
    refine sv_iconst C (v := 1) (by decide) d_So_isLetter_80 ?_
    refine sv_goto C 85 (by decide) d_So_isLetter_81 ?_
    exact hr _ _ _ _ d_So_isLetter_85 rfl ⟨(if_pos hj).symm, rfl⟩
  have j84 : ¬ pu_letterP c.toInt → sv_V X 1 0 0 ws 84 [some (.int c)] [] := by
    intro hj
    refine sv_iconst C (v := 0) (by decide) d_So_isLetter_84 ?_
    exact hr _ _ _ _ d_So_isLetter_85 rfl ⟨(if_neg hj).symm, rfl⟩
  have j66 : ¬ (97 ≤ c.toInt ∧ c.toInt ≤ 122) ∧ ¬ (65 ≤ c.toInt ∧ c.toInt ≤ 90) ∧ ¬ (192 ≤ c.toInt ∧ c.toInt ≤ 591 ∧ c.toInt ≠ 215 ∧ c.toInt ≠ 247) ∧ ¬ (913 ≤ c.toInt ∧ c.toInt ≤ 1023) → sv_V X 1 0 0 ws 66 [some (.int c)] [] := by
    intro hj
    refine sv_iload_n C rfl rfl d_So_isLetter_66 ?_
    refine sv_sipush C (v := 1024) (by decide) d_So_isLetter_67 ?_
    refine sv_icmpK_lt C (1024) (by decide) 84 (by decide) d_So_isLetter_70 (fun c70 => ?_) (fun c70 => ?_)
    · skip
      exact j84 (by omega)
    · skip
      refine sv_iload_n C rfl rfl d_So_isLetter_73 ?_
      refine sv_sipush C (v := 1279) (by decide) d_So_isLetter_74 ?_
      refine sv_icmpK_gt C (1279) (by decide) 84 (by decide) d_So_isLetter_77 (fun c77 => ?_) (fun c77 => ?_)
      · skip
        exact j84 (by omega)
      · skip
        exact j80 (by omega)
  have j52 : ¬ (97 ≤ c.toInt ∧ c.toInt ≤ 122) ∧ ¬ (65 ≤ c.toInt ∧ c.toInt ≤ 90) ∧ ¬ (192 ≤ c.toInt ∧ c.toInt ≤ 591 ∧ c.toInt ≠ 215 ∧ c.toInt ≠ 247) → sv_V X 1 0 0 ws 52 [some (.int c)] [] := by
    intro hj
    refine sv_iload_n C rfl rfl d_So_isLetter_52 ?_
    refine sv_sipush C (v := 913) (by decide) d_So_isLetter_53 ?_
    refine sv_icmpK_lt C (913) (by decide) 66 (by decide) d_So_isLetter_56 (fun c56 => ?_) (fun c56 => ?_)
    · skip
      exact j66 (by omega)
    · skip
      refine sv_iload_n C rfl rfl d_So_isLetter_59 ?_
      refine sv_sipush C (v := 1023) (by decide) d_So_isLetter_60 ?_
      refine sv_icmpK_le C (1023) (by decide) 80 (by decide) d_So_isLetter_63 (fun c63 => ?_) (fun c63 => ?_)
      · skip
        exact j80 (by omega)
      · skip
        exact j66 (by omega)
  have j24 : ¬ (97 ≤ c.toInt ∧ c.toInt ≤ 122) ∧ ¬ (65 ≤ c.toInt ∧ c.toInt ≤ 90) → sv_V X 1 0 0 ws 24 [some (.int c)] [] := by
    intro hj
    refine sv_iload_n C rfl rfl d_So_isLetter_24 ?_
    refine sv_sipush C (v := 192) (by decide) d_So_isLetter_25 ?_
    refine sv_icmpK_lt C (192) (by decide) 52 (by decide) d_So_isLetter_28 (fun c28 => ?_) (fun c28 => ?_)
    · skip
      exact j52 (by omega)
    · skip
      refine sv_iload_n C rfl rfl d_So_isLetter_31 ?_
      refine sv_sipush C (v := 591) (by decide) d_So_isLetter_32 ?_
      refine sv_icmpK_gt C (591) (by decide) 52 (by decide) d_So_isLetter_35 (fun c35 => ?_) (fun c35 => ?_)
      · skip
        exact j52 (by omega)
      · skip
        refine sv_iload_n C rfl rfl d_So_isLetter_38 ?_
        refine sv_sipush C (v := 215) (by decide) d_So_isLetter_39 ?_
        refine sv_icmpK_eq C (215) (by decide) 52 (by decide) d_So_isLetter_42 (fun c42 => ?_) (fun c42 => ?_)
        · skip
          exact j52 (by omega)
        · skip
          refine sv_iload_n C rfl rfl d_So_isLetter_45 ?_
          refine sv_sipush C (v := 247) (by decide) d_So_isLetter_46 ?_
          refine sv_icmpK_ne C (247) (by decide) 80 (by decide) d_So_isLetter_49 (fun c49 => ?_) (fun c49 => ?_)
          · skip
            exact j80 (by omega)
          · skip
            exact j52 (by omega)
  have j12 : ¬ (97 ≤ c.toInt ∧ c.toInt ≤ 122) → sv_V X 1 0 0 ws 12 [some (.int c)] [] := by
    intro hj
    refine sv_iload_n C rfl rfl d_So_isLetter_12 ?_
    refine sv_bipush C (v := 65) (by decide) d_So_isLetter_13 ?_
    refine sv_icmpK_lt C (65) (by decide) 24 (by decide) d_So_isLetter_15 (fun c15 => ?_) (fun c15 => ?_)
    · skip
      exact j24 (by omega)
    · skip
      refine sv_iload_n C rfl rfl d_So_isLetter_18 ?_
      refine sv_bipush C (v := 90) (by decide) d_So_isLetter_19 ?_
      refine sv_icmpK_le C (90) (by decide) 80 (by decide) d_So_isLetter_21 (fun c21 => ?_) (fun c21 => ?_)
      · skip
        exact j80 (by omega)
      · skip
        exact j24 (by omega)
  refine sv_iload_n C rfl rfl d_So_isLetter_0 ?_
  refine sv_bipush C (v := 97) (by decide) d_So_isLetter_1 ?_
  refine sv_icmpK_lt C (97) (by decide) 12 (by decide) d_So_isLetter_3 (fun c3 => ?_) (fun c3 => ?_)
  · skip
    exact j12 (by omega)
  · skip
    refine sv_iload_n C rfl rfl d_So_isLetter_6 ?_
    refine sv_bipush C (v := 122) (by decide) d_So_isLetter_7 ?_
    refine sv_icmpK_le C (122) (by decide) 80 (by decide) d_So_isLetter_9 (fun c9 => ?_) (fun c9 => ?_)
    · skip
      exact j80 (by omega)
    · skip
      exact j12 (by omega)

def rm_So_isInner : Room := { frames := 0, cells := 0, slots := 0, locals := 0 }
set_option maxHeartbeats 4000000 in
set_option maxRecDepth 100000 in
theorem c_So_isInner (l : Launch) (g : sv_G) (ws : va_W) (s : Nat) (hs : s < 8) : sv_Mi l y_So_isInner b_So_isInner 1 (some (.boolean)) rm_So_isInner g [.int (nI s)] ws (fun r w => r = (if pu_inn s then 1 else 0) ∧ w = ws) := by
  refine sv_enter_i (by decide) rfl rfl (Nat.le_of_ble_eq_true rfl) (fun X C hI hr => ?_)
  refine sv_lvE (lv' := [some _]) rfl ?_
  refine sv_iload_n C rfl rfl d_So_isInner_0 ?_
  refine sv_iconst C (v := 1) (by decide) d_So_isInner_1 ?_
  refine sv_icmpN_eq C _ 1 (by omega) (by omega) 15 (by decide) d_So_isInner_2 (fun c2 => ?_) (fun c2 => ?_)
  · skip
    refine sv_iconst C (v := 1) (by decide) d_So_isInner_15 ?_
    refine sv_goto C 20 (by decide) d_So_isInner_16 ?_
    exact hr _ _ _ _ d_So_isInner_20 rfl ⟨(if_pos (by omega)).symm, rfl⟩
  · skip
    refine sv_iload_n C rfl rfl d_So_isInner_5 ?_
    refine sv_iconst C (v := 2) (by decide) d_So_isInner_6 ?_
    refine sv_icmpN_eq C _ 2 (by omega) (by omega) 15 (by decide) d_So_isInner_7 (fun c7 => ?_) (fun c7 => ?_)
    · skip
      refine sv_iconst C (v := 1) (by decide) d_So_isInner_15 ?_
      refine sv_goto C 20 (by decide) d_So_isInner_16 ?_
      exact hr _ _ _ _ d_So_isInner_20 rfl ⟨(if_pos (by omega)).symm, rfl⟩
    · skip
      refine sv_iload_n C rfl rfl d_So_isInner_10 ?_
      refine sv_iconst C (v := 3) (by decide) d_So_isInner_11 ?_
      refine sv_icmpN_ne C _ 3 (by omega) (by omega) 19 (by decide) d_So_isInner_12 (fun c12 => ?_) (fun c12 => ?_)
      · skip
        refine sv_iconst C (v := 0) (by decide) d_So_isInner_19 ?_
        exact hr _ _ _ _ d_So_isInner_20 rfl ⟨(if_neg (by omega)).symm, rfl⟩
      · skip
        refine sv_iconst C (v := 1) (by decide) d_So_isInner_15 ?_
        refine sv_goto C 20 (by decide) d_So_isInner_16 ?_
        exact hr _ _ _ _ d_So_isInner_20 rfl ⟨(if_pos (by omega)).symm, rfl⟩

def rm_So_ties : Room := { frames := 0, cells := 0, slots := 0, locals := 0 }
set_option maxHeartbeats 4000000 in
set_option maxRecDepth 100000 in
theorem c_So_ties (l : Launch) (g : sv_G) (ws : va_W) (m o : Nat) (hm : m < 8) (ho : o < 8) : sv_Mi l y_So_ties b_So_ties 2 (some (.boolean)) rm_So_ties g [.int (nI m), .int (nI o)] ws (fun r w => r = (if pu_ties m o then 1 else 0) ∧ w = ws) := by
  refine sv_enter_i (by decide) rfl rfl (Nat.le_of_ble_eq_true rfl) (fun X C hI hr => ?_)
  refine sv_lvE (lv' := [some _, some _]) rfl ?_
  refine sv_iload_n C rfl rfl d_So_ties_0 ?_
  refine sv_iconst C (v := 1) (by decide) d_So_ties_1 ?_
  refine sv_icmpN_ne C _ 1 (by omega) (by omega) 22 (by decide) d_So_ties_2 (fun c2 => ?_) (fun c2 => ?_)
  · skip
    refine sv_iload_n C rfl rfl d_So_ties_22 ?_
    refine sv_iconst C (v := 2) (by decide) d_So_ties_23 ?_
    refine sv_icmpN_ne C _ 2 (by omega) (by omega) 42 (by decide) d_So_ties_24 (fun c24 => ?_) (fun c24 => ?_)
    · skip
      refine sv_iconst C (v := 0) (by decide) d_So_ties_42 ?_
      exact hr _ _ _ _ d_So_ties_43 rfl ⟨(if_neg (by omega)).symm, rfl⟩
    · skip
      refine sv_iload_n C rfl rfl d_So_ties_27 ?_
      refine sv_iconst C (v := 5) (by decide) d_So_ties_28 ?_
      refine sv_icmpN_eq C _ 5 (by omega) (by omega) 38 (by decide) d_So_ties_29 (fun c29 => ?_) (fun c29 => ?_)
      · skip
        refine sv_iconst C (v := 1) (by decide) d_So_ties_38 ?_
        refine sv_goto C 43 (by decide) d_So_ties_39 ?_
        exact hr _ _ _ _ d_So_ties_43 rfl ⟨(if_pos (by omega)).symm, rfl⟩
      · skip
        refine sv_iload_n C rfl rfl d_So_ties_32 ?_
        refine sv_bipush C (v := 6) (by decide) d_So_ties_33 ?_
        refine sv_icmpN_ne C _ 6 (by omega) (by omega) 42 (by decide) d_So_ties_35 (fun c35 => ?_) (fun c35 => ?_)
        · skip
          refine sv_iconst C (v := 0) (by decide) d_So_ties_42 ?_
          exact hr _ _ _ _ d_So_ties_43 rfl ⟨(if_neg (by omega)).symm, rfl⟩
        · skip
          refine sv_iconst C (v := 1) (by decide) d_So_ties_38 ?_
          refine sv_goto C 43 (by decide) d_So_ties_39 ?_
          exact hr _ _ _ _ d_So_ties_43 rfl ⟨(if_pos (by omega)).symm, rfl⟩
  · skip
    refine sv_iload_n C rfl rfl d_So_ties_5 ?_
    refine sv_iconst C (v := 4) (by decide) d_So_ties_6 ?_
    refine sv_icmpN_eq C _ 4 (by omega) (by omega) 16 (by decide) d_So_ties_7 (fun c7 => ?_) (fun c7 => ?_)
    · skip
      refine sv_iconst C (v := 1) (by decide) d_So_ties_16 ?_
      refine sv_goto C 21 (by decide) d_So_ties_17 ?_
      exact hr _ _ _ _ d_So_ties_21 rfl ⟨(if_pos (by omega)).symm, rfl⟩
    · skip
      refine sv_iload_n C rfl rfl d_So_ties_10 ?_
      refine sv_bipush C (v := 6) (by decide) d_So_ties_11 ?_
      refine sv_icmpN_ne C _ 6 (by omega) (by omega) 20 (by decide) d_So_ties_13 (fun c13 => ?_) (fun c13 => ?_)
      · skip
        refine sv_iconst C (v := 0) (by decide) d_So_ties_20 ?_
        exact hr _ _ _ _ d_So_ties_21 rfl ⟨(if_neg (by omega)).symm, rfl⟩
      · skip
        refine sv_iconst C (v := 1) (by decide) d_So_ties_16 ?_
        refine sv_goto C 21 (by decide) d_So_ties_17 ?_
        exact hr _ _ _ _ d_So_ties_21 rfl ⟨(if_pos (by omega)).symm, rfl⟩

def rm_So_of : Room := { frames := 1, cells := 0, slots := 0, locals := 20 }
set_option maxHeartbeats 4000000 in
set_option maxRecDepth 100000 in
theorem c_So_of (l : Launch) (g : sv_G) (ws : va_W) (c : Int32) : sv_Mi l y_So_of b_So_of 1 (some (.int)) rm_So_of g [.int c] ws (fun r w => r = nI (pu_sort c.toInt) ∧ w = ws) := by
  refine sv_enter_i (by decide) rfl rfl (Nat.le_of_ble_eq_true rfl) (fun X C hI hr => ?_)
  refine sv_lvE (lv' := [some _]) rfl ?_
  have j39 : ¬ pu_letterP c.toInt ∧ ¬ (48 ≤ c.toInt ∧ c.toInt ≤ 57) ∧ ¬ (19968 ≤ c.toInt ∧ c.toInt ≤ 40959) → sv_V X 1 0 0 ws 39 [some (.int c)] [] := by
    intro hj
    refine sv_iload_n C rfl rfl d_So_of_39 ?_
    rcases Decidable.em (c = 39) with e39 | e39
    · have x39 : c.toInt = 39 := by rw [e39]; rfl
      refine sv_lookup C 114 d_So_of_40 (by decide) (off := 74) (by rw [x39]; rfl) (by decide) ?_
      refine sv_bipush C (v := 6) (by decide) d_So_of_114 ?_
      exact hr _ _ _ _ d_So_of_116 rfl ⟨(show (6 : Int32) = nI 6 from rfl).trans (congrArg nI (by unfold pu_sort; (repeat' split) <;> first | rfl | (exfalso; omega))), rfl⟩
    · have x39 : c.toInt ≠ 39 := lv_neT (k := 39) e39 rfl
      rcases Decidable.em (c = 44) with e44 | e44
      · have x44 : c.toInt = 44 := by rw [e44]; rfl
        refine sv_lookup C 112 d_So_of_40 (by decide) (off := 72) (by rw [x44]; rfl) (by decide) ?_
        refine sv_iconst C (v := 5) (by decide) d_So_of_112 ?_
        exact hr _ _ _ _ d_So_of_113 rfl ⟨(show (5 : Int32) = nI 5 from rfl).trans (congrArg nI (by unfold pu_sort; (repeat' split) <;> first | rfl | (exfalso; omega))), rfl⟩
      · have x44 : c.toInt ≠ 44 := lv_neT (k := 44) e44 rfl
        rcases Decidable.em (c = 46) with e46 | e46
        · have x46 : c.toInt = 46 := by rw [e46]; rfl
          refine sv_lookup C 114 d_So_of_40 (by decide) (off := 74) (by rw [x46]; rfl) (by decide) ?_
          refine sv_bipush C (v := 6) (by decide) d_So_of_114 ?_
          exact hr _ _ _ _ d_So_of_116 rfl ⟨(show (6 : Int32) = nI 6 from rfl).trans (congrArg nI (by unfold pu_sort; (repeat' split) <;> first | rfl | (exfalso; omega))), rfl⟩
        · have x46 : c.toInt ≠ 46 := lv_neT (k := 46) e46 rfl
          rcases Decidable.em (c = 59) with e59 | e59
          · have x59 : c.toInt = 59 := by rw [e59]; rfl
            refine sv_lookup C 112 d_So_of_40 (by decide) (off := 72) (by rw [x59]; rfl) (by decide) ?_
            refine sv_iconst C (v := 5) (by decide) d_So_of_112 ?_
            exact hr _ _ _ _ d_So_of_113 rfl ⟨(show (5 : Int32) = nI 5 from rfl).trans (congrArg nI (by unfold pu_sort; (repeat' split) <;> first | rfl | (exfalso; omega))), rfl⟩
          · have x59 : c.toInt ≠ 59 := lv_neT (k := 59) e59 rfl
            rcases Decidable.em (c = 95) with e95 | e95
            · have x95 : c.toInt = 95 := by rw [e95]; rfl
              refine sv_lookup C 108 d_So_of_40 (by decide) (off := 68) (by rw [x95]; rfl) (by decide) ?_
              refine sv_iconst C (v := 3) (by decide) d_So_of_108 ?_
              exact hr _ _ _ _ d_So_of_109 rfl ⟨(show (3 : Int32) = nI 3 from rfl).trans (congrArg nI (by unfold pu_sort; (repeat' split) <;> first | rfl | (exfalso; omega))), rfl⟩
            · have x95 : c.toInt ≠ 95 := lv_neT (k := 95) e95 rfl
              rcases Decidable.em (c = 183) with e183 | e183
              · have x183 : c.toInt = 183 := by rw [e183]; rfl
                refine sv_lookup C 110 d_So_of_40 (by decide) (off := 70) (by rw [x183]; rfl) (by decide) ?_
                refine sv_iconst C (v := 4) (by decide) d_So_of_110 ?_
                exact hr _ _ _ _ d_So_of_111 rfl ⟨(show (4 : Int32) = nI 4 from rfl).trans (congrArg nI (by unfold pu_sort; (repeat' split) <;> first | rfl | (exfalso; omega))), rfl⟩
              · have x183 : c.toInt ≠ 183 := lv_neT (k := 183) e183 rfl
                rcases Decidable.em (c = 8217) with e8217 | e8217
                · have x8217 : c.toInt = 8217 := by rw [e8217]; rfl
                  refine sv_lookup C 114 d_So_of_40 (by decide) (off := 74) (by rw [x8217]; rfl) (by decide) ?_
                  refine sv_bipush C (v := 6) (by decide) d_So_of_114 ?_
                  exact hr _ _ _ _ d_So_of_116 rfl ⟨(show (6 : Int32) = nI 6 from rfl).trans (congrArg nI (by unfold pu_sort; (repeat' split) <;> first | rfl | (exfalso; omega))), rfl⟩
                · have x8217 : c.toInt ≠ 8217 := lv_neT (k := 8217) e8217 rfl
                  refine sv_lookup C 117 d_So_of_40 (by decide) (off := 77) ((lv_osw (k := 39) (a := 39) e39 rfl).trans ((lv_osw (k := 44) (a := 44) e44 rfl).trans ((lv_osw (k := 46) (a := 46) e46 rfl).trans ((lv_osw (k := 59) (a := 59) e59 rfl).trans ((lv_osw (k := 95) (a := 95) e95 rfl).trans ((lv_osw (k := 183) (a := 183) e183 rfl).trans ((lv_osw (k := 8217) (a := 8217) e8217 rfl).trans (rfl)))))))) (by decide) ?_
                  refine sv_iconst C (v := 0) (by decide) d_So_of_117 ?_
                  exact hr _ _ _ _ d_So_of_118 rfl ⟨(show (0 : Int32) = nI 0 from rfl).trans (congrArg nI (by unfold pu_sort; (repeat' split) <;> first | rfl | (exfalso; omega))), rfl⟩
  have j23 : ¬ pu_letterP c.toInt ∧ ¬ (48 ≤ c.toInt ∧ c.toInt ≤ 57) → sv_V X 1 0 0 ws 23 [some (.int c)] [] := by
    intro hj
    refine sv_iload_n C rfl rfl d_So_of_23 ?_
    refine sv_sipush C (v := 19968) (by decide) d_So_of_24 ?_
    refine sv_icmpK_lt C (19968) (by decide) 39 (by decide) d_So_of_27 (fun c27 => ?_) (fun c27 => ?_)
    · skip
      exact j39 (by omega)
    · skip
      refine sv_iload_n C rfl rfl d_So_of_30 ?_
      refine sv_ldc C wc_So_13 d_So_of_31 ?_
      refine sv_icmpK_gt C (40959) (by decide) 39 (by decide) d_So_of_33 (fun c33 => ?_) (fun c33 => ?_)
      · skip
        exact j39 (by omega)
      · skip
        refine sv_bipush C (v := 7) (by decide) d_So_of_36 ?_
        exact hr _ _ _ _ d_So_of_38 rfl ⟨(show (7 : Int32) = nI 7 from rfl).trans (congrArg nI (by unfold pu_sort; (repeat' split) <;> first | rfl | (exfalso; omega))), rfl⟩
  refine sv_iload_n C rfl rfl d_So_of_0 ?_
  refine sv_callSi C (c_So_isLetter l g _ c) lk_So_7  d_So_of_1 (by decide) (Nat.le_of_ble_eq_true rfl) (by decide) (fun r w hw => ?_)
  obtain ⟨rfl, rfl⟩ := hw
  refine sv_ifB_eq C _ 9 (by decide) d_So_of_4 (fun c4 => ?_) (fun c4 => ?_)
  · skip
    refine sv_iload_n C rfl rfl d_So_of_9 ?_
    refine sv_bipush C (v := 48) (by decide) d_So_of_10 ?_
    refine sv_icmpK_lt C (48) (by decide) 23 (by decide) d_So_of_12 (fun c12 => ?_) (fun c12 => ?_)
    · skip
      exact j23 (by omega)
    · skip
      refine sv_iload_n C rfl rfl d_So_of_15 ?_
      refine sv_bipush C (v := 57) (by decide) d_So_of_16 ?_
      refine sv_icmpK_gt C (57) (by decide) 23 (by decide) d_So_of_18 (fun c18 => ?_) (fun c18 => ?_)
      · skip
        exact j23 (by omega)
      · skip
        refine sv_iconst C (v := 2) (by decide) d_So_of_21 ?_
        exact hr _ _ _ _ d_So_of_22 rfl ⟨(show (2 : Int32) = nI 2 from rfl).trans (congrArg nI (by unfold pu_sort; (repeat' split) <;> first | rfl | (exfalso; omega))), rfl⟩
  · skip
    refine sv_iconst C (v := 1) (by decide) d_So_of_7 ?_
    exact hr _ _ _ _ d_So_of_8 rfl ⟨(show (1 : Int32) = nI 1 from rfl).trans (congrArg nI (by unfold pu_sort; (repeat' split) <;> first | rfl | (exfalso; omega))), rfl⟩
