/-! CONTRACTS: WordChain, 3: cut -/
def rm_X_cut : Room := { frames := 12, cells := 0, slots := 0, locals := 322 }
set_option maxHeartbeats 4000000 in
set_option maxRecDepth 100000 in
theorem c_X_cut (l : Launch) (g : sv_G) (rest : va_W) (ad : Nat → Nat) (inl wd0 n0 : Nat) (wn0 : Int32) (b tf0 kf wf0 vf0 ch0 po0 st0 : Nat → Int32) (T0 : List (Nat × List Int32)) (hkf : ∀ i, i < 33 → kf i = nI (pu_key (pu_stops.getD i []))) (hE : sv_E5 g rest (ad 14) (ad 15) (ad 16) (ad 17) (ad 18)) (hs0 : st0 0 = nI 0) (hinl : inl ≤ 8192) (hby : ∀ i, (b i).toInt8.toInt32 = b i) : sv_Mi l y_X_cut b_X_cut 3 (some (.int)) rm_X_cut g [.ref (ad 0)] ((ad 0, .inr (6, [.ref (ad 1), .int (nI inl), .ref (ad 2), .ref (ad 4), .ref (ad 6), .ref (ad 10), .int (nI wd0)])) :: (ad 1, .inl (g.2.1 1, 8192, .inl b)) :: (ad 2, .inr (3, [.ref (ad 3), .int (nI n0)])) :: (ad 3, .inl (g.2.1 0, 8192, .inl tf0)) :: (ad 4, .inr (1, [.ref (ad 5)])) :: (ad 5, .inl (g.2.1 0, 33, .inl kf)) :: (ad 6, .inr (2, [.ref (ad 7), .ref (ad 9), .ref (ad 14), .ref (ad 15), .ref (ad 16), .ref (ad 17), .ref (ad 18)])) :: (ad 7, .inr (5, [.ref (ad 8), .int wn0])) :: (ad 8, .inl (g.2.1 0, 255, .inl wf0)) :: (ad 9, .inl (g.2.1 2, 255, .inl vf0)) :: (ad 10, .inr (4, [.ref (ad 11), .ref (ad 12), .ref (ad 13), .int (nI T0.length)])) :: (ad 11, .inl (g.2.1 0, 8192, .inl ch0)) :: (ad 12, .inl (g.2.1 0, 8192, .inl po0)) :: (ad 13, .inl (g.2.1 0, 8193, .inl st0)) :: rest) (fun r w9 => ∃ (wn : Int32) (tf wf vf ch po st : Nat → Int32), (∀ i, i < (pu_chars (fun i => pu_u (b i)) inl inl 0).length → tf i = nI ((pu_chars (fun i => pu_u (b i)) inl inl 0).getD i 0)) ∧ r = nI (pu_cut tf (pu_chars (fun i => pu_u (b i)) inl inl 0).length (pu_chars (fun i => pu_u (b i)) inl inl 0).length 0 ([], 0)).1.length ∧ w9 = ((ad 0, .inr (6, [.ref (ad 1), .int (nI 0), .ref (ad 2), .ref (ad 4), .ref (ad 6), .ref (ad 10), .int (nI (pu_cut tf (pu_chars (fun i => pu_u (b i)) inl inl 0).length (pu_chars (fun i => pu_u (b i)) inl inl 0).length 0 ([], 0)).2)])) :: (ad 1, .inl (g.2.1 1, 8192, .inl b)) :: (ad 2, .inr (3, [.ref (ad 3), .int (nI (pu_chars (fun i => pu_u (b i)) inl inl 0).length)])) :: (ad 3, .inl (g.2.1 0, 8192, .inl tf)) :: (ad 4, .inr (1, [.ref (ad 5)])) :: (ad 5, .inl (g.2.1 0, 33, .inl kf)) :: (ad 6, .inr (2, [.ref (ad 7), .ref (ad 9), .ref (ad 14), .ref (ad 15), .ref (ad 16), .ref (ad 17), .ref (ad 18)])) :: (ad 7, .inr (5, [.ref (ad 8), .int wn])) :: (ad 8, .inl (g.2.1 0, 255, .inl wf)) :: (ad 9, .inl (g.2.1 2, 255, .inl vf)) :: (ad 10, .inr (4, [.ref (ad 11), .ref (ad 12), .ref (ad 13), .int (nI (pu_cut tf (pu_chars (fun i => pu_u (b i)) inl inl 0).length (pu_chars (fun i => pu_u (b i)) inl inl 0).length 0 ([], 0)).1.length)])) :: (ad 11, .inl (g.2.1 0, 8192, .inl ch)) :: (ad 12, .inl (g.2.1 0, 8192, .inl po)) :: (ad 13, .inl (g.2.1 0, 8193, .inl st)) :: rest) ∧ pu_Tok ch po st (pu_cut tf (pu_chars (fun i => pu_u (b i)) inl inl 0).length (pu_chars (fun i => pu_u (b i)) inl inl 0).length 0 ([], 0)).1 ∧ pu_off (pu_cut tf (pu_chars (fun i => pu_u (b i)) inl inl 0).length (pu_chars (fun i => pu_u (b i)) inl inl 0).length 0 ([], 0)).1 (pu_cut tf (pu_chars (fun i => pu_u (b i)) inl inl 0).length (pu_chars (fun i => pu_u (b i)) inl inl 0).length 0 ([], 0)).1.length ≤ 8192 ∧ (pu_cut tf (pu_chars (fun i => pu_u (b i)) inl inl 0).length (pu_chars (fun i => pu_u (b i)) inl inl 0).length 0 ([], 0)).1.length ≤ 8192) := by
  refine sv_enter_i (by decide) rfl rfl (Nat.le_of_ble_eq_true rfl) (fun X C hI hr => ?_)
  refine sv_lvE (lv' := [some _, none, none]) rfl ?_
  have L34 : ∀ (k : Nat) (n p wd : Nat) (wn : Int32) (tf wf vf ch po st : Nat → Int32) (T : List (Nat × List Int32)) (o2 : Option Value), (n = (pu_chars (fun i => pu_u (b i)) inl inl 0).length ∧ (∀ i, i < n → tf i = nI ((pu_chars (fun i => pu_u (b i)) inl inl 0).getD i 0)) ∧ (pu_cut tf n n 0 ([], 0)) = pu_cut tf n k p (T, wd) ∧ n ≤ 8192 ∧ p ≤ n ∧ n ≤ p + k ∧ pu_Tok ch po st T ∧ pu_off T T.length ≤ p ∧ T.length ≤ p ∧ wd ≤ p) → sv_V X 3 0 0 ((ad 0, .inr (6, [.ref (ad 1), .int (nI 0), .ref (ad 2), .ref (ad 4), .ref (ad 6), .ref (ad 10), .int (nI wd)])) :: (ad 1, .inl (g.2.1 1, 8192, .inl b)) :: (ad 2, .inr (3, [.ref (ad 3), .int (nI n)])) :: (ad 3, .inl (g.2.1 0, 8192, .inl tf)) :: (ad 4, .inr (1, [.ref (ad 5)])) :: (ad 5, .inl (g.2.1 0, 33, .inl kf)) :: (ad 6, .inr (2, [.ref (ad 7), .ref (ad 9), .ref (ad 14), .ref (ad 15), .ref (ad 16), .ref (ad 17), .ref (ad 18)])) :: (ad 7, .inr (5, [.ref (ad 8), .int wn])) :: (ad 8, .inl (g.2.1 0, 255, .inl wf)) :: (ad 9, .inl (g.2.1 2, 255, .inl vf)) :: (ad 10, .inr (4, [.ref (ad 11), .ref (ad 12), .ref (ad 13), .int (nI T.length)])) :: (ad 11, .inl (g.2.1 0, 8192, .inl ch)) :: (ad 12, .inl (g.2.1 0, 8192, .inl po)) :: (ad 13, .inl (g.2.1 0, 8193, .inl st)) :: rest) 34 [some (.ref (ad 0)), some (.int (nI p)), o2] [] := by
    intro k
    induction k with
    | zero =>
      intro n p wd wn tf wf vf ch po st T o2 hq
      obtain ⟨en, htf, q1, hn, q2, q3, hT, q4, q5, q6⟩ := hq
      refine sv_iload_n C rfl rfl d_X_cut_34 ?_
      refine sv_aload_n C rfl rfl d_X_cut_35 ?_
      refine sv_get C fg_X_22 0 rfl rfl d_X_cut_36 ?_
      refine sv_get C fg_X_72 2 rfl rfl d_X_cut_39 ?_
      refine sv_icmpN_ge C _ _ (by omega) (by omega) 83 (by decide) d_X_cut_42 (fun c42 => ?_) (fun c42 => ?_)
      · skip
        refine sv_aload_n C rfl rfl d_X_cut_83 ?_
        refine sv_get C fg_X_43 0 rfl rfl d_X_cut_84 ?_
        refine sv_get C fg_X_93 10 rfl rfl d_X_cut_87 ?_
        have e9 : (pu_cut tf n n 0 ([], 0)) = (T, wd) := q1.trans (pu_cut_end (by omega))
        subst en
        exact hr _ _ _ _ d_X_cut_90 rfl (by refine ⟨wn, tf, wf, vf, ch, po, st, htf, ?_⟩; rw [e9]; exact ⟨rfl, rfl, hT, Nat.le_trans q4 (by omega), Nat.le_trans q5 (by omega)⟩)
      · skip
        exact absurd c42 (by omega)
    | succ k ih =>
      intro n p wd wn tf wf vf ch po st T o2 hq
      obtain ⟨en, htf, q1, hn, q2, q3, hT, q4, q5, q6⟩ := hq
      refine sv_iload_n C rfl rfl d_X_cut_34 ?_
      refine sv_aload_n C rfl rfl d_X_cut_35 ?_
      refine sv_get C fg_X_22 0 rfl rfl d_X_cut_36 ?_
      refine sv_get C fg_X_72 2 rfl rfl d_X_cut_39 ?_
      refine sv_icmpN_ge C _ _ (by omega) (by omega) 83 (by decide) d_X_cut_42 (fun c42 => ?_) (fun c42 => ?_)
      · skip
        refine sv_aload_n C rfl rfl d_X_cut_83 ?_
        refine sv_get C fg_X_43 0 rfl rfl d_X_cut_84 ?_
        refine sv_get C fg_X_93 10 rfl rfl d_X_cut_87 ?_
        have e9 : (pu_cut tf n n 0 ([], 0)) = (T, wd) := q1.trans (pu_cut_end (by omega))
        subst en
        exact hr _ _ _ _ d_X_cut_90 rfl (by refine ⟨wn, tf, wf, vf, ch, po, st, htf, ?_⟩; rw [e9]; exact ⟨rfl, rfl, hT, Nat.le_trans q4 (by omega), Nat.le_trans q5 (by omega)⟩)
      · skip
        have g1 := pu_spanEnd_gt tf n p
        have g2 := pu_spanEnd_le tf c42
        refine sv_aload_n C rfl rfl d_X_cut_45 ?_
        refine sv_get C fg_X_22 0 rfl rfl d_X_cut_46 ?_
        refine sv_iload_n C rfl rfl d_X_cut_49 ?_
        refine sv_front 3 (_ :: _ :: _ :: _ :: _ :: _ :: _ :: _ :: _ :: _ :: _ :: _ :: _ :: _ :: _) rfl rfl ?_
        refine sv_front 3 (_ :: _ :: _ :: _ :: _ :: _ :: _ :: _ :: _ :: _ :: _ :: _ :: _ :: _ :: _) rfl rfl ?_
        refine sv_callVi C (c_Te_spanEnd l g _ (ad 2) (ad 3) n tf hn p c42) lk_X_75 List.mem_cons_self rfl d_X_cut_50 (by decide) (Nat.le_of_ble_eq_true rfl) (by decide) (fun r w hw => ?_)
        obtain ⟨rfl, rfl⟩ := hw
        refine sv_istore_n C rfl (by decide) [some _, some _, some _] rfl d_X_cut_53 ?_
        refine sv_aload_n C rfl rfl d_X_cut_54 ?_
        refine sv_get C fg_X_22 2 rfl rfl d_X_cut_55 ?_
        refine sv_iload_n C rfl rfl d_X_cut_58 ?_
        refine sv_iload_n C rfl rfl d_X_cut_59 ?_
        refine sv_callVi C (c_Te_isWord l g _ (ad 2) (ad 3) n tf hn p (pu_spanEnd tf n p) (by omega) (by omega)) lk_X_79 List.mem_cons_self rfl d_X_cut_60 (by decide) (Nat.le_of_ble_eq_true rfl) (by decide) (fun r w hw => ?_)
        obtain ⟨rfl, rfl⟩ := hw
        refine sv_ifB_eq C _ 72 (by decide) d_X_cut_63 (fun c63 => ?_) (fun c63 => ?_)
        · skip
          refine sv_iload_n C rfl rfl d_X_cut_72 ?_
          refine sv_iconst C (v := 1) (by decide) d_X_cut_73 ?_
          refine sv_iaddN C _ 1  d_X_cut_74 ?_
          refine sv_iload_n C rfl rfl d_X_cut_75 ?_
          refine sv_mmax C wm_max_X wm_max_2 wm_3 wm_max_4 (by decide) (Nat.le_of_ble_eq_true rfl) (by decide) (by decide) d_X_cut_76 ?_
          refine sv_eqi (pu_maxN (by omega) (by omega)) ?_
          refine sv_istore_n C rfl (by decide) [some _, some _, some _] rfl d_X_cut_79 ?_
          refine sv_goto C 34 (by decide) d_X_cut_80 ?_
          refine sv_front 3 (_ :: _ :: _ :: _ :: _ :: _ :: _ :: _ :: _ :: _ :: _ :: _ :: _ :: _ :: _) rfl rfl ?_
          refine sv_front 3 (_ :: _ :: _ :: _ :: _ :: _ :: _ :: _ :: _ :: _ :: _ :: _ :: _ :: _ :: _) rfl rfl ?_
          exact ih n (pu_spanEnd tf n p) wd _ tf _ _ _ _ _ T _ ⟨en, htf, by rw [q1, pu_cut, if_pos c42, if_neg c63], hn, g2, by omega, hT, by omega, by omega, by omega⟩
        · skip
          refine sv_aload_n C rfl rfl d_X_cut_66 ?_
          refine sv_iload_n C rfl rfl d_X_cut_67 ?_
          refine sv_iload_n C rfl rfl d_X_cut_68 ?_
          refine sv_front 3 (_ :: _ :: _ :: _ :: _ :: _ :: _ :: _ :: _ :: _ :: _ :: _ :: _ :: _ :: _) rfl rfl ?_
          refine sv_front 3 (_ :: _ :: _ :: _ :: _ :: _ :: _ :: _ :: _ :: _ :: _ :: _ :: _ :: _ :: _) rfl rfl ?_
          refine sv_callVv C (c_X_takeWords l g rest ad 0 wd n wn b tf kf wf vf ch po st T hkf hE hT p (pu_spanEnd tf n p) (by omega) (by omega) (by omega) (by omega) (by omega)) lk_X_83 List.mem_cons_self rfl d_X_cut_69 (by decide) (Nat.le_of_ble_eq_true rfl) (by decide) (fun w hw => ?_)
          obtain ⟨wn2, wf2, vf2, ch2, po2, st2, rfl, hT2, t1, t2, t3⟩ := hw
          refine sv_iload_n C rfl rfl d_X_cut_72 ?_
          refine sv_iconst C (v := 1) (by decide) d_X_cut_73 ?_
          refine sv_iaddN C _ 1  d_X_cut_74 ?_
          refine sv_iload_n C rfl rfl d_X_cut_75 ?_
          refine sv_mmax C wm_max_X wm_max_2 wm_3 wm_max_4 (by decide) (Nat.le_of_ble_eq_true rfl) (by decide) (by decide) d_X_cut_76 ?_
          refine sv_eqi (pu_maxN (by omega) (by omega)) ?_
          refine sv_istore_n C rfl (by decide) [some _, some _, some _] rfl d_X_cut_79 ?_
          refine sv_goto C 34 (by decide) d_X_cut_80 ?_
          exact ih n (pu_spanEnd tf n p) (pu_take tf (pu_spanEnd tf n p) (pu_spanEnd tf n p) p (T, wd)).2 _ tf _ _ _ _ _ (pu_take tf (pu_spanEnd tf n p) (pu_spanEnd tf n p) p (T, wd)).1 _ ⟨en, htf, by rw [q1, pu_cut, if_pos c42, if_pos c63], hn, g2, by omega, hT2, t1, t2, t3⟩
  refine sv_aload_n C rfl rfl d_X_cut_0 ?_
  refine sv_get C fg_X_22 0 rfl rfl d_X_cut_1 ?_
  refine sv_aload_n C rfl rfl d_X_cut_4 ?_
  refine sv_get C fg_X_9 0 rfl rfl d_X_cut_5 ?_
  refine sv_aload_n C rfl rfl d_X_cut_8 ?_
  refine sv_get C fg_X_13 0 rfl rfl d_X_cut_9 ?_
  refine sv_front 1 (_ :: _ :: _ :: _ :: _ :: _ :: _ :: _ :: _ :: _ :: _ :: _ :: _ :: _ :: _) rfl rfl ?_
  refine sv_front 3 (_ :: _ :: _ :: _ :: _ :: _ :: _ :: _ :: _ :: _ :: _ :: _ :: _ :: _ :: _) rfl rfl ?_
  refine sv_front 3 (_ :: _ :: _ :: _ :: _ :: _ :: _ :: _ :: _ :: _ :: _ :: _ :: _ :: _ :: _) rfl rfl ?_
  refine sv_callVv C (c_Te_read l g _ (ad 2) (ad 3) (ad 1) inl (nI n0) tf0 b hinl hby) lk_X_65 List.mem_cons_self rfl d_X_cut_12 (by decide) (Nat.le_of_ble_eq_true rfl) (by decide) (fun w hw => ?_)
  obtain ⟨tf, rfl, htf⟩ := hw
  have hn0 := pu_chars_len (fun i => pu_u (b i)) inl inl 0
  generalize hNN : (pu_chars (fun i => pu_u (b i)) inl inl 0).length = n at htf hn0 ⊢
  have hn : n ≤ 8192 := by omega
  refine sv_aload_n C rfl rfl d_X_cut_15 ?_
  refine sv_iconst C (v := 0) (by decide) d_X_cut_16 ?_
  refine sv_put C fp_X_13 3 rfl rfl rfl (Nat.le_of_ble_eq_true rfl) (_ :: _ :: _ :: (_, .inr (_, [_, _, _, _, _, _, _])) :: _ :: _ :: _ :: _ :: _ :: _ :: _ :: _ :: _ :: _ :: _) rfl d_X_cut_17 ?_
  refine sv_aload_n C rfl rfl d_X_cut_20 ?_
  refine sv_get C fg_X_43 3 rfl rfl d_X_cut_21 ?_
  refine sv_front 13 (_ :: _ :: _ :: _ :: _ :: _ :: _ :: _ :: _ :: _ :: _ :: _ :: _ :: _ :: _) rfl rfl ?_
  refine sv_front 13 (_ :: _ :: _ :: _ :: _ :: _ :: _ :: _ :: _ :: _ :: _ :: _ :: _ :: _ :: _) rfl rfl ?_
  refine sv_front 13 (_ :: _ :: _ :: _ :: _ :: _ :: _ :: _ :: _ :: _ :: _ :: _ :: _ :: _ :: _) rfl rfl ?_
  refine sv_front 13 (_ :: _ :: _ :: _ :: _ :: _ :: _ :: _ :: _ :: _ :: _ :: _ :: _ :: _ :: _) rfl rfl ?_
  refine sv_callVv C (c_To_clear l g _ (ad 10) (ad 11) (ad 12) (ad 13) ch0 po0 st0 (nI T0.length)) lk_X_69 List.mem_cons_self rfl d_X_cut_24 (by decide) (Nat.le_of_ble_eq_true rfl) (by decide) (fun w hw => ?_)
  obtain rfl := hw
  refine sv_aload_n C rfl rfl d_X_cut_27 ?_
  refine sv_iconst C (v := 0) (by decide) d_X_cut_28 ?_
  refine sv_put C fp_X_47 7 rfl rfl rfl (Nat.le_of_ble_eq_true rfl) (_ :: _ :: _ :: _ :: _ :: _ :: _ :: (_, .inr (_, [_, _, _, _, _, _, _])) :: _ :: _ :: _ :: _ :: _ :: _ :: _) rfl d_X_cut_29 ?_
  refine sv_iconst C (v := 0) (by decide) d_X_cut_32 ?_
  refine sv_istore_n C rfl (by decide) [some _, some _, none] rfl d_X_cut_33 ?_
  refine sv_front 13 (_ :: _ :: _ :: _ :: _ :: _ :: _ :: _ :: _ :: _ :: _ :: _ :: _ :: _ :: _) rfl rfl ?_
  refine sv_front 13 (_ :: _ :: _ :: _ :: _ :: _ :: _ :: _ :: _ :: _ :: _ :: _ :: _ :: _ :: _) rfl rfl ?_
  refine sv_front 13 (_ :: _ :: _ :: _ :: _ :: _ :: _ :: _ :: _ :: _ :: _ :: _ :: _ :: _ :: _) rfl rfl ?_
  refine sv_front 13 (_ :: _ :: _ :: _ :: _ :: _ :: _ :: _ :: _ :: _ :: _ :: _ :: _ :: _ :: _) rfl rfl ?_
  refine sv_front 13 (_ :: _ :: _ :: _ :: _ :: _ :: _ :: _ :: _ :: _ :: _ :: _ :: _ :: _ :: _) rfl rfl ?_
  refine sv_front 13 (_ :: _ :: _ :: _ :: _ :: _ :: _ :: _ :: _ :: _ :: _ :: _ :: _ :: _ :: _) rfl rfl ?_
  refine sv_front 11 (_ :: _ :: _ :: _ :: _ :: _ :: _ :: _ :: _ :: _ :: _ :: _ :: _ :: _ :: _) rfl rfl ?_
  refine sv_front 11 (_ :: _ :: _ :: _ :: _ :: _ :: _ :: _ :: _ :: _ :: _ :: _ :: _ :: _ :: _) rfl rfl ?_
  refine sv_front 12 (_ :: _ :: _ :: _ :: _ :: _ :: _ :: _ :: _ :: _ :: _ :: _ :: _ :: _ :: _) rfl rfl ?_
  refine sv_front 13 (_ :: _ :: _ :: _ :: _ :: _ :: _ :: _ :: _ :: _ :: _ :: _ :: _ :: _ :: _) rfl rfl ?_
  exact L34 n n 0 0 wn0 tf wf0 vf0 ch0 po0 st0 [] none ⟨hNN.symm, htf, rfl, hn, by omega, by omega, pu_Tok_nil hs0, Nat.le_refl _, Nat.le_refl _, Nat.le_refl _⟩
