/-! CONTRACTS: WordChain, 2: takeWords -/
section SVF
variable {X : sv_X} {nL k n pc : Nat} {ws : va_W} {lv : List (Option Value)} {st : List Value}
theorem sv_front (i : Nat) {c : Nat × va_E} (ws' : va_W) (h : ws[i]? = some c) (hw : c :: ws.eraseIdx i = ws') (z : sv_V X nL k n ws' pc lv st) : sv_V X nL k n ws pc lv st := by
  subst hw
  obtain ⟨hi, rfl⟩ := List.getElem?_eq_some_iff.mp h
  have e : ws = ws.take i ++ ws[i] :: ws.drop (i + 1) := by rw [List.getElem_cons_drop, List.take_append_drop]
  refine sv_Perm ?_ z
  rw [List.eraseIdx_eq_take_drop_succ]
  exact (List.Perm.of_eq e).trans List.perm_middle
end SVF
theorem pu_min255 {x : Nat} (h : x < 2 ^ 31) : (if nI x < 255 then nI x else 255) = nI (if x < 255 then x else 255) := by
  have h1 : (nI x < (255 : Int32)) ↔ x < 255 := nI_ltI (b := 255) h (by decide)
  by_cases h2 : x < 255
  · rw [if_pos (h1.mpr h2), if_pos h2]
  · rw [if_neg (fun z => h2 (h1.mp z)), if_neg h2]; rfl
theorem pu_maxN {a b : Nat} (h : a ≤ b) (hb : b < 2 ^ 31) : (if nI a < nI b then nI b else nI a) = nI b := by
  by_cases h2 : a < b
  · rw [if_pos (nI_lt h2 hb)]
  · have : a = b := by omega
    subst this
    split <;> rfl
theorem pu_word_stop {L : List Int32} {s : pu_St} (h : (pu_own L).map pu_low ∈ pu_stops) : pu_word L s = (s.1, s.2 + 1) := by
  unfold pu_word
  dsimp only
  rw [if_pos h]
theorem pu_word_go {L : List Int32} {s : pu_St} (h : ¬ (pu_own L).map pu_low ∈ pu_stops) : pu_word L s = (s.1 ++ [(s.2, pc_fit ((pu_own L).map pu_low))], s.2 + 1) := by
  unfold pu_word pc_fit
  dsimp only
  rw [if_neg h]
theorem pu_take_end {f : Nat → Int32} {e k a : Nat} {s : pu_St} (h : ¬ a < e) : pu_take f e k a s = s := by
  cases k with
  | zero => rfl
  | succ k => rw [pu_take, if_neg h]
theorem pu_cut_end {f : Nat → Int32} {n k a : Nat} {s : pu_St} (h : ¬ a < n) : pu_cut f n k a s = s := by
  cases k with
  | zero => rfl
  | succ k => rw [pu_cut, if_neg h]
def rm_X_takeWords : Room := { frames := 11, cells := 0, slots := 0, locals := 298 }
set_option maxHeartbeats 4000000 in
set_option maxRecDepth 100000 in
theorem c_X_takeWords (l : Launch) (g : sv_G) (rest : va_W) (ad : Nat → Nat) (inl wd0 n : Nat) (wn0 : Int32) (b tf kf wf0 vf0 ch0 po0 st0 : Nat → Int32) (T0 : List (Nat × List Int32)) (hkf : ∀ i, i < 33 → kf i = nI (pu_key (pu_stops.getD i []))) (hE : sv_E5 g rest (ad 14) (ad 15) (ad 16) (ad 17) (ad 18)) (hT0 : pu_Tok ch0 po0 st0 T0) (a e : Nat) (hae : a ≤ e) (he : e ≤ 8192) (ho : pu_off T0 T0.length ≤ a) (hl0 : T0.length ≤ a) (hw0 : wd0 ≤ a) : sv_Mv l y_X_takeWords b_X_takeWords 5 none rm_X_takeWords g [.ref (ad 0), .int (nI a), .int (nI e)] ((ad 0, .inr (6, [.ref (ad 1), .int (nI inl), .ref (ad 2), .ref (ad 4), .ref (ad 6), .ref (ad 10), .int (nI wd0)])) :: (ad 1, .inl (g.2.1 1, 8192, .inl b)) :: (ad 2, .inr (3, [.ref (ad 3), .int (nI n)])) :: (ad 3, .inl (g.2.1 0, 8192, .inl tf)) :: (ad 4, .inr (1, [.ref (ad 5)])) :: (ad 5, .inl (g.2.1 0, 33, .inl kf)) :: (ad 6, .inr (2, [.ref (ad 7), .ref (ad 9), .ref (ad 14), .ref (ad 15), .ref (ad 16), .ref (ad 17), .ref (ad 18)])) :: (ad 7, .inr (5, [.ref (ad 8), .int wn0])) :: (ad 8, .inl (g.2.1 0, 255, .inl wf0)) :: (ad 9, .inl (g.2.1 2, 255, .inl vf0)) :: (ad 10, .inr (4, [.ref (ad 11), .ref (ad 12), .ref (ad 13), .int (nI T0.length)])) :: (ad 11, .inl (g.2.1 0, 8192, .inl ch0)) :: (ad 12, .inl (g.2.1 0, 8192, .inl po0)) :: (ad 13, .inl (g.2.1 0, 8193, .inl st0)) :: rest) (fun w9 => ∃ (wn : Int32) (wf vf ch po st : Nat → Int32), w9 = ((ad 0, .inr (6, [.ref (ad 1), .int (nI inl), .ref (ad 2), .ref (ad 4), .ref (ad 6), .ref (ad 10), .int (nI (pu_take tf e e a (T0, wd0)).2)])) :: (ad 1, .inl (g.2.1 1, 8192, .inl b)) :: (ad 2, .inr (3, [.ref (ad 3), .int (nI n)])) :: (ad 3, .inl (g.2.1 0, 8192, .inl tf)) :: (ad 4, .inr (1, [.ref (ad 5)])) :: (ad 5, .inl (g.2.1 0, 33, .inl kf)) :: (ad 6, .inr (2, [.ref (ad 7), .ref (ad 9), .ref (ad 14), .ref (ad 15), .ref (ad 16), .ref (ad 17), .ref (ad 18)])) :: (ad 7, .inr (5, [.ref (ad 8), .int wn])) :: (ad 8, .inl (g.2.1 0, 255, .inl wf)) :: (ad 9, .inl (g.2.1 2, 255, .inl vf)) :: (ad 10, .inr (4, [.ref (ad 11), .ref (ad 12), .ref (ad 13), .int (nI (pu_take tf e e a (T0, wd0)).1.length)])) :: (ad 11, .inl (g.2.1 0, 8192, .inl ch)) :: (ad 12, .inl (g.2.1 0, 8192, .inl po)) :: (ad 13, .inl (g.2.1 0, 8193, .inl st)) :: rest) ∧ pu_Tok ch po st (pu_take tf e e a (T0, wd0)).1 ∧ pu_off (pu_take tf e e a (T0, wd0)).1 (pu_take tf e e a (T0, wd0)).1.length ≤ e ∧ (pu_take tf e e a (T0, wd0)).1.length ≤ e ∧ (pu_take tf e e a (T0, wd0)).2 ≤ e) := by
  refine sv_enter_v (by decide) rfl rfl (Nat.le_of_ble_eq_true rfl) (fun X C hI hr => ?_)
  refine sv_lvE (lv' := [some _, some _, some _, none, none]) rfl ?_
  have L11 : ∀ (k : Nat) (p wd : Nat) (wn : Int32) (wf vf ch po st : Nat → Int32) (T : List (Nat × List Int32)), ((pu_take tf e e a (T0, wd0)) = pu_take tf e k p (T, wd) ∧ e ≤ p + k ∧ p ≤ e + 255 ∧ pu_Tok ch po st T ∧ (pu_off T T.length ≤ p ∧ pu_off T T.length ≤ e) ∧ (T.length ≤ p ∧ T.length ≤ e) ∧ (wd ≤ p ∧ wd ≤ e)) → sv_V X 5 0 0 ((ad 0, .inr (6, [.ref (ad 1), .int (nI inl), .ref (ad 2), .ref (ad 4), .ref (ad 6), .ref (ad 10), .int (nI wd)])) :: (ad 1, .inl (g.2.1 1, 8192, .inl b)) :: (ad 2, .inr (3, [.ref (ad 3), .int (nI n)])) :: (ad 3, .inl (g.2.1 0, 8192, .inl tf)) :: (ad 4, .inr (1, [.ref (ad 5)])) :: (ad 5, .inl (g.2.1 0, 33, .inl kf)) :: (ad 6, .inr (2, [.ref (ad 7), .ref (ad 9), .ref (ad 14), .ref (ad 15), .ref (ad 16), .ref (ad 17), .ref (ad 18)])) :: (ad 7, .inr (5, [.ref (ad 8), .int wn])) :: (ad 8, .inl (g.2.1 0, 255, .inl wf)) :: (ad 9, .inl (g.2.1 2, 255, .inl vf)) :: (ad 10, .inr (4, [.ref (ad 11), .ref (ad 12), .ref (ad 13), .int (nI T.length)])) :: (ad 11, .inl (g.2.1 0, 8192, .inl ch)) :: (ad 12, .inl (g.2.1 0, 8192, .inl po)) :: (ad 13, .inl (g.2.1 0, 8193, .inl st)) :: rest) 11 [some (.ref (ad 0)), some (.int (nI a)), some (.int (nI e)), some (.ref (ad 7)), some (.int (nI p))] [] := by
    intro k
    induction k with
    | zero =>
      intro p wd wn wf vf ch po st T hq
      obtain ⟨q1, q2, q3, hT, q5, q6, q7⟩ := hq
      refine sv_iload C rfl d_X_takeWords_11 ?_
      refine sv_iload_n C rfl rfl d_X_takeWords_13 ?_
      refine sv_icmpN_ge C _ _ (by omega) (by omega) 97 (by decide) d_X_takeWords_14 (fun c14 => ?_) (fun c14 => ?_)
      · skip
        exact hr _ _ _ d_X_takeWords_97 (by rw [show (pu_take tf e e a (T0, wd0)) = (T, wd) from q1.trans (pu_take_end (by omega))]; exact ⟨wn, wf, vf, ch, po, st, rfl, hT, q5.2, q6.2, q7.2⟩)
      · skip
        exact absurd c14 (by omega)
    | succ k ih =>
      intro p wd wn wf vf ch po st T hq
      obtain ⟨q1, q2, q3, hT, q5, q6, q7⟩ := hq
      refine sv_iload C rfl d_X_takeWords_11 ?_
      refine sv_iload_n C rfl rfl d_X_takeWords_13 ?_
      refine sv_icmpN_ge C _ _ (by omega) (by omega) 97 (by decide) d_X_takeWords_14 (fun c14 => ?_) (fun c14 => ?_)
      · skip
        exact hr _ _ _ d_X_takeWords_97 (by rw [show (pu_take tf e e a (T0, wd0)) = (T, wd) from q1.trans (pu_take_end (by omega))]; exact ⟨wn, wf, vf, ch, po, st, rfl, hT, q5.2, q6.2, q7.2⟩)
      · skip
        obtain ⟨len, elen⟩ : ∃ y, y = (if e - p < 255 then e - p else 255) := ⟨_, rfl⟩
        have hlen : len ≤ 255 ∧ len ≤ e - p ∧ 1 ≤ len ∧ (len = 255 ∨ p + len = e) := by rw [elen]; split <;> omega
        have s1 := pu_slice_len tf p len
        have s2 := pu_len_own (pu_slice tf p len)
        have s3 : ((pu_own (pu_slice tf p len)).map pu_low).length = (pu_own (pu_slice tf p len)).length := List.length_map _
        have s4 := pc_fit_len ((pu_own (pu_slice tf p len)).map pu_low)
        refine sv_aload_n C rfl rfl d_X_takeWords_17 ?_
        refine sv_aload_n C rfl rfl d_X_takeWords_18 ?_
        refine sv_get C fg_X_22 0 rfl rfl d_X_takeWords_19 ?_
        refine sv_get C fg_X_137 2 rfl rfl d_X_takeWords_22 ?_
        refine sv_iload C rfl d_X_takeWords_25 ?_
        refine sv_sipush C (v := 255) (by decide) d_X_takeWords_27 ?_
        refine sv_iload_n C rfl rfl d_X_takeWords_30 ?_
        refine sv_iload C rfl d_X_takeWords_31 ?_
        refine sv_isubN C _ _ (by omega) d_X_takeWords_33 ?_
        refine sv_mmin C wm_min_X wm_min_2 wm_3 wm_min_4 (by decide) (Nat.le_of_ble_eq_true rfl) (by decide) (by decide) d_X_takeWords_34 ?_
        refine sv_eqi ((pu_min255 (by omega)).trans (congrArg nI elen.symm)) ?_
        refine sv_front 3 (_ :: _ :: _ :: _ :: _ :: _ :: _ :: _ :: _ :: _ :: _ :: _ :: _ :: _ :: _) rfl rfl ?_
        refine sv_front 8 (_ :: _ :: _ :: _ :: _ :: _ :: _ :: _ :: _ :: _ :: _ :: _ :: _ :: _ :: _) rfl rfl ?_
        refine sv_front 8 (_ :: _ :: _ :: _ :: _ :: _ :: _ :: _ :: _ :: _ :: _ :: _ :: _ :: _ :: _) rfl rfl ?_
        refine sv_callVv C (c_Wo_take l g _ (ad 7) (ad 8) (ad 3) p len wn wf tf (by omega) (by omega)) lk_X_141 List.mem_cons_self rfl d_X_takeWords_37 (by decide) (Nat.le_of_ble_eq_true rfl) (by decide) (fun w hw => ?_)
        obtain ⟨wf1, rfl, hf1⟩ := hw
        refine sv_aload_n C rfl rfl d_X_takeWords_40 ?_
        refine sv_callVv C (c_Wo_dropOwnersEnding l g _ (ad 7) (ad 8) wf1 (pu_slice tf p len) (by omega) hf1) lk_X_147 List.mem_cons_self rfl d_X_takeWords_41 (by decide) (Nat.le_of_ble_eq_true rfl) (by decide) (fun w hw => ?_)
        obtain rfl := hw
        refine sv_aload_n C rfl rfl d_X_takeWords_44 ?_
        refine sv_callVv C (c_Wo_lower l g _ (ad 7) (ad 8) wf1 (pu_own (pu_slice tf p len)) (by omega) (pr_own hf1)) lk_X_150 List.mem_cons_self rfl d_X_takeWords_45 (by decide) (Nat.le_of_ble_eq_true rfl) (by decide) (fun w hw => ?_)
        obtain ⟨wf2, rfl, hf2⟩ := hw
        refine sv_aload_n C rfl rfl d_X_takeWords_48 ?_
        refine sv_get C fg_X_29 3 rfl rfl d_X_takeWords_49 ?_
        refine sv_aload_n C rfl rfl d_X_takeWords_52 ?_
        refine sv_front 7 (_ :: _ :: _ :: _ :: _ :: _ :: _ :: _ :: _ :: _ :: _ :: _ :: _ :: _ :: _) rfl rfl ?_
        refine sv_front 7 (_ :: _ :: _ :: _ :: _ :: _ :: _ :: _ :: _ :: _ :: _ :: _ :: _ :: _ :: _) rfl rfl ?_
        refine sv_callVi C (c_Si_have l g _ (ad 4) (ad 5) (ad 7) (ad 8) kf wf2 ((pu_own (pu_slice tf p len)).map pu_low) (by omega) hf2 hkf) lk_X_153 List.mem_cons_self rfl d_X_takeWords_53 (by decide) (Nat.le_of_ble_eq_true rfl) (by decide) (fun r w hw => ?_)
        obtain ⟨rfl, rfl⟩ := hw
        refine sv_ifB_ne C _ 78 (by decide) d_X_takeWords_56 (fun c56 => ?_) (fun c56 => ?_)
        · skip
          refine sv_aload_n C rfl rfl d_X_takeWords_78 ?_
          refine sv_dup C rfl d_X_takeWords_79 ?_
          refine sv_get C fg_X_47 5 rfl rfl d_X_takeWords_80 ?_
          refine sv_iconst C (v := 1) (by decide) d_X_takeWords_83 ?_
          refine sv_iaddN C _ 1  d_X_takeWords_84 ?_
          refine sv_put C fp_X_47 5 rfl rfl rfl (Nat.le_of_ble_eq_true rfl) (_ :: _ :: _ :: _ :: _ :: (_, .inr (_, [_, _, _, _, _, _, _])) :: _ :: _ :: _ :: _ :: _ :: _ :: _ :: _ :: _) rfl d_X_takeWords_85 ?_
          refine sv_iincWN C 255 _ rfl [some _, some _, some _, some _, some _] rfl d_X_takeWords_88 ?_
          refine sv_goto C 11 (by decide) d_X_takeWords_94 ?_
          refine sv_front 8 (_ :: _ :: _ :: _ :: _ :: _ :: _ :: _ :: _ :: _ :: _ :: _ :: _ :: _ :: _) rfl rfl ?_
          refine sv_front 2 (_ :: _ :: _ :: _ :: _ :: _ :: _ :: _ :: _ :: _ :: _ :: _ :: _ :: _ :: _) rfl rfl ?_
          refine sv_front 2 (_ :: _ :: _ :: _ :: _ :: _ :: _ :: _ :: _ :: _ :: _ :: _ :: _ :: _ :: _) rfl rfl ?_
          refine sv_front 5 (_ :: _ :: _ :: _ :: _ :: _ :: _ :: _ :: _ :: _ :: _ :: _ :: _ :: _ :: _) rfl rfl ?_
          refine sv_front 8 (_ :: _ :: _ :: _ :: _ :: _ :: _ :: _ :: _ :: _ :: _ :: _ :: _ :: _ :: _) rfl rfl ?_
          refine sv_front 8 (_ :: _ :: _ :: _ :: _ :: _ :: _ :: _ :: _ :: _ :: _ :: _ :: _ :: _ :: _) rfl rfl ?_
          refine sv_front 8 (_ :: _ :: _ :: _ :: _ :: _ :: _ :: _ :: _ :: _ :: _ :: _ :: _ :: _ :: _) rfl rfl ?_
          exact ih (p + 255) (wd + 1) _ _ _ _ _ _ T ⟨by rw [q1, pu_take, if_pos c14, ← elen, pu_word_stop c56], by omega, by omega, hT, by omega, by omega, by omega⟩
        · skip
          refine sv_aload_n C rfl rfl d_X_takeWords_59 ?_
          refine sv_get C fg_X_36 5 rfl rfl d_X_takeWords_60 ?_
          refine sv_front 9 (_ :: _ :: _ :: _ :: _ :: _ :: _ :: _ :: _ :: _ :: _ :: _ :: _ :: _ :: _) rfl rfl ?_
          refine sv_front 4 (_ :: _ :: _ :: _ :: _ :: _ :: _ :: _ :: _ :: _ :: _ :: _ :: _ :: _ :: _) rfl rfl ?_
          refine sv_front 4 (_ :: _ :: _ :: _ :: _ :: _ :: _ :: _ :: _ :: _ :: _ :: _ :: _ :: _ :: _) rfl rfl ?_
          refine sv_front 9 (_ :: _ :: _ :: _ :: _ :: _ :: _ :: _ :: _ :: _ :: _ :: _ :: _ :: _ :: _) rfl rfl ?_
          refine sv_callVv C (c_Sm_stemIfFit l g ((ad 4, .inr (1, [.ref (ad 5)])) :: (ad 5, .inl (g.2.1 0, 33, .inl kf)) :: (ad 3, .inl (g.2.1 0, 8192, .inl tf)) :: (ad 0, .inr (6, [.ref (ad 1), .int (nI inl), .ref (ad 2), .ref (ad 4), .ref (ad 6), .ref (ad 10), .int (nI wd)])) :: (ad 1, .inl (g.2.1 1, 8192, .inl b)) :: (ad 2, .inr (3, [.ref (ad 3), .int (nI n)])) :: (ad 10, .inr (4, [.ref (ad 11), .ref (ad 12), .ref (ad 13), .int (nI T.length)])) :: (ad 11, .inl (g.2.1 0, 8192, .inl ch)) :: (ad 12, .inl (g.2.1 0, 8192, .inl po)) :: (ad 13, .inl (g.2.1 0, 8193, .inl st)) :: rest) (ad 6) (ad 7) (ad 8) (ad 9) (ad 14) (ad 15) (ad 16) (ad 17) (ad 18) wf2 vf ((pu_own (pu_slice tf p len)).map pu_low) (by omega) hf2 (hE.mono (fun q h => (List.mem_cons_of_mem _ (List.mem_cons_of_mem _ (List.mem_cons_of_mem _ (List.mem_cons_of_mem _ (List.mem_cons_of_mem _ (List.mem_cons_of_mem _ (List.mem_cons_of_mem _ (List.mem_cons_of_mem _ (List.mem_cons_of_mem _ (List.mem_cons_of_mem _ h))))))))))))) lk_X_157 List.mem_cons_self rfl d_X_takeWords_63 (by decide) (Nat.le_of_ble_eq_true rfl) (by decide) (fun w hw => ?_)
          obtain ⟨wf3, vf3, rfl, hf3⟩ := hw
          refine sv_aload_n C rfl rfl d_X_takeWords_66 ?_
          refine sv_get C fg_X_43 7 rfl rfl d_X_takeWords_67 ?_
          refine sv_aload_n C rfl rfl d_X_takeWords_70 ?_
          refine sv_aload_n C rfl rfl d_X_takeWords_71 ?_
          refine sv_get C fg_X_47 7 rfl rfl d_X_takeWords_72 ?_
          refine sv_front 2 (_ :: _ :: _ :: _ :: _ :: _ :: _ :: _ :: _ :: _ :: _ :: _ :: _ :: _ :: _) rfl rfl ?_
          refine sv_front 2 (_ :: _ :: _ :: _ :: _ :: _ :: _ :: _ :: _ :: _ :: _ :: _ :: _ :: _ :: _) rfl rfl ?_
          refine sv_front 13 (_ :: _ :: _ :: _ :: _ :: _ :: _ :: _ :: _ :: _ :: _ :: _ :: _ :: _ :: _) rfl rfl ?_
          refine sv_front 13 (_ :: _ :: _ :: _ :: _ :: _ :: _ :: _ :: _ :: _ :: _ :: _ :: _ :: _ :: _) rfl rfl ?_
          refine sv_front 13 (_ :: _ :: _ :: _ :: _ :: _ :: _ :: _ :: _ :: _ :: _ :: _ :: _ :: _ :: _) rfl rfl ?_
          refine sv_front 13 (_ :: _ :: _ :: _ :: _ :: _ :: _ :: _ :: _ :: _ :: _ :: _ :: _ :: _ :: _) rfl rfl ?_
          refine sv_callVv C (c_To_add l g _ (ad 10) (ad 11) (ad 12) (ad 13) ch po st T hT (by omega) (ad 7) (ad 8) wd wf3 (pc_fit ((pu_own (pu_slice tf p len)).map pu_low)) (by omega) hf3 (by omega) (by omega)) lk_X_160 List.mem_cons_self rfl d_X_takeWords_75 (by decide) (Nat.le_of_ble_eq_true rfl) (by decide) (fun w hw => ?_)
          obtain ⟨ch2, po2, st2, rfl, hT2⟩ := hw
          refine sv_aload_n C rfl rfl d_X_takeWords_78 ?_
          refine sv_dup C rfl d_X_takeWords_79 ?_
          refine sv_get C fg_X_47 11 rfl rfl d_X_takeWords_80 ?_
          refine sv_iconst C (v := 1) (by decide) d_X_takeWords_83 ?_
          refine sv_iaddN C _ 1  d_X_takeWords_84 ?_
          refine sv_put C fp_X_47 11 rfl rfl rfl (Nat.le_of_ble_eq_true rfl) (_ :: _ :: _ :: _ :: _ :: _ :: _ :: _ :: _ :: _ :: _ :: (_, .inr (_, [_, _, _, _, _, _, _])) :: _ :: _ :: _) rfl d_X_takeWords_85 ?_
          refine sv_iincWN C 255 _ rfl [some _, some _, some _, some _, some _] rfl d_X_takeWords_88 ?_
          refine sv_goto C 11 (by decide) d_X_takeWords_94 ?_
          refine sv_front 7 (_ :: _ :: _ :: _ :: _ :: _ :: _ :: _ :: _ :: _ :: _ :: _ :: _ :: _ :: _) rfl rfl ?_
          refine sv_front 6 (_ :: _ :: _ :: _ :: _ :: _ :: _ :: _ :: _ :: _ :: _ :: _ :: _ :: _ :: _) rfl rfl ?_
          refine sv_front 6 (_ :: _ :: _ :: _ :: _ :: _ :: _ :: _ :: _ :: _ :: _ :: _ :: _ :: _ :: _) rfl rfl ?_
          refine sv_front 7 (_ :: _ :: _ :: _ :: _ :: _ :: _ :: _ :: _ :: _ :: _ :: _ :: _ :: _ :: _) rfl rfl ?_
          refine sv_front 9 (_ :: _ :: _ :: _ :: _ :: _ :: _ :: _ :: _ :: _ :: _ :: _ :: _ :: _ :: _) rfl rfl ?_
          refine sv_front 9 (_ :: _ :: _ :: _ :: _ :: _ :: _ :: _ :: _ :: _ :: _ :: _ :: _ :: _ :: _) rfl rfl ?_
          refine sv_front 10 (_ :: _ :: _ :: _ :: _ :: _ :: _ :: _ :: _ :: _ :: _ :: _ :: _ :: _ :: _) rfl rfl ?_
          refine sv_front 13 (_ :: _ :: _ :: _ :: _ :: _ :: _ :: _ :: _ :: _ :: _ :: _ :: _ :: _ :: _) rfl rfl ?_
          refine sv_front 13 (_ :: _ :: _ :: _ :: _ :: _ :: _ :: _ :: _ :: _ :: _ :: _ :: _ :: _ :: _) rfl rfl ?_
          refine sv_front 13 (_ :: _ :: _ :: _ :: _ :: _ :: _ :: _ :: _ :: _ :: _ :: _ :: _ :: _ :: _) rfl rfl ?_
          exact ih (p + 255) (wd + 1) _ _ _ _ _ _ (T ++ [(wd, pc_fit ((pu_own (pu_slice tf p len)).map pu_low))]) ⟨by rw [q1, pu_take, if_pos c14, ← elen, pu_word_go c56], by omega, by omega, hT2, by rw [pu_off_snoc]; dsimp only; omega, by rw [List.length_append, List.length_singleton]; omega, by omega⟩
  refine sv_aload_n C rfl rfl d_X_takeWords_0 ?_
  refine sv_get C fg_X_36 0 rfl rfl d_X_takeWords_1 ?_
  refine sv_get C fg_X_133 6 rfl rfl d_X_takeWords_4 ?_
  refine sv_astore_n C rfl (by decide) [some _, some _, some _, some _, none] rfl d_X_takeWords_7 ?_
  refine sv_iload_n C rfl rfl d_X_takeWords_8 ?_
  refine sv_istore C (by decide) [some _, some _, some _, some _, some _] rfl d_X_takeWords_9 ?_
  exact L11 e a wd0 wn0 wf0 vf0 ch0 po0 st0 T0 ⟨rfl, by omega, by omega, hT0, by omega, by omega, by omega⟩
