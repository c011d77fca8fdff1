/-! CONTRACTS: Tokens -/
theorem pu_off_s (T : List (Nat × List Int32)) (i : Nat) : pu_off T (i + 1) = pu_off T i + (T.getD i (0, [])).2.length := rfl
theorem pu_off_in {T : List (Nat × List Int32)} {i : Nat} (h : i < T.length) : pu_off T i + (T.getD i (0, [])).2.length ≤ pu_off T T.length := pu_off_mono T (i + 1) T.length h
theorem pu_eq_of {L M : List Int32} (hl : L.length = M.length) (h : ∀ i, i < L.length → L.getD i 0 = M.getD i 0) : L = M := by
  apply List.ext_getElem hl
  intro i h1 h2
  have h3 := h i h1
  rw [List.getD_eq_getElem?_getD, List.getD_eq_getElem?_getD, List.getElem?_eq_getElem h1, List.getElem?_eq_getElem h2] at h3
  exact h3
def rm_To_clear : Room := { frames := 0, cells := 0, slots := 0, locals := 0 }
set_option maxHeartbeats 4000000 in
set_option maxRecDepth 100000 in
theorem c_To_clear (l : Launch) (g : sv_G) (rest : va_W) (hK hkc hkp hks : Nat) (ch po st : Nat → Int32) (n : Int32) : sv_Mv l y_To_clear b_To_clear 1 none rm_To_clear g [.ref hK] ((hK, .inr (4, [.ref hkc, .ref hkp, .ref hks, .int n])) :: (hkc, .inl (g.2.1 0, 8192, .inl ch)) :: (hkp, .inl (g.2.1 0, 8192, .inl po)) :: (hks, .inl (g.2.1 0, 8193, .inl st)) :: rest) (fun w => w = ((hK, .inr (4, [.ref hkc, .ref hkp, .ref hks, .int (nI 0)])) :: (hkc, .inl (g.2.1 0, 8192, .inl ch)) :: (hkp, .inl (g.2.1 0, 8192, .inl po)) :: (hks, .inl (g.2.1 0, 8193, .inl st)) :: rest)) := by
  refine sv_enter_v (by decide) rfl rfl (Nat.le_of_ble_eq_true rfl) (fun X C hI hr => ?_)
  refine sv_lvE (lv' := [some _]) rfl ?_
  refine sv_aload_n C rfl rfl d_To_clear_0 ?_
  refine sv_iconst C (v := 0) (by decide) d_To_clear_1 ?_
  refine sv_put C fp_To_7 0 rfl rfl rfl (Nat.le_of_ble_eq_true rfl) ((_, .inr (_, [_, _, _, _])) :: _ :: _ :: _ :: _) rfl d_To_clear_2 ?_
  exact hr _ _ _ d_To_clear_5 rfl

def rm_To_has : Room := { frames := 0, cells := 0, slots := 0, locals := 0 }
set_option maxHeartbeats 4000000 in
set_option maxRecDepth 100000 in
theorem c_To_has (l : Launch) (g : sv_G) (rest : va_W) (hK hkc hkp hks : Nat) (ch po st : Nat → Int32) (T : List (Nat × List Int32)) (hT : pu_Tok ch po st T) (hn : T.length ≤ 8192) (ho : pu_off T T.length ≤ 8192) (i : Int32) : sv_Mi l y_To_has b_To_has 2 (some (.boolean)) rm_To_has g [.ref hK, .int i] ((hK, .inr (4, [.ref hkc, .ref hkp, .ref hks, .int (nI T.length)])) :: (hkc, .inl (g.2.1 0, 8192, .inl ch)) :: (hkp, .inl (g.2.1 0, 8192, .inl po)) :: (hks, .inl (g.2.1 0, 8193, .inl st)) :: rest) (fun r w => r = (if 0 ≤ i.toInt ∧ i.toInt < T.length then 1 else 0) ∧ w = ((hK, .inr (4, [.ref hkc, .ref hkp, .ref hks, .int (nI T.length)])) :: (hkc, .inl (g.2.1 0, 8192, .inl ch)) :: (hkp, .inl (g.2.1 0, 8192, .inl po)) :: (hks, .inl (g.2.1 0, 8193, .inl st)) :: rest)) := by
  have e := nI_toInt (n := T.length) (by omega)
  refine sv_enter_i (by decide) rfl rfl (Nat.le_of_ble_eq_true rfl) (fun X C hI hr => ?_)
  refine sv_lvE (lv' := [some _, some _]) rfl ?_
  refine sv_iload_n C rfl rfl d_To_has_0 ?_
  refine sv_ifZ_lt C 16 (by decide) d_To_has_1 (fun c1 => ?_) (fun c1 => ?_)
  · skip
    refine sv_iconst C (v := 0) (by decide) d_To_has_16 ?_
    exact hr _ _ _ _ d_To_has_17 rfl ⟨(if_neg (by omega)).symm, rfl⟩
  · skip
    refine sv_iload_n C rfl rfl d_To_has_4 ?_
    refine sv_aload_n C rfl rfl d_To_has_5 ?_
    refine sv_get C fg_To_7 0 rfl rfl d_To_has_6 ?_
    refine sv_icmp_ge C 16 (by decide) d_To_has_9 (fun c9 => ?_) (fun c9 => ?_)
    · skip
      rw [Int32.le_iff_toInt_le, e] at c9
      refine sv_iconst C (v := 0) (by decide) d_To_has_16 ?_
      exact hr _ _ _ _ d_To_has_17 rfl ⟨(if_neg (by omega)).symm, rfl⟩
    · skip
      rw [Int32.le_iff_toInt_le, e] at c9
      refine sv_iconst C (v := 1) (by decide) d_To_has_12 ?_
      refine sv_goto C 17 (by decide) d_To_has_13 ?_
      exact hr _ _ _ _ d_To_has_17 rfl ⟨(if_pos (by omega)).symm, rfl⟩

def rm_To_lengthOf : Room := { frames := 0, cells := 0, slots := 0, locals := 0 }
set_option maxHeartbeats 4000000 in
set_option maxRecDepth 100000 in
theorem c_To_lengthOf (l : Launch) (g : sv_G) (rest : va_W) (hK hkc hkp hks : Nat) (ch po st : Nat → Int32) (T : List (Nat × List Int32)) (hT : pu_Tok ch po st T) (hn : T.length ≤ 8192) (ho : pu_off T T.length ≤ 8192) (i : Nat) (hi : i < T.length) : sv_Mi l y_To_lengthOf b_To_lengthOf 2 (some (.int)) rm_To_lengthOf g [.ref hK, .int (nI i)] ((hK, .inr (4, [.ref hkc, .ref hkp, .ref hks, .int (nI T.length)])) :: (hkc, .inl (g.2.1 0, 8192, .inl ch)) :: (hkp, .inl (g.2.1 0, 8192, .inl po)) :: (hks, .inl (g.2.1 0, 8193, .inl st)) :: rest) (fun r w => r = nI (T.getD i (0, [])).2.length ∧ w = ((hK, .inr (4, [.ref hkc, .ref hkp, .ref hks, .int (nI T.length)])) :: (hkc, .inl (g.2.1 0, 8192, .inl ch)) :: (hkp, .inl (g.2.1 0, 8192, .inl po)) :: (hks, .inl (g.2.1 0, 8193, .inl st)) :: rest)) := by
  have e := pu_off_s T i
  refine sv_enter_i (by decide) rfl rfl (Nat.le_of_ble_eq_true rfl) (fun X C hI hr => ?_)
  refine sv_lvE (lv' := [some _, some _]) rfl ?_
  refine sv_aload_n C rfl rfl d_To_lengthOf_0 ?_
  refine sv_get C fg_To_20 0 rfl rfl d_To_lengthOf_1 ?_
  refine sv_iload_n C rfl rfl d_To_lengthOf_4 ?_
  refine sv_iconst C (v := 1) (by decide) d_To_lengthOf_5 ?_
  refine sv_iaddN C _ 1  d_To_lengthOf_6 ?_
  refine sv_ialdN C _ 3 rfl (by omega) (by decide) d_To_lengthOf_7 ?_
  refine sv_eqi (hT.1 (i + 1) (by omega)) ?_
  refine sv_aload_n C rfl rfl d_To_lengthOf_8 ?_
  refine sv_get C fg_To_20 0 rfl rfl d_To_lengthOf_9 ?_
  refine sv_iload_n C rfl rfl d_To_lengthOf_12 ?_
  refine sv_ialdN C _ 3 rfl (by omega) (by decide) d_To_lengthOf_13 ?_
  refine sv_eqi (hT.1 i (by omega)) ?_
  refine sv_isubN C _ _ (by omega) d_To_lengthOf_14 ?_
  exact hr _ _ _ _ d_To_lengthOf_15 rfl ⟨congrArg nI (by omega), rfl⟩

def rm_To_areAlike : Room := { frames := 1, cells := 0, slots := 0, locals := 21 }
set_option maxHeartbeats 4000000 in
set_option maxRecDepth 100000 in
theorem c_To_areAlike (l : Launch) (g : sv_G) (rest : va_W) (hK hkc hkp hks : Nat) (ch po st : Nat → Int32) (T : List (Nat × List Int32)) (hT : pu_Tok ch po st T) (hn : T.length ≤ 8192) (ho : pu_off T T.length ≤ 8192) (i j : Nat) (hi : i < T.length) (hj : j < T.length) : sv_Mi l y_To_areAlike b_To_areAlike 5 (some (.boolean)) rm_To_areAlike g [.ref hK, .int (nI i), .int (nI j)] ((hK, .inr (4, [.ref hkc, .ref hkp, .ref hks, .int (nI T.length)])) :: (hkc, .inl (g.2.1 0, 8192, .inl ch)) :: (hkp, .inl (g.2.1 0, 8192, .inl po)) :: (hks, .inl (g.2.1 0, 8193, .inl st)) :: rest) (fun r w => r = (if (T.getD i (0, [])).2 = (T.getD j (0, [])).2 then 1 else 0) ∧ w = ((hK, .inr (4, [.ref hkc, .ref hkp, .ref hks, .int (nI T.length)])) :: (hkc, .inl (g.2.1 0, 8192, .inl ch)) :: (hkp, .inl (g.2.1 0, 8192, .inl po)) :: (hks, .inl (g.2.1 0, 8193, .inl st)) :: rest)) := by
  have ei := pu_off_in hi
  have ej := pu_off_in hj
  refine sv_enter_i (by decide) rfl rfl (Nat.le_of_ble_eq_true rfl) (fun X C hI hr => ?_)
  refine sv_lvE (lv' := [some _, some _, some _, none, none]) rfl ?_
  have L20 : ∀ (k : Nat) (q : Nat), ((T.getD i (0, [])).2.length = (T.getD j (0, [])).2.length ∧ q ≤ (T.getD i (0, [])).2.length ∧ (T.getD i (0, [])).2.length ≤ q + k ∧ ∀ m, m < q → (T.getD i (0, [])).2.getD m 0 = (T.getD j (0, [])).2.getD m 0) → sv_V X 5 0 0 ((hK, .inr (4, [.ref hkc, .ref hkp, .ref hks, .int (nI T.length)])) :: (hkc, .inl (g.2.1 0, 8192, .inl ch)) :: (hkp, .inl (g.2.1 0, 8192, .inl po)) :: (hks, .inl (g.2.1 0, 8193, .inl st)) :: rest) 20 [some (.ref hK), some (.int (nI i)), some (.int (nI j)), some (.int (nI (T.getD i (0, [])).2.length)), some (.int (nI q))] [] := by
    intro k
    induction k with
    | zero =>
      intro q hq
      obtain ⟨q1, q2, q3, q4⟩ := hq
      refine sv_iload C rfl d_To_areAlike_20 ?_
      refine sv_iload_n C rfl rfl d_To_areAlike_22 ?_
      refine sv_icmpN_ge C _ _ (by omega) (by omega) 65 (by decide) d_To_areAlike_23 (fun c23 => ?_) (fun c23 => ?_)
      · skip
        refine sv_iconst C (v := 1) (by decide) d_To_areAlike_65 ?_
        exact hr _ _ _ _ d_To_areAlike_66 rfl ⟨(if_pos (pu_eq_of q1 (fun m hm => q4 m (by omega)))).symm, rfl⟩
      · skip
        exact absurd c23 (by omega)
    | succ k ih =>
      intro q hq
      obtain ⟨q1, q2, q3, q4⟩ := hq
      refine sv_iload C rfl d_To_areAlike_20 ?_
      refine sv_iload_n C rfl rfl d_To_areAlike_22 ?_
      refine sv_icmpN_ge C _ _ (by omega) (by omega) 65 (by decide) d_To_areAlike_23 (fun c23 => ?_) (fun c23 => ?_)
      · skip
        refine sv_iconst C (v := 1) (by decide) d_To_areAlike_65 ?_
        exact hr _ _ _ _ d_To_areAlike_66 rfl ⟨(if_pos (pu_eq_of q1 (fun m hm => q4 m (by omega)))).symm, rfl⟩
      · skip
        refine sv_aload_n C rfl rfl d_To_areAlike_26 ?_
        refine sv_get C fg_To_13 0 rfl rfl d_To_areAlike_27 ?_
        refine sv_aload_n C rfl rfl d_To_areAlike_30 ?_
        refine sv_get C fg_To_20 0 rfl rfl d_To_areAlike_31 ?_
        refine sv_iload_n C rfl rfl d_To_areAlike_34 ?_
        refine sv_ialdN C _ 3 rfl (by omega) (by decide) d_To_areAlike_35 ?_
        refine sv_eqi (hT.1 i (by omega)) ?_
        refine sv_iload C rfl d_To_areAlike_36 ?_
        refine sv_iaddN C _ _  d_To_areAlike_38 ?_
        refine sv_ialdN C _ 1 rfl (by omega) (by decide) d_To_areAlike_39 ?_
        refine sv_eqi (hT.2.2 i hi q (by omega)) ?_
        refine sv_aload_n C rfl rfl d_To_areAlike_40 ?_
        refine sv_get C fg_To_13 0 rfl rfl d_To_areAlike_41 ?_
        refine sv_aload_n C rfl rfl d_To_areAlike_44 ?_
        refine sv_get C fg_To_20 0 rfl rfl d_To_areAlike_45 ?_
        refine sv_iload_n C rfl rfl d_To_areAlike_48 ?_
        refine sv_ialdN C _ 3 rfl (by omega) (by decide) d_To_areAlike_49 ?_
        refine sv_eqi (hT.1 j (by omega)) ?_
        refine sv_iload C rfl d_To_areAlike_50 ?_
        refine sv_iaddN C _ _  d_To_areAlike_52 ?_
        refine sv_ialdN C _ 1 rfl (by omega) (by decide) d_To_areAlike_53 ?_
        refine sv_eqi (hT.2.2 j hj q (by omega)) ?_
        refine sv_icmp_eq C 59 (by decide) d_To_areAlike_54 (fun c54 => ?_) (fun c54 => ?_)
        · skip
          refine sv_iincN C 1 _ rfl [some _, some _, some _, some _, some _] rfl d_To_areAlike_59 ?_
          refine sv_goto C 20 (by decide) d_To_areAlike_62 ?_
          exact ih (q + 1) ⟨q1, by omega, by omega, fun m hm => by
            rcases Nat.lt_or_ge m q with h | h
            · exact q4 m h
            · have hmq : m = q := by omega
              subst hmq
              exact c54⟩
        · skip
          refine sv_iconst C (v := 0) (by decide) d_To_areAlike_57 ?_
          exact hr _ _ _ _ d_To_areAlike_58 rfl ⟨(if_neg (fun z => c54 (by rw [z]))).symm, rfl⟩
  refine sv_aload_n C rfl rfl d_To_areAlike_0 ?_
  refine sv_iload_n C rfl rfl d_To_areAlike_1 ?_
  refine sv_callVi C (c_To_lengthOf l g rest hK hkc hkp hks ch po st T hT hn ho i (by omega)) lk_To_39 List.mem_cons_self rfl d_To_areAlike_2 (by decide) (Nat.le_of_ble_eq_true rfl) (by decide) (fun r w hw => ?_)
  obtain ⟨rfl, rfl⟩ := hw
  refine sv_istore_n C rfl (by decide) [some _, some _, some _, some _, none] rfl d_To_areAlike_5 ?_
  refine sv_iload_n C rfl rfl d_To_areAlike_6 ?_
  refine sv_aload_n C rfl rfl d_To_areAlike_7 ?_
  refine sv_iload_n C rfl rfl d_To_areAlike_8 ?_
  refine sv_callVi C (c_To_lengthOf l g rest hK hkc hkp hks ch po st T hT hn ho j (by omega)) lk_To_39 List.mem_cons_self rfl d_To_areAlike_9 (by decide) (Nat.le_of_ble_eq_true rfl) (by decide) (fun r w hw => ?_)
  obtain ⟨rfl, rfl⟩ := hw
  refine sv_icmpN_eq C _ _ (by omega) (by omega) 17 (by decide) d_To_areAlike_12 (fun c12 => ?_) (fun c12 => ?_)
  · skip
    refine sv_iconst C (v := 0) (by decide) d_To_areAlike_17 ?_
    refine sv_istore C (by decide) [some _, some _, some _, some _, some _] rfl d_To_areAlike_18 ?_
    exact L20 (T.getD i (0, [])).2.length 0 ⟨c12, by omega, by omega, fun m hm => absurd hm (Nat.not_lt_zero m)⟩
  · skip
    refine sv_iconst C (v := 0) (by decide) d_To_areAlike_15 ?_
    exact hr _ _ _ _ d_To_areAlike_16 rfl ⟨(if_neg (fun z => c12 (by rw [z]))).symm, rfl⟩

def rm_To_firstLike : Room := { frames := 2, cells := 0, slots := 0, locals := 45 }
set_option maxHeartbeats 4000000 in
set_option maxRecDepth 100000 in
theorem c_To_firstLike (l : Launch) (g : sv_G) (rest : va_W) (hK hkc hkp hks : Nat) (ch po st : Nat → Int32) (T : List (Nat × List Int32)) (hT : pu_Tok ch po st T) (hn : T.length ≤ 8192) (ho : pu_off T T.length ≤ 8192) (i : Nat) (hi : i < T.length) : sv_Mi l y_To_firstLike b_To_firstLike 3 (some (.int)) rm_To_firstLike g [.ref hK, .int (nI i)] ((hK, .inr (4, [.ref hkc, .ref hkp, .ref hks, .int (nI T.length)])) :: (hkc, .inl (g.2.1 0, 8192, .inl ch)) :: (hkp, .inl (g.2.1 0, 8192, .inl po)) :: (hks, .inl (g.2.1 0, 8193, .inl st)) :: rest) (fun r w => r = nI (pu_first T i i 0) ∧ w = ((hK, .inr (4, [.ref hkc, .ref hkp, .ref hks, .int (nI T.length)])) :: (hkc, .inl (g.2.1 0, 8192, .inl ch)) :: (hkp, .inl (g.2.1 0, 8192, .inl po)) :: (hks, .inl (g.2.1 0, 8193, .inl st)) :: rest)) := by
  refine sv_enter_i (by decide) rfl rfl (Nat.le_of_ble_eq_true rfl) (fun X C hI hr => ?_)
  refine sv_lvE (lv' := [some _, some _, none]) rfl ?_
  have L2 : ∀ (k : Nat) (j : Nat), (j + k = i ∧ pu_first T i i 0 = pu_first T i k j) → sv_V X 3 0 0 ((hK, .inr (4, [.ref hkc, .ref hkp, .ref hks, .int (nI T.length)])) :: (hkc, .inl (g.2.1 0, 8192, .inl ch)) :: (hkp, .inl (g.2.1 0, 8192, .inl po)) :: (hks, .inl (g.2.1 0, 8193, .inl st)) :: rest) 2 [some (.ref hK), some (.int (nI i)), some (.int (nI j))] [] := by
    intro k
    induction k with
    | zero =>
      intro j hq
      obtain ⟨q1, q2⟩ := hq
      refine sv_iload_n C rfl rfl d_To_firstLike_2 ?_
      refine sv_iload_n C rfl rfl d_To_firstLike_3 ?_
      refine sv_icmpN_ge C _ _ (by omega) (by omega) 24 (by decide) d_To_firstLike_4 (fun c4 => ?_) (fun c4 => ?_)
      · skip
        refine sv_iload_n C rfl rfl d_To_firstLike_24 ?_
        exact hr _ _ _ _ d_To_firstLike_25 rfl ⟨congrArg nI (by rw [q2, pu_first]; omega), rfl⟩
      · skip
        exact absurd c4 (by omega)
    | succ k ih =>
      intro j hq
      obtain ⟨q1, q2⟩ := hq
      refine sv_iload_n C rfl rfl d_To_firstLike_2 ?_
      refine sv_iload_n C rfl rfl d_To_firstLike_3 ?_
      refine sv_icmpN_ge C _ _ (by omega) (by omega) 24 (by decide) d_To_firstLike_4 (fun c4 => ?_) (fun c4 => ?_)
      · skip
        exact absurd c4 (by omega)
      · skip
        refine sv_aload_n C rfl rfl d_To_firstLike_7 ?_
        refine sv_iload_n C rfl rfl d_To_firstLike_8 ?_
        refine sv_iload_n C rfl rfl d_To_firstLike_9 ?_
        refine sv_callVi C (c_To_areAlike l g rest hK hkc hkp hks ch po st T hT hn ho j i (by omega) hi) lk_To_35 List.mem_cons_self rfl d_To_firstLike_10 (by decide) (Nat.le_of_ble_eq_true rfl) (by decide) (fun r w hw => ?_)
        obtain ⟨rfl, rfl⟩ := hw
        refine sv_ifB_eq C _ 18 (by decide) d_To_firstLike_13 (fun c13 => ?_) (fun c13 => ?_)
        · skip
          refine sv_iincN C 1 _ rfl [some _, some _, some _] rfl d_To_firstLike_18 ?_
          refine sv_goto C 2 (by decide) d_To_firstLike_21 ?_
          exact ih (j + 1) ⟨by omega, by rw [q2, pu_first, if_neg c13]⟩
        · skip
          refine sv_iload_n C rfl rfl d_To_firstLike_16 ?_
          exact hr _ _ _ _ d_To_firstLike_17 rfl ⟨congrArg nI (by rw [q2, pu_first, if_pos c13]), rfl⟩
  refine sv_iconst C (v := 0) (by decide) d_To_firstLike_0 ?_
  refine sv_istore_n C rfl (by decide) [some _, some _, some _] rfl d_To_firstLike_1 ?_
  exact L2 i 0 ⟨by omega, rfl⟩

def rm_To_add : Room := { frames := 1, cells := 0, slots := 0, locals := 80 }
set_option maxHeartbeats 4000000 in
set_option maxRecDepth 100000 in
theorem c_To_add (l : Launch) (g : sv_G) (rest : va_W) (hK hkc hkp hks : Nat) (ch po st : Nat → Int32) (T : List (Nat × List Int32)) (hT : pu_Tok ch po st T) (hn : T.length < 8192) (hW hwc p : Nat) (f : Nat → Int32) (L : List Int32) (hL : L.length ≤ 255) (hf : pr_W f L) (hp : p < 2 ^ 30) (ho : pu_off T T.length + L.length ≤ 8192) : sv_Mv l y_To_add b_To_add 4 none rm_To_add g [.ref hK, .ref hW, .int (nI p)] ((hK, .inr (4, [.ref hkc, .ref hkp, .ref hks, .int (nI T.length)])) :: (hkc, .inl (g.2.1 0, 8192, .inl ch)) :: (hkp, .inl (g.2.1 0, 8192, .inl po)) :: (hks, .inl (g.2.1 0, 8193, .inl st)) :: (hW, .inr (5, [.ref hwc, .int (nI L.length)])) :: (hwc, .inl (g.2.1 0, 255, .inl f)) :: rest) (fun w => ∃ ch2 po2 st2 : Nat → Int32, w = ((hK, .inr (4, [.ref hkc, .ref hkp, .ref hks, .int (nI (T ++ [(p, L)]).length)])) :: (hkc, .inl (g.2.1 0, 8192, .inl ch2)) :: (hkp, .inl (g.2.1 0, 8192, .inl po2)) :: (hks, .inl (g.2.1 0, 8193, .inl st2)) :: (hW, .inr (5, [.ref hwc, .int (nI L.length)])) :: (hwc, .inl (g.2.1 0, 255, .inl f)) :: rest) ∧ pu_Tok ch2 po2 st2 (T ++ [(p, L)])) := by
  refine sv_enter_v (by decide) rfl rfl (Nat.le_of_ble_eq_true rfl) (fun X C hI hr => ?_)
  refine sv_lvE (lv' := [some _, some _, some _, none]) rfl ?_
  refine sv_aload_n C rfl rfl d_To_add_0 ?_
  refine sv_get C fg_To_20 0 rfl rfl d_To_add_1 ?_
  refine sv_aload_n C rfl rfl d_To_add_4 ?_
  refine sv_get C fg_To_7 0 rfl rfl d_To_add_5 ?_
  refine sv_ialdN C _ 3 rfl (by omega) (by decide) d_To_add_8 ?_
  refine sv_eqi (hT.1 T.length (Nat.le_refl _)) ?_
  refine sv_istore_n C rfl (by decide) [some _, some _, some _, some _] rfl d_To_add_9 ?_
  refine sv_aload_n C rfl rfl d_To_add_10 ?_
  refine sv_get C fg_To_23 4 rfl rfl d_To_add_11 ?_
  refine sv_iconst C (v := 0) (by decide) d_To_add_14 ?_
  refine sv_aload_n C rfl rfl d_To_add_15 ?_
  refine sv_get C fg_To_13 0 rfl rfl d_To_add_16 ?_
  refine sv_iload_n C rfl rfl d_To_add_19 ?_
  refine sv_aload_n C rfl rfl d_To_add_20 ?_
  refine sv_get C fg_To_26 4 rfl rfl d_To_add_21 ?_
  refine sv_copyN C 0 (pu_off T T.length) L.length wa_To wa_2 wa_3 wa_4 5 1 rfl rfl (by omega) (by omega) (by decide) (by decide) (by decide) (Nat.le_of_ble_eq_true rfl) (_ :: _ :: _ :: _ :: _ :: _ :: _) rfl d_To_add_24 ?_
  refine sv_aload_n C rfl rfl d_To_add_27 ?_
  refine sv_get C fg_To_17 0 rfl rfl d_To_add_28 ?_
  refine sv_aload_n C rfl rfl d_To_add_31 ?_
  refine sv_get C fg_To_7 0 rfl rfl d_To_add_32 ?_
  refine sv_iload_n C rfl rfl d_To_add_35 ?_
  refine sv_iastN C _ 2 rfl (by omega) (by decide) (_ :: _ :: _ :: _ :: _ :: _ :: _) rfl d_To_add_36 ?_
  refine sv_aload_n C rfl rfl d_To_add_37 ?_
  refine sv_dup C rfl d_To_add_38 ?_
  refine sv_get C fg_To_7 0 rfl rfl d_To_add_39 ?_
  refine sv_iconst C (v := 1) (by decide) d_To_add_42 ?_
  refine sv_iaddN C _ 1  d_To_add_43 ?_
  refine sv_put C fp_To_7 0 rfl rfl rfl (Nat.le_of_ble_eq_true rfl) ((_, .inr (_, [_, _, _, _])) :: _ :: _ :: _ :: _ :: _ :: _) rfl d_To_add_44 ?_
  refine sv_aload_n C rfl rfl d_To_add_47 ?_
  refine sv_get C fg_To_20 0 rfl rfl d_To_add_48 ?_
  refine sv_aload_n C rfl rfl d_To_add_51 ?_
  refine sv_get C fg_To_7 0 rfl rfl d_To_add_52 ?_
  refine sv_iload_n C rfl rfl d_To_add_55 ?_
  refine sv_aload_n C rfl rfl d_To_add_56 ?_
  refine sv_get C fg_To_26 4 rfl rfl d_To_add_57 ?_
  refine sv_iaddN C _ _  d_To_add_60 ?_
  refine sv_iastN C _ 3 rfl (by omega) (by decide) (_ :: _ :: _ :: _ :: _ :: _ :: _) rfl d_To_add_61 ?_
  refine hr _ _ _ d_To_add_62 ⟨_, _, _, by rw [List.length_append]; rfl, pu_Tok_add hT p L (fun i hi => pk_un (by omega)) pk_us (fun i hi => pk_un (by omega)) pk_us (fun i hi => pk_cpy_out (Or.inl hi)) (fun k hk => ?_)⟩
  rw [pk_cpy_in (Nat.le_add_right _ _) (by omega), Nat.add_sub_cancel_left, Nat.zero_add]
  exact hf k hk
