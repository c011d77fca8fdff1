/-! CONTRACTS: Word -/
section SVN2
variable {X : sv_X} {l : Launch} {cc : ByteArray} {nL k n pc : Nat} {own : String} {rm : Room} {g : sv_G} {ws : va_W} {lv : List (Option Value)} {st : List Value}
theorem sv_copyN (C : sv_C X l cc nL own rm g) {ix a a0 n0 n1 : Nat} {f h : Nat → Int32} (sp dp len : Nat) (w1 : Cond.methodLink own ix arraycopyName ∈ sv_tbl) (w2 : Cond.native arraycopyName ∈ sv_tbl) (w3 : Cond.static arraycopyName ∈ sv_tbl) (w4 : Cond.initialized "java/lang/System" ∈ sv_tbl) (q0 q1 : Nat) (ha0 : ws[q0]? = some (a0, .inl (g.2.1 0, n0, .inl f))) (ha1 : ws[q1]? = some (a, .inl (g.2.1 0, n1, .inl h))) (h4 : sp + len ≤ n0) (h5 : dp + len ≤ n1) (b0 : n0 < 2 ^ 31) (b1 : n1 < 2 ^ 31) (hf : 1 ≤ rm.frames) (hlo : (st.map fun v => v.category).sum + (nativeFrameWords "java/lang/System" "arraycopy" 5 + 11) ≤ rm.locals) (ws' : va_W) (hws : ws.set q1 (a, .inl (g.2.1 0, n1, .inl (va_cpy f h sp dp len))) = ws') (hd : decode cc pc = .ok (.invokestatic ix, 3)) (z : sv_V X nL k n ws' (pc + 3) lv st) : sv_V X nL k n ws pc lv (.int (nI len) :: .int (nI dp) :: .ref a :: .int (nI sp) :: .ref a0 :: st) := sv_copyi C w1 w2 w3 w4 q0 q1 ha0 ha1 (nI_pos (by omega)) (nI_pos (by omega)) (nI_pos (by omega)) (by rw [nI_clamp (by omega), nI_clamp (by omega)]; exact h4) (by rw [nI_clamp (by omega), nI_clamp (by omega)]; exact h5) hf hlo ws' (by rw [nI_clamp (by omega), nI_clamp (by omega), nI_clamp (by omega)]; exact hws) hd z
end SVN2
/-- the row f holds the word L -/
def pr_W (f : Nat → Int32) (L : List Int32) : Prop := ∀ i, i < L.length → f i = L.getD i 0
theorem pr_take {f : Nat → Int32} {L : List Int32} (h : pr_W f L) (k : Nat) : pr_W f (L.take k) := by
  intro i hi
  rw [List.length_take] at hi
  rw [h i (by omega), List.getD_eq_getElem?_getD, List.getD_eq_getElem?_getD, List.getElem?_take_of_lt (by omega)]
theorem pr_own {f : Nat → Int32} {L : List Int32} (h : pr_W f L) : pr_W f (pu_own L) := by
  unfold pu_own
  split
  · exact pr_take h _
  · exact h
theorem pr_slice {t f2 : Nat → Int32} {a s : Nat} (h : ∀ i, i < s → f2 i = t (a + i)) : pr_W f2 (pu_slice t a s) := by
  intro i hi
  rw [pu_slice_len] at hi
  rw [pu_slice_get t hi, h i hi]
theorem pu_mem {L : List Int32} {i : Nat} (h : i < L.length) : L.getD i 0 ∈ L := by
  rw [List.getD_eq_getElem?_getD, List.getElem?_eq_getElem h]
  exact List.getElem_mem _
theorem pu_small_of {L : List Int32} (h : ∀ i, i < L.length → 97 ≤ (L.getD i 0).toInt ∧ (L.getD i 0).toInt ≤ 122) : pu_small L := by
  intro c hc
  obtain ⟨i, hi⟩ := List.getElem?_of_mem hc
  have h1 := h i (List.getElem?_eq_some_iff.mp hi).1
  rw [List.getD_eq_getElem?_getD, hi] at h1
  exact h1
theorem pu_ends_of {L t : List Int32} (hl : t.length ≤ L.length) (h : ∀ i, i < t.length → L.getD (L.length - t.length + i) 0 = t.getD i 0) : pu_ends L t := by
  refine ⟨hl, ?_⟩
  apply List.ext_getElem
  · rw [List.length_drop]; omega
  · intro i h1 h2
    have h3 := h i h2
    rw [List.getD_eq_getElem?_getD, List.getD_eq_getElem?_getD, List.getElem?_eq_getElem (by omega), List.getElem?_eq_getElem h2] at h3
    rw [List.getElem_drop]
    exact h3
theorem pu_ends_at {L t : List Int32} (h : pu_ends L t) {i : Nat} (hi : i < t.length) : L.getD (L.length - t.length + i) 0 = t.getD i 0 := by
  obtain ⟨h1, h2⟩ := h
  have h3 : (L.drop (L.length - t.length))[i]? = t[i]? := by rw [h2]
  rw [List.getElem?_drop] at h3
  rw [List.getD_eq_getElem?_getD, List.getD_eq_getElem?_getD, h3]
theorem pu_dec (m : Nat) : nI m + Int32.ofInt (-1) = nI m - 1 := by
  apply Int32.toBitVec_inj.mp
  show BitVec.ofNat 32 m + BitVec.ofInt 32 (-1) = BitVec.ofNat 32 m - 1#32
  rw [BitVec.sub_eq_add_neg]
  rfl
theorem pu_subI {j : Nat} (h : j < 2 ^ 30) : (nI j - 1).toInt = (j : Int) - 1 := pk_sub_toInt (b := 1) h (by decide)
theorem pr_snoc {f : Nat → Int32} {L : List Int32} {n : Nat} {c : Int32} (hn : n = L.length) (h : pr_W f L) : pr_W (upd f n c) (L ++ [c]) := by
  subst hn
  intro i hi
  rw [List.length_append, List.length_singleton] at hi
  rcases Nat.lt_or_ge i L.length with h1 | h1
  · rw [pk_un (by omega), h i h1, List.getD_eq_getElem?_getD, List.getD_eq_getElem?_getD, List.getElem?_append_left h1]
  · have : i = L.length := by omega
    subst this
    rw [pk_us, List.getD_eq_getElem?_getD, List.getElem?_append_right (Nat.le_refl _), Nat.sub_self]
    rfl
theorem pu_take_snoc {t : List Int32} {j : Nat} (h : j < t.length) : t.take (j + 1) = t.take j ++ [t.getD j 0] := by
  rw [List.take_succ, List.getElem?_eq_getElem h, List.getD_eq_getElem?_getD, List.getElem?_eq_getElem h]
  rfl
def rm_Wo_lowered : Room := { frames := 0, cells := 0, slots := 0, locals := 0 }
set_option maxHeartbeats 4000000 in
set_option maxRecDepth 100000 in
theorem c_Wo_lowered (l : Launch) (g : sv_G) (ws : va_W) (c : Int32) : sv_Mi l y_Wo_lowered b_Wo_lowered 1 (some (.int)) rm_Wo_lowered g [.int c] ws (fun r w => r = pu_low c ∧ w = ws) := by
  refine sv_enter_i (by decide) rfl rfl (Nat.le_of_ble_eq_true rfl) (fun X C hI hr => ?_)
  refine sv_lvE (lv' := [some _]) rfl ?_
  have j68 : ((65 ≤ c.toInt ∧ c.toInt ≤ 90) ∨ (192 ≤ c.toInt ∧ c.toInt ≤ 222 ∧ c.toInt ≠ 215) ∨ (913 ≤ c.toInt ∧ c.toInt ≤ 939 ∧ c.toInt ≠ 930) ∨ (1040 ≤ c.toInt ∧ c.toInt ≤ 1071)) → sv_V X 1 0 0 ws 68 [some (.int c)] [] := by
    intro hj
    refine sv_iload_n C rfl rfl d_Wo_lowered_68 ?_
    refine sv_bipush C (v := 32) (by decide) d_Wo_lowered_69 ?_
    refine sv_iadd C d_Wo_lowered_71 ?_
    exact hr _ _ _ _ d_Wo_lowered_72 rfl ⟨(if_pos hj).symm, rfl⟩
  have j73 : (¬ (65 ≤ c.toInt ∧ c.toInt ≤ 90) ∧ ¬ (192 ≤ c.toInt ∧ c.toInt ≤ 222 ∧ c.toInt ≠ 215) ∧ ¬ (913 ≤ c.toInt ∧ c.toInt ≤ 939 ∧ c.toInt ≠ 930) ∧ ¬ (1040 ≤ c.toInt ∧ c.toInt ≤ 1071)) → sv_V X 1 0 0 ws 73 [some (.int c)] [] := by
    intro hj
    refine sv_iload_n C rfl rfl d_Wo_lowered_73 ?_
    refine sv_sipush C (v := 1024) (by decide) d_Wo_lowered_74 ?_
    refine sv_icmpK_lt C (1024) (by decide) 94 (by decide) d_Wo_lowered_77 (fun c77 => ?_) (fun c77 => ?_)
    · skip
      refine sv_iload_n C rfl rfl d_Wo_lowered_94 ?_
      exact hr _ _ _ _ d_Wo_lowered_95 rfl ⟨((if_neg (by omega)).trans (by first | rw [if_pos (by omega)] | rw [if_neg (by omega)])).symm, rfl⟩
    · skip
      refine sv_iload_n C rfl rfl d_Wo_lowered_80 ?_
      refine sv_sipush C (v := 1039) (by decide) d_Wo_lowered_81 ?_
      refine sv_icmpK_gt C (1039) (by decide) 94 (by decide) d_Wo_lowered_84 (fun c84 => ?_) (fun c84 => ?_)
      · skip
        refine sv_iload_n C rfl rfl d_Wo_lowered_94 ?_
        exact hr _ _ _ _ d_Wo_lowered_95 rfl ⟨((if_neg (by omega)).trans (by first | rw [if_pos (by omega)] | rw [if_neg (by omega)])).symm, rfl⟩
      · skip
        refine sv_iload_n C rfl rfl d_Wo_lowered_87 ?_
        refine sv_bipush C (v := 80) (by decide) d_Wo_lowered_88 ?_
        refine sv_iadd C d_Wo_lowered_90 ?_
        refine sv_goto C 95 (by decide) d_Wo_lowered_91 ?_
        exact hr _ _ _ _ d_Wo_lowered_95 rfl ⟨((if_neg (by omega)).trans (by first | rw [if_pos (by omega)] | rw [if_neg (by omega)])).symm, rfl⟩
  have j54 : (¬ (65 ≤ c.toInt ∧ c.toInt ≤ 90) ∧ ¬ (192 ≤ c.toInt ∧ c.toInt ≤ 222 ∧ c.toInt ≠ 215) ∧ ¬ (913 ≤ c.toInt ∧ c.toInt ≤ 939 ∧ c.toInt ≠ 930)) → sv_V X 1 0 0 ws 54 [some (.int c)] [] := by
    intro hj
    refine sv_iload_n C rfl rfl d_Wo_lowered_54 ?_
    refine sv_sipush C (v := 1040) (by decide) d_Wo_lowered_55 ?_
    refine sv_icmpK_lt C (1040) (by decide) 73 (by decide) d_Wo_lowered_58 (fun c58 => ?_) (fun c58 => ?_)
    · skip
      exact j73 (by omega)
    · skip
      refine sv_iload_n C rfl rfl d_Wo_lowered_61 ?_
      refine sv_sipush C (v := 1071) (by decide) d_Wo_lowered_62 ?_
      refine sv_icmpK_gt C (1071) (by decide) 73 (by decide) d_Wo_lowered_65 (fun c65 => ?_) (fun c65 => ?_)
      · skip
        exact j73 (by omega)
      · skip
        exact j68 (by omega)
  have j33 : (¬ (65 ≤ c.toInt ∧ c.toInt ≤ 90) ∧ ¬ (192 ≤ c.toInt ∧ c.toInt ≤ 222 ∧ c.toInt ≠ 215)) → sv_V X 1 0 0 ws 33 [some (.int c)] [] := by
    intro hj
    refine sv_iload_n C rfl rfl d_Wo_lowered_33 ?_
    refine sv_sipush C (v := 913) (by decide) d_Wo_lowered_34 ?_
    refine sv_icmpK_lt C (913) (by decide) 54 (by decide) d_Wo_lowered_37 (fun c37 => ?_) (fun c37 => ?_)
    · skip
      exact j54 (by omega)
    · skip
      refine sv_iload_n C rfl rfl d_Wo_lowered_40 ?_
      refine sv_sipush C (v := 939) (by decide) d_Wo_lowered_41 ?_
      refine sv_icmpK_gt C (939) (by decide) 54 (by decide) d_Wo_lowered_44 (fun c44 => ?_) (fun c44 => ?_)
      · skip
        exact j54 (by omega)
      · skip
        refine sv_iload_n C rfl rfl d_Wo_lowered_47 ?_
        refine sv_sipush C (v := 930) (by decide) d_Wo_lowered_48 ?_
        refine sv_icmpK_ne C (930) (by decide) 68 (by decide) d_Wo_lowered_51 (fun c51 => ?_) (fun c51 => ?_)
        · skip
          exact j68 (by omega)
        · skip
          exact j54 (by omega)
  have j12 : (¬ (65 ≤ c.toInt ∧ c.toInt ≤ 90)) → sv_V X 1 0 0 ws 12 [some (.int c)] [] := by
    intro hj
    refine sv_iload_n C rfl rfl d_Wo_lowered_12 ?_
    refine sv_sipush C (v := 192) (by decide) d_Wo_lowered_13 ?_
    refine sv_icmpK_lt C (192) (by decide) 33 (by decide) d_Wo_lowered_16 (fun c16 => ?_) (fun c16 => ?_)
    · skip
      exact j33 (by omega)
    · skip
      refine sv_iload_n C rfl rfl d_Wo_lowered_19 ?_
      refine sv_sipush C (v := 222) (by decide) d_Wo_lowered_20 ?_
      refine sv_icmpK_gt C (222) (by decide) 33 (by decide) d_Wo_lowered_23 (fun c23 => ?_) (fun c23 => ?_)
      · skip
        exact j33 (by omega)
      · skip
        refine sv_iload_n C rfl rfl d_Wo_lowered_26 ?_
        refine sv_sipush C (v := 215) (by decide) d_Wo_lowered_27 ?_
        refine sv_icmpK_ne C (215) (by decide) 68 (by decide) d_Wo_lowered_30 (fun c30 => ?_) (fun c30 => ?_)
        · skip
          exact j68 (by omega)
        · skip
          exact j33 (by omega)
  refine sv_iload_n C rfl rfl d_Wo_lowered_0 ?_
  refine sv_bipush C (v := 65) (by decide) d_Wo_lowered_1 ?_
  refine sv_icmpK_lt C (65) (by decide) 12 (by decide) d_Wo_lowered_3 (fun c3 => ?_) (fun c3 => ?_)
  · skip
    exact j12 (by omega)
  · skip
    refine sv_iload_n C rfl rfl d_Wo_lowered_6 ?_
    refine sv_bipush C (v := 90) (by decide) d_Wo_lowered_7 ?_
    refine sv_icmpK_le C (90) (by decide) 68 (by decide) d_Wo_lowered_9 (fun c9 => ?_) (fun c9 => ?_)
    · skip
      exact j68 (by omega)
    · skip
      exact j12 (by omega)

def rm_Wo_take : Room := { frames := 1, cells := 0, slots := 0, locals := 80 }
set_option maxHeartbeats 4000000 in
set_option maxRecDepth 100000 in
theorem c_Wo_take (l : Launch) (g : sv_G) (rest : va_W) (hW hwc hr0 a s : Nat) (n0 : Int32) (f t : Nat → Int32) (h1 : a + s ≤ 8192) (h2 : s ≤ 255) : sv_Mv l y_Wo_take b_Wo_take 4 none rm_Wo_take g [.ref hW, .ref hr0, .int (nI a), .int (nI s)] ((hW, .inr (5, [.ref hwc, .int n0])) :: (hwc, .inl (g.2.1 0, 255, .inl f)) :: (hr0, .inl (g.2.1 0, 8192, .inl t)) :: rest) (fun w => ∃ f2 : Nat → Int32, w = ((hW, .inr (5, [.ref hwc, .int (nI (pu_slice t a s).length)])) :: (hwc, .inl (g.2.1 0, 255, .inl f2)) :: (hr0, .inl (g.2.1 0, 8192, .inl t)) :: rest) ∧ pr_W f2 (pu_slice t a s)) := by
  refine sv_enter_v (by decide) rfl rfl (Nat.le_of_ble_eq_true rfl) (fun X C hI hr => ?_)
  refine sv_lvE (lv' := [some _, some _, some _, some _]) rfl ?_
  refine sv_aload_n C rfl rfl d_Wo_take_0 ?_
  refine sv_iload_n C rfl rfl d_Wo_take_1 ?_
  refine sv_aload_n C rfl rfl d_Wo_take_2 ?_
  refine sv_get C fg_Wo_13 0 rfl rfl d_Wo_take_3 ?_
  refine sv_iconst C (v := 0) (by decide) d_Wo_take_6 ?_
  refine sv_iload_n C rfl rfl d_Wo_take_7 ?_
  refine sv_copyN C a 0 s wa_Wo wa_2 wa_3 wa_4 2 1 rfl rfl h1 (by omega) (by decide) (by decide) (by decide) (Nat.le_of_ble_eq_true rfl) (_ :: _ :: _ :: _) rfl d_Wo_take_8 ?_
  refine sv_aload_n C rfl rfl d_Wo_take_11 ?_
  refine sv_iload_n C rfl rfl d_Wo_take_12 ?_
  refine sv_put C fp_Wo_7 0 rfl rfl rfl (Nat.le_of_ble_eq_true rfl) ((_, .inr (_, [_, _])) :: _ :: _ :: _) rfl d_Wo_take_13 ?_
  exact hr _ _ _ d_Wo_take_16 ⟨_, by rw [pu_slice_len], pr_slice (fun i hi => by rw [pk_cpy_in (Nat.zero_le _) (by omega)]; rfl)⟩

def rm_Wo_dropOwnersEnding : Room := { frames := 0, cells := 0, slots := 0, locals := 0 }
set_option maxHeartbeats 4000000 in
set_option maxRecDepth 100000 in
theorem c_Wo_dropOwnersEnding (l : Launch) (g : sv_G) (rest : va_W) (hW hwc : Nat) (f : Nat → Int32) (L : List Int32) (hL : L.length ≤ 255) (hf : pr_W f L) : sv_Mv l y_Wo_dropOwnersEnding b_Wo_dropOwnersEnding 3 none rm_Wo_dropOwnersEnding g [.ref hW] ((hW, .inr (5, [.ref hwc, .int (nI L.length)])) :: (hwc, .inl (g.2.1 0, 255, .inl f)) :: rest) (fun w => w = ((hW, .inr (5, [.ref hwc, .int (nI (pu_own L).length)])) :: (hwc, .inl (g.2.1 0, 255, .inl f)) :: rest)) := by
  refine sv_enter_v (by decide) rfl rfl (Nat.le_of_ble_eq_true rfl) (fun X C hI hr => ?_)
  refine sv_lvE (lv' := [some _, none, none]) rfl ?_
  refine sv_aload_n C rfl rfl d_Wo_dropOwnersEnding_0 ?_
  refine sv_get C fg_Wo_7 0 rfl rfl d_Wo_dropOwnersEnding_1 ?_
  refine sv_iconst C (v := 2) (by decide) d_Wo_dropOwnersEnding_4 ?_
  refine sv_icmpN_gt C _ 2 (by omega) (by omega) 9 (by decide) d_Wo_dropOwnersEnding_5 (fun c5 => ?_) (fun c5 => ?_)
  · skip
    refine sv_aload_n C rfl rfl d_Wo_dropOwnersEnding_9 ?_
    refine sv_get C fg_Wo_13 0 rfl rfl d_Wo_dropOwnersEnding_10 ?_
    refine sv_aload_n C rfl rfl d_Wo_dropOwnersEnding_13 ?_
    refine sv_get C fg_Wo_7 0 rfl rfl d_Wo_dropOwnersEnding_14 ?_
    refine sv_iconst C (v := 2) (by decide) d_Wo_dropOwnersEnding_17 ?_
    refine sv_isubN C _ 2 (by omega) d_Wo_dropOwnersEnding_18 ?_
    refine sv_ialdN C _ 1 rfl (by omega) (by decide) d_Wo_dropOwnersEnding_19 ?_
    refine sv_eqi (hf _ (by omega)) ?_
    refine sv_istore_n C rfl (by decide) [some _, some _, none] rfl d_Wo_dropOwnersEnding_20 ?_
    refine sv_aload_n C rfl rfl d_Wo_dropOwnersEnding_21 ?_
    refine sv_get C fg_Wo_13 0 rfl rfl d_Wo_dropOwnersEnding_22 ?_
    refine sv_aload_n C rfl rfl d_Wo_dropOwnersEnding_25 ?_
    refine sv_get C fg_Wo_7 0 rfl rfl d_Wo_dropOwnersEnding_26 ?_
    refine sv_iconst C (v := 1) (by decide) d_Wo_dropOwnersEnding_29 ?_
    refine sv_isubN C _ 1 (by omega) d_Wo_dropOwnersEnding_30 ?_
    refine sv_ialdN C _ 1 rfl (by omega) (by decide) d_Wo_dropOwnersEnding_31 ?_
    refine sv_eqi (hf _ (by omega)) ?_
    refine sv_istore_n C rfl (by decide) [some _, some _, some _] rfl d_Wo_dropOwnersEnding_32 ?_
    refine sv_iload_n C rfl rfl d_Wo_dropOwnersEnding_33 ?_
    refine sv_bipush C (v := 39) (by decide) d_Wo_dropOwnersEnding_34 ?_
    refine sv_icmp_eq C 46 (by decide) d_Wo_dropOwnersEnding_36 (fun c36 => ?_) (fun c36 => ?_)
    · skip
      refine sv_iload_n C rfl rfl d_Wo_dropOwnersEnding_46 ?_
      refine sv_bipush C (v := 115) (by decide) d_Wo_dropOwnersEnding_47 ?_
      refine sv_icmp_eq C 58 (by decide) d_Wo_dropOwnersEnding_49 (fun c49 => ?_) (fun c49 => ?_)
      · skip
        refine sv_aload_n C rfl rfl d_Wo_dropOwnersEnding_58 ?_
        refine sv_dup C rfl d_Wo_dropOwnersEnding_59 ?_
        refine sv_get C fg_Wo_7 0 rfl rfl d_Wo_dropOwnersEnding_60 ?_
        refine sv_iconst C (v := 2) (by decide) d_Wo_dropOwnersEnding_63 ?_
        refine sv_isubN C _ 2 (by omega) d_Wo_dropOwnersEnding_64 ?_
        refine sv_put C fp_Wo_7 0 rfl rfl rfl (Nat.le_of_ble_eq_true rfl) ((_, .inr (_, [_, _])) :: _ :: _) rfl d_Wo_dropOwnersEnding_65 ?_
        first
          | exact hr _ _ _ d_Wo_dropOwnersEnding_68 (by rw [show pu_own L = L from if_neg (fun z => by first | exact absurd z.1 (by omega) | exact z.2.1.elim c36 c43 | exact z.2.2.elim c49 c55)])
          | exact hr _ _ _ d_Wo_dropOwnersEnding_68 (by rw [show (pu_own L).length = L.length - 2 from by rw [show pu_own L = L.take (L.length - 2) from if_pos ⟨by omega, by first | exact Or.inl c36 | exact Or.inr c43, by first | exact Or.inl c49 | exact Or.inr c55⟩, List.length_take]; omega])
      · skip
        refine sv_iload_n C rfl rfl d_Wo_dropOwnersEnding_52 ?_
        refine sv_bipush C (v := 83) (by decide) d_Wo_dropOwnersEnding_53 ?_
        refine sv_icmp_ne C 68 (by decide) d_Wo_dropOwnersEnding_55 (fun c55 => ?_) (fun c55 => ?_)
        · skip
          first
            | exact hr _ _ _ d_Wo_dropOwnersEnding_68 (by rw [show pu_own L = L from if_neg (fun z => by first | exact absurd z.1 (by omega) | exact z.2.1.elim c36 c43 | exact z.2.2.elim c49 c55)])
            | exact hr _ _ _ d_Wo_dropOwnersEnding_68 (by rw [show (pu_own L).length = L.length - 2 from by rw [show pu_own L = L.take (L.length - 2) from if_pos ⟨by omega, by first | exact Or.inl c36 | exact Or.inr c43, by first | exact Or.inl c49 | exact Or.inr c55⟩, List.length_take]; omega])
        · skip
          refine sv_aload_n C rfl rfl d_Wo_dropOwnersEnding_58 ?_
          refine sv_dup C rfl d_Wo_dropOwnersEnding_59 ?_
          refine sv_get C fg_Wo_7 0 rfl rfl d_Wo_dropOwnersEnding_60 ?_
          refine sv_iconst C (v := 2) (by decide) d_Wo_dropOwnersEnding_63 ?_
          refine sv_isubN C _ 2 (by omega) d_Wo_dropOwnersEnding_64 ?_
          refine sv_put C fp_Wo_7 0 rfl rfl rfl (Nat.le_of_ble_eq_true rfl) ((_, .inr (_, [_, _])) :: _ :: _) rfl d_Wo_dropOwnersEnding_65 ?_
          first
            | exact hr _ _ _ d_Wo_dropOwnersEnding_68 (by rw [show pu_own L = L from if_neg (fun z => by first | exact absurd z.1 (by omega) | exact z.2.1.elim c36 c43 | exact z.2.2.elim c49 c55)])
            | exact hr _ _ _ d_Wo_dropOwnersEnding_68 (by rw [show (pu_own L).length = L.length - 2 from by rw [show pu_own L = L.take (L.length - 2) from if_pos ⟨by omega, by first | exact Or.inl c36 | exact Or.inr c43, by first | exact Or.inl c49 | exact Or.inr c55⟩, List.length_take]; omega])
    · skip
      refine sv_iload_n C rfl rfl d_Wo_dropOwnersEnding_39 ?_
      refine sv_sipush C (v := 8217) (by decide) d_Wo_dropOwnersEnding_40 ?_
      refine sv_icmp_ne C 68 (by decide) d_Wo_dropOwnersEnding_43 (fun c43 => ?_) (fun c43 => ?_)
      · skip
        first
          | exact hr _ _ _ d_Wo_dropOwnersEnding_68 (by rw [show pu_own L = L from if_neg (fun z => by first | exact absurd z.1 (by omega) | exact z.2.1.elim c36 c43 | exact z.2.2.elim c49 c55)])
          | exact hr _ _ _ d_Wo_dropOwnersEnding_68 (by rw [show (pu_own L).length = L.length - 2 from by rw [show pu_own L = L.take (L.length - 2) from if_pos ⟨by omega, by first | exact Or.inl c36 | exact Or.inr c43, by first | exact Or.inl c49 | exact Or.inr c55⟩, List.length_take]; omega])
      · skip
        refine sv_iload_n C rfl rfl d_Wo_dropOwnersEnding_46 ?_
        refine sv_bipush C (v := 115) (by decide) d_Wo_dropOwnersEnding_47 ?_
        refine sv_icmp_eq C 58 (by decide) d_Wo_dropOwnersEnding_49 (fun c49 => ?_) (fun c49 => ?_)
        · skip
          refine sv_aload_n C rfl rfl d_Wo_dropOwnersEnding_58 ?_
          refine sv_dup C rfl d_Wo_dropOwnersEnding_59 ?_
          refine sv_get C fg_Wo_7 0 rfl rfl d_Wo_dropOwnersEnding_60 ?_
          refine sv_iconst C (v := 2) (by decide) d_Wo_dropOwnersEnding_63 ?_
          refine sv_isubN C _ 2 (by omega) d_Wo_dropOwnersEnding_64 ?_
          refine sv_put C fp_Wo_7 0 rfl rfl rfl (Nat.le_of_ble_eq_true rfl) ((_, .inr (_, [_, _])) :: _ :: _) rfl d_Wo_dropOwnersEnding_65 ?_
          first
            | exact hr _ _ _ d_Wo_dropOwnersEnding_68 (by rw [show pu_own L = L from if_neg (fun z => by first | exact absurd z.1 (by omega) | exact z.2.1.elim c36 c43 | exact z.2.2.elim c49 c55)])
            | exact hr _ _ _ d_Wo_dropOwnersEnding_68 (by rw [show (pu_own L).length = L.length - 2 from by rw [show pu_own L = L.take (L.length - 2) from if_pos ⟨by omega, by first | exact Or.inl c36 | exact Or.inr c43, by first | exact Or.inl c49 | exact Or.inr c55⟩, List.length_take]; omega])
        · skip
          refine sv_iload_n C rfl rfl d_Wo_dropOwnersEnding_52 ?_
          refine sv_bipush C (v := 83) (by decide) d_Wo_dropOwnersEnding_53 ?_
          refine sv_icmp_ne C 68 (by decide) d_Wo_dropOwnersEnding_55 (fun c55 => ?_) (fun c55 => ?_)
          · skip
            first
              | exact hr _ _ _ d_Wo_dropOwnersEnding_68 (by rw [show pu_own L = L from if_neg (fun z => by first | exact absurd z.1 (by omega) | exact z.2.1.elim c36 c43 | exact z.2.2.elim c49 c55)])
              | exact hr _ _ _ d_Wo_dropOwnersEnding_68 (by rw [show (pu_own L).length = L.length - 2 from by rw [show pu_own L = L.take (L.length - 2) from if_pos ⟨by omega, by first | exact Or.inl c36 | exact Or.inr c43, by first | exact Or.inl c49 | exact Or.inr c55⟩, List.length_take]; omega])
          · skip
            refine sv_aload_n C rfl rfl d_Wo_dropOwnersEnding_58 ?_
            refine sv_dup C rfl d_Wo_dropOwnersEnding_59 ?_
            refine sv_get C fg_Wo_7 0 rfl rfl d_Wo_dropOwnersEnding_60 ?_
            refine sv_iconst C (v := 2) (by decide) d_Wo_dropOwnersEnding_63 ?_
            refine sv_isubN C _ 2 (by omega) d_Wo_dropOwnersEnding_64 ?_
            refine sv_put C fp_Wo_7 0 rfl rfl rfl (Nat.le_of_ble_eq_true rfl) ((_, .inr (_, [_, _])) :: _ :: _) rfl d_Wo_dropOwnersEnding_65 ?_
            first
              | exact hr _ _ _ d_Wo_dropOwnersEnding_68 (by rw [show pu_own L = L from if_neg (fun z => by first | exact absurd z.1 (by omega) | exact z.2.1.elim c36 c43 | exact z.2.2.elim c49 c55)])
              | exact hr _ _ _ d_Wo_dropOwnersEnding_68 (by rw [show (pu_own L).length = L.length - 2 from by rw [show pu_own L = L.take (L.length - 2) from if_pos ⟨by omega, by first | exact Or.inl c36 | exact Or.inr c43, by first | exact Or.inl c49 | exact Or.inr c55⟩, List.length_take]; omega])
  · skip
    exact hr _ _ _ d_Wo_dropOwnersEnding_8 (by rw [show pu_own L = L from if_neg (fun z => by first | exact absurd z.1 (by omega) | exact z.2.1.elim c36 c43 | exact z.2.2.elim c49 c55)])

def rm_Wo_lower : Room := { frames := 1, cells := 0, slots := 0, locals := 20 }
set_option maxHeartbeats 4000000 in
set_option maxRecDepth 100000 in
theorem c_Wo_lower (l : Launch) (g : sv_G) (rest : va_W) (hW hwc : Nat) (f : Nat → Int32) (L : List Int32) (hL : L.length ≤ 255) (hf : pr_W f L) : sv_Mv l y_Wo_lower b_Wo_lower 2 none rm_Wo_lower g [.ref hW] ((hW, .inr (5, [.ref hwc, .int (nI L.length)])) :: (hwc, .inl (g.2.1 0, 255, .inl f)) :: rest) (fun w => ∃ f2 : Nat → Int32, w = ((hW, .inr (5, [.ref hwc, .int (nI (L.map pu_low).length)])) :: (hwc, .inl (g.2.1 0, 255, .inl f2)) :: rest) ∧ pr_W f2 (L.map pu_low)) := by
  refine sv_enter_v (by decide) rfl rfl (Nat.le_of_ble_eq_true rfl) (fun X C hI hr => ?_)
  refine sv_lvE (lv' := [some _, none]) rfl ?_
  have L2 : ∀ (k : Nat) (j : Nat) (f2 : Nat → Int32), (j ≤ L.length ∧ L.length ≤ j + k ∧ (∀ i, i < j → f2 i = pu_low (L.getD i 0)) ∧ ∀ i, j ≤ i → i < L.length → f2 i = L.getD i 0) → sv_V X 2 0 0 ((hW, .inr (5, [.ref hwc, .int (nI L.length)])) :: (hwc, .inl (g.2.1 0, 255, .inl f2)) :: rest) 2 [some (.ref hW), some (.int (nI j))] [] := by
    intro k
    induction k with
    | zero =>
      intro j f2 hq
      obtain ⟨q1, q2, q3, q4⟩ := hq
      refine sv_iload_n C rfl rfl d_Wo_lower_2 ?_
      refine sv_aload_n C rfl rfl d_Wo_lower_3 ?_
      refine sv_get C fg_Wo_7 0 rfl rfl d_Wo_lower_4 ?_
      refine sv_icmpN_ge C _ _ (by omega) (by omega) 31 (by decide) d_Wo_lower_7 (fun c7 => ?_) (fun c7 => ?_)
      · skip
        exact hr _ _ _ d_Wo_lower_31 ⟨f2, by rw [List.length_map], fun i hi => by rw [List.length_map] at hi; rw [q3 i (by omega), List.getD_eq_getElem?_getD, List.getD_eq_getElem?_getD, List.getElem?_map, List.getElem?_eq_getElem hi]; rfl⟩
      · skip
        exact absurd c7 (by omega)
    | succ k ih =>
      intro j f2 hq
      obtain ⟨q1, q2, q3, q4⟩ := hq
      refine sv_iload_n C rfl rfl d_Wo_lower_2 ?_
      refine sv_aload_n C rfl rfl d_Wo_lower_3 ?_
      refine sv_get C fg_Wo_7 0 rfl rfl d_Wo_lower_4 ?_
      refine sv_icmpN_ge C _ _ (by omega) (by omega) 31 (by decide) d_Wo_lower_7 (fun c7 => ?_) (fun c7 => ?_)
      · skip
        exact hr _ _ _ d_Wo_lower_31 ⟨f2, by rw [List.length_map], fun i hi => by rw [List.length_map] at hi; rw [q3 i (by omega), List.getD_eq_getElem?_getD, List.getD_eq_getElem?_getD, List.getElem?_map, List.getElem?_eq_getElem hi]; rfl⟩
      · skip
        refine sv_aload_n C rfl rfl d_Wo_lower_10 ?_
        refine sv_get C fg_Wo_13 0 rfl rfl d_Wo_lower_11 ?_
        refine sv_iload_n C rfl rfl d_Wo_lower_14 ?_
        refine sv_aload_n C rfl rfl d_Wo_lower_15 ?_
        refine sv_get C fg_Wo_13 0 rfl rfl d_Wo_lower_16 ?_
        refine sv_iload_n C rfl rfl d_Wo_lower_19 ?_
        refine sv_ialdN C _ 1 rfl (by omega) (by decide) d_Wo_lower_20 ?_
        refine sv_eqi (q4 j (Nat.le_refl _) (by omega)) ?_
        refine sv_callSi C (c_Wo_lowered l g _ (L.getD j 0)) lk_Wo_23  d_Wo_lower_21 (by decide) (Nat.le_of_ble_eq_true rfl) (by decide) (fun r w hw => ?_)
        obtain ⟨rfl, rfl⟩ := hw
        refine sv_iastN C _ 1 rfl (by omega) (by decide) (_ :: _ :: _) rfl d_Wo_lower_24 ?_
        refine sv_iincN C 1 _ rfl [some _, some _] rfl d_Wo_lower_25 ?_
        refine sv_goto C 2 (by decide) d_Wo_lower_28 ?_
        exact ih (j + 1) _ ⟨by omega, by omega, fun i hi => by
          rcases Nat.lt_or_ge i j with h | h
          · rw [pk_un (by omega), q3 i h]
          · have hij : i = j := by omega
            subst hij
            rw [pk_us], fun i h1 h2 => by rw [pk_un (by omega), q4 i (by omega) h2]⟩
  refine sv_iconst C (v := 0) (by decide) d_Wo_lower_0 ?_
  refine sv_istore_n C rfl (by decide) [some _, some _] rfl d_Wo_lower_1 ?_
  exact L2 L.length 0 f ⟨by omega, by omega, fun i hi => absurd hi (Nat.not_lt_zero i), fun i _ hi => hf i hi⟩

def rm_Wo_isSmallLetters : Room := { frames := 0, cells := 0, slots := 0, locals := 0 }
set_option maxHeartbeats 4000000 in
set_option maxRecDepth 100000 in
theorem c_Wo_isSmallLetters (l : Launch) (g : sv_G) (rest : va_W) (hW hwc : Nat) (f : Nat → Int32) (L : List Int32) (hL : L.length ≤ 255) (hf : pr_W f L) : sv_Mi l y_Wo_isSmallLetters b_Wo_isSmallLetters 2 (some (.boolean)) rm_Wo_isSmallLetters g [.ref hW] ((hW, .inr (5, [.ref hwc, .int (nI L.length)])) :: (hwc, .inl (g.2.1 0, 255, .inl f)) :: rest) (fun r w => r = (if pu_small L then 1 else 0) ∧ w = ((hW, .inr (5, [.ref hwc, .int (nI L.length)])) :: (hwc, .inl (g.2.1 0, 255, .inl f)) :: rest)) := by
  refine sv_enter_i (by decide) rfl rfl (Nat.le_of_ble_eq_true rfl) (fun X C hI hr => ?_)
  refine sv_lvE (lv' := [some _, none]) rfl ?_
  have L2 : ∀ (k : Nat) (j : Nat), (j ≤ L.length ∧ L.length ≤ j + k ∧ ∀ i, i < j → 97 ≤ (L.getD i 0).toInt ∧ (L.getD i 0).toInt ≤ 122) → sv_V X 2 0 0 ((hW, .inr (5, [.ref hwc, .int (nI L.length)])) :: (hwc, .inl (g.2.1 0, 255, .inl f)) :: rest) 2 [some (.ref hW), some (.int (nI j))] [] := by
    intro k
    induction k with
    | zero =>
      intro j hq
      obtain ⟨q1, q2, q3⟩ := hq
      refine sv_iload_n C rfl rfl d_Wo_isSmallLetters_2 ?_
      refine sv_aload_n C rfl rfl d_Wo_isSmallLetters_3 ?_
      refine sv_get C fg_Wo_7 0 rfl rfl d_Wo_isSmallLetters_4 ?_
      refine sv_icmpN_ge C _ _ (by omega) (by omega) 40 (by decide) d_Wo_isSmallLetters_7 (fun c7 => ?_) (fun c7 => ?_)
      · skip
        refine sv_iconst C (v := 1) (by decide) d_Wo_isSmallLetters_40 ?_
        exact hr _ _ _ _ d_Wo_isSmallLetters_41 rfl ⟨(if_pos (pu_small_of (fun i hi => q3 i (by omega)))).symm, rfl⟩
      · skip
        exact absurd c7 (by omega)
    | succ k ih =>
      intro j hq
      obtain ⟨q1, q2, q3⟩ := hq
      refine sv_iload_n C rfl rfl d_Wo_isSmallLetters_2 ?_
      refine sv_aload_n C rfl rfl d_Wo_isSmallLetters_3 ?_
      refine sv_get C fg_Wo_7 0 rfl rfl d_Wo_isSmallLetters_4 ?_
      refine sv_icmpN_ge C _ _ (by omega) (by omega) 40 (by decide) d_Wo_isSmallLetters_7 (fun c7 => ?_) (fun c7 => ?_)
      · skip
        refine sv_iconst C (v := 1) (by decide) d_Wo_isSmallLetters_40 ?_
        exact hr _ _ _ _ d_Wo_isSmallLetters_41 rfl ⟨(if_pos (pu_small_of (fun i hi => q3 i (by omega)))).symm, rfl⟩
      · skip
        refine sv_aload_n C rfl rfl d_Wo_isSmallLetters_10 ?_
        refine sv_get C fg_Wo_13 0 rfl rfl d_Wo_isSmallLetters_11 ?_
        refine sv_iload_n C rfl rfl d_Wo_isSmallLetters_14 ?_
        refine sv_ialdN C _ 1 rfl (by omega) (by decide) d_Wo_isSmallLetters_15 ?_
        refine sv_eqi (hf j (by omega)) ?_
        refine sv_bipush C (v := 97) (by decide) d_Wo_isSmallLetters_16 ?_
        refine sv_icmpK_lt C (97) (by decide) 32 (by decide) d_Wo_isSmallLetters_18 (fun c18 => ?_) (fun c18 => ?_)
        · skip
          refine sv_iconst C (v := 0) (by decide) d_Wo_isSmallLetters_32 ?_
          exact hr _ _ _ _ d_Wo_isSmallLetters_33 rfl ⟨(if_neg (fun z => by have := z _ (pu_mem (i := j) (by omega)); omega)).symm, rfl⟩
        · skip
          refine sv_aload_n C rfl rfl d_Wo_isSmallLetters_21 ?_
          refine sv_get C fg_Wo_13 0 rfl rfl d_Wo_isSmallLetters_22 ?_
          refine sv_iload_n C rfl rfl d_Wo_isSmallLetters_25 ?_
          refine sv_ialdN C _ 1 rfl (by omega) (by decide) d_Wo_isSmallLetters_26 ?_
          refine sv_eqi (hf j (by omega)) ?_
          refine sv_bipush C (v := 122) (by decide) d_Wo_isSmallLetters_27 ?_
          refine sv_icmpK_le C (122) (by decide) 34 (by decide) d_Wo_isSmallLetters_29 (fun c29 => ?_) (fun c29 => ?_)
          · skip
            refine sv_iincN C 1 _ rfl [some _, some _] rfl d_Wo_isSmallLetters_34 ?_
            refine sv_goto C 2 (by decide) d_Wo_isSmallLetters_37 ?_
            exact ih (j + 1) ⟨by omega, by omega, fun i hi => by
              rcases Nat.lt_or_ge i j with h | h
              · exact q3 i h
              · have hij : i = j := by omega
                subst hij
                omega⟩
          · skip
            refine sv_iconst C (v := 0) (by decide) d_Wo_isSmallLetters_32 ?_
            exact hr _ _ _ _ d_Wo_isSmallLetters_33 rfl ⟨(if_neg (fun z => by have := z _ (pu_mem (i := j) (by omega)); omega)).symm, rfl⟩
  refine sv_iconst C (v := 0) (by decide) d_Wo_isSmallLetters_0 ?_
  refine sv_istore_n C rfl (by decide) [some _, some _] rfl d_Wo_isSmallLetters_1 ?_
  exact L2 L.length 0 ⟨by omega, by omega, fun i hi => absurd hi (Nat.not_lt_zero i)⟩

def rm_Wo_endsWith : Room := { frames := 6, cells := 0, slots := 0, locals := 186 }
set_option maxHeartbeats 4000000 in
set_option maxRecDepth 100000 in
theorem c_Wo_endsWith (l : Launch) (g : sv_G) (rest : va_W) (hW hwc : Nat) (f : Nat → Int32) (L : List Int32) (hL : L.length ≤ 255) (hf : pr_W f L) (i : Nat) (hi : i < sv_nS) (h0 : 1 ≤ (sv_txt i).length) : sv_Mi l y_Wo_endsWith b_Wo_endsWith 4 (some (.boolean)) rm_Wo_endsWith g [.ref hW, .ref (g.2.2.1 i)] ((hW, .inr (5, [.ref hwc, .int (nI L.length)])) :: (hwc, .inl (g.2.1 0, 255, .inl f)) :: rest) (fun r w => r = (if pu_ends L (sv_txt i) then 1 else 0) ∧ w = ((hW, .inr (5, [.ref hwc, .int (nI L.length)])) :: (hwc, .inl (g.2.1 0, 255, .inl f)) :: rest)) := by
  have hl := sv_len hi
  have e1 := pk_sub_toInt (a := L.length) (b := (sv_txt i).length) (by omega) (by omega)
  refine sv_enter_i (by decide) rfl rfl (Nat.le_of_ble_eq_true rfl) (fun X C hI hr => ?_)
  refine sv_lvE (lv' := [some _, some _, none, none]) rfl ?_
  have L23 : ∀ (k : Nat) (j : Nat), ((sv_txt i).length ≤ L.length ∧ j ≤ (sv_txt i).length ∧ j ≤ k ∧ ∀ q, j ≤ q → q < (sv_txt i).length → L.getD (L.length - (sv_txt i).length + q) 0 = (sv_txt i).getD q 0) → sv_V X 4 0 0 ((hW, .inr (5, [.ref hwc, .int (nI L.length)])) :: (hwc, .inl (g.2.1 0, 255, .inl f)) :: rest) 23 [some (.ref hW), some (.ref (g.2.2.1 i)), some (.int (nI (L.length - (sv_txt i).length))), some (.int (nI j - 1))] [] := by
    intro k
    induction k with
    | zero =>
      intro j hq
      obtain ⟨q1, q2, q3, q4⟩ := hq
      have e2 := pu_subI (j := j) (by omega)
      refine sv_iload_n C rfl rfl d_Wo_endsWith_23 ?_
      refine sv_ifZ_lt C 51 (by decide) d_Wo_endsWith_24 (fun c24 => ?_) (fun c24 => ?_)
      · skip
        refine sv_iconst C (v := 1) (by decide) d_Wo_endsWith_51 ?_
        exact hr _ _ _ _ d_Wo_endsWith_52 rfl ⟨(if_pos (pu_ends_of q1 (fun q hq => q4 q (by omega) hq))).symm, rfl⟩
      · skip
        exact absurd c24 (by omega)
    | succ k ih =>
      intro j hq
      obtain ⟨q1, q2, q3, q4⟩ := hq
      have e2 := pu_subI (j := j) (by omega)
      refine sv_iload_n C rfl rfl d_Wo_endsWith_23 ?_
      refine sv_ifZ_lt C 51 (by decide) d_Wo_endsWith_24 (fun c24 => ?_) (fun c24 => ?_)
      · skip
        refine sv_iconst C (v := 1) (by decide) d_Wo_endsWith_51 ?_
        exact hr _ _ _ _ d_Wo_endsWith_52 rfl ⟨(if_pos (pu_ends_of q1 (fun q hq => q4 q (by omega) hq))).symm, rfl⟩
      · skip
        refine sv_lvE (lv' := [some (.ref hW), some (.ref (g.2.2.1 i)), some (.int (nI (L.length - (sv_txt i).length))), some (.int (nI (j - 1)))]) (by rw [← pk_sub (a := j) (b := 1) (by omega)]; rfl) ?_
        refine sv_aload_n C rfl rfl d_Wo_endsWith_27 ?_
        refine sv_get C fg_Wo_13 0 rfl rfl d_Wo_endsWith_28 ?_
        refine sv_iload_n C rfl rfl d_Wo_endsWith_31 ?_
        refine sv_iload_n C rfl rfl d_Wo_endsWith_32 ?_
        refine sv_iaddN C _ _  d_Wo_endsWith_33 ?_
        refine sv_ialdN C _ 1 rfl (by omega) (by decide) d_Wo_endsWith_34 ?_
        refine sv_eqi (hf _ (by omega)) ?_
        refine sv_aload_n C rfl rfl d_Wo_endsWith_35 ?_
        refine sv_iload_n C rfl rfl d_Wo_endsWith_36 ?_
        refine sv_callVsi C i hi (c_Str_charAt l g _ i (j - 1) hi (by omega)) lk_Wo_32 rfl d_Wo_endsWith_37 (by decide) (Nat.le_of_ble_eq_true rfl) (by decide) (fun r w hw => ?_)
        obtain ⟨rfl, rfl⟩ := hw
        refine sv_icmp_eq C 45 (by decide) d_Wo_endsWith_40 (fun c40 => ?_) (fun c40 => ?_)
        · skip
          refine sv_iinc C (v := nI (j - 1) - 1) rfl (pu_dec _) [some _, some _, some _, some _] rfl d_Wo_endsWith_45 ?_
          refine sv_goto C 23 (by decide) d_Wo_endsWith_48 ?_
          exact ih (j - 1) ⟨q1, by omega, by omega, fun q h1 h2 => by
            rcases Nat.lt_or_ge q j with h | h
            · have hqj : q = j - 1 := by omega
              subst hqj
              exact c40
            · exact q4 q h h2⟩
        · skip
          refine sv_iconst C (v := 0) (by decide) d_Wo_endsWith_43 ?_
          exact hr _ _ _ _ d_Wo_endsWith_44 rfl ⟨(if_neg (fun z => c40 (pu_ends_at z (by omega)))).symm, rfl⟩
  refine sv_aload_n C rfl rfl d_Wo_endsWith_0 ?_
  refine sv_get C fg_Wo_7 0 rfl rfl d_Wo_endsWith_1 ?_
  refine sv_aload_n C rfl rfl d_Wo_endsWith_4 ?_
  refine sv_callVsi C i hi (c_Str_length l g _ i hi) lk_Wo_27 rfl d_Wo_endsWith_5 (by decide) (Nat.le_of_ble_eq_true rfl) (by decide) (fun r w hw => ?_)
  obtain ⟨rfl, rfl⟩ := hw
  refine sv_isub C d_Wo_endsWith_8 ?_
  refine sv_istore_n C rfl (by decide) [some _, some _, some _, none] rfl d_Wo_endsWith_9 ?_
  refine sv_iload_n C rfl rfl d_Wo_endsWith_10 ?_
  refine sv_ifZ_ge C 16 (by decide) d_Wo_endsWith_11 (fun c11 => ?_) (fun c11 => ?_)
  · skip
    refine sv_lvE (lv' := [some (.ref hW), some (.ref (g.2.2.1 i)), some (.int (nI (L.length - (sv_txt i).length))), none]) (by rw [← pk_sub (a := L.length) (b := (sv_txt i).length) (by omega)]) ?_
    refine sv_aload_n C rfl rfl d_Wo_endsWith_16 ?_
    refine sv_callVsi C i hi (c_Str_length l g _ i hi) lk_Wo_27 rfl d_Wo_endsWith_17 (by decide) (Nat.le_of_ble_eq_true rfl) (by decide) (fun r w hw => ?_)
    obtain ⟨rfl, rfl⟩ := hw
    refine sv_iconst C (v := 1) (by decide) d_Wo_endsWith_20 ?_
    refine sv_isub C d_Wo_endsWith_21 ?_
    refine sv_istore_n C rfl (by decide) [some _, some _, some _, some _] rfl d_Wo_endsWith_22 ?_
    exact L23 _ _ ⟨by omega, Nat.le_refl _, Nat.le_refl _, fun q h1 h2 => absurd h2 (by omega)⟩
  · skip
    refine sv_iconst C (v := 0) (by decide) d_Wo_endsWith_14 ?_
    exact hr _ _ _ _ d_Wo_endsWith_15 rfl ⟨(if_neg (fun z => by have := z.1; omega)).symm, rfl⟩

def rm_Wo_append : Room := { frames := 6, cells := 0, slots := 0, locals := 186 }
set_option maxHeartbeats 4000000 in
set_option maxRecDepth 100000 in
theorem c_Wo_append (l : Launch) (g : sv_G) (rest : va_W) (hW hwc : Nat) (f : Nat → Int32) (L : List Int32) (hL : L.length ≤ 255) (hf : pr_W f L) (i : Nat) (hi : i < sv_nS) (hc : L.length + (sv_txt i).length ≤ 255) : sv_Mv l y_Wo_append b_Wo_append 3 none rm_Wo_append g [.ref hW, .ref (g.2.2.1 i)] ((hW, .inr (5, [.ref hwc, .int (nI L.length)])) :: (hwc, .inl (g.2.1 0, 255, .inl f)) :: rest) (fun w => ∃ f2 : Nat → Int32, w = ((hW, .inr (5, [.ref hwc, .int (nI (L ++ sv_txt i).length)])) :: (hwc, .inl (g.2.1 0, 255, .inl f2)) :: rest) ∧ pr_W f2 (L ++ sv_txt i)) := by
  have hl := sv_len hi
  refine sv_enter_v (by decide) rfl rfl (Nat.le_of_ble_eq_true rfl) (fun X C hI hr => ?_)
  refine sv_lvE (lv' := [some _, some _, none]) rfl ?_
  have L2 : ∀ (k : Nat) (j n : Nat) (f2 : Nat → Int32), (j ≤ (sv_txt i).length ∧ (sv_txt i).length ≤ j + k ∧ n = L.length + j ∧ pr_W f2 (L ++ (sv_txt i).take j)) → sv_V X 3 0 0 ((hW, .inr (5, [.ref hwc, .int (nI n)])) :: (hwc, .inl (g.2.1 0, 255, .inl f2)) :: rest) 2 [some (.ref hW), some (.ref (g.2.2.1 i)), some (.int (nI j))] [] := by
    intro k
    induction k with
    | zero =>
      intro j n f2 hq
      obtain ⟨q1, q2, q3, q4⟩ := hq
      refine sv_iload_n C rfl rfl d_Wo_append_2 ?_
      refine sv_aload_n C rfl rfl d_Wo_append_3 ?_
      refine sv_callVsi C i hi (c_Str_length l g _ i hi) lk_Wo_27 rfl d_Wo_append_4 (by decide) (Nat.le_of_ble_eq_true rfl) (by decide) (fun r w hw => ?_)
      obtain ⟨rfl, rfl⟩ := hw
      refine sv_icmpN_ge C _ _ (by omega) (by omega) 52 (by decide) d_Wo_append_7 (fun c7 => ?_) (fun c7 => ?_)
      · skip
        have hj : j = (sv_txt i).length := by omega
        subst hj
        rw [List.take_length] at q4
        subst q3
        exact hr _ _ _ d_Wo_append_52 ⟨f2, by rw [List.length_append], q4⟩
      · skip
        exact absurd c7 (by omega)
    | succ k ih =>
      intro j n f2 hq
      obtain ⟨q1, q2, q3, q4⟩ := hq
      refine sv_iload_n C rfl rfl d_Wo_append_2 ?_
      refine sv_aload_n C rfl rfl d_Wo_append_3 ?_
      refine sv_callVsi C i hi (c_Str_length l g _ i hi) lk_Wo_27 rfl d_Wo_append_4 (by decide) (Nat.le_of_ble_eq_true rfl) (by decide) (fun r w hw => ?_)
      obtain ⟨rfl, rfl⟩ := hw
      refine sv_icmpN_ge C _ _ (by omega) (by omega) 52 (by decide) d_Wo_append_7 (fun c7 => ?_) (fun c7 => ?_)
      · skip
        have hj : j = (sv_txt i).length := by omega
        subst hj
        rw [List.take_length] at q4
        subst q3
        exact hr _ _ _ d_Wo_append_52 ⟨f2, by rw [List.length_append], q4⟩
      · skip
        refine sv_aload_n C rfl rfl d_Wo_append_10 ?_
        refine sv_get C fg_Wo_7 0 rfl rfl d_Wo_append_11 ?_
        refine sv_aload_n C rfl rfl d_Wo_append_14 ?_
        refine sv_get C fg_Wo_13 0 rfl rfl d_Wo_append_15 ?_
        refine sv_alen C (t0 := 0) (v := nI 255) rfl (List.mem_cons_of_mem _ List.mem_cons_self) rfl d_Wo_append_18 ?_
        refine sv_icmpN_ge C _ _ (by omega) (by omega) 52 (by decide) d_Wo_append_19 (fun c19 => ?_) (fun c19 => ?_)
        · skip
          exact absurd c19 (by omega)
        · skip
          refine sv_aload_n C rfl rfl d_Wo_append_22 ?_
          refine sv_get C fg_Wo_13 0 rfl rfl d_Wo_append_23 ?_
          refine sv_aload_n C rfl rfl d_Wo_append_26 ?_
          refine sv_get C fg_Wo_7 0 rfl rfl d_Wo_append_27 ?_
          refine sv_aload_n C rfl rfl d_Wo_append_30 ?_
          refine sv_iload_n C rfl rfl d_Wo_append_31 ?_
          refine sv_callVsi C i hi (c_Str_charAt l g _ i j hi c7) lk_Wo_32 rfl d_Wo_append_32 (by decide) (Nat.le_of_ble_eq_true rfl) (by decide) (fun r w hw => ?_)
          obtain ⟨rfl, rfl⟩ := hw
          refine sv_iastN C _ 1 rfl (by omega) (by decide) (_ :: _ :: _) rfl d_Wo_append_35 ?_
          refine sv_aload_n C rfl rfl d_Wo_append_36 ?_
          refine sv_dup C rfl d_Wo_append_37 ?_
          refine sv_get C fg_Wo_7 0 rfl rfl d_Wo_append_38 ?_
          refine sv_iconst C (v := 1) (by decide) d_Wo_append_41 ?_
          refine sv_iaddN C _ 1  d_Wo_append_42 ?_
          refine sv_put C fp_Wo_7 0 rfl rfl rfl (Nat.le_of_ble_eq_true rfl) ((_, .inr (_, [_, _])) :: _ :: _) rfl d_Wo_append_43 ?_
          refine sv_iincN C 1 _ rfl [some _, some _, some _] rfl d_Wo_append_46 ?_
          refine sv_goto C 2 (by decide) d_Wo_append_49 ?_
          exact ih (j + 1) (n + 1) _ ⟨by omega, by omega, by omega, by
            rw [pu_take_snoc c7, ← List.append_assoc]
            exact pr_snoc (by rw [List.length_append, List.length_take]; omega) q4⟩
  refine sv_iconst C (v := 0) (by decide) d_Wo_append_0 ?_
  refine sv_istore_n C rfl (by decide) [some _, some _, some _] rfl d_Wo_append_1 ?_
  exact L2 (sv_txt i).length 0 L.length f ⟨by omega, by omega, rfl, by rw [List.take_zero, List.append_nil]; exact hf⟩
