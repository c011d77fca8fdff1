/-! CONTRACTS: the reference, 2: the word -/
/-- a row of strings among the cells -/
def sv_SA (g : sv_G) (rest : va_W) (aa n : Nat) (tx : Nat → Nat) : Prop := ∃ fa : Nat → Option Nat, ((aa, Sum.inl (g.2.1 5, n, .inr (.inr (.inr (.inr fa))))) : Nat × va_E) ∈ rest ∧ ∀ k, k < n → fa k = some (g.2.2.1 (tx k)) ∧ tx k < sv_nS
theorem sv_SA.mono {g : sv_G} {r r2 : va_W} {aa n : Nat} {tx : Nat → Nat} (h : sv_SA g r aa n tx) (hm : ∀ q, q ∈ r → q ∈ r2) : sv_SA g r2 aa n tx := by
  obtain ⟨fa, h1, h2⟩ := h
  exact ⟨fa, hm _ h1, h2⟩
def pf_b : Option (Nat × List Int32) → Int32
  | none => -1
  | some q => nI (2 * q.1)
theorem pu_is_iff {L t : List Int32} : L = t ↔ t.length = L.length ∧ pu_ends L t := by
  constructor
  · rintro rfl
    exact ⟨rfl, Nat.le_refl _, by rw [Nat.sub_self, List.drop_zero]⟩
  · rintro ⟨h1, -, h2⟩
    rw [h1, Nat.sub_self, List.drop_zero] at h2
    exact h2
theorem pu_vow_y3 {L : List Int32} {j k : Nat} {b : Bool} (hjk : j ≤ k) (hy : ∀ i, j ≤ i → i ≤ k → L.getD i 0 = 121) (hb : (decide (0 < j) && !pu_vow L (j - 1)) = b) : pu_vow L k = if (k - j) % 2 = 0 then b else !b := by
  have h1 := pu_vow_run (L := L) (a := j) (k - j) (fun i hi => hy (j + i) (by omega) (by omega))
  rw [show j + (k - j) = k by omega, pu_vow_first (hy j (Nat.le_refl _) hjk), hb] at h1
  exact h1
theorem pu_isV_no {c : Int32} (a1 : ¬ c = 97) (a2 : ¬ c = 101) (a3 : ¬ c = 105) (a4 : ¬ c = 111) (a5 : ¬ c = 117) : ¬ pu_isV c := by
  rintro (h | h | h | h | h)
  · exact a1 h
  · exact a2 h
  · exact a3 h
  · exact a4 h
  · exact a5 h
def rm_M_ends : Room := { frames := 6, cells := 0, slots := 0, locals := 186 }
set_option maxHeartbeats 4000000 in
set_option maxRecDepth 100000 in
theorem c_M_ends (l : Launch) (g : sv_G) (rest : va_W) (ad : Nat → Nat) (inl th cm km kw : Int32) (f : Nat → Int32) (L : List Int32) (hL : L.length ≤ 255) (hf : pr_W f L) (i : Nat) (hi : i < sv_nS) : sv_Mi l y_M_ends b_M_ends 3 (some (.boolean)) rm_M_ends g [.ref (ad 0), .ref (g.2.2.1 i)] ((ad 0, .inr (7, [.ref (ad 7), .ref (ad 8), .ref (ad 9), .ref (ad 10), .ref (ad 1), .int inl, .int th, .ref (ad 2), .int cm, .ref (ad 3), .ref (ad 4), .ref (ad 5), .int km, .int kw, .ref (ad 6), .int (nI L.length)])) :: (ad 6, .inl (g.2.1 0, 260, .inl f)) :: rest) (fun r w => r = (if pu_ends L (sv_txt i) then 1 else 0) ∧ w = ((ad 0, .inr (7, [.ref (ad 7), .ref (ad 8), .ref (ad 9), .ref (ad 10), .ref (ad 1), .int inl, .int th, .ref (ad 2), .int cm, .ref (ad 3), .ref (ad 4), .ref (ad 5), .int km, .int kw, .ref (ad 6), .int (nI L.length)])) :: (ad 6, .inl (g.2.1 0, 260, .inl f)) :: rest)) := by
  have hl := sv_len hi
  refine sv_enter_i (by decide) rfl rfl (Nat.le_of_ble_eq_true rfl) (fun X C hI hr => ?_)
  refine sv_lvE (lv' := [some _, some _, none]) rfl ?_
  have L15 : ∀ (k : Nat) (j : Nat), ((sv_txt i).length ≤ L.length ∧ j ≤ (sv_txt i).length ∧ (sv_txt i).length ≤ j + k ∧ ∀ q, q < j → L.getD (L.length - (sv_txt i).length + q) 0 = (sv_txt i).getD q 0) → sv_V X 3 0 0 ((ad 0, .inr (7, [.ref (ad 7), .ref (ad 8), .ref (ad 9), .ref (ad 10), .ref (ad 1), .int inl, .int th, .ref (ad 2), .int cm, .ref (ad 3), .ref (ad 4), .ref (ad 5), .int km, .int kw, .ref (ad 6), .int (nI L.length)])) :: (ad 6, .inl (g.2.1 0, 260, .inl f)) :: rest) 15 [some (.ref (ad 0)), some (.ref (g.2.2.1 i)), some (.int (nI j))] [] := by
    intro k
    induction k with
    | zero =>
      intro j hq
      obtain ⟨q1, q2, q3, q4⟩ := hq
      refine sv_iload_n C rfl rfl d_M_ends_15 ?_
      refine sv_aload_n C rfl rfl d_M_ends_16 ?_
      refine sv_callVsi C i hi (c_Str_length l g _ i hi) lk_M_266 rfl d_M_ends_17 (by decide) (Nat.le_of_ble_eq_true rfl) (by decide) (fun r w hw => ?_)
      obtain ⟨rfl, rfl⟩ := hw
      refine sv_icmpN_ge C _ _ (by omega) (by omega) 55 (by decide) d_M_ends_20 (fun c20 => ?_) (fun c20 => ?_)
      · skip
        refine sv_iconst C (v := 1) (by decide) d_M_ends_55 ?_
        exact hr _ _ _ _ d_M_ends_56 rfl ⟨(if_pos (pu_ends_of q1 (fun q hq => q4 q (by omega)))).symm, rfl⟩
      · skip
        exact absurd c20 (by omega)
    | succ k ih =>
      intro j hq
      obtain ⟨q1, q2, q3, q4⟩ := hq
      refine sv_iload_n C rfl rfl d_M_ends_15 ?_
      refine sv_aload_n C rfl rfl d_M_ends_16 ?_
      refine sv_callVsi C i hi (c_Str_length l g _ i hi) lk_M_266 rfl d_M_ends_17 (by decide) (Nat.le_of_ble_eq_true rfl) (by decide) (fun r w hw => ?_)
      obtain ⟨rfl, rfl⟩ := hw
      refine sv_icmpN_ge C _ _ (by omega) (by omega) 55 (by decide) d_M_ends_20 (fun c20 => ?_) (fun c20 => ?_)
      · skip
        refine sv_iconst C (v := 1) (by decide) d_M_ends_55 ?_
        exact hr _ _ _ _ d_M_ends_56 rfl ⟨(if_pos (pu_ends_of q1 (fun q hq => q4 q (by omega)))).symm, rfl⟩
      · skip
        refine sv_aload_n C rfl rfl d_M_ends_23 ?_
        refine sv_get C fg_M_207 0 rfl rfl d_M_ends_24 ?_
        refine sv_aload_n C rfl rfl d_M_ends_27 ?_
        refine sv_get C fg_M_254 0 rfl rfl d_M_ends_28 ?_
        refine sv_aload_n C rfl rfl d_M_ends_31 ?_
        refine sv_callVsi C i hi (c_Str_length l g _ i hi) lk_M_266 rfl d_M_ends_32 (by decide) (Nat.le_of_ble_eq_true rfl) (by decide) (fun r w hw => ?_)
        obtain ⟨rfl, rfl⟩ := hw
        refine sv_isubN C _ _ (by omega) d_M_ends_35 ?_
        refine sv_iload_n C rfl rfl d_M_ends_36 ?_
        refine sv_iaddN C _ _  d_M_ends_37 ?_
        refine sv_ialdN C _ 1 rfl (by omega) (by decide) d_M_ends_38 ?_
        refine sv_eqi (hf _ (by omega)) ?_
        refine sv_aload_n C rfl rfl d_M_ends_39 ?_
        refine sv_iload_n C rfl rfl d_M_ends_40 ?_
        refine sv_callVsi C i hi (c_Str_charAt l g _ i j hi c20) lk_M_273 rfl d_M_ends_41 (by decide) (Nat.le_of_ble_eq_true rfl) (by decide) (fun r w hw => ?_)
        obtain ⟨rfl, rfl⟩ := hw
        refine sv_icmp_eq C 49 (by decide) d_M_ends_44 (fun c44 => ?_) (fun c44 => ?_)
        · skip
          refine sv_iincN C 1 _ rfl [some _, some _, some _] rfl d_M_ends_49 ?_
          refine sv_goto C 15 (by decide) d_M_ends_52 ?_
          exact ih (j + 1) ⟨q1, by omega, by omega, fun q h1 => by
            rcases Nat.lt_or_ge q j with h | h
            · exact q4 q h
            · have hqj : q = j := by omega
              subst hqj
              exact c44⟩
        · skip
          refine sv_iconst C (v := 0) (by decide) d_M_ends_47 ?_
          exact hr _ _ _ _ d_M_ends_48 rfl ⟨(if_neg (fun z => c44 (pu_ends_at z (i := j) c20))).symm, rfl⟩
  refine sv_aload_n C rfl rfl d_M_ends_0 ?_
  refine sv_callVsi C i hi (c_Str_length l g _ i hi) lk_M_266 rfl d_M_ends_1 (by decide) (Nat.le_of_ble_eq_true rfl) (by decide) (fun r w hw => ?_)
  obtain ⟨rfl, rfl⟩ := hw
  refine sv_aload_n C rfl rfl d_M_ends_4 ?_
  refine sv_get C fg_M_254 0 rfl rfl d_M_ends_5 ?_
  refine sv_icmpN_le C _ _ (by omega) (by omega) 13 (by decide) d_M_ends_8 (fun c8 => ?_) (fun c8 => ?_)
  · skip
    refine sv_iconst C (v := 0) (by decide) d_M_ends_13 ?_
    refine sv_istore_n C rfl (by decide) [some _, some _, some _] rfl d_M_ends_14 ?_
    exact L15 (sv_txt i).length 0 ⟨by omega, by omega, by omega, fun q h1 => absurd h1 (by omega)⟩
  · skip
    refine sv_iconst C (v := 0) (by decide) d_M_ends_11 ?_
    exact hr _ _ _ _ d_M_ends_12 rfl ⟨(if_neg (fun z => by have := z.1; omega)).symm, rfl⟩

def rm_M_is : Room := { frames := 7, cells := 0, slots := 0, locals := 208 }
set_option maxHeartbeats 4000000 in
set_option maxRecDepth 100000 in
theorem c_M_is (l : Launch) (g : sv_G) (rest : va_W) (ad : Nat → Nat) (inl th cm km kw : Int32) (f : Nat → Int32) (L : List Int32) (hL : L.length ≤ 255) (hf : pr_W f L) (i : Nat) (hi : i < sv_nS) : sv_Mi l y_M_is b_M_is 2 (some (.boolean)) rm_M_is g [.ref (ad 0), .ref (g.2.2.1 i)] ((ad 0, .inr (7, [.ref (ad 7), .ref (ad 8), .ref (ad 9), .ref (ad 10), .ref (ad 1), .int inl, .int th, .ref (ad 2), .int cm, .ref (ad 3), .ref (ad 4), .ref (ad 5), .int km, .int kw, .ref (ad 6), .int (nI L.length)])) :: (ad 6, .inl (g.2.1 0, 260, .inl f)) :: rest) (fun r w => r = (if L = sv_txt i then 1 else 0) ∧ w = ((ad 0, .inr (7, [.ref (ad 7), .ref (ad 8), .ref (ad 9), .ref (ad 10), .ref (ad 1), .int inl, .int th, .ref (ad 2), .int cm, .ref (ad 3), .ref (ad 4), .ref (ad 5), .int km, .int kw, .ref (ad 6), .int (nI L.length)])) :: (ad 6, .inl (g.2.1 0, 260, .inl f)) :: rest)) := by
  have hl := sv_len hi
  refine sv_enter_i (by decide) rfl rfl (Nat.le_of_ble_eq_true rfl) (fun X C hI hr => ?_)
  refine sv_lvE (lv' := [some _, some _]) rfl ?_
  refine sv_aload_n C rfl rfl d_M_is_0 ?_
  refine sv_callVsi C i hi (c_Str_length l g _ i hi) lk_M_266 rfl d_M_is_1 (by decide) (Nat.le_of_ble_eq_true rfl) (by decide) (fun r w hw => ?_)
  obtain ⟨rfl, rfl⟩ := hw
  refine sv_aload_n C rfl rfl d_M_is_4 ?_
  refine sv_get C fg_M_254 0 rfl rfl d_M_is_5 ?_
  refine sv_icmpN_ne C _ _ (by omega) (by omega) 23 (by decide) d_M_is_8 (fun c8 => ?_) (fun c8 => ?_)
  · skip
    refine sv_iconst C (v := 0) (by decide) d_M_is_23 ?_
    exact hr _ _ _ _ d_M_is_24 rfl ⟨(if_neg (fun z => c8 (pu_is_iff.mp z).1)).symm, rfl⟩
  · skip
    refine sv_aload_n C rfl rfl d_M_is_11 ?_
    refine sv_aload_n C rfl rfl d_M_is_12 ?_
    refine sv_callVi C (c_M_ends l g rest ad inl th cm km kw f L hL hf i hi) lk_M_270 List.mem_cons_self rfl d_M_is_13 (by decide) (Nat.le_of_ble_eq_true rfl) (by decide) (fun r w hw => ?_)
    obtain ⟨rfl, rfl⟩ := hw
    refine sv_ifB_eq C _ 23 (by decide) d_M_is_16 (fun c16 => ?_) (fun c16 => ?_)
    · skip
      refine sv_iconst C (v := 0) (by decide) d_M_is_23 ?_
      exact hr _ _ _ _ d_M_is_24 rfl ⟨(if_neg (fun z => c16 (pu_is_iff.mp z).2)).symm, rfl⟩
    · skip
      refine sv_iconst C (v := 1) (by decide) d_M_is_19 ?_
      refine sv_goto C 24 (by decide) d_M_is_20 ?_
      exact hr _ _ _ _ d_M_is_24 rfl ⟨(if_pos (pu_is_iff.mpr ⟨c8, c16⟩)).symm, rfl⟩

def rm_M_vowel0 : Room := { frames := 0, cells := 0, slots := 0, locals := 0 }
set_option maxHeartbeats 4000000 in
set_option maxRecDepth 100000 in
theorem c_M_vowel0 (l : Launch) (g : sv_G) (rest : va_W) (ad : Nat → Nat) (inl th cm km kw : Int32) (f : Nat → Int32) (L : List Int32) (hL : L.length ≤ 255) (hf : pr_W f L) (m : Nat) (hm : m < L.length) (hy : ¬ L.getD m 0 = 121) : sv_Mi l y_M_vowel b_M_vowel 5 (some (.boolean)) rm_M_vowel0 g [.ref (ad 0), .int (nI m)] ((ad 0, .inr (7, [.ref (ad 7), .ref (ad 8), .ref (ad 9), .ref (ad 10), .ref (ad 1), .int inl, .int th, .ref (ad 2), .int cm, .ref (ad 3), .ref (ad 4), .ref (ad 5), .int km, .int kw, .ref (ad 6), .int (nI L.length)])) :: (ad 6, .inl (g.2.1 0, 260, .inl f)) :: rest) (fun r w => r = (if pu_vow L m = true then 1 else 0) ∧ w = ((ad 0, .inr (7, [.ref (ad 7), .ref (ad 8), .ref (ad 9), .ref (ad 10), .ref (ad 1), .int inl, .int th, .ref (ad 2), .int cm, .ref (ad 3), .ref (ad 4), .ref (ad 5), .int km, .int kw, .ref (ad 6), .int (nI L.length)])) :: (ad 6, .inl (g.2.1 0, 260, .inl f)) :: rest)) := by
  refine sv_enter_i (by decide) rfl rfl (Nat.le_of_ble_eq_true rfl) (fun X C hI hr => ?_)
  refine sv_lvE (lv' := [some _, some _, none, none, none]) rfl ?_
  refine sv_aload_n C rfl rfl d_M_vowel_0 ?_
  refine sv_get C fg_M_207 0 rfl rfl d_M_vowel_1 ?_
  refine sv_iload_n C rfl rfl d_M_vowel_4 ?_
  refine sv_ialdN C _ 1 rfl (by omega) (by decide) d_M_vowel_5 ?_
  refine sv_eqi (hf m hm) ?_
  refine sv_istore_n C rfl (by decide) [some _, some _, some _, none, none] rfl d_M_vowel_6 ?_
  refine sv_iload_n C rfl rfl d_M_vowel_7 ?_
  refine sv_bipush C (v := 121) (by decide) d_M_vowel_8 ?_
  refine sv_icmp_eq C 49 (by decide) d_M_vowel_10 (fun c10 => ?_) (fun c10 => ?_)
  · skip
    exact absurd c10 hy
  · skip
    refine sv_iload_n C rfl rfl d_M_vowel_13 ?_
    refine sv_bipush C (v := 97) (by decide) d_M_vowel_14 ?_
    refine sv_icmp_eq C 43 (by decide) d_M_vowel_16 (fun c16 => ?_) (fun c16 => ?_)
    · skip
      refine sv_iconst C (v := 1) (by decide) d_M_vowel_43 ?_
      refine sv_goto C 48 (by decide) d_M_vowel_44 ?_
      exact hr _ _ _ _ d_M_vowel_48 rfl ⟨(if_pos (by rw [pu_vow_n c10]; exact decide_eq_true (Or.inl c16))).symm, rfl⟩
    · skip
      refine sv_iload_n C rfl rfl d_M_vowel_19 ?_
      refine sv_bipush C (v := 101) (by decide) d_M_vowel_20 ?_
      refine sv_icmp_eq C 43 (by decide) d_M_vowel_22 (fun c22 => ?_) (fun c22 => ?_)
      · skip
        refine sv_iconst C (v := 1) (by decide) d_M_vowel_43 ?_
        refine sv_goto C 48 (by decide) d_M_vowel_44 ?_
        exact hr _ _ _ _ d_M_vowel_48 rfl ⟨(if_pos (by rw [pu_vow_n c10]; exact decide_eq_true (Or.inr (Or.inl c22)))).symm, rfl⟩
      · skip
        refine sv_iload_n C rfl rfl d_M_vowel_25 ?_
        refine sv_bipush C (v := 105) (by decide) d_M_vowel_26 ?_
        refine sv_icmp_eq C 43 (by decide) d_M_vowel_28 (fun c28 => ?_) (fun c28 => ?_)
        · skip
          refine sv_iconst C (v := 1) (by decide) d_M_vowel_43 ?_
          refine sv_goto C 48 (by decide) d_M_vowel_44 ?_
          exact hr _ _ _ _ d_M_vowel_48 rfl ⟨(if_pos (by rw [pu_vow_n c10]; exact decide_eq_true (Or.inr (Or.inr (Or.inl c28))))).symm, rfl⟩
        · skip
          refine sv_iload_n C rfl rfl d_M_vowel_31 ?_
          refine sv_bipush C (v := 111) (by decide) d_M_vowel_32 ?_
          refine sv_icmp_eq C 43 (by decide) d_M_vowel_34 (fun c34 => ?_) (fun c34 => ?_)
          · skip
            refine sv_iconst C (v := 1) (by decide) d_M_vowel_43 ?_
            refine sv_goto C 48 (by decide) d_M_vowel_44 ?_
            exact hr _ _ _ _ d_M_vowel_48 rfl ⟨(if_pos (by rw [pu_vow_n c10]; exact decide_eq_true (Or.inr (Or.inr (Or.inr (Or.inl c34)))))).symm, rfl⟩
          · skip
            refine sv_iload_n C rfl rfl d_M_vowel_37 ?_
            refine sv_bipush C (v := 117) (by decide) d_M_vowel_38 ?_
            refine sv_icmp_ne C 47 (by decide) d_M_vowel_40 (fun c40 => ?_) (fun c40 => ?_)
            · skip
              refine sv_iconst C (v := 0) (by decide) d_M_vowel_47 ?_
              exact hr _ _ _ _ d_M_vowel_48 rfl ⟨(if_neg (by rw [pu_vow_n c10, decide_eq_false (pu_isV_no c16 c22 c28 c34 c40)]; exact Bool.false_ne_true)).symm, rfl⟩
            · skip
              refine sv_iconst C (v := 1) (by decide) d_M_vowel_43 ?_
              refine sv_goto C 48 (by decide) d_M_vowel_44 ?_
              exact hr _ _ _ _ d_M_vowel_48 rfl ⟨(if_pos (by rw [pu_vow_n c10]; exact decide_eq_true (Or.inr (Or.inr (Or.inr (Or.inr c40)))))).symm, rfl⟩

def rm_M_vowel : Room := { frames := 1, cells := 0, slots := 0, locals := 80 }
set_option maxHeartbeats 4000000 in
set_option maxRecDepth 100000 in
theorem c_M_vowel (l : Launch) (g : sv_G) (rest : va_W) (ad : Nat → Nat) (inl th cm km kw : Int32) (f : Nat → Int32) (L : List Int32) (hL : L.length ≤ 255) (hf : pr_W f L) (m : Nat) (hm : m < L.length) : sv_Mi l y_M_vowel b_M_vowel 5 (some (.boolean)) rm_M_vowel g [.ref (ad 0), .int (nI m)] ((ad 0, .inr (7, [.ref (ad 7), .ref (ad 8), .ref (ad 9), .ref (ad 10), .ref (ad 1), .int inl, .int th, .ref (ad 2), .int cm, .ref (ad 3), .ref (ad 4), .ref (ad 5), .int km, .int kw, .ref (ad 6), .int (nI L.length)])) :: (ad 6, .inl (g.2.1 0, 260, .inl f)) :: rest) (fun r w => r = (if pu_vow L m = true then 1 else 0) ∧ w = ((ad 0, .inr (7, [.ref (ad 7), .ref (ad 8), .ref (ad 9), .ref (ad 10), .ref (ad 1), .int inl, .int th, .ref (ad 2), .int cm, .ref (ad 3), .ref (ad 4), .ref (ad 5), .int km, .int kw, .ref (ad 6), .int (nI L.length)])) :: (ad 6, .inl (g.2.1 0, 260, .inl f)) :: rest)) := by
  refine sv_enter_i (by decide) rfl rfl (Nat.le_of_ble_eq_true rfl) (fun X C hI hr => ?_)
  refine sv_lvE (lv' := [some _, some _, none, none, none]) rfl ?_
  have L51 : ∀ (k : Nat) (j : Nat), (j ≤ k ∧ j ≤ m ∧ ∀ i, j ≤ i → i ≤ m → L.getD i 0 = 121) → sv_V X 5 0 0 ((ad 0, .inr (7, [.ref (ad 7), .ref (ad 8), .ref (ad 9), .ref (ad 10), .ref (ad 1), .int inl, .int th, .ref (ad 2), .int cm, .ref (ad 3), .ref (ad 4), .ref (ad 5), .int km, .int kw, .ref (ad 6), .int (nI L.length)])) :: (ad 6, .inl (g.2.1 0, 260, .inl f)) :: rest) 51 [some (.ref (ad 0)), some (.int (nI m)), some (.int (L.getD m 0)), some (.int (nI j)), none] [] := by
    intro k
    induction k with
    | zero =>
      intro j hq
      obtain ⟨q1, q2, q3⟩ := hq
      refine sv_iload_n C rfl rfl d_M_vowel_51 ?_
      refine sv_ifN_le C _ (by omega) 74 (by decide) d_M_vowel_52 (fun c52 => ?_) (fun c52 => ?_)
      · skip
        refine sv_iload_n C rfl rfl d_M_vowel_74 ?_
        refine sv_ifN_le C _ (by omega) 92 (by decide) d_M_vowel_75 (fun c75 => ?_) (fun c75 => ?_)
        · skip
          refine sv_iconst C (v := 0) (by decide) d_M_vowel_92 ?_
          refine sv_istore C (by decide) [some _, some _, some _, some _, some _] rfl d_M_vowel_93 ?_
          refine sv_iload_n C rfl rfl d_M_vowel_95 ?_
          refine sv_iload_n C rfl rfl d_M_vowel_96 ?_
          refine sv_isubN C _ _ (by omega) d_M_vowel_97 ?_
          refine sv_iconst C (v := 2) (by decide) d_M_vowel_98 ?_
          refine sv_iremN C _ 2 (by omega) (by decide) (by decide) d_M_vowel_99 ?_
          refine sv_ifN_ne C _ (by omega) 108 (by decide) d_M_vowel_100 (fun c100 => ?_) (fun c100 => ?_)
          · skip
            refine sv_iload C rfl d_M_vowel_108 ?_
            refine sv_ifZ_ne C 117 (by decide) d_M_vowel_110 (fun c110 => ?_) (fun c110 => ?_)
            · skip
              exact absurd c110 (by decide)
            · skip
              refine sv_iconst C (v := 1) (by decide) d_M_vowel_113 ?_
              refine sv_goto C 118 (by decide) d_M_vowel_114 ?_
              exact hr _ _ _ _ d_M_vowel_118 rfl ⟨(if_pos (by rw [pu_vow_y3 (b := false) q2 q3 (by rw [decide_eq_false (by omega)]; rfl), if_neg (by omega)] <;> rfl)).symm, rfl⟩
          · skip
            refine sv_iload C rfl d_M_vowel_103 ?_
            refine sv_goto C 118 (by decide) d_M_vowel_105 ?_
            exact hr _ _ _ _ d_M_vowel_118 rfl ⟨(if_neg (by rw [pu_vow_y3 (b := false) q2 q3 (by rw [decide_eq_false (by omega)]; rfl), if_pos (by omega)]; exact Bool.false_ne_true)).symm, rfl⟩
        · skip
          exact absurd c75 (by omega)
      · skip
        exact absurd c52 (by omega)
    | succ k ih =>
      intro j hq
      obtain ⟨q1, q2, q3⟩ := hq
      refine sv_iload_n C rfl rfl d_M_vowel_51 ?_
      refine sv_ifN_le C _ (by omega) 74 (by decide) d_M_vowel_52 (fun c52 => ?_) (fun c52 => ?_)
      · skip
        refine sv_iload_n C rfl rfl d_M_vowel_74 ?_
        refine sv_ifN_le C _ (by omega) 92 (by decide) d_M_vowel_75 (fun c75 => ?_) (fun c75 => ?_)
        · skip
          refine sv_iconst C (v := 0) (by decide) d_M_vowel_92 ?_
          refine sv_istore C (by decide) [some _, some _, some _, some _, some _] rfl d_M_vowel_93 ?_
          refine sv_iload_n C rfl rfl d_M_vowel_95 ?_
          refine sv_iload_n C rfl rfl d_M_vowel_96 ?_
          refine sv_isubN C _ _ (by omega) d_M_vowel_97 ?_
          refine sv_iconst C (v := 2) (by decide) d_M_vowel_98 ?_
          refine sv_iremN C _ 2 (by omega) (by decide) (by decide) d_M_vowel_99 ?_
          refine sv_ifN_ne C _ (by omega) 108 (by decide) d_M_vowel_100 (fun c100 => ?_) (fun c100 => ?_)
          · skip
            refine sv_iload C rfl d_M_vowel_108 ?_
            refine sv_ifZ_ne C 117 (by decide) d_M_vowel_110 (fun c110 => ?_) (fun c110 => ?_)
            · skip
              exact absurd c110 (by decide)
            · skip
              refine sv_iconst C (v := 1) (by decide) d_M_vowel_113 ?_
              refine sv_goto C 118 (by decide) d_M_vowel_114 ?_
              exact hr _ _ _ _ d_M_vowel_118 rfl ⟨(if_pos (by rw [pu_vow_y3 (b := false) q2 q3 (by rw [decide_eq_false (by omega)]; rfl), if_neg (by omega)] <;> rfl)).symm, rfl⟩
          · skip
            refine sv_iload C rfl d_M_vowel_103 ?_
            refine sv_goto C 118 (by decide) d_M_vowel_105 ?_
            exact hr _ _ _ _ d_M_vowel_118 rfl ⟨(if_neg (by rw [pu_vow_y3 (b := false) q2 q3 (by rw [decide_eq_false (by omega)]; rfl), if_pos (by omega)]; exact Bool.false_ne_true)).symm, rfl⟩
        · skip
          exact absurd c75 (by omega)
      · skip
        refine sv_aload_n C rfl rfl d_M_vowel_55 ?_
        refine sv_get C fg_M_207 0 rfl rfl d_M_vowel_56 ?_
        refine sv_iload_n C rfl rfl d_M_vowel_59 ?_
        refine sv_iconst C (v := 1) (by decide) d_M_vowel_60 ?_
        refine sv_isubN C _ 1 (by omega) d_M_vowel_61 ?_
        refine sv_ialdN C _ 1 rfl (by omega) (by decide) d_M_vowel_62 ?_
        refine sv_eqi (hf _ (by omega)) ?_
        refine sv_bipush C (v := 121) (by decide) d_M_vowel_63 ?_
        refine sv_icmp_ne C 74 (by decide) d_M_vowel_65 (fun c65 => ?_) (fun c65 => ?_)
        · skip
          refine sv_iload_n C rfl rfl d_M_vowel_74 ?_
          refine sv_ifN_le C _ (by omega) 92 (by decide) d_M_vowel_75 (fun c75 => ?_) (fun c75 => ?_)
          · skip
            exact absurd c75 (by omega)
          · skip
            refine sv_aload_n C rfl rfl d_M_vowel_78 ?_
            refine sv_iload_n C rfl rfl d_M_vowel_79 ?_
            refine sv_iconst C (v := 1) (by decide) d_M_vowel_80 ?_
            refine sv_isubN C _ 1 (by omega) d_M_vowel_81 ?_
            refine sv_callVi C (c_M_vowel0 l g rest ad inl th cm km kw f L hL hf (j - 1) (by omega) c65) lk_M_277 List.mem_cons_self rfl d_M_vowel_82 (by decide) (Nat.le_of_ble_eq_true rfl) (by decide) (fun r w hw => ?_)
            obtain ⟨rfl, rfl⟩ := hw
            refine sv_ifB_ne C _ 92 (by decide) d_M_vowel_85 (fun c85 => ?_) (fun c85 => ?_)
            · skip
              refine sv_iconst C (v := 0) (by decide) d_M_vowel_92 ?_
              refine sv_istore C (by decide) [some _, some _, some _, some _, some _] rfl d_M_vowel_93 ?_
              refine sv_iload_n C rfl rfl d_M_vowel_95 ?_
              refine sv_iload_n C rfl rfl d_M_vowel_96 ?_
              refine sv_isubN C _ _ (by omega) d_M_vowel_97 ?_
              refine sv_iconst C (v := 2) (by decide) d_M_vowel_98 ?_
              refine sv_iremN C _ 2 (by omega) (by decide) (by decide) d_M_vowel_99 ?_
              refine sv_ifN_ne C _ (by omega) 108 (by decide) d_M_vowel_100 (fun c100 => ?_) (fun c100 => ?_)
              · skip
                refine sv_iload C rfl d_M_vowel_108 ?_
                refine sv_ifZ_ne C 117 (by decide) d_M_vowel_110 (fun c110 => ?_) (fun c110 => ?_)
                · skip
                  exact absurd c110 (by decide)
                · skip
                  refine sv_iconst C (v := 1) (by decide) d_M_vowel_113 ?_
                  refine sv_goto C 118 (by decide) d_M_vowel_114 ?_
                  exact hr _ _ _ _ d_M_vowel_118 rfl ⟨(if_pos (by rw [pu_vow_y3 (b := false) q2 q3 (by rw [c85]; exact Bool.and_false _), if_neg (by omega)] <;> rfl)).symm, rfl⟩
              · skip
                refine sv_iload C rfl d_M_vowel_103 ?_
                refine sv_goto C 118 (by decide) d_M_vowel_105 ?_
                exact hr _ _ _ _ d_M_vowel_118 rfl ⟨(if_neg (by rw [pu_vow_y3 (b := false) q2 q3 (by rw [c85]; exact Bool.and_false _), if_pos (by omega)]; exact Bool.false_ne_true)).symm, rfl⟩
            · skip
              refine sv_iconst C (v := 1) (by decide) d_M_vowel_88 ?_
              refine sv_goto C 93 (by decide) d_M_vowel_89 ?_
              refine sv_istore C (by decide) [some _, some _, some _, some _, some _] rfl d_M_vowel_93 ?_
              refine sv_iload_n C rfl rfl d_M_vowel_95 ?_
              refine sv_iload_n C rfl rfl d_M_vowel_96 ?_
              refine sv_isubN C _ _ (by omega) d_M_vowel_97 ?_
              refine sv_iconst C (v := 2) (by decide) d_M_vowel_98 ?_
              refine sv_iremN C _ 2 (by omega) (by decide) (by decide) d_M_vowel_99 ?_
              refine sv_ifN_ne C _ (by omega) 108 (by decide) d_M_vowel_100 (fun c100 => ?_) (fun c100 => ?_)
              · skip
                refine sv_iload C rfl d_M_vowel_108 ?_
                refine sv_ifZ_ne C 117 (by decide) d_M_vowel_110 (fun c110 => ?_) (fun c110 => ?_)
                · skip
                  refine sv_iconst C (v := 0) (by decide) d_M_vowel_117 ?_
                  exact hr _ _ _ _ d_M_vowel_118 rfl ⟨(if_neg (by rw [pu_vow_y3 (b := true) q2 q3 (by rw [pu_vowF c85, decide_eq_true (by omega)]; rfl), if_neg (by omega)]; exact Bool.false_ne_true)).symm, rfl⟩
                · skip
                  exact absurd c110 (by decide)
              · skip
                refine sv_iload C rfl d_M_vowel_103 ?_
                refine sv_goto C 118 (by decide) d_M_vowel_105 ?_
                exact hr _ _ _ _ d_M_vowel_118 rfl ⟨(if_pos (by rw [pu_vow_y3 (b := true) q2 q3 (by rw [pu_vowF c85, decide_eq_true (by omega)]; rfl), if_pos (by omega)] <;> rfl)).symm, rfl⟩
        · skip
          refine sv_iinc C (v := nI (j - 1)) rfl ((pu_dec _).trans (pk_sub (a := j) (b := 1) (by omega))) [some _, some _, some _, some _, none] rfl d_M_vowel_68 ?_
          refine sv_goto C 51 (by decide) d_M_vowel_71 ?_
          exact ih (j - 1) ⟨by omega, by omega, fun i h1 h2 => by
            rcases Nat.lt_or_ge i j with h | h
            · have hij : i = j - 1 := by omega
              subst hij
              exact c65
            · exact q3 i h h2⟩
  refine sv_aload_n C rfl rfl d_M_vowel_0 ?_
  refine sv_get C fg_M_207 0 rfl rfl d_M_vowel_1 ?_
  refine sv_iload_n C rfl rfl d_M_vowel_4 ?_
  refine sv_ialdN C _ 1 rfl (by omega) (by decide) d_M_vowel_5 ?_
  refine sv_eqi (hf m hm) ?_
  refine sv_istore_n C rfl (by decide) [some _, some _, some _, none, none] rfl d_M_vowel_6 ?_
  refine sv_iload_n C rfl rfl d_M_vowel_7 ?_
  refine sv_bipush C (v := 121) (by decide) d_M_vowel_8 ?_
  refine sv_icmp_eq C 49 (by decide) d_M_vowel_10 (fun c10 => ?_) (fun c10 => ?_)
  · skip
    refine sv_iload_n C rfl rfl d_M_vowel_49 ?_
    refine sv_istore_n C rfl (by decide) [some _, some _, some _, some _, none] rfl d_M_vowel_50 ?_
    exact L51 m m ⟨Nat.le_refl _, Nat.le_refl _, fun (i : Nat) (h1 : m ≤ i) (h2 : i ≤ m) => by rw [show i = m by omega]; exact c10⟩
  · skip
    refine sv_iload_n C rfl rfl d_M_vowel_13 ?_
    refine sv_bipush C (v := 97) (by decide) d_M_vowel_14 ?_
    refine sv_icmp_eq C 43 (by decide) d_M_vowel_16 (fun c16 => ?_) (fun c16 => ?_)
    · skip
      refine sv_iconst C (v := 1) (by decide) d_M_vowel_43 ?_
      refine sv_goto C 48 (by decide) d_M_vowel_44 ?_
      exact hr _ _ _ _ d_M_vowel_48 rfl ⟨(if_pos (by rw [pu_vow_n c10]; exact decide_eq_true (Or.inl c16))).symm, rfl⟩
    · skip
      refine sv_iload_n C rfl rfl d_M_vowel_19 ?_
      refine sv_bipush C (v := 101) (by decide) d_M_vowel_20 ?_
      refine sv_icmp_eq C 43 (by decide) d_M_vowel_22 (fun c22 => ?_) (fun c22 => ?_)
      · skip
        refine sv_iconst C (v := 1) (by decide) d_M_vowel_43 ?_
        refine sv_goto C 48 (by decide) d_M_vowel_44 ?_
        exact hr _ _ _ _ d_M_vowel_48 rfl ⟨(if_pos (by rw [pu_vow_n c10]; exact decide_eq_true (Or.inr (Or.inl c22)))).symm, rfl⟩
      · skip
        refine sv_iload_n C rfl rfl d_M_vowel_25 ?_
        refine sv_bipush C (v := 105) (by decide) d_M_vowel_26 ?_
        refine sv_icmp_eq C 43 (by decide) d_M_vowel_28 (fun c28 => ?_) (fun c28 => ?_)
        · skip
          refine sv_iconst C (v := 1) (by decide) d_M_vowel_43 ?_
          refine sv_goto C 48 (by decide) d_M_vowel_44 ?_
          exact hr _ _ _ _ d_M_vowel_48 rfl ⟨(if_pos (by rw [pu_vow_n c10]; exact decide_eq_true (Or.inr (Or.inr (Or.inl c28))))).symm, rfl⟩
        · skip
          refine sv_iload_n C rfl rfl d_M_vowel_31 ?_
          refine sv_bipush C (v := 111) (by decide) d_M_vowel_32 ?_
          refine sv_icmp_eq C 43 (by decide) d_M_vowel_34 (fun c34 => ?_) (fun c34 => ?_)
          · skip
            refine sv_iconst C (v := 1) (by decide) d_M_vowel_43 ?_
            refine sv_goto C 48 (by decide) d_M_vowel_44 ?_
            exact hr _ _ _ _ d_M_vowel_48 rfl ⟨(if_pos (by rw [pu_vow_n c10]; exact decide_eq_true (Or.inr (Or.inr (Or.inr (Or.inl c34)))))).symm, rfl⟩
          · skip
            refine sv_iload_n C rfl rfl d_M_vowel_37 ?_
            refine sv_bipush C (v := 117) (by decide) d_M_vowel_38 ?_
            refine sv_icmp_ne C 47 (by decide) d_M_vowel_40 (fun c40 => ?_) (fun c40 => ?_)
            · skip
              refine sv_iconst C (v := 0) (by decide) d_M_vowel_47 ?_
              exact hr _ _ _ _ d_M_vowel_48 rfl ⟨(if_neg (by rw [pu_vow_n c10, decide_eq_false (pu_isV_no c16 c22 c28 c34 c40)]; exact Bool.false_ne_true)).symm, rfl⟩
            · skip
              refine sv_iconst C (v := 1) (by decide) d_M_vowel_43 ?_
              refine sv_goto C 48 (by decide) d_M_vowel_44 ?_
              exact hr _ _ _ _ d_M_vowel_48 rfl ⟨(if_pos (by rw [pu_vow_n c10]; exact decide_eq_true (Or.inr (Or.inr (Or.inr (Or.inr c40)))))).symm, rfl⟩

def rm_M_measure : Room := { frames := 2, cells := 0, slots := 0, locals := 104 }
set_option maxHeartbeats 4000000 in
set_option maxRecDepth 100000 in
theorem c_M_measure (l : Launch) (g : sv_G) (rest : va_W) (ad : Nat → Nat) (inl th cm km kw : Int32) (f : Nat → Int32) (L : List Int32) (hL : L.length ≤ 255) (hf : pr_W f L) (m : Nat) (hm : m ≤ L.length) : sv_Mi l y_M_measure b_M_measure 4 (some (.int)) rm_M_measure g [.ref (ad 0), .int (nI m)] ((ad 0, .inr (7, [.ref (ad 7), .ref (ad 8), .ref (ad 9), .ref (ad 10), .ref (ad 1), .int inl, .int th, .ref (ad 2), .int cm, .ref (ad 3), .ref (ad 4), .ref (ad 5), .int km, .int kw, .ref (ad 6), .int (nI L.length)])) :: (ad 6, .inl (g.2.1 0, 260, .inl f)) :: rest) (fun r w => r = nI (pu_meas L m) ∧ w = ((ad 0, .inr (7, [.ref (ad 7), .ref (ad 8), .ref (ad 9), .ref (ad 10), .ref (ad 1), .int inl, .int th, .ref (ad 2), .int cm, .ref (ad 3), .ref (ad 4), .ref (ad 5), .int km, .int kw, .ref (ad 6), .int (nI L.length)])) :: (ad 6, .inl (g.2.1 0, 260, .inl f)) :: rest)) := by
  refine sv_enter_i (by decide) rfl rfl (Nat.le_of_ble_eq_true rfl) (fun X C hI hr => ?_)
  refine sv_lvE (lv' := [some _, some _, none, none]) rfl ?_
  have L4 : ∀ (k : Nat) (j q : Nat), (1 ≤ j ∧ (j ≤ m ∨ j = 1) ∧ m ≤ j + k ∧ q = pu_meas L j) → sv_V X 4 0 0 ((ad 0, .inr (7, [.ref (ad 7), .ref (ad 8), .ref (ad 9), .ref (ad 10), .ref (ad 1), .int inl, .int th, .ref (ad 2), .int cm, .ref (ad 3), .ref (ad 4), .ref (ad 5), .int km, .int kw, .ref (ad 6), .int (nI L.length)])) :: (ad 6, .inl (g.2.1 0, 260, .inl f)) :: rest) 4 [some (.ref (ad 0)), some (.int (nI m)), some (.int (nI q)), some (.int (nI j))] [] := by
    intro k
    induction k with
    | zero =>
      intro j q hq
      obtain ⟨q1, q2, q3, q4⟩ := hq
      have mle := pu_meas_le L j
      refine sv_iload_n C rfl rfl d_M_measure_4 ?_
      refine sv_iload_n C rfl rfl d_M_measure_5 ?_
      refine sv_icmpN_ge C _ _ (by omega) (by omega) 36 (by decide) d_M_measure_6 (fun c6 => ?_) (fun c6 => ?_)
      · skip
        refine sv_iload_n C rfl rfl d_M_measure_36 ?_
        exact hr _ _ _ _ d_M_measure_37 rfl ⟨congrArg nI (pu_meas_end q1 q2 c6 q4), rfl⟩
      · skip
        exact absurd c6 (by omega)
    | succ k ih =>
      intro j q hq
      obtain ⟨q1, q2, q3, q4⟩ := hq
      have mle := pu_meas_le L j
      refine sv_iload_n C rfl rfl d_M_measure_4 ?_
      refine sv_iload_n C rfl rfl d_M_measure_5 ?_
      refine sv_icmpN_ge C _ _ (by omega) (by omega) 36 (by decide) d_M_measure_6 (fun c6 => ?_) (fun c6 => ?_)
      · skip
        refine sv_iload_n C rfl rfl d_M_measure_36 ?_
        exact hr _ _ _ _ d_M_measure_37 rfl ⟨congrArg nI (pu_meas_end q1 q2 c6 q4), rfl⟩
      · skip
        refine sv_aload_n C rfl rfl d_M_measure_9 ?_
        refine sv_iload_n C rfl rfl d_M_measure_10 ?_
        refine sv_iconst C (v := 1) (by decide) d_M_measure_11 ?_
        refine sv_isubN C _ 1 (by omega) d_M_measure_12 ?_
        refine sv_callVi C (c_M_vowel l g rest ad inl th cm km kw f L hL hf (j - 1) (by omega)) lk_M_277 List.mem_cons_self rfl d_M_measure_13 (by decide) (Nat.le_of_ble_eq_true rfl) (by decide) (fun r w hw => ?_)
        obtain ⟨rfl, rfl⟩ := hw
        refine sv_ifB_eq C _ 30 (by decide) d_M_measure_16 (fun c16 => ?_) (fun c16 => ?_)
        · skip
          refine sv_iincN C 1 _ rfl [some _, some _, some _, some _] rfl d_M_measure_30 ?_
          refine sv_goto C 4 (by decide) d_M_measure_33 ?_
          exact ih (j + 1) q ⟨by omega, by omega, by omega, by rw [pu_meas, if_neg (fun z => c16 z.2.1), q4, Nat.add_zero]⟩
        · skip
          refine sv_aload_n C rfl rfl d_M_measure_19 ?_
          refine sv_iload_n C rfl rfl d_M_measure_20 ?_
          refine sv_callVi C (c_M_vowel l g rest ad inl th cm km kw f L hL hf j (by omega)) lk_M_277 List.mem_cons_self rfl d_M_measure_21 (by decide) (Nat.le_of_ble_eq_true rfl) (by decide) (fun r w hw => ?_)
          obtain ⟨rfl, rfl⟩ := hw
          refine sv_ifB_ne C _ 30 (by decide) d_M_measure_24 (fun c24 => ?_) (fun c24 => ?_)
          · skip
            refine sv_iincN C 1 _ rfl [some _, some _, some _, some _] rfl d_M_measure_30 ?_
            refine sv_goto C 4 (by decide) d_M_measure_33 ?_
            exact ih (j + 1) q ⟨by omega, by omega, by omega, by rw [pu_meas, if_neg (fun z => by have z3 := z.2.2; rw [c24] at z3; cases z3), q4, Nat.add_zero]⟩
          · skip
            refine sv_iincN C 1 _ rfl [some _, some _, some _, some _] rfl d_M_measure_27 ?_
            refine sv_iincN C 1 _ rfl [some _, some _, some _, some _] rfl d_M_measure_30 ?_
            refine sv_goto C 4 (by decide) d_M_measure_33 ?_
            exact ih (j + 1) (q + 1) ⟨by omega, by omega, by omega, by rw [pu_meas, if_pos ⟨q1, c16, pu_vowF c24⟩, q4]⟩
  refine sv_iconst C (v := 0) (by decide) d_M_measure_0 ?_
  refine sv_istore_n C rfl (by decide) [some _, some _, some _, none] rfl d_M_measure_1 ?_
  refine sv_iconst C (v := 1) (by decide) d_M_measure_2 ?_
  refine sv_istore_n C rfl (by decide) [some _, some _, some _, some _] rfl d_M_measure_3 ?_
  exact L4 m 1 0 ⟨by omega, by omega, by omega, by simp [pu_meas]⟩

def rm_M_anyVowel : Room := { frames := 2, cells := 0, slots := 0, locals := 104 }
set_option maxHeartbeats 4000000 in
set_option maxRecDepth 100000 in
theorem c_M_anyVowel (l : Launch) (g : sv_G) (rest : va_W) (ad : Nat → Nat) (inl th cm km kw : Int32) (f : Nat → Int32) (L : List Int32) (hL : L.length ≤ 255) (hf : pr_W f L) (m : Nat) (hm : m ≤ L.length) : sv_Mi l y_M_anyVowel b_M_anyVowel 3 (some (.boolean)) rm_M_anyVowel g [.ref (ad 0), .int (nI m)] ((ad 0, .inr (7, [.ref (ad 7), .ref (ad 8), .ref (ad 9), .ref (ad 10), .ref (ad 1), .int inl, .int th, .ref (ad 2), .int cm, .ref (ad 3), .ref (ad 4), .ref (ad 5), .int km, .int kw, .ref (ad 6), .int (nI L.length)])) :: (ad 6, .inl (g.2.1 0, 260, .inl f)) :: rest) (fun r w => r = (if pu_anyV L m = true then 1 else 0) ∧ w = ((ad 0, .inr (7, [.ref (ad 7), .ref (ad 8), .ref (ad 9), .ref (ad 10), .ref (ad 1), .int inl, .int th, .ref (ad 2), .int cm, .ref (ad 3), .ref (ad 4), .ref (ad 5), .int km, .int kw, .ref (ad 6), .int (nI L.length)])) :: (ad 6, .inl (g.2.1 0, 260, .inl f)) :: rest)) := by
  refine sv_enter_i (by decide) rfl rfl (Nat.le_of_ble_eq_true rfl) (fun X C hI hr => ?_)
  refine sv_lvE (lv' := [some _, some _, none]) rfl ?_
  have L2 : ∀ (k : Nat) (j : Nat), (j ≤ m ∧ m ≤ j + k ∧ ∀ i, i < j → pu_vow L i = false) → sv_V X 3 0 0 ((ad 0, .inr (7, [.ref (ad 7), .ref (ad 8), .ref (ad 9), .ref (ad 10), .ref (ad 1), .int inl, .int th, .ref (ad 2), .int cm, .ref (ad 3), .ref (ad 4), .ref (ad 5), .int km, .int kw, .ref (ad 6), .int (nI L.length)])) :: (ad 6, .inl (g.2.1 0, 260, .inl f)) :: rest) 2 [some (.ref (ad 0)), some (.int (nI m)), some (.int (nI j))] [] := by
    intro k
    induction k with
    | zero =>
      intro j hq
      obtain ⟨q1, q2, q3⟩ := hq
      refine sv_iload_n C rfl rfl d_M_anyVowel_2 ?_
      refine sv_iload_n C rfl rfl d_M_anyVowel_3 ?_
      refine sv_icmpN_ge C _ _ (by omega) (by omega) 23 (by decide) d_M_anyVowel_4 (fun c4 => ?_) (fun c4 => ?_)
      · skip
        refine sv_iconst C (v := 0) (by decide) d_M_anyVowel_23 ?_
        exact hr _ _ _ _ d_M_anyVowel_24 rfl ⟨(if_neg (by rw [pu_anyV_false (fun i hi => q3 i (by omega))]; exact Bool.false_ne_true)).symm, rfl⟩
      · skip
        exact absurd c4 (by omega)
    | succ k ih =>
      intro j hq
      obtain ⟨q1, q2, q3⟩ := hq
      refine sv_iload_n C rfl rfl d_M_anyVowel_2 ?_
      refine sv_iload_n C rfl rfl d_M_anyVowel_3 ?_
      refine sv_icmpN_ge C _ _ (by omega) (by omega) 23 (by decide) d_M_anyVowel_4 (fun c4 => ?_) (fun c4 => ?_)
      · skip
        refine sv_iconst C (v := 0) (by decide) d_M_anyVowel_23 ?_
        exact hr _ _ _ _ d_M_anyVowel_24 rfl ⟨(if_neg (by rw [pu_anyV_false (fun i hi => q3 i (by omega))]; exact Bool.false_ne_true)).symm, rfl⟩
      · skip
        refine sv_aload_n C rfl rfl d_M_anyVowel_7 ?_
        refine sv_iload_n C rfl rfl d_M_anyVowel_8 ?_
        refine sv_callVi C (c_M_vowel l g rest ad inl th cm km kw f L hL hf j (by omega)) lk_M_277 List.mem_cons_self rfl d_M_anyVowel_9 (by decide) (Nat.le_of_ble_eq_true rfl) (by decide) (fun r w hw => ?_)
        obtain ⟨rfl, rfl⟩ := hw
        refine sv_ifB_eq C _ 17 (by decide) d_M_anyVowel_12 (fun c12 => ?_) (fun c12 => ?_)
        · skip
          refine sv_iincN C 1 _ rfl [some _, some _, some _] rfl d_M_anyVowel_17 ?_
          refine sv_goto C 2 (by decide) d_M_anyVowel_20 ?_
          exact ih (j + 1) ⟨by omega, by omega, fun i hi => by
            rcases Nat.lt_or_ge i j with h | h
            · exact q3 i h
            · have hij : i = j := by omega
              subst hij
              exact pu_vowF c12⟩
        · skip
          refine sv_iconst C (v := 1) (by decide) d_M_anyVowel_15 ?_
          exact hr _ _ _ _ d_M_anyVowel_16 rfl ⟨(if_pos (pu_anyV_true (by omega) c12)).symm, rfl⟩
  refine sv_iconst C (v := 0) (by decide) d_M_anyVowel_0 ?_
  refine sv_istore_n C rfl (by decide) [some _, some _, some _] rfl d_M_anyVowel_1 ?_
  exact L2 m 0 ⟨by omega, by omega, fun i hi => absurd hi (Nat.not_lt_zero i)⟩

def rm_M_cvc : Room := { frames := 2, cells := 0, slots := 0, locals := 104 }
set_option maxHeartbeats 4000000 in
set_option maxRecDepth 100000 in
theorem c_M_cvc (l : Launch) (g : sv_G) (rest : va_W) (ad : Nat → Nat) (inl th cm km kw : Int32) (f : Nat → Int32) (L : List Int32) (hL : L.length ≤ 255) (hf : pr_W f L) (m : Nat) (hm : m ≤ L.length) : sv_Mi l y_M_cvc b_M_cvc 2 (some (.boolean)) rm_M_cvc g [.ref (ad 0), .int (nI m)] ((ad 0, .inr (7, [.ref (ad 7), .ref (ad 8), .ref (ad 9), .ref (ad 10), .ref (ad 1), .int inl, .int th, .ref (ad 2), .int cm, .ref (ad 3), .ref (ad 4), .ref (ad 5), .int km, .int kw, .ref (ad 6), .int (nI L.length)])) :: (ad 6, .inl (g.2.1 0, 260, .inl f)) :: rest) (fun r w => r = (if pu_cvc L m then 1 else 0) ∧ w = ((ad 0, .inr (7, [.ref (ad 7), .ref (ad 8), .ref (ad 9), .ref (ad 10), .ref (ad 1), .int inl, .int th, .ref (ad 2), .int cm, .ref (ad 3), .ref (ad 4), .ref (ad 5), .int km, .int kw, .ref (ad 6), .int (nI L.length)])) :: (ad 6, .inl (g.2.1 0, 260, .inl f)) :: rest)) := by
  refine sv_enter_i (by decide) rfl rfl (Nat.le_of_ble_eq_true rfl) (fun X C hI hr => ?_)
  refine sv_lvE (lv' := [some _, some _]) rfl ?_
  refine sv_iload_n C rfl rfl d_M_cvc_0 ?_
  refine sv_iconst C (v := 2) (by decide) d_M_cvc_1 ?_
  refine sv_icmpN_le C _ 2 (by omega) (by omega) 78 (by decide) d_M_cvc_2 (fun c2 => ?_) (fun c2 => ?_)
  · skip
    refine sv_iconst C (v := 0) (by decide) d_M_cvc_78 ?_
    exact hr _ _ _ _ d_M_cvc_79 rfl ⟨(if_neg (fun z => absurd z.1 (by omega))).symm, rfl⟩
  · skip
    refine sv_aload_n C rfl rfl d_M_cvc_5 ?_
    refine sv_iload_n C rfl rfl d_M_cvc_6 ?_
    refine sv_iconst C (v := 3) (by decide) d_M_cvc_7 ?_
    refine sv_isubN C _ 3 (by omega) d_M_cvc_8 ?_
    refine sv_callVi C (c_M_vowel l g rest ad inl th cm km kw f L hL hf (m - 3) (by omega)) lk_M_277 List.mem_cons_self rfl d_M_cvc_9 (by decide) (Nat.le_of_ble_eq_true rfl) (by decide) (fun r w hw => ?_)
    obtain ⟨rfl, rfl⟩ := hw
    refine sv_ifB_ne C _ 78 (by decide) d_M_cvc_12 (fun c12 => ?_) (fun c12 => ?_)
    · skip
      refine sv_iconst C (v := 0) (by decide) d_M_cvc_78 ?_
      exact hr _ _ _ _ d_M_cvc_79 rfl ⟨(if_neg (fun z => (by have z3 := z.2.1; rw [c12] at z3; cases z3))).symm, rfl⟩
    · skip
      refine sv_aload_n C rfl rfl d_M_cvc_15 ?_
      refine sv_iload_n C rfl rfl d_M_cvc_16 ?_
      refine sv_iconst C (v := 2) (by decide) d_M_cvc_17 ?_
      refine sv_isubN C _ 2 (by omega) d_M_cvc_18 ?_
      refine sv_callVi C (c_M_vowel l g rest ad inl th cm km kw f L hL hf (m - 2) (by omega)) lk_M_277 List.mem_cons_self rfl d_M_cvc_19 (by decide) (Nat.le_of_ble_eq_true rfl) (by decide) (fun r w hw => ?_)
      obtain ⟨rfl, rfl⟩ := hw
      refine sv_ifB_eq C _ 78 (by decide) d_M_cvc_22 (fun c22 => ?_) (fun c22 => ?_)
      · skip
        refine sv_iconst C (v := 0) (by decide) d_M_cvc_78 ?_
        exact hr _ _ _ _ d_M_cvc_79 rfl ⟨(if_neg (fun z => c22 z.2.2.1)).symm, rfl⟩
      · skip
        refine sv_aload_n C rfl rfl d_M_cvc_25 ?_
        refine sv_iload_n C rfl rfl d_M_cvc_26 ?_
        refine sv_iconst C (v := 1) (by decide) d_M_cvc_27 ?_
        refine sv_isubN C _ 1 (by omega) d_M_cvc_28 ?_
        refine sv_callVi C (c_M_vowel l g rest ad inl th cm km kw f L hL hf (m - 1) (by omega)) lk_M_277 List.mem_cons_self rfl d_M_cvc_29 (by decide) (Nat.le_of_ble_eq_true rfl) (by decide) (fun r w hw => ?_)
        obtain ⟨rfl, rfl⟩ := hw
        refine sv_ifB_ne C _ 78 (by decide) d_M_cvc_32 (fun c32 => ?_) (fun c32 => ?_)
        · skip
          refine sv_iconst C (v := 0) (by decide) d_M_cvc_78 ?_
          exact hr _ _ _ _ d_M_cvc_79 rfl ⟨(if_neg (fun z => (by have z3 := z.2.2.2.1; rw [c32] at z3; cases z3))).symm, rfl⟩
        · skip
          refine sv_aload_n C rfl rfl d_M_cvc_35 ?_
          refine sv_get C fg_M_207 0 rfl rfl d_M_cvc_36 ?_
          refine sv_iload_n C rfl rfl d_M_cvc_39 ?_
          refine sv_iconst C (v := 1) (by decide) d_M_cvc_40 ?_
          refine sv_isubN C _ 1 (by omega) d_M_cvc_41 ?_
          refine sv_ialdN C _ 1 rfl (by omega) (by decide) d_M_cvc_42 ?_
          refine sv_eqi (hf _ (by omega)) ?_
          refine sv_bipush C (v := 119) (by decide) d_M_cvc_43 ?_
          refine sv_icmp_eq C 78 (by decide) d_M_cvc_45 (fun c45 => ?_) (fun c45 => ?_)
          · skip
            refine sv_iconst C (v := 0) (by decide) d_M_cvc_78 ?_
            exact hr _ _ _ _ d_M_cvc_79 rfl ⟨(if_neg (fun z => z.2.2.2.2.1 c45)).symm, rfl⟩
          · skip
            refine sv_aload_n C rfl rfl d_M_cvc_48 ?_
            refine sv_get C fg_M_207 0 rfl rfl d_M_cvc_49 ?_
            refine sv_iload_n C rfl rfl d_M_cvc_52 ?_
            refine sv_iconst C (v := 1) (by decide) d_M_cvc_53 ?_
            refine sv_isubN C _ 1 (by omega) d_M_cvc_54 ?_
            refine sv_ialdN C _ 1 rfl (by omega) (by decide) d_M_cvc_55 ?_
            refine sv_eqi (hf _ (by omega)) ?_
            refine sv_bipush C (v := 120) (by decide) d_M_cvc_56 ?_
            refine sv_icmp_eq C 78 (by decide) d_M_cvc_58 (fun c58 => ?_) (fun c58 => ?_)
            · skip
              refine sv_iconst C (v := 0) (by decide) d_M_cvc_78 ?_
              exact hr _ _ _ _ d_M_cvc_79 rfl ⟨(if_neg (fun z => z.2.2.2.2.2.1 c58)).symm, rfl⟩
            · skip
              refine sv_aload_n C rfl rfl d_M_cvc_61 ?_
              refine sv_get C fg_M_207 0 rfl rfl d_M_cvc_62 ?_
              refine sv_iload_n C rfl rfl d_M_cvc_65 ?_
              refine sv_iconst C (v := 1) (by decide) d_M_cvc_66 ?_
              refine sv_isubN C _ 1 (by omega) d_M_cvc_67 ?_
              refine sv_ialdN C _ 1 rfl (by omega) (by decide) d_M_cvc_68 ?_
              refine sv_eqi (hf _ (by omega)) ?_
              refine sv_bipush C (v := 121) (by decide) d_M_cvc_69 ?_
              refine sv_icmp_eq C 78 (by decide) d_M_cvc_71 (fun c71 => ?_) (fun c71 => ?_)
              · skip
                refine sv_iconst C (v := 0) (by decide) d_M_cvc_78 ?_
                exact hr _ _ _ _ d_M_cvc_79 rfl ⟨(if_neg (fun z => z.2.2.2.2.2.2 c71)).symm, rfl⟩
              · skip
                refine sv_iconst C (v := 1) (by decide) d_M_cvc_74 ?_
                refine sv_goto C 79 (by decide) d_M_cvc_75 ?_
                exact hr _ _ _ _ d_M_cvc_79 rfl ⟨(if_pos ⟨by omega, pu_vowF c12, c22, pu_vowF c32, c45, c58, c71⟩).symm, rfl⟩

def rm_M_instead : Room := { frames := 6, cells := 0, slots := 0, locals := 186 }
set_option maxHeartbeats 4000000 in
set_option maxRecDepth 100000 in
theorem c_M_instead (l : Launch) (g : sv_G) (rest : va_W) (ad : Nat → Nat) (inl th cm km kw : Int32) (f : Nat → Int32) (L : List Int32) (hL : L.length ≤ 255) (hf : pr_W f L) (m i : Nat) (hm : m ≤ L.length) (hi : i < sv_nS) (hc : m + (sv_txt i).length ≤ 255) : sv_Mv l y_M_instead b_M_instead 4 none rm_M_instead g [.ref (ad 0), .int (nI m), .ref (g.2.2.1 i)] ((ad 0, .inr (7, [.ref (ad 7), .ref (ad 8), .ref (ad 9), .ref (ad 10), .ref (ad 1), .int inl, .int th, .ref (ad 2), .int cm, .ref (ad 3), .ref (ad 4), .ref (ad 5), .int km, .int kw, .ref (ad 6), .int (nI L.length)])) :: (ad 6, .inl (g.2.1 0, 260, .inl f)) :: rest) (fun w => ∃ f2 : Nat → Int32, w = ((ad 0, .inr (7, [.ref (ad 7), .ref (ad 8), .ref (ad 9), .ref (ad 10), .ref (ad 1), .int inl, .int th, .ref (ad 2), .int cm, .ref (ad 3), .ref (ad 4), .ref (ad 5), .int km, .int kw, .ref (ad 6), .int (nI (L.take m ++ sv_txt i).length)])) :: (ad 6, .inl (g.2.1 0, 260, .inl f2)) :: rest) ∧ pr_W f2 (L.take m ++ sv_txt i)) := by
  have hlt : (L.take m).length = m := by rw [List.length_take]; omega
  have hl := sv_len hi
  refine sv_enter_v (by decide) rfl rfl (Nat.le_of_ble_eq_true rfl) (fun X C hI hr => ?_)
  refine sv_lvE (lv' := [some _, some _, some _, none]) rfl ?_
  have L2 : ∀ (k : Nat) (j : Nat) (f2 : Nat → Int32), (j ≤ (sv_txt i).length ∧ (sv_txt i).length ≤ j + k ∧ pr_W f2 (L.take m ++ (sv_txt i).take j)) → sv_V X 4 0 0 ((ad 0, .inr (7, [.ref (ad 7), .ref (ad 8), .ref (ad 9), .ref (ad 10), .ref (ad 1), .int inl, .int th, .ref (ad 2), .int cm, .ref (ad 3), .ref (ad 4), .ref (ad 5), .int km, .int kw, .ref (ad 6), .int (nI L.length)])) :: (ad 6, .inl (g.2.1 0, 260, .inl f2)) :: rest) 2 [some (.ref (ad 0)), some (.int (nI m)), some (.ref (g.2.2.1 i)), some (.int (nI j))] [] := by
    intro k
    induction k with
    | zero =>
      intro j f2 hq
      obtain ⟨q1, q2, q4⟩ := hq
      refine sv_iload_n C rfl rfl d_M_instead_2 ?_
      refine sv_aload_n C rfl rfl d_M_instead_3 ?_
      refine sv_callVsi C i hi (c_Str_length l g _ i hi) lk_M_266 rfl d_M_instead_4 (by decide) (Nat.le_of_ble_eq_true rfl) (by decide) (fun r w hw => ?_)
      obtain ⟨rfl, rfl⟩ := hw
      refine sv_icmpN_ge C _ _ (by omega) (by omega) 29 (by decide) d_M_instead_7 (fun c7 => ?_) (fun c7 => ?_)
      · skip
        refine sv_aload_n C rfl rfl d_M_instead_29 ?_
        refine sv_iload_n C rfl rfl d_M_instead_30 ?_
        refine sv_aload_n C rfl rfl d_M_instead_31 ?_
        refine sv_callVsi C i hi (c_Str_length l g _ i hi) lk_M_266 rfl d_M_instead_32 (by decide) (Nat.le_of_ble_eq_true rfl) (by decide) (fun r w hw => ?_)
        obtain ⟨rfl, rfl⟩ := hw
        refine sv_iaddN C _ _  d_M_instead_35 ?_
        refine sv_put C fp_M_254 0 rfl rfl rfl (Nat.le_of_ble_eq_true rfl) ((_, .inr (_, [_, _, _, _, _, _, _, _, _, _, _, _, _, _, _, _])) :: _ :: _) rfl d_M_instead_36 ?_
        have hj : j = (sv_txt i).length := by omega
        subst hj
        rw [List.take_length] at q4
        exact hr _ _ _ d_M_instead_39 ⟨f2, by rw [List.length_append, hlt], q4⟩
      · skip
        exact absurd c7 (by omega)
    | succ k ih =>
      intro j f2 hq
      obtain ⟨q1, q2, q4⟩ := hq
      refine sv_iload_n C rfl rfl d_M_instead_2 ?_
      refine sv_aload_n C rfl rfl d_M_instead_3 ?_
      refine sv_callVsi C i hi (c_Str_length l g _ i hi) lk_M_266 rfl d_M_instead_4 (by decide) (Nat.le_of_ble_eq_true rfl) (by decide) (fun r w hw => ?_)
      obtain ⟨rfl, rfl⟩ := hw
      refine sv_icmpN_ge C _ _ (by omega) (by omega) 29 (by decide) d_M_instead_7 (fun c7 => ?_) (fun c7 => ?_)
      · skip
        refine sv_aload_n C rfl rfl d_M_instead_29 ?_
        refine sv_iload_n C rfl rfl d_M_instead_30 ?_
        refine sv_aload_n C rfl rfl d_M_instead_31 ?_
        refine sv_callVsi C i hi (c_Str_length l g _ i hi) lk_M_266 rfl d_M_instead_32 (by decide) (Nat.le_of_ble_eq_true rfl) (by decide) (fun r w hw => ?_)
        obtain ⟨rfl, rfl⟩ := hw
        refine sv_iaddN C _ _  d_M_instead_35 ?_
        refine sv_put C fp_M_254 0 rfl rfl rfl (Nat.le_of_ble_eq_true rfl) ((_, .inr (_, [_, _, _, _, _, _, _, _, _, _, _, _, _, _, _, _])) :: _ :: _) rfl d_M_instead_36 ?_
        have hj : j = (sv_txt i).length := by omega
        subst hj
        rw [List.take_length] at q4
        exact hr _ _ _ d_M_instead_39 ⟨f2, by rw [List.length_append, hlt], q4⟩
      · skip
        refine sv_aload_n C rfl rfl d_M_instead_10 ?_
        refine sv_get C fg_M_207 0 rfl rfl d_M_instead_11 ?_
        refine sv_iload_n C rfl rfl d_M_instead_14 ?_
        refine sv_iload_n C rfl rfl d_M_instead_15 ?_
        refine sv_iaddN C _ _  d_M_instead_16 ?_
        refine sv_aload_n C rfl rfl d_M_instead_17 ?_
        refine sv_iload_n C rfl rfl d_M_instead_18 ?_
        refine sv_callVsi C i hi (c_Str_charAt l g _ i j hi c7) lk_M_273 rfl d_M_instead_19 (by decide) (Nat.le_of_ble_eq_true rfl) (by decide) (fun r w hw => ?_)
        obtain ⟨rfl, rfl⟩ := hw
        refine sv_iastN C _ 1 rfl (by omega) (by decide) (_ :: _ :: _) rfl d_M_instead_22 ?_
        refine sv_iincN C 1 _ rfl [some _, some _, some _, some _] rfl d_M_instead_23 ?_
        refine sv_goto C 2 (by decide) d_M_instead_26 ?_
        exact ih (j + 1) _ ⟨by omega, by omega, by
          rw [pu_take_snoc c7, ← List.append_assoc]
          exact pr_snoc (by rw [List.length_append, List.length_take, List.length_take]; omega) q4⟩
  refine sv_iconst C (v := 0) (by decide) d_M_instead_0 ?_
  refine sv_istore_n C rfl (by decide) [some _, some _, some _, some _] rfl d_M_instead_1 ?_
  exact L2 (sv_txt i).length 0 f ⟨by omega, by omega, by rw [List.take_zero, List.append_nil]; exact pr_take hf m⟩

def rm_M_longest : Room := { frames := 7, cells := 0, slots := 0, locals := 208 }
set_option maxHeartbeats 4000000 in
set_option maxRecDepth 100000 in
theorem c_M_longest (l : Launch) (g : sv_G) (rest : va_W) (ad : Nat → Nat) (inl th cm km kw : Int32) (f : Nat → Int32) (L : List Int32) (hL : L.length ≤ 255) (hf : pr_W f L) (aa n : Nat) (tx : Nat → Nat) (hS0 : sv_SA g rest aa (2 * n) tx) (hn : n ≤ 20) : sv_Mi l y_M_longest b_M_longest 4 (some (.int)) rm_M_longest g [.ref (ad 0), .ref aa] ((ad 0, .inr (7, [.ref (ad 7), .ref (ad 8), .ref (ad 9), .ref (ad 10), .ref (ad 1), .int inl, .int th, .ref (ad 2), .int cm, .ref (ad 3), .ref (ad 4), .ref (ad 5), .int km, .int kw, .ref (ad 6), .int (nI L.length)])) :: (ad 6, .inl (g.2.1 0, 260, .inl f)) :: rest) (fun r w => r = pf_b (pu_lng L (sv_EL (fun k => tx (2 * k)) n) 0 none) ∧ w = ((ad 0, .inr (7, [.ref (ad 7), .ref (ad 8), .ref (ad 9), .ref (ad 10), .ref (ad 1), .int inl, .int th, .ref (ad 2), .int cm, .ref (ad 3), .ref (ad 4), .ref (ad 5), .int km, .int kw, .ref (ad 6), .int (nI L.length)])) :: (ad 6, .inl (g.2.1 0, 260, .inl f)) :: rest)) := by
  obtain ⟨fa, hA, hE⟩ := hS0
  refine sv_enter_i (by decide) rfl rfl (Nat.le_of_ble_eq_true rfl) (fun X C hI hr => ?_)
  refine sv_lvE (lv' := [some _, some _, none, none]) rfl ?_
  have L4 : ∀ (k : Nat) (j m : Nat) (b : Option (Nat × List Int32)), (j ≤ n ∧ n ≤ j + k ∧ m = 2 * j ∧ (∀ q, b = some q → q.1 < n ∧ q.2 = sv_txt (tx (2 * q.1))) ∧ pu_lng L (sv_EL (fun k => tx (2 * k)) n) 0 none = pu_lng L ((sv_EL (fun k => tx (2 * k)) n).drop j) j b) → sv_V X 4 0 0 ((ad 0, .inr (7, [.ref (ad 7), .ref (ad 8), .ref (ad 9), .ref (ad 10), .ref (ad 1), .int inl, .int th, .ref (ad 2), .int cm, .ref (ad 3), .ref (ad 4), .ref (ad 5), .int km, .int kw, .ref (ad 6), .int (nI L.length)])) :: (ad 6, .inl (g.2.1 0, 260, .inl f)) :: rest) 4 [some (.ref (ad 0)), some (.ref aa), some (.int (pf_b b)), some (.int (nI m))] [] := by
    intro k
    induction k with
    | zero =>
      intro j m b hq
      obtain ⟨q1, q2, rfl, q3, q4⟩ := hq
      rcases b with _ | ⟨qi, qt⟩
      · skip
        refine sv_lvE (lv' := [some (.ref (ad 0)), some (.ref aa), some (.int (-1)), some (.int (nI (2 * j)))]) rfl ?_
        refine sv_iload_n C rfl rfl d_M_longest_4 ?_
        refine sv_aload_n C rfl rfl d_M_longest_5 ?_
        refine sv_alen C (t0 := 5) (v := nI (2 * n)) rfl (List.mem_cons_of_mem _ (List.mem_cons_of_mem _ hA)) rfl d_M_longest_6 ?_
        refine sv_icmpN_ge C _ _ (by omega) (by omega) 47 (by decide) d_M_longest_7 (fun c7 => ?_) (fun c7 => ?_)
        · skip
          refine sv_iload_n C rfl rfl d_M_longest_47 ?_
          have e9 : pu_lng L (sv_EL (fun k => tx (2 * k)) n) 0 none = none := by rw [q4, List.drop_eq_nil_of_le (by rw [sv_EL_len]; omega)]; rfl
          exact hr _ _ _ _ d_M_longest_48 rfl ⟨by rw [e9]; rfl, rfl⟩
        · skip
          exact absurd c7 (by omega)
      · skip
        refine sv_lvE (lv' := [some (.ref (ad 0)), some (.ref aa), some (.int (nI (2 * qi))), some (.int (nI (2 * j)))]) rfl ?_
        obtain ⟨b1, b2⟩ := q3 (qi, qt) rfl
        have b1 : qi < n := b1
        have hbq := hE (2 * qi) (by omega)
        have hlb := sv_len hbq.2
        refine sv_iload_n C rfl rfl d_M_longest_4 ?_
        refine sv_aload_n C rfl rfl d_M_longest_5 ?_
        refine sv_alen C (t0 := 5) (v := nI (2 * n)) rfl (List.mem_cons_of_mem _ (List.mem_cons_of_mem _ hA)) rfl d_M_longest_6 ?_
        refine sv_icmpN_ge C _ _ (by omega) (by omega) 47 (by decide) d_M_longest_7 (fun c7 => ?_) (fun c7 => ?_)
        · skip
          refine sv_iload_n C rfl rfl d_M_longest_47 ?_
          have e9 : pu_lng L (sv_EL (fun k => tx (2 * k)) n) 0 none = some (qi, qt) := by rw [q4, List.drop_eq_nil_of_le (by rw [sv_EL_len]; omega)]; rfl
          exact hr _ _ _ _ d_M_longest_48 rfl ⟨by rw [e9]; rfl, rfl⟩
        · skip
          exact absurd c7 (by omega)
    | succ k ih =>
      intro j m b hq
      obtain ⟨q1, q2, rfl, q3, q4⟩ := hq
      rcases b with _ | ⟨qi, qt⟩
      · skip
        refine sv_lvE (lv' := [some (.ref (ad 0)), some (.ref aa), some (.int (-1)), some (.int (nI (2 * j)))]) rfl ?_
        refine sv_iload_n C rfl rfl d_M_longest_4 ?_
        refine sv_aload_n C rfl rfl d_M_longest_5 ?_
        refine sv_alen C (t0 := 5) (v := nI (2 * n)) rfl (List.mem_cons_of_mem _ (List.mem_cons_of_mem _ hA)) rfl d_M_longest_6 ?_
        refine sv_icmpN_ge C _ _ (by omega) (by omega) 47 (by decide) d_M_longest_7 (fun c7 => ?_) (fun c7 => ?_)
        · skip
          refine sv_iload_n C rfl rfl d_M_longest_47 ?_
          have e9 : pu_lng L (sv_EL (fun k => tx (2 * k)) n) 0 none = none := by rw [q4, List.drop_eq_nil_of_le (by rw [sv_EL_len]; omega)]; rfl
          exact hr _ _ _ _ d_M_longest_48 rfl ⟨by rw [e9]; rfl, rfl⟩
        · skip
          have hj := hE (2 * j) (by omega)
          have hlj := sv_len hj.2
          refine sv_aload_n C rfl rfl d_M_longest_10 ?_
          refine sv_aload_n C rfl rfl d_M_longest_11 ?_
          refine sv_iload_n C rfl rfl d_M_longest_12 ?_
          refine sv_aaldSN C _ (List.mem_cons_of_mem _ (List.mem_cons_of_mem _ hA)) (by omega) (by omega) d_M_longest_13 ?_
          refine sv_eqv (w := .ref (g.2.2.1 (tx (2 * j)))) (by rw [hj.1]; rfl) ?_
          refine sv_callVi C (c_M_ends l g rest ad inl th cm km kw f L hL hf (tx (2 * j)) hj.2) lk_M_270 List.mem_cons_self rfl d_M_longest_14 (by decide) (Nat.le_of_ble_eq_true rfl) (by decide) (fun r w hw => ?_)
          obtain ⟨rfl, rfl⟩ := hw
          refine sv_ifB_eq C _ 41 (by decide) d_M_longest_17 (fun c17 => ?_) (fun c17 => ?_)
          · skip
            refine sv_iincN C 2 _ rfl [some _, some _, some _, some _] rfl d_M_longest_41 ?_
            refine sv_goto C 4 (by decide) d_M_longest_44 ?_
            exact ih (j + 1) (2 * j + 2) none ⟨by omega, by omega, by omega, q3, by rw [q4, sv_EL_drop (by omega), pu_lng, if_neg (fun z => c17 z.1)]⟩
          · skip
            refine sv_iload_n C rfl rfl d_M_longest_20 ?_
            refine sv_ifZ_lt C 39 (by decide) d_M_longest_21 (fun c21 => ?_) (fun c21 => ?_)
            · skip
              refine sv_iload_n C rfl rfl d_M_longest_39 ?_
              refine sv_istore_n C rfl (by decide) [some _, some _, some _, some _] rfl d_M_longest_40 ?_
              refine sv_iincN C 2 _ rfl [some _, some _, some _, some _] rfl d_M_longest_41 ?_
              refine sv_goto C 4 (by decide) d_M_longest_44 ?_
              exact ih (j + 1) (2 * j + 2) (some (j, sv_txt (tx (2 * j)))) ⟨by omega, by omega, by omega, fun q hq => by cases hq; exact ⟨by omega, rfl⟩, by rw [q4, sv_EL_drop (by omega), pu_lng, if_pos ⟨c17, fun q hq => by cases hq⟩]⟩
            · skip
              exact absurd c21 (by decide)
      · skip
        refine sv_lvE (lv' := [some (.ref (ad 0)), some (.ref aa), some (.int (nI (2 * qi))), some (.int (nI (2 * j)))]) rfl ?_
        obtain ⟨b1, b2⟩ := q3 (qi, qt) rfl
        have b1 : qi < n := b1
        have hbq := hE (2 * qi) (by omega)
        have hlb := sv_len hbq.2
        refine sv_iload_n C rfl rfl d_M_longest_4 ?_
        refine sv_aload_n C rfl rfl d_M_longest_5 ?_
        refine sv_alen C (t0 := 5) (v := nI (2 * n)) rfl (List.mem_cons_of_mem _ (List.mem_cons_of_mem _ hA)) rfl d_M_longest_6 ?_
        refine sv_icmpN_ge C _ _ (by omega) (by omega) 47 (by decide) d_M_longest_7 (fun c7 => ?_) (fun c7 => ?_)
        · skip
          refine sv_iload_n C rfl rfl d_M_longest_47 ?_
          have e9 : pu_lng L (sv_EL (fun k => tx (2 * k)) n) 0 none = some (qi, qt) := by rw [q4, List.drop_eq_nil_of_le (by rw [sv_EL_len]; omega)]; rfl
          exact hr _ _ _ _ d_M_longest_48 rfl ⟨by rw [e9]; rfl, rfl⟩
        · skip
          have hj := hE (2 * j) (by omega)
          have hlj := sv_len hj.2
          refine sv_aload_n C rfl rfl d_M_longest_10 ?_
          refine sv_aload_n C rfl rfl d_M_longest_11 ?_
          refine sv_iload_n C rfl rfl d_M_longest_12 ?_
          refine sv_aaldSN C _ (List.mem_cons_of_mem _ (List.mem_cons_of_mem _ hA)) (by omega) (by omega) d_M_longest_13 ?_
          refine sv_eqv (w := .ref (g.2.2.1 (tx (2 * j)))) (by rw [hj.1]; rfl) ?_
          refine sv_callVi C (c_M_ends l g rest ad inl th cm km kw f L hL hf (tx (2 * j)) hj.2) lk_M_270 List.mem_cons_self rfl d_M_longest_14 (by decide) (Nat.le_of_ble_eq_true rfl) (by decide) (fun r w hw => ?_)
          obtain ⟨rfl, rfl⟩ := hw
          refine sv_ifB_eq C _ 41 (by decide) d_M_longest_17 (fun c17 => ?_) (fun c17 => ?_)
          · skip
            refine sv_iincN C 2 _ rfl [some _, some _, some _, some _] rfl d_M_longest_41 ?_
            refine sv_goto C 4 (by decide) d_M_longest_44 ?_
            exact ih (j + 1) (2 * j + 2) (some (qi, qt)) ⟨by omega, by omega, by omega, q3, by rw [q4, sv_EL_drop (by omega), pu_lng, if_neg (fun z => c17 z.1)]⟩
          · skip
            refine sv_iload_n C rfl rfl d_M_longest_20 ?_
            refine sv_ifZ_lt C 39 (by decide) d_M_longest_21 (fun c21 => ?_) (fun c21 => ?_)
            · skip
              exact absurd c21 (by rw [nI_toInt (by omega)]; omega)
            · skip
              refine sv_aload_n C rfl rfl d_M_longest_24 ?_
              refine sv_iload_n C rfl rfl d_M_longest_25 ?_
              refine sv_aaldSN C _ (List.mem_cons_of_mem _ (List.mem_cons_of_mem _ hA)) (by omega) (by omega) d_M_longest_26 ?_
              refine sv_eqv (w := .ref (g.2.2.1 (tx (2 * j)))) (by rw [hj.1]; rfl) ?_
              refine sv_callVsi C (tx (2 * j)) hj.2 (c_Str_length l g _ (tx (2 * j)) hj.2) lk_M_266 rfl d_M_longest_27 (by decide) (Nat.le_of_ble_eq_true rfl) (by decide) (fun r w hw => ?_)
              obtain ⟨rfl, rfl⟩ := hw
              refine sv_aload_n C rfl rfl d_M_longest_30 ?_
              refine sv_iload_n C rfl rfl d_M_longest_31 ?_
              refine sv_aaldSN C _ (List.mem_cons_of_mem _ (List.mem_cons_of_mem _ hA)) (by omega) (by omega) d_M_longest_32 ?_
              refine sv_eqv (w := .ref (g.2.2.1 (tx (2 * qi)))) (by rw [hbq.1]; rfl) ?_
              refine sv_callVsi C (tx (2 * qi)) hbq.2 (c_Str_length l g _ (tx (2 * qi)) hbq.2) lk_M_266 rfl d_M_longest_33 (by decide) (Nat.le_of_ble_eq_true rfl) (by decide) (fun r w hw => ?_)
              obtain ⟨rfl, rfl⟩ := hw
              refine sv_icmpN_le C _ _ (by omega) (by omega) 41 (by decide) d_M_longest_36 (fun c36 => ?_) (fun c36 => ?_)
              · skip
                refine sv_iincN C 2 _ rfl [some _, some _, some _, some _] rfl d_M_longest_41 ?_
                refine sv_goto C 4 (by decide) d_M_longest_44 ?_
                exact ih (j + 1) (2 * j + 2) (some (qi, qt)) ⟨by omega, by omega, by omega, q3, by rw [q4, sv_EL_drop (by omega), pu_lng, if_neg (fun z => absurd (z.2 (qi, qt) rfl) (by show ¬ qt.length < _; rw [show qt = sv_txt (tx (2 * qi)) from b2]; omega))]⟩
              · skip
                refine sv_iload_n C rfl rfl d_M_longest_39 ?_
                refine sv_istore_n C rfl (by decide) [some _, some _, some _, some _] rfl d_M_longest_40 ?_
                refine sv_iincN C 2 _ rfl [some _, some _, some _, some _] rfl d_M_longest_41 ?_
                refine sv_goto C 4 (by decide) d_M_longest_44 ?_
                exact ih (j + 1) (2 * j + 2) (some (j, sv_txt (tx (2 * j)))) ⟨by omega, by omega, by omega, fun q hq => by cases hq; exact ⟨by omega, rfl⟩, by rw [q4, sv_EL_drop (by omega), pu_lng, if_pos ⟨c17, fun q hq => by cases hq; show qt.length < _; rw [show qt = sv_txt (tx (2 * qi)) from b2]; exact c36⟩]⟩
  refine sv_iconst C (v := (-1)) (by decide) d_M_longest_0 ?_
  refine sv_istore_n C rfl (by decide) [some _, some _, some _, none] rfl d_M_longest_1 ?_
  refine sv_iconst C (v := 0) (by decide) d_M_longest_2 ?_
  refine sv_istore_n C rfl (by decide) [some _, some _, some _, some _] rfl d_M_longest_3 ?_
  exact L4 n 0 0 none ⟨by omega, by omega, rfl, fun q hq => (by cases hq), rfl⟩
