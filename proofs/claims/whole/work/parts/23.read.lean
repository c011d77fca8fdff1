/-! CONTRACTS: Text.read -/
theorem pu_chars_go {u : Nat → Nat} {e k a : Nat} (h : a < e) : pu_chars u e (k + 1) a = pu_char u a e :: pu_chars u e k (a + pu_step u a e) := by
  rw [pu_chars, if_pos h]
theorem pu_chars_end {u : Nat → Nat} {e k a : Nat} (h : ¬ a < e) : pu_chars u e k a = [] := by
  cases k with
  | zero => rfl
  | succ k => rw [pu_chars, if_neg h]
theorem pu_step_in {u : Nat → Nat} {a e : Nat} (h : a < e) : a + pu_step u a e ≤ e := by
  have := pu_size_in (u := u) h
  unfold pu_step
  split <;> omega
theorem pu_snocF {f : Nat → Int32} {D : List Nat} {n c : Nat} {v : Int32} (hn : n = D.length) (h : ∀ i, i < n → f i = nI (D.getD i 0)) (hv : v = nI c) : ∀ i, i < n + 1 → upd f n v i = nI ((D ++ [c]).getD i 0) := by
  subst hn
  intro i hi
  rcases Nat.lt_or_ge i D.length with h1 | h1
  · rw [pk_un (by omega), h i h1, List.getD_eq_getElem?_getD, List.getD_eq_getElem?_getD, List.getElem?_append_left h1]
  · have : i = D.length := by omega
    subst this
    rw [pk_us, hv, List.getD_eq_getElem?_getD, List.getElem?_append_right (Nat.le_refl _), Nat.sub_self]
    rfl
def rm_Te_read : Room := { frames := 2, cells := 0, slots := 0, locals := 80 }
set_option maxHeartbeats 4000000 in
set_option maxRecDepth 100000 in
theorem c_Te_read (l : Launch) (g : sv_G) (rest : va_W) (hT hc hin e : Nat) (n0 : Int32) (f b : Nat → Int32) (he : e ≤ 8192) (hby : ∀ i, (b i).toInt8.toInt32 = b i) : sv_Mv l y_Te_read b_Te_read 5 none rm_Te_read g [.ref hT, .ref hin, .int (nI e)] ((hT, .inr (3, [.ref hc, .int n0])) :: (hc, .inl (g.2.1 0, 8192, .inl f)) :: (hin, .inl (g.2.1 1, 8192, .inl b)) :: rest) (fun w => ∃ f2 : Nat → Int32, w = ((hT, .inr (3, [.ref hc, .int (nI (pu_chars (fun i => pu_u (b i)) e e 0).length)])) :: (hc, .inl (g.2.1 0, 8192, .inl f2)) :: (hin, .inl (g.2.1 1, 8192, .inl b)) :: rest) ∧ ∀ i, i < (pu_chars (fun i => pu_u (b i)) e e 0).length → f2 i = nI ((pu_chars (fun i => pu_u (b i)) e e 0).getD i 0)) := by
  refine sv_enter_v (by decide) rfl rfl (Nat.le_of_ble_eq_true rfl) (fun X C hI hr => ?_)
  refine sv_lvE (lv' := [some _, some _, some _, none, none]) rfl ?_
  have L7 : ∀ (k : Nat) (a n : Nat) (f2 : Nat → Int32) (Dn : List Nat) (o : Option Value), (a ≤ e ∧ e ≤ a + k ∧ n = Dn.length ∧ n ≤ a ∧ (∀ i, i < n → f2 i = nI (Dn.getD i 0)) ∧ pu_chars (fun i => pu_u (b i)) e e 0 = Dn ++ pu_chars (fun i => pu_u (b i)) e k a) → sv_V X 5 0 0 ((hT, .inr (3, [.ref hc, .int (nI n)])) :: (hc, .inl (g.2.1 0, 8192, .inl f2)) :: (hin, .inl (g.2.1 1, 8192, .inl b)) :: rest) 7 [some (.ref hT), some (.ref hin), some (.int (nI e)), some (.int (nI a)), o] [] := by
    intro k
    induction k with
    | zero =>
      intro a n f2 Dn o hq
      obtain ⟨q1, q2, q3, q4, q5, q6⟩ := hq
      have s4 := pu_size_le (fun i => pu_u (b i)) a e
      refine sv_iload_n C rfl rfl d_Te_read_7 ?_
      refine sv_iload_n C rfl rfl d_Te_read_8 ?_
      refine sv_icmpN_ge C _ _ (by omega) (by omega) 68 (by decide) d_Te_read_9 (fun c9 => ?_) (fun c9 => ?_)
      · skip
        have e9 := q6.trans (by rw [pu_chars_end (by omega), List.append_nil])
        rw [← e9] at q3
        subst q3
        exact hr _ _ _ d_Te_read_68 ⟨f2, rfl, fun i hi => by rw [e9]; exact q5 i hi⟩
      · skip
        exact absurd c9 (by omega)
    | succ k ih =>
      intro a n f2 Dn o hq
      obtain ⟨q1, q2, q3, q4, q5, q6⟩ := hq
      have s4 := pu_size_le (fun i => pu_u (b i)) a e
      refine sv_iload_n C rfl rfl d_Te_read_7 ?_
      refine sv_iload_n C rfl rfl d_Te_read_8 ?_
      refine sv_icmpN_ge C _ _ (by omega) (by omega) 68 (by decide) d_Te_read_9 (fun c9 => ?_) (fun c9 => ?_)
      · skip
        have e9 := q6.trans (by rw [pu_chars_end (by omega), List.append_nil])
        rw [← e9] at q3
        subst q3
        exact hr _ _ _ d_Te_read_68 ⟨f2, rfl, fun i hi => by rw [e9]; exact q5 i hi⟩
      · skip
        refine sv_aload_n C rfl rfl d_Te_read_12 ?_
        refine sv_iload_n C rfl rfl d_Te_read_13 ?_
        refine sv_iload_n C rfl rfl d_Te_read_14 ?_
        refine sv_rot [2, 0, 1] [_, _, _] [_, _, _] _ (_ :: _ :: _ :: _) rfl rfl rfl rfl ?_
        refine sv_callSi C (c_Ut_sizeAt l g ((hT, .inr (3, [.ref hc, .int (nI n)])) :: (hc, .inl (g.2.1 0, 8192, .inl f2)) :: rest) hin a e b c9 he) lk_Te_17  d_Te_read_15 (by decide) (Nat.le_of_ble_eq_true rfl) (by decide) (fun r w hw => ?_)
        obtain ⟨rfl, rfl⟩ := hw
        refine sv_istore C (by decide) [some _, some _, some _, some _, some _] rfl d_Te_read_18 ?_
        refine sv_aload_n C rfl rfl d_Te_read_20 ?_
        refine sv_get C fg_Te_13 1 rfl rfl d_Te_read_21 ?_
        refine sv_aload_n C rfl rfl d_Te_read_24 ?_
        refine sv_get C fg_Te_7 1 rfl rfl d_Te_read_25 ?_
        refine sv_iload C rfl d_Te_read_28 ?_
        refine sv_ifN_ne C _ (by omega) 38 (by decide) d_Te_read_30 (fun c30 => ?_) (fun c30 => ?_)
        · skip
          refine sv_aload_n C rfl rfl d_Te_read_38 ?_
          refine sv_iload_n C rfl rfl d_Te_read_39 ?_
          refine sv_iload C rfl d_Te_read_40 ?_
          refine sv_callSi C (c_Ut_valueAt l g ((hT, .inr (3, [.ref hc, .int (nI n)])) :: (hc, .inl (g.2.1 0, 8192, .inl f2)) :: rest) hin a e _ b rfl (by omega) (by have := pu_size_in (u := (fun i => pu_u (b i))) c9; omega) hby) lk_Te_24  d_Te_read_42 (by decide) (Nat.le_of_ble_eq_true rfl) (by decide) (fun r w hw => ?_)
          obtain ⟨rfl, rfl⟩ := hw
          refine sv_iastN C _ 2 rfl (by omega) (by decide) (_ :: _ :: _ :: _) rfl d_Te_read_45 ?_
          refine sv_aload_n C rfl rfl d_Te_read_46 ?_
          refine sv_dup C rfl d_Te_read_47 ?_
          refine sv_get C fg_Te_7 1 rfl rfl d_Te_read_48 ?_
          refine sv_iconst C (v := 1) (by decide) d_Te_read_51 ?_
          refine sv_iaddN C _ 1  d_Te_read_52 ?_
          refine sv_put C fp_Te_7 1 rfl rfl rfl (Nat.le_of_ble_eq_true rfl) (_ :: (_, .inr (_, [_, _])) :: _ :: _) rfl d_Te_read_53 ?_
          refine sv_iload_n C rfl rfl d_Te_read_56 ?_
          refine sv_iconst C (v := 1) (by decide) d_Te_read_57 ?_
          refine sv_iload C rfl d_Te_read_58 ?_
          refine sv_mmax C wm_max_Te wm_max_2 wm_3 wm_max_4 (by decide) (Nat.le_of_ble_eq_true rfl) (by decide) (by decide) d_Te_read_60 ?_
          refine sv_eqi (pu_max1 (by omega)) ?_
          refine sv_iaddN C _ _  d_Te_read_63 ?_
          refine sv_istore_n C rfl (by decide) [some _, some _, some _, some _, some _] rfl d_Te_read_64 ?_
          refine sv_goto C 7 (by decide) d_Te_read_65 ?_
          refine sv_rot [1, 2, 0] [_, _, _] [_, _, _] _ (_ :: _ :: _ :: _) rfl rfl rfl rfl ?_
          exact ih (a + pu_step (fun i => pu_u (b i)) a e) (n + 1) _ (Dn ++ [pu_char (fun i => pu_u (b i)) a e]) _ ⟨pu_step_in c9, by have := pu_step_pos (fun i => pu_u (b i)) a e; omega, by rw [List.length_append, ← q3]; rfl, by have := pu_step_pos (fun i => pu_u (b i)) a e; omega, pu_snocF q3 q5 (by first | rfl | exact hz), by rw [q6, pu_chars_go c9, List.append_assoc]; rfl⟩
        · skip
          have hz : (65533 : Int32) = nI (pu_char (fun i => pu_u (b i)) a e) := by unfold pu_char; rw [if_pos c30]; rfl
          refine sv_ldc C wc_Te_23 d_Te_read_33 ?_
          refine sv_goto C 45 (by decide) d_Te_read_35 ?_
          refine sv_iastN C _ 2 rfl (by omega) (by decide) (_ :: _ :: _ :: _) rfl d_Te_read_45 ?_
          refine sv_aload_n C rfl rfl d_Te_read_46 ?_
          refine sv_dup C rfl d_Te_read_47 ?_
          refine sv_get C fg_Te_7 1 rfl rfl d_Te_read_48 ?_
          refine sv_iconst C (v := 1) (by decide) d_Te_read_51 ?_
          refine sv_iaddN C _ 1  d_Te_read_52 ?_
          refine sv_put C fp_Te_7 1 rfl rfl rfl (Nat.le_of_ble_eq_true rfl) (_ :: (_, .inr (_, [_, _])) :: _ :: _) rfl d_Te_read_53 ?_
          refine sv_iload_n C rfl rfl d_Te_read_56 ?_
          refine sv_iconst C (v := 1) (by decide) d_Te_read_57 ?_
          refine sv_iload C rfl d_Te_read_58 ?_
          refine sv_mmax C wm_max_Te wm_max_2 wm_3 wm_max_4 (by decide) (Nat.le_of_ble_eq_true rfl) (by decide) (by decide) d_Te_read_60 ?_
          refine sv_eqi (pu_max1 (by omega)) ?_
          refine sv_iaddN C _ _  d_Te_read_63 ?_
          refine sv_istore_n C rfl (by decide) [some _, some _, some _, some _, some _] rfl d_Te_read_64 ?_
          refine sv_goto C 7 (by decide) d_Te_read_65 ?_
          refine sv_rot [1, 2, 0] [_, _, _] [_, _, _] _ (_ :: _ :: _ :: _) rfl rfl rfl rfl ?_
          exact ih (a + pu_step (fun i => pu_u (b i)) a e) (n + 1) _ (Dn ++ [pu_char (fun i => pu_u (b i)) a e]) _ ⟨pu_step_in c9, by have := pu_step_pos (fun i => pu_u (b i)) a e; omega, by rw [List.length_append, ← q3]; rfl, by have := pu_step_pos (fun i => pu_u (b i)) a e; omega, pu_snocF q3 q5 (by first | rfl | exact hz), by rw [q6, pu_chars_go c9, List.append_assoc]; rfl⟩
  refine sv_aload_n C rfl rfl d_Te_read_0 ?_
  refine sv_iconst C (v := 0) (by decide) d_Te_read_1 ?_
  refine sv_put C fp_Te_7 0 rfl rfl rfl (Nat.le_of_ble_eq_true rfl) ((_, .inr (_, [_, _])) :: _ :: _ :: _) rfl d_Te_read_2 ?_
  refine sv_iconst C (v := 0) (by decide) d_Te_read_5 ?_
  refine sv_istore_n C rfl (by decide) [some _, some _, some _, some _, none] rfl d_Te_read_6 ?_
  exact L7 e 0 0 f [] none ⟨by omega, by omega, rfl, by omega, fun i hi => absurd hi (Nat.not_lt_zero i), rfl⟩
