/-! PURE, 6: a stem is no longer than its word -/
theorem pu_len_s1a (L : List Int32) : (pu_s1a L).length ≤ L.length := by
  unfold pu_s1a
  repeat' split
  all_goals first | exact Nat.le_refl _ | (rw [List.length_take]; omega)
theorem pu_len_s1bm (L : List Int32) : (pu_s1bm L).length ≤ L.length + 1 := by
  unfold pu_s1bm
  repeat' split
  all_goals first | omega | (rw [List.length_append]; exact Nat.le_refl _) | (rw [List.length_take]; omega)
theorem pu_len_s1b (L : List Int32) : (pu_s1b L).length ≤ L.length := by
  unfold pu_s1b
  split
  · split
    · rw [List.length_take]; omega
    · exact Nat.le_refl _
  · split
    · rename_i h1 h2
      have h3 := h2.1
      split
      · have := pu_len_s1bm (L.take (L.length - 2))
        rw [List.length_take] at this
        simp only [List.length_cons, List.length_nil] at h3
        omega
      · exact Nat.le_refl _
    · split
      · rename_i h1 h2 h4
        have h3 := h4.1
        split
        · have := pu_len_s1bm (L.take (L.length - 3))
          rw [List.length_take] at this
          simp only [List.length_cons, List.length_nil] at h3
          omega
        · exact Nat.le_refl _
      · exact Nat.le_refl _
theorem pu_len_s1c (L : List Int32) : (pu_s1c L).length ≤ L.length := by
  unfold pu_s1c
  split
  · rename_i h
    have h3 := h.1.1
    simp only [List.length_cons, List.length_nil] at h3
    rw [List.length_append, List.length_take]
    simp only [List.length_cons, List.length_nil]
    omega
  · exact Nat.le_refl _
/-- the place that a search gives is the ending's -/
theorem pu_lng_at (L : List Int32) (F : List (List Int32)) : ∀ (E : List (List Int32)) (i : Nat) (b : Option (Nat × List Int32)), F.drop i = E → (∀ q, b = some q → F.getD q.1 [] = q.2 ∧ q.1 < F.length) → ∀ q, pu_lng L E i b = some q → F.getD q.1 [] = q.2 ∧ q.1 < F.length
  | [], i, b, _, hb, q, hq => hb q hq
  | t :: E, i, b, hd, hb, q, hq => by
    have hi : i < F.length := by
      rcases Nat.lt_or_ge i F.length with h | h
      · exact h
      · rw [List.drop_eq_nil_of_le h] at hd; cases hd
    have h1 : F.drop (i + 1) = E := by
      rw [← List.drop_drop, hd]
      rfl
    unfold pu_lng at hq
    refine pu_lng_at L F E (i + 1) _ h1 (fun r hr => ?_) q hq
    split at hr
    · cases hr
      refine ⟨?_, hi⟩
      rw [List.drop_eq_getElem_cons hi] at hd
      rw [List.getD_eq_getElem?_getD, List.getElem?_eq_getElem hi]
      exact (List.cons.inj hd).1
    · exact hb r hr
theorem pu_len_rep {E S : List (List Int32)} (h : ∀ i, i < E.length → (S.getD i []).length ≤ (E.getD i []).length) (L : List Int32) : (pu_rep E S L).length ≤ L.length := by
  unfold pu_rep
  split
  · rename_i q hq
    have h1 := (pu_lng_spec L E 0 none (fun q hq => by cases hq)).1 q hq
    have h2 := pu_lng_at L E E 0 none rfl (fun q hq => by cases hq) q hq
    have h3 := h q.1 h2.2
    rw [h2.1] at h3
    have h4 := h1.1.1
    split
    · rw [List.length_append, List.length_take]; omega
    · exact Nat.le_refl _
  · exact Nat.le_refl _
theorem pu_S2_le : ∀ i, i < pu_E2.length → (pu_S2.getD i []).length ≤ (pu_E2.getD i []).length := by decide +kernel
theorem pu_S3_le : ∀ i, i < pu_E3.length → (pu_S3.getD i []).length ≤ (pu_E3.getD i []).length := by decide +kernel
theorem pu_len_s4 (L : List Int32) : (pu_s4 L).length ≤ L.length := by
  unfold pu_s4
  split
  · split
    · rw [List.length_take]; omega
    · exact Nat.le_refl _
  · exact Nat.le_refl _
theorem pu_len_s5a (L : List Int32) : (pu_s5a L).length ≤ L.length := by
  unfold pu_s5a
  split
  · rw [List.length_take]; omega
  · exact Nat.le_refl _
theorem pu_len_s5b (L : List Int32) : (pu_s5b L).length ≤ L.length := by
  unfold pu_s5b
  split
  · rw [List.length_take]; omega
  · exact Nat.le_refl _
theorem pu_len_stem (L : List Int32) : (pu_stem L).length ≤ L.length := by
  unfold pu_stem
  exact Nat.le_trans (pu_len_s5b _) (Nat.le_trans (pu_len_s5a _) (Nat.le_trans (pu_len_s4 _) (Nat.le_trans (pu_len_rep pu_S3_le _) (Nat.le_trans (pu_len_rep pu_S2_le _) (Nat.le_trans (pu_len_s1c _) (Nat.le_trans (pu_len_s1b _) (pu_len_s1a _)))))))
theorem pu_len_own (L : List Int32) : (pu_own L).length ≤ L.length := by
  unfold pu_own
  split
  · rw [List.length_take]; omega
  · exact Nat.le_refl _
theorem pu_off_snoc (T : List (Nat × List Int32)) (q : Nat × List Int32) : pu_off (T ++ [q]) (T ++ [q]).length = pu_off T T.length + q.2.length := by
  rw [List.length_append, List.length_singleton]
  show pu_off (T ++ [q]) T.length + ((T ++ [q]).getD T.length (0, [])).2.length = _
  rw [pu_off_app T q T.length (Nat.le_refl _)]
  congr 2
  rw [List.getD_eq_getElem?_getD, List.getElem?_append_right (Nat.le_refl _), Nat.sub_self]
  rfl
/-- what one word adds -/
theorem pu_word_len (L : List Int32) (s : pu_St) : pu_off (pu_word L s).1 (pu_word L s).1.length ≤ pu_off s.1 s.1.length + L.length ∧ (pu_word L s).1.length ≤ s.1.length + 1 ∧ (pu_word L s).2 = s.2 + 1 := by
  unfold pu_word
  dsimp only
  split
  · exact ⟨Nat.le_add_right _ _, Nat.le_succ _, rfl⟩
  · refine ⟨?_, by rw [List.length_append]; exact Nat.le_refl _, rfl⟩
    rw [pu_off_snoc]
    dsimp only
    have h1 := pu_len_own L
    have h2 : ((pu_own L).map pu_low).length = (pu_own L).length := List.length_map _
    split
    · have := pu_len_stem ((pu_own L).map pu_low)
      omega
    · omega
