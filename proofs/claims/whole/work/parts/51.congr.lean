/-! PURE: cut looks below n alone -/
section PUC
variable {f h : Nat → Int32} {n : Nat}
theorem pu_st_c (H : ∀ i, i < n → f i = h i) {i : Nat} (hi : i < n) : pu_st f i = pu_st h i := by unfold pu_st; rw [H i hi]
theorem pu_tie_c (H : ∀ i, i < n → f i = h i) {m : Nat} : pu_tie f n m ↔ pu_tie h n m := by
  unfold pu_tie
  constructor
  · rintro ⟨h1, h2, h3, h4⟩
    rw [pu_st_c H (by omega), pu_st_c H (i := m - 1) (by omega)] at h3
    rw [pu_st_c H (i := m) (by omega), pu_st_c H (i := m - 1) (by omega)] at h4
    exact ⟨h1, h2, h3, h4⟩
  · rintro ⟨h1, h2, h3, h4⟩
    rw [← pu_st_c H (by omega), ← pu_st_c H (i := m - 1) (by omega)] at h3
    rw [← pu_st_c H (i := m) (by omega), ← pu_st_c H (i := m - 1) (by omega)] at h4
    exact ⟨h1, h2, h3, h4⟩
theorem pu_span_c (H : ∀ i, i < n → f i = h i) : ∀ k e, pu_span f n k e = pu_span h n k e
  | 0, e => rfl
  | k + 1, e => by
    rw [pu_span, pu_span]
    by_cases h1 : e < n
    · have e0 := pu_st_c H h1
      rw [if_pos h1, if_pos h1, pu_span_c H k (e + 1), pu_span_c H k (e + 2)]
      by_cases h2 : pu_inn (pu_st f e)
      · have h2' : pu_inn (pu_st h e) := by rw [← e0]; exact h2
        rw [if_pos h2, if_pos h2']
      · have h2' : ¬ pu_inn (pu_st h e) := by rw [← e0]; exact h2
        rw [if_neg h2, if_neg h2']
        by_cases h3 : pu_tie f n e
        · rw [if_pos h3, if_pos ((pu_tie_c H).mp h3)]
        · rw [if_neg h3, if_neg (fun z => h3 ((pu_tie_c H).mpr z))]
    · rw [if_neg h1, if_neg h1]
theorem pu_spanEnd_c (H : ∀ i, i < n → f i = h i) {a : Nat} (ha : a < n) : pu_spanEnd f n a = pu_spanEnd h n a := by
  unfold pu_spanEnd
  rw [pu_st_c H ha, pu_span_c H]
theorem pu_any_c (H : ∀ i, i < n → f i = h i) : ∀ k a, a + k ≤ n → pu_any f k a = pu_any h k a
  | 0, a, _ => rfl
  | k + 1, a, hk => by rw [pu_any, pu_any, pu_st_c H (by omega), pu_any_c H k (a + 1) (by omega)]
theorem pu_slice_c (H : ∀ i, i < n → f i = h i) {a len : Nat} (hl : a + len ≤ n) : pu_slice f a len = pu_slice h a len := by
  unfold pu_slice
  refine List.map_congr_left (fun i hi => ?_)
  exact H _ (by have := List.mem_range.mp hi; omega)
theorem pu_take_c (H : ∀ i, i < n → f i = h i) {e : Nat} (he : e ≤ n) : ∀ k a s, pu_take f e k a s = pu_take h e k a s
  | 0, a, s => rfl
  | k + 1, a, s => by
    rw [pu_take, pu_take]
    by_cases h1 : a < e
    · rw [if_pos h1, if_pos h1, pu_slice_c H (a := a) (len := if e - a < 255 then e - a else 255) (by split <;> omega), pu_take_c H he k]
    · rw [if_neg h1, if_neg h1]
theorem pu_cut_c (H : ∀ i, i < n → f i = h i) : ∀ k a s, pu_cut f n k a s = pu_cut h n k a s
  | 0, a, s => rfl
  | k + 1, a, s => by
    rw [pu_cut, pu_cut]
    by_cases h1 : a < n
    · have g1 := pu_spanEnd_gt h n a
      have g2 := pu_spanEnd_le h h1
      rw [if_pos h1, if_pos h1, pu_spanEnd_c H h1, pu_any_c H (pu_spanEnd h n a - a) a (by omega), pu_take_c H g2, pu_cut_c H k]
    · rw [if_neg h1, if_neg h1]
end PUC
theorem pu_char_c {u v : Nat → Nat} {e : Nat} (H : ∀ i, i < e → u i = v i) {a : Nat} (ha : a < e) : pu_char u a e = pu_char v a e ∧ pu_step u a e = pu_step v a e := by
  have hs : pu_size u a e = pu_size v a e := by
    unfold pu_size
    rw [H a ha]
    by_cases h1 : a + 1 < e
    · rw [H _ h1]
      by_cases h2 : a + 2 < e
      · rw [H _ h2]
        by_cases h3 : a + 3 < e
        · rw [H _ h3]
        · simp only [h3, false_and]
      · simp only [h2, show ¬ a + 3 < e by omega, false_and]
    · simp only [h1, show ¬ a + 2 < e by omega, show ¬ a + 3 < e by omega, false_and]
  have hi := pu_size_in (u := v) ha
  have h4 := pu_size_le v a e
  refine ⟨?_, by unfold pu_step; rw [hs]⟩
  unfold pu_char
  rw [hs, H a ha]
  by_cases h2 : 2 ≤ pu_size v a e
  · rw [H (a + 1) (by omega)]
    by_cases h3 : 3 ≤ pu_size v a e
    · rw [H (a + 2) (by omega)]
      by_cases h5 : 4 ≤ pu_size v a e
      · rw [H (a + 3) (by omega)]
      · have : pu_size v a e = 3 := by omega
        rw [this]; rfl
    · have : pu_size v a e = 2 := by omega
      rw [this]; rfl
  · have : pu_size v a e = 0 ∨ pu_size v a e = 1 := by omega
    rcases this with h | h <;> (rw [h]; rfl)
theorem pu_chars_c {u v : Nat → Nat} {e : Nat} (H : ∀ i, i < e → u i = v i) : ∀ k a, pu_chars u e k a = pu_chars v e k a
  | 0, a => rfl
  | k + 1, a => by
    rw [pu_chars, pu_chars]
    by_cases h1 : a < e
    · rw [if_pos h1, if_pos h1, (pu_char_c H h1).1, (pu_char_c H h1).2, pu_chars_c H k]
    · rw [if_neg h1, if_neg h1]
