/-! PURE, 5: vowels by runs of y, as the reference finds them -/
theorem pu_vow_y {L : List Int32} {k : Nat} (h : L.getD (k + 1) 0 = 121) : pu_vow L (k + 1) = !pu_vow L k := by
  have h1 : ¬ pu_isV (L.getD (k + 1) 0) := by rw [h]; decide
  rw [pu_vow, decide_eq_false h1, decide_eq_true h]
  simp
theorem pu_vow_y0 {L : List Int32} (h : L.getD 0 0 = 121) : pu_vow L 0 = false := by
  have h1 : ¬ pu_isV (L.getD 0 0) := by rw [h]; decide
  rw [pu_vow, decide_eq_false h1]
theorem pu_vow_n {L : List Int32} {k : Nat} (h : ¬ L.getD k 0 = 121) : pu_vow L k = decide (pu_isV (L.getD k 0)) := by
  cases k with
  | zero => rfl
  | succ k => rw [pu_vow, decide_eq_false h]; simp
/-- in a run of y's they alternate -/
theorem pu_vow_run {L : List Int32} {a : Nat} : ∀ m, (∀ j, j ≤ m → L.getD (a + j) 0 = 121) → pu_vow L (a + m) = (if m % 2 = 0 then pu_vow L a else !pu_vow L a)
  | 0, _ => by simp
  | m + 1, h => by
    have ih := pu_vow_run (L := L) (a := a) m (fun j hj => h j (by omega))
    have h1 := pu_vow_y (L := L) (k := a + m) (h (m + 1) (Nat.le_refl _))
    rw [show a + (m + 1) = a + m + 1 from rfl, h1, ih]
    rcases Nat.mod_two_eq_zero_or_one m with h2 | h2
    · rw [if_pos h2, if_neg (by omega)]
    · rw [if_neg (by omega), if_pos (by omega), Bool.not_not]
theorem pu_vow_first {L : List Int32} {a : Nat} (h : L.getD a 0 = 121) : pu_vow L a = (decide (0 < a) && !pu_vow L (a - 1)) := by
  cases a with
  | zero => rw [pu_vow_y0 h]; rfl
  | succ b => rw [pu_vow_y h]; simp
/-! the search for a vowel, the count, upward -/
theorem pu_anyV_true {L : List Int32} {k n : Nat} (h : k < n) (hv : pu_vow L k = true) : pu_anyV L n = true := by
  induction n with
  | zero => omega
  | succ n ih =>
    rw [pu_anyV]
    rcases Nat.lt_or_ge k n with h1 | h1
    · rw [ih h1]; rfl
    · have : k = n := by omega
      subst this
      rw [hv, Bool.or_true]
theorem pu_anyV_false {L : List Int32} {n : Nat} (h : ∀ k, k < n → pu_vow L k = false) : pu_anyV L n = false := by
  induction n with
  | zero => rfl
  | succ n ih => rw [pu_anyV, ih (fun k hk => h k (by omega)), h n (by omega)]; rfl
theorem pu_meas_le (L : List Int32) : ∀ k, pu_meas L k ≤ k
  | 0 => Nat.le_refl _
  | k + 1 => by
    have := pu_meas_le L k
    rw [pu_meas]
    split <;> omega
