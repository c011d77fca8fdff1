/-! PURE, 7: the class's way through a sequence of bytes -/
def pu_lead (u : Nat) : Nat := if u < 128 then 1 else if u < 194 ∨ 244 < u then 0 else if u < 224 then 2 else if u < 240 then 3 else 4
theorem pu_lead_le (u : Nat) : pu_lead u ≤ 4 := by
  unfold pu_lead
  repeat' split
  all_goals omega
abbrev pu_sec (u v : Nat) : Prop := (if u = 224 then 160 else if u = 240 then 144 else 128) ≤ v ∧ v ≤ (if u = 237 then 159 else if u = 244 then 143 else 191)
theorem pu_sizeA {u : Nat → Nat} {a e : Nat} (h : a < e) (h1 : e - a < pu_lead (u a)) : pu_size u a e = 0 := by
  unfold pu_lead at h1
  unfold pu_size
  repeat' split at h1
  all_goals (repeat' split)
  all_goals first | rfl | (exfalso; omega)
theorem pu_sizeB {u : Nat → Nat} {a e : Nat} (h2 : 1 < pu_lead (u a)) (h3 : ¬ pu_sec (u a) (u (a + 1))) : pu_size u a e = 0 := by
  unfold pu_lead at h2
  unfold pu_sec at h3
  unfold pu_size
  repeat' split at h2
  all_goals (repeat' split at h3)
  all_goals (repeat' split)
  all_goals first | rfl | (exfalso; omega)
theorem pu_sizeC {u : Nat → Nat} {a e k : Nat} (h2 : 2 ≤ k) (h3 : k < pu_lead (u a)) (h4 : ¬ (128 ≤ u (a + k) ∧ u (a + k) < 192)) : pu_size u a e = 0 := by
  have h5 := pu_lead_le (u a)
  have h6 : k = 2 ∨ k = 3 := by omega
  unfold pu_lead at h3
  unfold pu_size
  rcases h6 with rfl | rfl
  all_goals repeat' split at h3
  all_goals (repeat' split)
  all_goals first | rfl | (exfalso; omega)
theorem pu_sizeD {u : Nat → Nat} {a e : Nat} (h : a < e) (h1 : pu_lead (u a) ≤ e - a) (h2 : 1 < pu_lead (u a) → pu_sec (u a) (u (a + 1))) (h3 : ∀ k, 2 ≤ k → k < pu_lead (u a) → 128 ≤ u (a + k) ∧ u (a + k) < 192) : pu_size u a e = pu_lead (u a) := by
  rcases Nat.lt_or_ge (u a) 128 with c | c
  · have e1 : pu_lead (u a) = 1 := by unfold pu_lead; (repeat' split) <;> omega
    rw [e1]; unfold pu_size; rw [if_pos c]
  · rcases Nat.lt_or_ge (u a) 194 with c2 | c2
    · have e1 : pu_lead (u a) = 0 := by unfold pu_lead; (repeat' split) <;> omega
      rw [e1]; unfold pu_size; (repeat' split) <;> omega
    · rcases Nat.lt_or_ge 244 (u a) with c3 | c3
      · have e1 : pu_lead (u a) = 0 := by unfold pu_lead; (repeat' split) <;> omega
        rw [e1]; unfold pu_size; (repeat' split) <;> omega
      · rcases Nat.lt_or_ge (u a) 224 with c4 | c4
        · have e1 : pu_lead (u a) = 2 := by unfold pu_lead; (repeat' split) <;> omega
          rw [e1] at h1 h2 h3 ⊢
          have hs := h2 (by decide)
          unfold pu_sec at hs
          rw [if_neg (by omega), if_neg (by omega), if_neg (by omega), if_neg (by omega)] at hs
          unfold pu_size
          rw [if_neg (by omega), if_pos (by omega), if_pos (by omega)]
        · rcases Nat.lt_or_ge (u a) 240 with c5 | c5
          · have e1 : pu_lead (u a) = 3 := by unfold pu_lead; (repeat' split) <;> omega
            rw [e1] at h1 h2 h3 ⊢
            have hs := h2 (by decide)
            have a2 := h3 2 (by decide) (by decide)
            unfold pu_sec at hs
            rw [if_neg (by omega : ¬ u a = 240), if_neg (by omega : ¬ u a = 244)] at hs
            unfold pu_size
            rw [if_neg (by omega), if_neg (by omega), if_pos (by omega), if_pos]
            refine ⟨by omega, hs.1, ?_, a2.1, a2.2⟩
            have h9 := hs.2
            split at h9 <;> split <;> omega
          · have e1 : pu_lead (u a) = 4 := by unfold pu_lead; (repeat' split) <;> omega
            rw [e1] at h1 h2 h3 ⊢
            have hs := h2 (by decide)
            have a2 := h3 2 (by decide) (by decide)
            have a3 := h3 3 (by decide) (by decide)
            unfold pu_sec at hs
            rw [if_neg (by omega : ¬ u a = 224), if_neg (by omega : ¬ u a = 237)] at hs
            unfold pu_size
            rw [if_neg (by omega), if_neg (by omega), if_neg (by omega), if_pos (by omega), if_pos]
            refine ⟨by omega, hs.1, ?_, a2.1, a2.2, a3.1, a3.2⟩
            have h9 := hs.2
            split at h9 <;> split <;> omega
/-- the value of the first k bytes of s -/
def pu_vl (u : Nat → Nat) (a s : Nat) : Nat → Nat
  | 0 => 0
  | 1 => u a % 2 ^ (7 - s)
  | k + 2 => pu_vl u a s (k + 1) * 64 + u (a + (k + 1)) % 64
theorem pu_vl_lt (u : Nat → Nat) (a : Nat) {s : Nat} (h : 2 ≤ s) : ∀ k, k ≤ 3 → pu_vl u a s k < 2 ^ 18
  | 0, _ => by show 0 < 2 ^ 18; decide
  | 1, _ => by
    have h1 : 2 ^ (7 - s) ≤ 2 ^ 5 := Nat.pow_le_pow_right (by decide) (by omega)
    have h2 : u a % 2 ^ (7 - s) < 2 ^ (7 - s) := Nat.mod_lt _ (Nat.two_pow_pos _)
    show u a % 2 ^ (7 - s) < 2 ^ 18
    have h3 : (2 : Nat) ^ 5 = 32 := rfl
    have h4 : (2 : Nat) ^ 18 = 262144 := rfl
    omega
  | 2, _ => by
    have h1 : 2 ^ (7 - s) ≤ 2 ^ 5 := Nat.pow_le_pow_right (by decide) (by omega)
    have h2 : u a % 2 ^ (7 - s) < 2 ^ (7 - s) := Nat.mod_lt _ (Nat.two_pow_pos _)
    have h3 : (2 : Nat) ^ 5 = 32 := rfl
    have h4 : (2 : Nat) ^ 18 = 262144 := rfl
    show u a % 2 ^ (7 - s) * 64 + u (a + 1) % 64 < 2 ^ 18
    omega
  | 3, _ => by
    have h1 : 2 ^ (7 - s) ≤ 2 ^ 5 := Nat.pow_le_pow_right (by decide) (by omega)
    have h2 : u a % 2 ^ (7 - s) < 2 ^ (7 - s) := Nat.mod_lt _ (Nat.two_pow_pos _)
    have h3 : (2 : Nat) ^ 5 = 32 := rfl
    have h4 : (2 : Nat) ^ 18 = 262144 := rfl
    show (u a % 2 ^ (7 - s) * 64 + u (a + 1) % 64) * 64 + u (a + 2) % 64 < 2 ^ 18
    omega
theorem pu_char_val {u : Nat → Nat} {a e : Nat} (h : 2 ≤ pu_size u a e) : pu_char u a e = pu_vl u a (pu_size u a e) (pu_size u a e) := by
  have h1 := pu_size_le u a e
  unfold pu_char
  generalize pu_size u a e = s at *
  have h2 : s = 2 ∨ s = 3 ∨ s = 4 := by omega
  rcases h2 with rfl | rfl | rfl <;> rfl
theorem pu_mask (x : Int32) {s : Nat} (h : s = 2 ∨ s = 3 ∨ s = 4) : x &&& ((255 : Int32) >>> (nI (s + 1) &&& 31)) = nI (pu_u x % 2 ^ (7 - s)) := by
  rcases h with rfl | rfl | rfl
  · exact pu_and31 x
  · exact pu_and15 x
  · exact pu_and7 x
