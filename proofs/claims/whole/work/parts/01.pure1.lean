/-! PURE, 1: sorts of characters, bytes, characters out of bytes -/
/-- what a character is, as the document numbers it -/
def pu_sort (c : Int) : Nat :=
  if (97 ≤ c ∧ c ≤ 122) ∨ (65 ≤ c ∧ c ≤ 90) ∨ (192 ≤ c ∧ c ≤ 591 ∧ c ≠ 215 ∧ c ≠ 247) ∨ (913 ≤ c ∧ c ≤ 1023) ∨ (1024 ≤ c ∧ c ≤ 1279) then 1
  else if 48 ≤ c ∧ c ≤ 57 then 2 else if 19968 ≤ c ∧ c ≤ 40959 then 7
  else if c = 95 then 3 else if c = 183 then 4 else if c = 44 ∨ c = 59 then 5 else if c = 39 ∨ c = 46 ∨ c = 8217 then 6 else 0
theorem pu_sort_lt (c : Int) : pu_sort c < 8 := by
  unfold pu_sort
  repeat' split
  all_goals omega
def pu_inner (s : Nat) : Prop := s = 1 ∨ s = 2 ∨ s = 3
abbrev pu_letterP (c : Int) : Prop := (97 ≤ c ∧ c ≤ 122) ∨ (65 ≤ c ∧ c ≤ 90) ∨ (192 ≤ c ∧ c ≤ 591 ∧ c ≠ 215 ∧ c ≠ 247) ∨ (913 ≤ c ∧ c ≤ 1023) ∨ (1024 ≤ c ∧ c ≤ 1279)
/-- a byte as a natural number -/
def pu_u (x : Int32) : Nat := x.toBitVec.toNat % 256
theorem pu_u_lt (x : Int32) : pu_u x < 256 := Nat.mod_lt _ (by decide)
theorem pu_self (x : Int32) : nI x.toBitVec.toNat = x := by
  apply Int32.toBitVec_inj.mp
  show BitVec.ofNat 32 x.toBitVec.toNat = x.toBitVec
  exact BitVec.ofNat_toNat _ _ |>.trans (by simp)
theorem pu_and255 (x : Int32) : x &&& 255 = nI (pu_u x) := pk_and x 8 rfl
theorem pu_and63 (x : Int32) : x &&& 63 = nI (pu_u x % 64) := by
  rw [pk_and x (m := 63) 6 rfl]
  unfold pu_u
  rw [Nat.mod_mod_of_dvd _ (by decide : (64 : Nat) ∣ 256)]
theorem pu_and31 (x : Int32) : x &&& 31 = nI (pu_u x % 32) := by
  rw [pk_and x (m := 31) 5 rfl]
  unfold pu_u
  rw [Nat.mod_mod_of_dvd _ (by decide : (32 : Nat) ∣ 256)]
theorem pu_and15 (x : Int32) : x &&& 15 = nI (pu_u x % 16) := by
  rw [pk_and x (m := 15) 4 rfl]
  unfold pu_u
  rw [Nat.mod_mod_of_dvd _ (by decide : (16 : Nat) ∣ 256)]
theorem pu_and7 (x : Int32) : x &&& 7 = nI (pu_u x % 8) := by
  rw [pk_and x (m := 7) 3 rfl]
  unfold pu_u
  rw [Nat.mod_mod_of_dvd _ (by decide : (8 : Nat) ∣ 256)]
theorem pu_nand (a b : Nat) : nI a &&& nI b = nI (a &&& b) := by
  apply Int32.toBitVec_inj.mp
  show BitVec.ofNat 32 a &&& BitVec.ofNat 32 b = BitVec.ofNat 32 (a &&& b)
  rw [BitVec.ofNat_and]
theorem pu_nor (a b : Nat) : nI a ||| nI b = nI (a ||| b) := by
  apply Int32.toBitVec_inj.mp
  show BitVec.ofNat 32 a ||| BitVec.ofNat 32 b = BitVec.ofNat 32 (a ||| b)
  rw [BitVec.ofNat_or]
theorem pu_m192 : ∀ u, u < 256 → u &&& 192 = u / 64 * 64 := by decide +kernel
theorem pu_and192 (x : Int32) : x &&& 192 = nI (pu_u x / 64 * 64) := by
  have h1 : x &&& 192 = nI (x.toBitVec.toNat &&& 192) := by
    rw [← pu_nand, pu_self]
    rfl
  rw [h1]
  congr 1
  rw [← pu_m192 (pu_u x) (pu_u_lt x)]
  unfold pu_u
  rw [show (256 : Nat) = 2 ^ 8 from rfl, ← Nat.and_two_pow_sub_one_eq_mod, Nat.and_assoc]
  rfl
/-- how many bytes the well-formed sequence has that begins there; 0: none does -/
def pu_size (u : Nat → Nat) (at_ end_ : Nat) : Nat :=
  if u at_ < 128 then 1
  else if 194 ≤ u at_ ∧ u at_ ≤ 223 then
    if at_ + 1 < end_ ∧ 128 ≤ u (at_ + 1) ∧ u (at_ + 1) < 192 then 2 else 0
  else if 224 ≤ u at_ ∧ u at_ ≤ 239 then
    if at_ + 2 < end_ ∧ (if u at_ = 224 then 160 else 128) ≤ u (at_ + 1) ∧ u (at_ + 1) < (if u at_ = 237 then 160 else 192) ∧ 128 ≤ u (at_ + 2) ∧ u (at_ + 2) < 192 then 3 else 0
  else if 240 ≤ u at_ ∧ u at_ ≤ 244 then
    if at_ + 3 < end_ ∧ (if u at_ = 240 then 144 else 128) ≤ u (at_ + 1) ∧ u (at_ + 1) < (if u at_ = 244 then 144 else 192) ∧ 128 ≤ u (at_ + 2) ∧ u (at_ + 2) < 192 ∧ 128 ≤ u (at_ + 3) ∧ u (at_ + 3) < 192 then 4 else 0
  else 0
theorem pu_size_le (u : Nat → Nat) (a e : Nat) : pu_size u a e ≤ 4 := by
  unfold pu_size
  repeat' split
  all_goals omega
theorem pu_size_in {u : Nat → Nat} {a e : Nat} (h : a < e) : a + pu_size u a e ≤ e := by
  unfold pu_size
  repeat' split
  all_goals omega
/-- the character there -/
def pu_char (u : Nat → Nat) (a e : Nat) : Nat :=
  if pu_size u a e = 0 then 65533
  else if pu_size u a e = 1 then u a
  else if pu_size u a e = 2 then u a % 32 * 64 + u (a + 1) % 64
  else if pu_size u a e = 3 then (u a % 16 * 64 + u (a + 1) % 64) * 64 + u (a + 2) % 64
  else ((u a % 8 * 64 + u (a + 1) % 64) * 64 + u (a + 2) % 64) * 64 + u (a + 3) % 64
def pu_step (u : Nat → Nat) (a e : Nat) : Nat := if pu_size u a e = 0 then 1 else pu_size u a e
theorem pu_step_pos (u : Nat → Nat) (a e : Nat) : 1 ≤ pu_step u a e := by
  unfold pu_step
  split <;> omega
/-- the characters from a on, behind k that are there -/
def pu_chars (u : Nat → Nat) (e : Nat) : Nat → Nat → List Nat
  | 0, _ => []
  | n + 1, a => if a < e then pu_char u a e :: pu_chars u e n (a + pu_step u a e) else []
theorem pu_chars_len (u : Nat → Nat) (e : Nat) : ∀ n a, (pu_chars u e n a).length ≤ n
  | 0, _ => Nat.zero_le _
  | n + 1, a => by
    unfold pu_chars
    split
    · have := pu_chars_len u e n (a + pu_step u a e)
      simp only [List.length_cons]
      omega
    · exact Nat.zero_le _
/-- or of what lies apart is a sum -/
theorem pu_or6 {a b : Nat} (hb : b < 64) : nI (a * 64) ||| nI b = nI (a * 64 + b) := by
  rw [pu_nor]
  congr 1
  rw [Nat.mul_comm a 64, show (64 : Nat) = 2 ^ 6 from rfl, Nat.two_pow_add_eq_or_of_lt hb]
theorem pu_shl6 {a : Nat} (h : a * 64 < 2 ^ 32) : nI a <<< ((6 : Int32) &&& 31) = nI (a * 64) := pk_shlN ((6 : Int32) &&& 31) 6 (by decide) h
theorem pu_neg {x : Int32} (hb : x.toInt8.toInt32 = x) (h : pu_u x < 128) : x = nI (pu_u x) := by
  have h1 := pu_and255 x
  rw [← h1]
  have h2 : ∀ y : BitVec 8, y.toNat < 128 → (Int8.ofBitVec y).toInt32 = (Int8.ofBitVec y).toInt32 &&& 255 := by decide +kernel
  have h3 := h2 x.toInt8.toBitVec (by
    have e1 : x.toInt8.toBitVec.toNat = pu_u x := by
      unfold pu_u
      show (x.toBitVec.signExtend 8).toNat = _
      rw [BitVec.signExtend_eq_setWidth_of_le _ (by decide), BitVec.toNat_setWidth]
    rw [e1]; exact h)
  rw [show Int8.ofBitVec x.toInt8.toBitVec = x.toInt8 from rfl, hb] at h3
  exact h3
