section
/-! PURE, 1: sorts of characters, bytes, characters out of bytes -/
/-- what a character is, as the document numbers it -/
def pu_sort (c : Int) : Nat :=
  if (97 ≤ c ∧ c ≤ 122) ∨ (65 ≤ c ∧ c ≤ 90) ∨ (192 ≤ c ∧ c ≤ 591 ∧ c ≠ 215 ∧ c ≠ 247) ∨ (913 ≤ c ∧ c ≤ 1023) ∨ (1024 ≤ c ∧ c ≤ 1279) then 1
  else if 48 ≤ c ∧ c ≤ 57 then 2 else if 19968 ≤ c ∧ c ≤ 40959 then 7
  else if c = 95 then 3 else if c = 183 then 4 else if c = 44 ∨ c = 59 then 5 else if c = 39 ∨ c = 46 ∨ c = 8217 then 6 else 0
theorem pu_sort_lt (c : Int) : pu_sort c < 8 := by
  unfold pu_sort
  repeat' split
  all_goals omega
def pu_inner (s : Nat) : Prop := s = 1 ∨ s = 2 ∨ s = 3
abbrev pu_letterP (c : Int) : Prop := (97 ≤ c ∧ c ≤ 122) ∨ (65 ≤ c ∧ c ≤ 90) ∨ (192 ≤ c ∧ c ≤ 591 ∧ c ≠ 215 ∧ c ≠ 247) ∨ (913 ≤ c ∧ c ≤ 1023) ∨ (1024 ≤ c ∧ c ≤ 1279)
/-- a byte as a natural number -/
def pu_u (x : Int32) : Nat := x.toBitVec.toNat % 256
theorem pu_u_lt (x : Int32) : pu_u x < 256 := Nat.mod_lt _ (by decide)
theorem pu_self (x : Int32) : nI x.toBitVec.toNat = x := by
  apply Int32.toBitVec_inj.mp
  show BitVec.ofNat 32 x.toBitVec.toNat = x.toBitVec
  exact BitVec.ofNat_toNat _ _ |>.trans (by simp)
theorem pu_and255 (x : Int32) : x &&& 255 = nI (pu_u x) := pk_and x 8 rfl
theorem pu_and63 (x : Int32) : x &&& 63 = nI (pu_u x % 64) := by
  rw [pk_and x (m := 63) 6 rfl]
  unfold pu_u
  rw [Nat.mod_mod_of_dvd _ (by decide : (64 : Nat) ∣ 256)]
theorem pu_and31 (x : Int32) : x &&& 31 = nI (pu_u x % 32) := by
  rw [pk_and x (m := 31) 5 rfl]
  unfold pu_u
  rw [Nat.mod_mod_of_dvd _ (by decide : (32 : Nat) ∣ 256)]
theorem pu_and15 (x : Int32) : x &&& 15 = nI (pu_u x % 16) := by
  rw [pk_and x (m := 15) 4 rfl]
  unfold pu_u
  rw [Nat.mod_mod_of_dvd _ (by decide : (16 : Nat) ∣ 256)]
theorem pu_and7 (x : Int32) : x &&& 7 = nI (pu_u x % 8) := by
  rw [pk_and x (m := 7) 3 rfl]
  unfold pu_u
  rw [Nat.mod_mod_of_dvd _ (by decide : (8 : Nat) ∣ 256)]
theorem pu_nand (a b : Nat) : nI a &&& nI b = nI (a &&& b) := by
  apply Int32.toBitVec_inj.mp
  show BitVec.ofNat 32 a &&& BitVec.ofNat 32 b = BitVec.ofNat 32 (a &&& b)
  rw [BitVec.ofNat_and]
theorem pu_nor (a b : Nat) : nI a ||| nI b = nI (a ||| b) := by
  apply Int32.toBitVec_inj.mp
  show BitVec.ofNat 32 a ||| BitVec.ofNat 32 b = BitVec.ofNat 32 (a ||| b)
  rw [BitVec.ofNat_or]
theorem pu_m192 : ∀ u, u < 256 → u &&& 192 = u / 64 * 64 := by decide +kernel
theorem pu_and192 (x : Int32) : x &&& 192 = nI (pu_u x / 64 * 64) := by
  have h1 : x &&& 192 = nI (x.toBitVec.toNat &&& 192) := by
    rw [← pu_nand, pu_self]
    rfl
  rw [h1]
  congr 1
  rw [← pu_m192 (pu_u x) (pu_u_lt x)]
  unfold pu_u
  rw [show (256 : Nat) = 2 ^ 8 from rfl, ← Nat.and_two_pow_sub_one_eq_mod, Nat.and_assoc]
  rfl
/-- how many bytes the well-formed sequence has that begins there; 0: none does -/
def pu_size (u : Nat → Nat) (at_ end_ : Nat) : Nat :=
  if u at_ < 128 then 1
  else if 194 ≤ u at_ ∧ u at_ ≤ 223 then
    if at_ + 1 < end_ ∧ 128 ≤ u (at_ + 1) ∧ u (at_ + 1) < 192 then 2 else 0
  else if 224 ≤ u at_ ∧ u at_ ≤ 239 then
    if at_ + 2 < end_ ∧ (if u at_ = 224 then 160 else 128) ≤ u (at_ + 1) ∧ u (at_ + 1) < (if u at_ = 237 then 160 else 192) ∧ 128 ≤ u (at_ + 2) ∧ u (at_ + 2) < 192 then 3 else 0
  else if 240 ≤ u at_ ∧ u at_ ≤ 244 then
    if at_ + 3 < end_ ∧ (if u at_ = 240 then 144 else 128) ≤ u (at_ + 1) ∧ u (at_ + 1) < (if u at_ = 244 then 144 else 192) ∧ 128 ≤ u (at_ + 2) ∧ u (at_ + 2) < 192 ∧ 128 ≤ u (at_ + 3) ∧ u (at_ + 3) < 192 then 4 else 0
  else 0
theorem pu_size_le (u : Nat → Nat) (a e : Nat) : pu_size u a e ≤ 4 := by
  unfold pu_size
  repeat' split
  all_goals omega
theorem pu_size_in {u : Nat → Nat} {a e : Nat} (h : a < e) : a + pu_size u a e ≤ e := by
  unfold pu_size
  repeat' split
  all_goals omega
/-- the character there -/
def pu_char (u : Nat → Nat) (a e : Nat) : Nat :=
  if pu_size u a e = 0 then 65533
  else if pu_size u a e = 1 then u a
  else if pu_size u a e = 2 then u a % 32 * 64 + u (a + 1) % 64
  else if pu_size u a e = 3 then (u a % 16 * 64 + u (a + 1) % 64) * 64 + u (a + 2) % 64
  else ((u a % 8 * 64 + u (a + 1) % 64) * 64 + u (a + 2) % 64) * 64 + u (a + 3) % 64
def pu_step (u : Nat → Nat) (a e : Nat) : Nat := if pu_size u a e = 0 then 1 else pu_size u a e
theorem pu_step_pos (u : Nat → Nat) (a e : Nat) : 1 ≤ pu_step u a e := by
  unfold pu_step
  split <;> omega
/-- the characters from a on, behind k that are there -/
def pu_chars (u : Nat → Nat) (e : Nat) : Nat → Nat → List Nat
  | 0, _ => []
  | n + 1, a => if a < e then pu_char u a e :: pu_chars u e n (a + pu_step u a e) else []
theorem pu_chars_len (u : Nat → Nat) (e : Nat) : ∀ n a, (pu_chars u e n a).length ≤ n
  | 0, _ => Nat.zero_le _
  | n + 1, a => by
    unfold pu_chars
    split
    · have := pu_chars_len u e n (a + pu_step u a e)
      simp only [List.length_cons]
      omega
    · exact Nat.zero_le _
/-- or of what lies apart is a sum -/
theorem pu_or6 {a b : Nat} (hb : b < 64) : nI (a * 64) ||| nI b = nI (a * 64 + b) := by
  rw [pu_nor]
  congr 1
  rw [Nat.mul_comm a 64, show (64 : Nat) = 2 ^ 6 from rfl, Nat.two_pow_add_eq_or_of_lt hb]
theorem pu_shl6 {a : Nat} (h : a * 64 < 2 ^ 32) : nI a <<< ((6 : Int32) &&& 31) = nI (a * 64) := pk_shlN ((6 : Int32) &&& 31) 6 (by decide) h
theorem pu_neg {x : Int32} (hb : x.toInt8.toInt32 = x) (h : pu_u x < 128) : x = nI (pu_u x) := by
  have h1 := pu_and255 x
  rw [← h1]
  have h2 : ∀ y : BitVec 8, y.toNat < 128 → (Int8.ofBitVec y).toInt32 = (Int8.ofBitVec y).toInt32 &&& 255 := by decide +kernel
  have h3 := h2 x.toInt8.toBitVec (by
    have e1 : x.toInt8.toBitVec.toNat = pu_u x := by
      unfold pu_u
      show (x.toBitVec.signExtend 8).toNat = _
      rw [BitVec.signExtend_eq_setWidth_of_le _ (by decide), BitVec.toNat_setWidth]
    rw [e1]; exact h)
  rw [show Int8.ofBitVec x.toInt8.toBitVec = x.toInt8 from rfl, hb] at h3
  exact h3
end
section
/-! PURE, 2: spans, words, stems -/
abbrev pu_inn (s : Nat) : Prop := s = 1 ∨ s = 2 ∨ s = 3
abbrev pu_isW (s : Nat) : Prop := s = 1 ∨ s = 2 ∨ s = 7
def pu_st (f : Nat → Int32) (i : Nat) : Nat := pu_sort (f i).toInt
abbrev pu_ties (m o : Nat) : Prop := (o = 1 ∧ (m = 4 ∨ m = 6)) ∨ (o = 2 ∧ (m = 5 ∨ m = 6))
abbrev pu_tie (f : Nat → Int32) (n m : Nat) : Prop := 1 ≤ m ∧ m + 1 < n ∧ pu_st f (m + 1) = pu_st f (m - 1) ∧ pu_ties (pu_st f m) (pu_st f (m - 1))
/-- the end of what belongs together, behind e -/
def pu_span (f : Nat → Int32) (n : Nat) : Nat → Nat → Nat
  | 0, e => e
  | k + 1, e => if e < n then (if pu_inn (pu_st f e) then pu_span f n k (e + 1) else if pu_tie f n e then pu_span f n k (e + 2) else e) else e
def pu_spanEnd (f : Nat → Int32) (n a : Nat) : Nat := if pu_inn (pu_st f a) then pu_span f n n (a + 1) else a + 1
theorem pu_span_ge (f : Nat → Int32) (n : Nat) : ∀ k e, e ≤ pu_span f n k e
  | 0, e => Nat.le_refl e
  | k + 1, e => by
    have h1 := pu_span_ge f n k (e + 1)
    have h2 := pu_span_ge f n k (e + 2)
    unfold pu_span
    split
    · split
      · omega
      · split <;> omega
    · omega
theorem pu_span_le (f : Nat → Int32) (n : Nat) : ∀ k e, e ≤ n → pu_span f n k e ≤ n
  | 0, e, h => h
  | k + 1, e, h => by
    unfold pu_span
    split
    · split
      · exact pu_span_le f n k (e + 1) (by omega)
      · split
        · rename_i h2
          exact pu_span_le f n k (e + 2) (by have := h2.2.1; omega)
        · exact h
    · exact h
theorem pu_spanEnd_gt (f : Nat → Int32) (n a : Nat) : a + 1 ≤ pu_spanEnd f n a := by
  unfold pu_spanEnd
  split
  · exact pu_span_ge f n n (a + 1)
  · exact Nat.le_refl _
theorem pu_spanEnd_le (f : Nat → Int32) {n a : Nat} (h : a < n) : pu_spanEnd f n a ≤ n := by
  unfold pu_spanEnd
  split
  · exact pu_span_le f n n (a + 1) h
  · exact h
/-- whether a word's sort is among k places from a on -/
def pu_any (f : Nat → Int32) : Nat → Nat → Bool
  | 0, _ => false
  | k + 1, a => if pu_isW (pu_st f a) then true else pu_any f k (a + 1)
def pu_slice (f : Nat → Int32) (a len : Nat) : List Int32 := (List.range len).map (fun i => f (a + i))
theorem pu_slice_len (f : Nat → Int32) (a len : Nat) : (pu_slice f a len).length = len := by simp [pu_slice]
theorem pu_slice_get (f : Nat → Int32) {a len i : Nat} (h : i < len) : (pu_slice f a len).getD i 0 = f (a + i) := by
  simp [pu_slice, List.getD_eq_getElem?_getD, h]
/-- an owner's ending off -/
def pu_own (L : List Int32) : List Int32 := if 2 < L.length ∧ (L.getD (L.length - 2) 0 = 39 ∨ L.getD (L.length - 2) 0 = 8217) ∧ (L.getD (L.length - 1) 0 = 115 ∨ L.getD (L.length - 1) 0 = 83) then L.take (L.length - 2) else L
def pu_low (c : Int32) : Int32 := if (65 ≤ c.toInt ∧ c.toInt ≤ 90) ∨ (192 ≤ c.toInt ∧ c.toInt ≤ 222 ∧ c.toInt ≠ 215) ∨ (913 ≤ c.toInt ∧ c.toInt ≤ 939 ∧ c.toInt ≠ 930) ∨ (1040 ≤ c.toInt ∧ c.toInt ≤ 1071) then c + 32 else if 1024 ≤ c.toInt ∧ c.toInt ≤ 1039 then c + 80 else c
abbrev pu_small (L : List Int32) : Prop := ∀ c ∈ L, 97 ≤ c.toInt ∧ c.toInt ≤ 122
abbrev pu_isV (c : Int32) : Prop := c = 97 ∨ c = 101 ∨ c = 105 ∨ c = 111 ∨ c = 117
def pu_vow (L : List Int32) : Nat → Bool
  | 0 => decide (pu_isV (L.getD 0 0))
  | k + 1 => decide (pu_isV (L.getD (k + 1) 0)) || (decide (L.getD (k + 1) 0 = 121) && !pu_vow L k)
def pu_meas (L : List Int32) : Nat → Nat
  | 0 => 0
  | k + 1 => pu_meas L k + (if 1 ≤ k ∧ pu_vow L (k - 1) = true ∧ pu_vow L k = false then 1 else 0)
def pu_anyV (L : List Int32) : Nat → Bool
  | 0 => false
  | k + 1 => pu_anyV L k || pu_vow L k
abbrev pu_dbl (L : List Int32) : Prop := 1 < L.length ∧ L.getD (L.length - 1) 0 = L.getD (L.length - 2) 0 ∧ pu_vow L (L.length - 1) = false
abbrev pu_cvc (L : List Int32) (k : Nat) : Prop := 3 ≤ k ∧ pu_vow L (k - 3) = false ∧ pu_vow L (k - 2) = true ∧ pu_vow L (k - 1) = false ∧ L.getD (k - 1) 0 ≠ 119 ∧ L.getD (k - 1) 0 ≠ 120 ∧ L.getD (k - 1) 0 ≠ 121
abbrev pu_ends (L s : List Int32) : Prop := s.length ≤ L.length ∧ L.drop (L.length - s.length) = s
/-- the longest of the endings that is there: its place and itself -/
def pu_lng (L : List Int32) : List (List Int32) → Nat → Option (Nat × List Int32) → Option (Nat × List Int32)
  | [], _, b => b
  | t :: ts, i, b => pu_lng L ts (i + 1) (if pu_ends L t ∧ (∀ q, b = some q → q.2.length < t.length) then some (i, t) else b)
def pu_stops : List (List Int32) := [[97], [97, 110], [97, 110, 100], [97, 114, 101], [97, 115], [97, 116], [98, 101], [98, 117, 116], [98, 121], [102, 111, 114], [105, 102], [105, 110], [105, 110, 116, 111], [105, 115], [105, 116], [110, 111], [110, 111, 116], [111, 102], [111, 110], [111, 114], [115, 117, 99, 104], [116, 104, 97, 116], [116, 104, 101], [116, 104, 101, 105, 114], [116, 104, 101, 110], [116, 104, 101, 114, 101], [116, 104, 101, 115, 101], [116, 104, 101, 121], [116, 104, 105, 115], [116, 111], [119, 97, 115], [119, 105, 108, 108], [119, 105, 116, 104]]
def pu_E2 : List (List Int32) := [[97, 116, 105, 111, 110, 97, 108], [116, 105, 111, 110, 97, 108], [101, 110, 99, 105], [97, 110, 99, 105], [105, 122, 101, 114], [97, 98, 108, 105], [97, 108, 108, 105], [101, 110, 116, 108, 105], [101, 108, 105], [111, 117, 115, 108, 105], [105, 122, 97, 116, 105, 111, 110], [97, 116, 105, 111, 110], [97, 116, 111, 114], [97, 108, 105, 115, 109], [105, 118, 101, 110, 101, 115, 115], [102, 117, 108, 110, 101, 115, 115], [111, 117, 115, 110, 101, 115, 115], [97, 108, 105, 116, 105], [105, 118, 105, 116, 105], [98, 105, 108, 105, 116, 105]]
def pu_S2 : List (List Int32) := [[97, 116, 101], [116, 105, 111, 110], [101, 110, 99, 101], [97, 110, 99, 101], [105, 122, 101], [97, 98, 108, 101], [97, 108], [101, 110, 116], [101], [111, 117, 115], [105, 122, 101], [97, 116, 101], [97, 116, 101], [97, 108], [105, 118, 101], [102, 117, 108], [111, 117, 115], [97, 108], [105, 118, 101], [98, 108, 101]]
def pu_E3 : List (List Int32) := [[105, 99, 97, 116, 101], [97, 116, 105, 118, 101], [97, 108, 105, 122, 101], [105, 99, 105, 116, 105], [105, 99, 97, 108], [102, 117, 108], [110, 101, 115, 115]]
def pu_S3 : List (List Int32) := [[105, 99], [], [97, 108], [105, 99], [105, 99], [], []]
def pu_E4 : List (List Int32) := [[97, 108], [97, 110, 99, 101], [101, 110, 99, 101], [101, 114], [105, 99], [97, 98, 108, 101], [105, 98, 108, 101], [97, 110, 116], [101, 109, 101, 110, 116], [109, 101, 110, 116], [101, 110, 116], [111, 117], [105, 115, 109], [97, 116, 101], [105, 116, 105], [111, 117, 115], [105, 118, 101], [105, 122, 101], [105, 111, 110]]
def pu_E4c : List (List Int32) := [[97, 108], [97, 110, 99, 101], [101, 110, 99, 101], [101, 114], [105, 99], [97, 98, 108, 101], [105, 98, 108, 101], [97, 110, 116], [101, 109, 101, 110, 116], [109, 101, 110, 116], [101, 110, 116], [105, 111, 110], [111, 117], [105, 115, 109], [97, 116, 101], [105, 116, 105], [111, 117, 115], [105, 118, 101], [105, 122, 101]]
/-- the steps, as the reference takes them -/
def pu_s1a (L : List Int32) : List Int32 := if pu_ends L [115, 115, 101, 115] ∨ pu_ends L [105, 101, 115] then L.take (L.length - 2) else if pu_ends L [115] ∧ ¬ pu_ends L [115, 115] then L.take (L.length - 1) else L
def pu_s1bm (L : List Int32) : List Int32 := if pu_ends L [97, 116] ∨ pu_ends L [98, 108] ∨ pu_ends L [105, 122] then L ++ [101] else if pu_dbl L ∧ L.getD (L.length - 1) 0 ≠ 108 ∧ L.getD (L.length - 1) 0 ≠ 115 ∧ L.getD (L.length - 1) 0 ≠ 122 then L.take (L.length - 1) else if pu_meas L L.length = 1 ∧ pu_cvc L L.length then L ++ [101] else L
def pu_s1b (L : List Int32) : List Int32 := if pu_ends L [101, 101, 100] then (if 0 < pu_meas L (L.length - 3) then L.take (L.length - 1) else L) else if pu_ends L [101, 100] then (if pu_anyV L (L.length - 2) = true then pu_s1bm (L.take (L.length - 2)) else L) else if pu_ends L [105, 110, 103] then (if pu_anyV L (L.length - 3) = true then pu_s1bm (L.take (L.length - 3)) else L) else L
def pu_s1c (L : List Int32) : List Int32 := if pu_ends L [121] ∧ pu_anyV L (L.length - 1) = true then L.take (L.length - 1) ++ [105] else L
def pu_rep (E S : List (List Int32)) (L : List Int32) : List Int32 := match pu_lng L E 0 none with
  | some q => if 0 < pu_meas L (L.length - q.2.length) then L.take (L.length - q.2.length) ++ S.getD q.1 [] else L
  | none => L
def pu_s4 (L : List Int32) : List Int32 := match pu_lng L pu_E4 0 none with
  | some q => if (q.2 = [105, 111, 110] → 0 < L.length - q.2.length ∧ (L.getD (L.length - q.2.length - 1) 0 = 115 ∨ L.getD (L.length - q.2.length - 1) 0 = 116)) ∧ 1 < pu_meas L (L.length - q.2.length) then L.take (L.length - q.2.length) else L
  | none => L
def pu_s5a (L : List Int32) : List Int32 := if pu_ends L [101] ∧ (1 < pu_meas L (L.length - 1) ∨ (pu_meas L (L.length - 1) = 1 ∧ ¬ pu_cvc L (L.length - 1))) then L.take (L.length - 1) else L
def pu_s5b (L : List Int32) : List Int32 := if pu_ends L [108, 108] ∧ 1 < pu_meas L L.length then L.take (L.length - 1) else L
def pu_stem (L : List Int32) : List Int32 := pu_s5b (pu_s5a (pu_s4 (pu_rep pu_E3 pu_S3 (pu_rep pu_E2 pu_S2 (pu_s1c (pu_s1b (pu_s1a L)))))))
abbrev pu_St : Type := List (Nat × List Int32) × Nat
/-- one word more: a token, or none -/
def pu_word (L : List Int32) (s : pu_St) : pu_St :=
  let M := (pu_own L).map pu_low
  if M ∈ pu_stops then (s.1, s.2 + 1) else (s.1 ++ [(s.2, if pu_small M ∧ 2 < M.length then pu_stem M else M)], s.2 + 1)
/-- the words of a span, 255 characters each at most -/
def pu_take (f : Nat → Int32) (e : Nat) : Nat → Nat → pu_St → pu_St
  | 0, _, s => s
  | k + 1, a, s => if a < e then pu_take f e k (a + 255) (pu_word (pu_slice f a (if e - a < 255 then e - a else 255)) s) else s
def pu_cut (f : Nat → Int32) (n : Nat) : Nat → Nat → pu_St → pu_St
  | 0, _, s => s
  | k + 1, a, s => if a < n then pu_cut f n k (pu_spanEnd f n a) (if pu_any f (pu_spanEnd f n a - a) a = true then pu_take f (pu_spanEnd f n a) (pu_spanEnd f n a) a s else s) else s
end
section
/-! PURE, 3: the steps as the class takes them are the steps as the reference takes them -/
theorem pu_ends_split {L t : List Int32} (h : pu_ends L t) : L = L.take (L.length - t.length) ++ t := by
  have h1 := List.take_append_drop (L.length - t.length) L
  rw [h.2] at h1
  exact h1.symm
theorem pu_ends_app (P t : List Int32) : pu_ends (P ++ t) t := by
  refine ⟨by simp, ?_⟩
  rw [List.length_append, Nat.add_sub_cancel]
  exact List.drop_left
theorem pu_ends_tail {P q t : List Int32} (hl : t.length ≤ q.length) : pu_ends (P ++ q) t ↔ q.drop (q.length - t.length) = t := by
  unfold pu_ends
  rw [List.length_append]
  have h1 : P.length + q.length - t.length = P.length + (q.length - t.length) := by omega
  have h2 : (P ++ q).drop (P.length + (q.length - t.length)) = q.drop (q.length - t.length) := by
    rw [List.drop_append, List.drop_eq_nil_of_le (by omega), List.nil_append, Nat.add_sub_cancel_left]
  rw [h1, h2]
  constructor
  · intro h; exact h.2
  · intro h; exact ⟨by omega, h⟩
theorem pu_ends_len {L s t : List Int32} (hs : pu_ends L s) (ht : pu_ends L t) (h : s.length = t.length) : s = t := by
  rw [← hs.2, ← ht.2, h]
theorem pu_lng_no {L t : List Int32} {ts : List (List Int32)} {i : Nat} {b : Option (Nat × List Int32)} (h : ¬ pu_ends L t) : pu_lng L (t :: ts) i b = pu_lng L ts (i + 1) b := by
  rw [pu_lng, if_neg (fun z => h z.1)]
theorem pu_lng_yes {L t : List Int32} {ts : List (List Int32)} {i : Nat} (h : pu_ends L t) : pu_lng L (t :: ts) i none = pu_lng L ts (i + 1) (some (i, t)) := by
  rw [pu_lng, if_pos ⟨h, fun q hq => by cases hq⟩]
theorem pu_lng_short {L t : List Int32} {ts : List (List Int32)} {i : Nat} {q : Nat × List Int32} (h : t.length ≤ q.2.length) : pu_lng L (t :: ts) i (some q) = pu_lng L ts (i + 1) (some q) := by
  rw [pu_lng, if_neg (fun z => by have := z.2 q rfl; omega)]
/-- what a search for the longest finds -/
theorem pu_lng_spec (L : List Int32) : ∀ (E : List (List Int32)) (i : Nat) (b : Option (Nat × List Int32)), (∀ q, b = some q → pu_ends L q.2) →
    (∀ q, pu_lng L E i b = some q → pu_ends L q.2 ∧ (q.2 ∈ E ∨ b = some q) ∧ (∀ t ∈ E, pu_ends L t → t.length ≤ q.2.length) ∧ (∀ r, b = some r → r.2.length ≤ q.2.length)) ∧
    (pu_lng L E i b = none → b = none ∧ ∀ t ∈ E, ¬ pu_ends L t)
  | [], i, b, hb => by
    refine ⟨fun q hq => ⟨hb q hq, Or.inr hq, fun t ht => absurd ht List.not_mem_nil, fun r hr => ?_⟩, fun h => ⟨h, fun t ht => absurd ht List.not_mem_nil⟩⟩
    have h1 : b = some q := hq
    rw [h1] at hr
    cases hr
    exact Nat.le_refl _
  | t :: E, i, b, hb => by
    unfold pu_lng
    by_cases hc : pu_ends L t ∧ (∀ q, b = some q → q.2.length < t.length)
    · rw [if_pos hc]
      have ih := pu_lng_spec L E (i + 1) (some (i, t)) (fun q hq => by cases hq; exact hc.1)
      refine ⟨fun q hq => ?_, fun h => ?_⟩
      · obtain ⟨h1, h2, h3, h4⟩ := ih.1 q hq
        have h5 := h4 (i, t) rfl
        refine ⟨h1, Or.inl ?_, fun u hu hE => ?_, fun r hr => ?_⟩
        · rcases h2 with h2 | h2
          · exact List.mem_cons_of_mem _ h2
          · cases h2; exact List.mem_cons_self
        · rcases List.mem_cons.mp hu with rfl | hu
          · exact h5
          · exact h3 u hu hE
        · have := hc.2 r hr
          simp only at h5
          omega
      · exact absurd (ih.2 h).1 (by simp)
    · rw [if_neg hc]
      have ih := pu_lng_spec L E (i + 1) b hb
      refine ⟨fun q hq => ?_, fun h => ?_⟩
      · obtain ⟨h1, h2, h3, h4⟩ := ih.1 q hq
        refine ⟨h1, ?_, fun u hu hE => ?_, h4⟩
        · rcases h2 with h2 | h2
          · exact Or.inl (List.mem_cons_of_mem _ h2)
          · exact Or.inr h2
        · rcases List.mem_cons.mp hu with rfl | hu
          · have h6 : ¬ ∀ q, b = some q → q.2.length < u.length := fun z => hc ⟨hE, z⟩
            cases hb2 : b with
            | none => exact absurd (fun q hq => by rw [hb2] at hq; cases hq) h6
            | some r =>
              have h7 := h4 r hb2
              rcases Nat.lt_or_ge r.2.length u.length with h8 | h8
              · exact absurd (fun q hq => by rw [hb2] at hq; cases hq; exact h8) h6
              · omega
          · exact h3 u hu hE
      · obtain ⟨h1, h2⟩ := ih.2 h
        refine ⟨h1, fun u hu hE => ?_⟩
        rcases List.mem_cons.mp hu with rfl | hu
        · exact hc ⟨hE, fun q hq => by rw [h1] at hq; cases hq⟩
        · exact h2 u hu hE
/-- two lists of the same endings find the same -/
theorem pu_lng_same (L : List Int32) {E F : List (List Int32)} (h : ∀ t, t ∈ E ↔ t ∈ F) : (pu_lng L E 0 none).map Prod.snd = (pu_lng L F 0 none).map Prod.snd := by
  have e1 := pu_lng_spec L E 0 none (fun q hq => by cases hq)
  have e2 := pu_lng_spec L F 0 none (fun q hq => by cases hq)
  cases hE : pu_lng L E 0 none with
  | none =>
    have h1 := (e1.2 hE).2
    cases hF : pu_lng L F 0 none with
    | none => rfl
    | some q =>
      obtain ⟨a1, a2, -, -⟩ := e2.1 q hF
      rcases a2 with a2 | a2
      · exact absurd a1 (h1 _ ((h _).mpr a2))
      · cases a2
  | some q =>
    obtain ⟨a1, a2, a3, -⟩ := e1.1 q hE
    have a2 : q.2 ∈ E := by
      rcases a2 with a2 | a2
      · exact a2
      · cases a2
    cases hF : pu_lng L F 0 none with
    | none => exact absurd a1 ((e2.2 hF).2 _ ((h _).mp a2))
    | some r =>
      obtain ⟨b1, b2, b3, -⟩ := e2.1 r hF
      have b2 : r.2 ∈ F := by
        rcases b2 with b2 | b2
        · exact b2
        · cases b2
      have c1 := a3 r.2 ((h _).mpr b2) b1
      have c2 := b3 q.2 ((h _).mp a2) a1
      show some q.2 = some r.2
      rw [pu_ends_len a1 b1 (by omega)]
def pc_E1a : List (List Int32) := [[115, 115, 101, 115], [105, 101, 115], [115, 115], [115]]
def pc_S1a : List (List Int32) := [[115, 115], [105], [115, 115], []]
def pc_E1b : List (List Int32) := [[101, 101, 100], [101, 100], [105, 110, 103]]
def pc_S1b : List (List Int32) := [[101, 101], [], []]
/-- a step of the class that takes the longest ending off, puts another in its place -/
def pc_s1a (L : List Int32) : List Int32 := match pu_lng L pc_E1a 0 none with
  | some q => L.take (L.length - q.2.length) ++ pc_S1a.getD q.1 []
  | none => L
def pc_mend (L : List Int32) : List Int32 := if pu_ends L [97, 116] ∨ pu_ends L [98, 108] ∨ pu_ends L [105, 122] then L ++ [101] else if pu_dbl L ∧ ¬ pu_ends L [108] ∧ ¬ pu_ends L [115] ∧ ¬ pu_ends L [122] then L.take (L.length - 1) else if pu_meas L L.length = 1 ∧ pu_cvc L L.length then L ++ [101] else L
def pc_s1b (L : List Int32) : List Int32 := match pu_lng L pc_E1b 0 none with
  | some q => if q.2 = [101, 101, 100] then (if 0 < pu_meas L (L.length - q.2.length) then L.take (L.length - q.2.length) ++ pc_S1b.getD q.1 [] else L) else if pu_anyV L (L.length - q.2.length) = true then pc_mend (L.take (L.length - q.2.length) ++ pc_S1b.getD q.1 []) else L
  | none => L
def pc_s4 (L : List Int32) : List Int32 := if pu_ends L [105, 111, 110] ∧ ¬ pu_ends L [115, 105, 111, 110] ∧ ¬ pu_ends L [116, 105, 111, 110] then L else match pu_lng L pu_E4c 0 none with
  | some q => if 1 < pu_meas L (L.length - q.2.length) then L.take (L.length - q.2.length) else L
  | none => L
theorem pu_ends_cat {P q t : List Int32} (hl : t.length ≤ q.length) (h : q.drop (q.length - t.length) = t) : pu_ends (P ++ q) t := (pu_ends_tail hl).mpr h
theorem pu_ends_ncat {P q t : List Int32} (hl : t.length ≤ q.length) (h : ¬ q.drop (q.length - t.length) = t) : ¬ pu_ends (P ++ q) t := fun z => h ((pu_ends_tail hl).mp z)
theorem pu_take_cat {P q : List Int32} {n : Nat} (h : n ≤ q.length) : (P ++ q).take ((P ++ q).length - n) = P ++ q.take (q.length - n) := by
  rw [List.length_append, List.take_append, List.take_of_length_le (by omega)]
  congr 2
  omega
theorem pc_s1a_eq (L : List Int32) : pc_s1a L = pu_s1a L := by
  by_cases h1 : pu_ends L [115, 115, 101, 115]
  · have e := pu_ends_split h1
    generalize L.take (L.length - 4) = P at e
    subst e
    unfold pc_s1a pu_s1a
    rw [if_pos (Or.inl h1)]
    have g : pu_lng (P ++ [115, 115, 101, 115]) pc_E1a 0 none = some (0, [115, 115, 101, 115]) := by
      unfold pc_E1a
      rw [pu_lng_yes h1, pu_lng_short (by decide), pu_lng_short (by decide), pu_lng_short (by decide)]
      rfl
    rw [g]
    show (P ++ _).take ((P ++ _).length - 4) ++ _ = (P ++ _).take ((P ++ _).length - 2)
    rw [pu_take_cat (by decide), pu_take_cat (by decide), List.append_assoc]
    rfl
  · by_cases h2 : pu_ends L [105, 101, 115]
    · have e := pu_ends_split h2
      generalize L.take (L.length - 3) = P at e
      subst e
      unfold pc_s1a pu_s1a
      rw [if_pos (Or.inr h2)]
      have g : pu_lng (P ++ [105, 101, 115]) pc_E1a 0 none = some (1, [105, 101, 115]) := by
        unfold pc_E1a
        rw [pu_lng_no h1, pu_lng_yes h2, pu_lng_short (by decide), pu_lng_short (by decide)]
        rfl
      rw [g]
      show (P ++ _).take ((P ++ _).length - 3) ++ _ = (P ++ _).take ((P ++ _).length - 2)
      rw [pu_take_cat (by decide), pu_take_cat (by decide), List.append_assoc]
      rfl
    · by_cases h3 : pu_ends L [115, 115]
      · have e := pu_ends_split h3
        generalize L.take (L.length - 2) = P at e
        subst e
        unfold pc_s1a pu_s1a
        rw [if_neg (fun z => z.elim h1 h2), if_neg (fun z => z.2 h3)]
        have g : pu_lng (P ++ [115, 115]) pc_E1a 0 none = some (2, [115, 115]) := by
          unfold pc_E1a
          rw [pu_lng_no h1, pu_lng_no h2, pu_lng_yes h3, pu_lng_short (by decide)]
          rfl
        rw [g]
        show (P ++ _).take ((P ++ _).length - 2) ++ _ = _
        rw [pu_take_cat (by decide), List.append_assoc]
        rfl
      · by_cases h4 : pu_ends L [115]
        · unfold pc_s1a pu_s1a
          rw [if_neg (fun z => z.elim h1 h2), if_pos ⟨h4, h3⟩]
          have g : pu_lng L pc_E1a 0 none = some (3, [115]) := by
            unfold pc_E1a
            rw [pu_lng_no h1, pu_lng_no h2, pu_lng_no h3, pu_lng_yes h4]
            rfl
          rw [g]
          exact List.append_nil _
        · unfold pc_s1a pu_s1a
          rw [if_neg (fun z => z.elim h1 h2), if_neg (fun z => h4 z.1)]
          have g : pu_lng L pc_E1a 0 none = none := by
            unfold pc_E1a
            rw [pu_lng_no h1, pu_lng_no h2, pu_lng_no h3, pu_lng_no h4]
            rfl
          rw [g]
theorem pu_ends1 (L : List Int32) (c : Int32) : pu_ends L [c] ↔ 0 < L.length ∧ L.getD (L.length - 1) 0 = c := by
  constructor
  · intro h
    have e := pu_ends_split h
    generalize L.take (L.length - [c].length) = P at e
    subst e
    simp
  · rintro ⟨h1, h2⟩
    refine ⟨h1, ?_⟩
    rw [List.drop_eq_getElem_cons (by simp; omega)]
    rw [List.getD_eq_getElem?_getD, List.getElem?_eq_getElem (by omega)] at h2
    simp only [Option.getD_some] at h2
    simp only [List.length_cons, List.length_nil]
    rw [h2, List.drop_eq_nil_of_le (by omega)]
theorem pc_mend_eq (L : List Int32) : pc_mend L = pu_s1bm L := by
  unfold pc_mend pu_s1bm
  by_cases h1 : pu_ends L [97, 116] ∨ pu_ends L [98, 108] ∨ pu_ends L [105, 122]
  · rw [if_pos h1, if_pos h1]
  · rw [if_neg h1, if_neg h1]
    have e : (pu_dbl L ∧ ¬ pu_ends L [108] ∧ ¬ pu_ends L [115] ∧ ¬ pu_ends L [122]) ↔ (pu_dbl L ∧ L.getD (L.length - 1) 0 ≠ 108 ∧ L.getD (L.length - 1) 0 ≠ 115 ∧ L.getD (L.length - 1) 0 ≠ 122) := by
      refine and_congr_right fun hd => ?_
      have h0 : 0 < L.length := by have := hd.1; omega
      rw [pu_ends1, pu_ends1, pu_ends1]
      simp only [h0, true_and]
    by_cases h2 : pu_dbl L ∧ ¬ pu_ends L [108] ∧ ¬ pu_ends L [115] ∧ ¬ pu_ends L [122]
    · rw [if_pos h2, if_pos (e.mp h2)]
    · rw [if_neg h2, if_neg (fun z => h2 (e.mpr z))]
theorem pc_s1b_eq (L : List Int32) : pc_s1b L = pu_s1b L := by
  by_cases h1 : pu_ends L [101, 101, 100]
  · have e := pu_ends_split h1
    have g : pu_lng L pc_E1b 0 none = some (0, [101, 101, 100]) := by
      unfold pc_E1b
      rw [pu_lng_yes h1, pu_lng_short (by decide), pu_lng_short (by decide)]
      rfl
    unfold pc_s1b pu_s1b
    rw [g, if_pos h1]
    show (if _ then (if 0 < pu_meas L (L.length - 3) then L.take (L.length - 3) ++ [101, 101] else L) else _) = _
    rw [if_pos rfl]
    have e2 : L.take (L.length - 3) ++ [101, 101] = L.take (L.length - 1) := by
      generalize hP : L.take (L.length - [(101 : Int32), 101, 100].length) = P at e
      subst e
      rw [pu_take_cat (by decide)]
      rfl
    rw [e2]
  · by_cases h2 : pu_ends L [101, 100]
    · have n3 : ¬ pu_ends L [105, 110, 103] := by
        have e := pu_ends_split h2
        intro z
        have e2 := pu_ends_split z
        have a1 := (pu_ends1 L 100).mp (by rw [e]; exact pu_ends_cat (by decide) rfl)
        have a2 := (pu_ends1 L 103).mp (by rw [e2]; exact pu_ends_cat (by decide) rfl)
        exact absurd (a1.2.symm.trans a2.2) (by decide)
      have g : pu_lng L pc_E1b 0 none = some (1, [101, 100]) := by
        unfold pc_E1b
        rw [pu_lng_no h1, pu_lng_yes h2, pu_lng_no n3]
        rfl
      unfold pc_s1b pu_s1b
      rw [g, if_neg h1, if_pos h2]
      show (if _ then _ else if pu_anyV L (L.length - 2) = true then pc_mend (L.take (L.length - 2) ++ []) else L) = _
      rw [if_neg (by decide), List.append_nil, pc_mend_eq]
    · by_cases h3 : pu_ends L [105, 110, 103]
      · have g : pu_lng L pc_E1b 0 none = some (2, [105, 110, 103]) := by
          unfold pc_E1b
          rw [pu_lng_no h1, pu_lng_no h2, pu_lng_yes h3]
          rfl
        unfold pc_s1b pu_s1b
        rw [g, if_neg h1, if_neg h2, if_pos h3]
        show (if _ then _ else if pu_anyV L (L.length - 3) = true then pc_mend (L.take (L.length - 3) ++ []) else L) = _
        rw [if_neg (by decide), List.append_nil, pc_mend_eq]
      · have g : pu_lng L pc_E1b 0 none = none := by
          unfold pc_E1b
          rw [pu_lng_no h1, pu_lng_no h2, pu_lng_no h3]
          rfl
        unfold pc_s1b pu_s1b
        rw [g, if_neg h1, if_neg h2, if_neg h3]
theorem pu_E4_same : ∀ t, t ∈ pu_E4c ↔ t ∈ pu_E4 := by
  have a1 : ∀ t ∈ pu_E4c, t ∈ pu_E4 := by decide +kernel
  have a2 : ∀ t ∈ pu_E4, t ∈ pu_E4c := by decide +kernel
  exact fun t => ⟨a1 t, a2 t⟩
theorem pu_E4_ion : ∀ t ∈ pu_E4, 3 ≤ t.length → t.drop (t.length - 3) = [105, 111, 110] → t = [105, 111, 110] := by decide +kernel
theorem pc_s4_eq (L : List Int32) : pc_s4 L = pu_s4 L := by
  have hs := pu_lng_same L pu_E4_same
  have sp := pu_lng_spec L pu_E4 0 none (fun q hq => by cases hq)
  unfold pc_s4 pu_s4
  cases hE : pu_lng L pu_E4 0 none with
  | none =>
    rw [hE] at hs
    have hC : pu_lng L pu_E4c 0 none = none := by
      cases hC : pu_lng L pu_E4c 0 none with
      | none => rfl
      | some q => rw [hC] at hs; cases hs
    rw [hC]
    simp only [ite_self]
  | some q =>
    rw [hE] at hs
    obtain ⟨a1, a2, a3, -⟩ := sp.1 q hE
    have a2 : q.2 ∈ pu_E4 := by
      rcases a2 with a2 | a2
      · exact a2
      · cases a2
    obtain ⟨r, hC, hr⟩ : ∃ r, pu_lng L pu_E4c 0 none = some r ∧ r.2 = q.2 := by
      cases hC : pu_lng L pu_E4c 0 none with
      | none => rw [hC] at hs; cases hs
      | some r => rw [hC] at hs; exact ⟨r, rfl, Option.some.inj hs⟩
    rw [hC]
    show (if _ then L else if 1 < pu_meas L (L.length - r.2.length) then L.take (L.length - r.2.length) else L) = (if _ then _ else L)
    rw [hr]
    by_cases hi : pu_ends L [105, 111, 110]
    · -- then it is the longest
      have hq : q.2 = [105, 111, 110] := by
        have h3 := a3 [105, 111, 110] (by decide +kernel) hi
        refine pu_E4_ion q.2 a2 h3 ?_
        have b1 := pu_ends_split a1
        rw [b1] at hi
        exact (pu_ends_tail h3).mp hi
      have hlen : 3 ≤ L.length := hi.1
      have key : (pu_ends L [115, 105, 111, 110] ∨ pu_ends L [116, 105, 111, 110]) ↔ (0 < L.length - 3 ∧ (L.getD (L.length - 3 - 1) 0 = 115 ∨ L.getD (L.length - 3 - 1) 0 = 116)) := by
        have b1 := pu_ends_split hi
        generalize hP : L.take (L.length - [(105 : Int32), 111, 110].length) = P at b1
        subst b1
        have l1 : (P ++ [(105 : Int32), 111, 110]).length - 3 = P.length := by simp
        rw [l1]
        have one : ∀ c : Int32, pu_ends (P ++ [(105 : Int32), 111, 110]) (c :: [105, 111, 110]) ↔ (0 < P.length ∧ P.getD (P.length - 1) 0 = c) := by
          intro c
          rw [← pu_ends1]
          constructor
          · intro z
            have b2 := pu_ends_split z
            have b3 : P ++ [(105 : Int32), 111, 110] = (List.take ((P ++ [(105 : Int32), 111, 110]).length - (c :: [(105 : Int32), 111, 110]).length) (P ++ [(105 : Int32), 111, 110]) ++ [c]) ++ [(105 : Int32), 111, 110] := by
              rw [List.append_assoc]
              exact b2
            have b4 := List.append_cancel_right b3
            rw [b4]
            exact pu_ends_app _ _
          · intro z
            have b2 := pu_ends_split z
            generalize List.take (P.length - [c].length) P = P2 at b2
            rw [b2, List.append_assoc]
            exact pu_ends_app _ _
        have gd : ∀ h : 0 < P.length, (P ++ [(105 : Int32), 111, 110]).getD (P.length - 1) 0 = P.getD (P.length - 1) 0 := by
          intro h
          rw [List.getD_eq_getElem?_getD, List.getD_eq_getElem?_getD, List.getElem?_append_left (by omega)]
        rw [one 115, one 116]
        constructor
        · rintro (⟨z1, z2⟩ | ⟨z1, z2⟩)
          · exact ⟨z1, Or.inl (by rw [gd z1]; exact z2)⟩
          · exact ⟨z1, Or.inr (by rw [gd z1]; exact z2)⟩
        · rintro ⟨z1, z2⟩
          rw [gd z1] at z2
          exact z2.imp (fun z => ⟨z1, z⟩) (fun z => ⟨z1, z⟩)
      rw [hq]
      show (if _ then L else if 1 < pu_meas L (L.length - 3) then L.take (L.length - 3) else L) = (if (_ → 0 < L.length - 3 ∧ (L.getD (L.length - 3 - 1) 0 = 115 ∨ L.getD (L.length - 3 - 1) 0 = 116)) ∧ 1 < pu_meas L (L.length - 3) then L.take (L.length - 3) else L)
      by_cases hk : pu_ends L [115, 105, 111, 110] ∨ pu_ends L [116, 105, 111, 110]
      · rw [if_neg (fun z => hk.elim z.2.1 z.2.2)]
        by_cases hm : 1 < pu_meas L (L.length - 3)
        · rw [if_pos hm, if_pos ⟨fun _ => key.mp hk, hm⟩]
        · rw [if_neg hm, if_neg (fun z => hm z.2)]
      · rw [if_pos ⟨hi, fun z => hk (Or.inl z), fun z => hk (Or.inr z)⟩, if_neg (fun z => hk (key.mpr (z.1 rfl)))]
    · rw [if_neg (fun z => hi z.1)]
      have hq : ¬ q.2 = [105, 111, 110] := fun z => hi (z ▸ a1)
      by_cases hm : 1 < pu_meas L (L.length - q.2.length)
      · rw [if_pos hm, if_pos ⟨fun z => absurd z hq, hm⟩]
      · rw [if_neg hm, if_neg (fun z => hm z.2)]
end
section
/-! PURE, 4: the words that say nothing as numbers; tokens one behind the other -/
def pu_dig (c : Int32) : Nat := (c.toInt - 96).toNat
/-- the number of a word, its last letter first -/
def pu_kr : List Int32 → Nat
  | [] => 0
  | c :: l => pu_kr l * 32 + pu_dig c
def pu_key (L : List Int32) : Nat := pu_kr L.reverse
theorem pu_dig_in {c : Int32} (h : 97 ≤ c.toInt ∧ c.toInt ≤ 122) : 1 ≤ pu_dig c ∧ pu_dig c ≤ 26 ∧ (pu_dig c : Int) = c.toInt - 96 := by
  unfold pu_dig
  omega
theorem pu_kr_inj : ∀ (L M : List Int32), pu_small L → pu_small M → pu_kr L = pu_kr M → L = M
  | [], [], _, _, _ => rfl
  | [], c :: M, _, hM, h => by
    have := pu_dig_in (hM c List.mem_cons_self)
    simp only [pu_kr] at h
    omega
  | c :: L, [], hL, _, h => by
    have := pu_dig_in (hL c List.mem_cons_self)
    simp only [pu_kr] at h
    omega
  | c :: L, d :: M, hL, hM, h => by
    have h1 := pu_dig_in (hL c List.mem_cons_self)
    have h2 := pu_dig_in (hM d List.mem_cons_self)
    simp only [pu_kr] at h
    have h3 : pu_dig c = pu_dig d := by omega
    have h4 : pu_kr L = pu_kr M := by omega
    have h5 := pu_kr_inj L M (fun x hx => hL x (List.mem_cons_of_mem _ hx)) (fun x hx => hM x (List.mem_cons_of_mem _ hx)) h4
    have h6 : c = d := Int32.toInt_inj.mp (by omega)
    rw [h5, h6]
theorem pu_key_inj {L M : List Int32} (hL : pu_small L) (hM : pu_small M) (h : pu_key L = pu_key M) : L = M := by
  have h1 := pu_kr_inj L.reverse M.reverse (fun x hx => hL x (List.mem_reverse.mp hx)) (fun x hx => hM x (List.mem_reverse.mp hx)) h
  have h2 := congrArg List.reverse h1
  rw [List.reverse_reverse, List.reverse_reverse] at h2
  exact h2
theorem pu_key_snoc (L : List Int32) (c : Int32) : pu_key (L ++ [c]) = pu_key L * 32 + pu_dig c := by
  unfold pu_key
  rw [List.reverse_append]
  rfl
theorem pu_stops_ok : ∀ t ∈ pu_stops, t.length ≤ 5 ∧ ∀ c ∈ t, 97 ≤ c.toInt ∧ c.toInt ≤ 122 := by decide +kernel
theorem pu_stops_len : pu_stops.length = 33 := rfl
/-- a word is among them: by its number -/
theorem pu_stops_iff (M : List Int32) : M ∈ pu_stops ↔ (M.length ≤ 5 ∧ pu_small M) ∧ ∃ i, i < 33 ∧ pu_key (pu_stops.getD i []) = pu_key M := by
  constructor
  · intro h
    have h1 := pu_stops_ok M h
    obtain ⟨i, hi⟩ := List.getElem?_of_mem h
    have hl := (List.getElem?_eq_some_iff.mp hi).1
    exact ⟨h1, i, hl, by rw [List.getD_eq_getElem?_getD, hi]; rfl⟩
  · rintro ⟨⟨-, h2⟩, i, hi, h3⟩
    have hm : pu_stops.getD i [] ∈ pu_stops := by
      rw [List.getD_eq_getElem?_getD, List.getElem?_eq_getElem (show i < pu_stops.length from hi)]
      exact List.getElem_mem _
    rw [← pu_key_inj (pu_stops_ok _ hm).2 h2 h3]
    exact hm
/-- where token i begins -/
def pu_off (T : List (Nat × List Int32)) : Nat → Nat
  | 0 => 0
  | i + 1 => pu_off T i + (T.getD i (0, [])).2.length
theorem pu_off_app (T : List (Nat × List Int32)) (q : Nat × List Int32) : ∀ i, i ≤ T.length → pu_off (T ++ [q]) i = pu_off T i
  | 0, _ => rfl
  | i + 1, h => by
    have h1 := pu_off_app T q i (by omega)
    have h2 : (T ++ [q]).getD i (0, []) = T.getD i (0, []) := by
      rw [List.getD_eq_getElem?_getD, List.getD_eq_getElem?_getD, List.getElem?_append_left (by omega)]
    unfold pu_off
    rw [h1, h2]
theorem pu_off_mono (T : List (Nat × List Int32)) : ∀ i j, i ≤ j → pu_off T i ≤ pu_off T j
  | i, 0, h => by
    have : i = 0 := by omega
    subst this
    exact Nat.le_refl _
  | i, j + 1, h => by
    rcases Nat.lt_or_ge i (j + 1) with h1 | h1
    · have := pu_off_mono T i j (by omega)
      have h2 : pu_off T (j + 1) = pu_off T j + (T.getD j (0, [])).2.length := rfl
      omega
    · have : i = j + 1 := by omega
      subst this
      exact Nat.le_refl _
/-- the rows ch, po, st hold the tokens T -/
def pu_Tok (ch po st : Nat → Int32) (T : List (Nat × List Int32)) : Prop :=
  (∀ i, i ≤ T.length → st i = nI (pu_off T i)) ∧ (∀ i, i < T.length → po i = nI (T.getD i (0, [])).1) ∧
  ∀ i, i < T.length → ∀ k, k < (T.getD i (0, [])).2.length → ch (pu_off T i + k) = (T.getD i (0, [])).2.getD k 0
theorem pu_Tok_nil {ch po st : Nat → Int32} (h : st 0 = nI 0) : pu_Tok ch po st [] :=
  ⟨fun i hi => by have : i = 0 := Nat.le_zero.mp hi
                  subst this; exact h, fun i hi => absurd hi (Nat.not_lt_zero _), fun i hi => absurd hi (Nat.not_lt_zero _)⟩
theorem pu_Tok_add {ch po st ch' po' st' : Nat → Int32} {T : List (Nat × List Int32)} (h : pu_Tok ch po st T) (p : Nat) (L : List Int32)
    (hs : ∀ i, i ≤ T.length → st' i = st i) (hs1 : st' (T.length + 1) = nI (pu_off T T.length + L.length)) (hp : ∀ i, i < T.length → po' i = po i) (hp1 : po' T.length = nI p)
    (hc : ∀ i, i < pu_off T T.length → ch' i = ch i) (hc1 : ∀ k, k < L.length → ch' (pu_off T T.length + k) = L.getD k 0) : pu_Tok ch' po' st' (T ++ [(p, L)]) := by
  obtain ⟨h1, h2, h3⟩ := h
  have g1 : ∀ i, i < T.length → (T ++ [(p, L)]).getD i (0, []) = T.getD i (0, []) := fun i hi => by
    rw [List.getD_eq_getElem?_getD, List.getD_eq_getElem?_getD, List.getElem?_append_left hi]
  have g2 : (T ++ [(p, L)]).getD T.length (0, []) = (p, L) := by
    rw [List.getD_eq_getElem?_getD, List.getElem?_append_right (Nat.le_refl _), Nat.sub_self]
    rfl
  refine ⟨fun i hi => ?_, fun i hi => ?_, fun i hi k hk => ?_⟩
  · rw [List.length_append, List.length_singleton] at hi
    rcases Nat.lt_or_ge T.length i with h | h
    · have : i = T.length + 1 := by omega
      subst this
      rw [hs1]
      show _ = nI (pu_off (T ++ [(p, L)]) T.length + ((T ++ [(p, L)]).getD T.length (0, [])).2.length)
      rw [g2, pu_off_app T _ T.length (Nat.le_refl _)]
    · rw [hs i h, h1 i h, pu_off_app T _ i h]
  · rw [List.length_append, List.length_singleton] at hi
    rcases Nat.lt_or_ge i T.length with h | h
    · rw [hp i h, h2 i h, g1 i h]
    · have : i = T.length := by omega
      subst this
      rw [hp1, g2]
  · rw [List.length_append, List.length_singleton] at hi
    rcases Nat.lt_or_ge i T.length with h | h
    · rw [g1 i h] at hk ⊢
      have h4 := pu_off_mono T (i + 1) T.length (by omega)
      have h5 : pu_off T (i + 1) = pu_off T i + (T.getD i (0, [])).2.length := rfl
      rw [pu_off_app T _ i (by omega), hc _ (by omega), h3 i h k hk]
    · have : i = T.length := by omega
      subst this
      rw [g2] at hk ⊢
      rw [pu_off_app T _ T.length (Nat.le_refl _), hc1 k hk]
/-- the first token with the same characters as token i; k: where the search stands -/
def pu_first (T : List (Nat × List Int32)) (i : Nat) : Nat → Nat → Nat
  | 0, j => j
  | k + 1, j => if (T.getD j (0, [])).2 = (T.getD i (0, [])).2 then j else pu_first T i k (j + 1)
end
section
/-! PURE, 5: vowels by runs of y, as the reference finds them -/
theorem pu_vow_y {L : List Int32} {k : Nat} (h : L.getD (k + 1) 0 = 121) : pu_vow L (k + 1) = !pu_vow L k := by
  have h1 : ¬ pu_isV (L.getD (k + 1) 0) := by rw [h]; decide
  rw [pu_vow, decide_eq_false h1, decide_eq_true h]
  simp
theorem pu_vow_y0 {L : List Int32} (h : L.getD 0 0 = 121) : pu_vow L 0 = false := by
  have h1 : ¬ pu_isV (L.getD 0 0) := by rw [h]; decide
  rw [pu_vow, decide_eq_false h1]
theorem pu_vow_n {L : List Int32} {k : Nat} (h : ¬ L.getD k 0 = 121) : pu_vow L k = decide (pu_isV (L.getD k 0)) := by
  cases k with
  | zero => rfl
  | succ k => rw [pu_vow, decide_eq_false h]; simp
/-- in a run of y's they alternate -/
theorem pu_vow_run {L : List Int32} {a : Nat} : ∀ m, (∀ j, j ≤ m → L.getD (a + j) 0 = 121) → pu_vow L (a + m) = (if m % 2 = 0 then pu_vow L a else !pu_vow L a)
  | 0, _ => by simp
  | m + 1, h => by
    have ih := pu_vow_run (L := L) (a := a) m (fun j hj => h j (by omega))
    have h1 := pu_vow_y (L := L) (k := a + m) (h (m + 1) (Nat.le_refl _))
    rw [show a + (m + 1) = a + m + 1 from rfl, h1, ih]
    rcases Nat.mod_two_eq_zero_or_one m with h2 | h2
    · rw [if_pos h2, if_neg (by omega)]
    · rw [if_neg (by omega), if_pos (by omega), Bool.not_not]
theorem pu_vow_first {L : List Int32} {a : Nat} (h : L.getD a 0 = 121) : pu_vow L a = (decide (0 < a) && !pu_vow L (a - 1)) := by
  cases a with
  | zero => rw [pu_vow_y0 h]; rfl
  | succ b => rw [pu_vow_y h]; simp
/-! the search for a vowel, the count, upward -/
theorem pu_anyV_true {L : List Int32} {k n : Nat} (h : k < n) (hv : pu_vow L k = true) : pu_anyV L n = true := by
  induction n with
  | zero => omega
  | succ n ih =>
    rw [pu_anyV]
    rcases Nat.lt_or_ge k n with h1 | h1
    · rw [ih h1]; rfl
    · have : k = n := by omega
      subst this
      rw [hv, Bool.or_true]
theorem pu_anyV_false {L : List Int32} {n : Nat} (h : ∀ k, k < n → pu_vow L k = false) : pu_anyV L n = false := by
  induction n with
  | zero => rfl
  | succ n ih => rw [pu_anyV, ih (fun k hk => h k (by omega)), h n (by omega)]; rfl
theorem pu_meas_le (L : List Int32) : ∀ k, pu_meas L k ≤ k
  | 0 => Nat.le_refl _
  | k + 1 => by
    have := pu_meas_le L k
    rw [pu_meas]
    split <;> omega
end
section
/-! PURE, 6: a stem is no longer than its word -/
theorem pu_len_s1a (L : List Int32) : (pu_s1a L).length ≤ L.length := by
  unfold pu_s1a
  repeat' split
  all_goals first | exact Nat.le_refl _ | (rw [List.length_take]; omega)
theorem pu_len_s1bm (L : List Int32) : (pu_s1bm L).length ≤ L.length + 1 := by
  unfold pu_s1bm
  repeat' split
  all_goals first | omega | (rw [List.length_append]; exact Nat.le_refl _) | (rw [List.length_take]; omega)
theorem pu_len_s1b (L : List Int32) : (pu_s1b L).length ≤ L.length := by
  unfold pu_s1b
  split
  · split
    · rw [List.length_take]; omega
    · exact Nat.le_refl _
  · split
    · rename_i h1 h2
      have h3 := h2.1
      split
      · have := pu_len_s1bm (L.take (L.length - 2))
        rw [List.length_take] at this
        simp only [List.length_cons, List.length_nil] at h3
        omega
      · exact Nat.le_refl _
    · split
      · rename_i h1 h2 h4
        have h3 := h4.1
        split
        · have := pu_len_s1bm (L.take (L.length - 3))
          rw [List.length_take] at this
          simp only [List.length_cons, List.length_nil] at h3
          omega
        · exact Nat.le_refl _
      · exact Nat.le_refl _
theorem pu_len_s1c (L : List Int32) : (pu_s1c L).length ≤ L.length := by
  unfold pu_s1c
  split
  · rename_i h
    have h3 := h.1.1
    simp only [List.length_cons, List.length_nil] at h3
    rw [List.length_append, List.length_take]
    simp only [List.length_cons, List.length_nil]
    omega
  · exact Nat.le_refl _
/-- the place that a search gives is the ending's -/
theorem pu_lng_at (L : List Int32) (F : List (List Int32)) : ∀ (E : List (List Int32)) (i : Nat) (b : Option (Nat × List Int32)), F.drop i = E → (∀ q, b = some q → F.getD q.1 [] = q.2 ∧ q.1 < F.length) → ∀ q, pu_lng L E i b = some q → F.getD q.1 [] = q.2 ∧ q.1 < F.length
  | [], i, b, _, hb, q, hq => hb q hq
  | t :: E, i, b, hd, hb, q, hq => by
    have hi : i < F.length := by
      rcases Nat.lt_or_ge i F.length with h | h
      · exact h
      · rw [List.drop_eq_nil_of_le h] at hd; cases hd
    have h1 : F.drop (i + 1) = E := by
      rw [← List.drop_drop, hd]
      rfl
    unfold pu_lng at hq
    refine pu_lng_at L F E (i + 1) _ h1 (fun r hr => ?_) q hq
    split at hr
    · cases hr
      refine ⟨?_, hi⟩
      rw [List.drop_eq_getElem_cons hi] at hd
      rw [List.getD_eq_getElem?_getD, List.getElem?_eq_getElem hi]
      exact (List.cons.inj hd).1
    · exact hb r hr
theorem pu_len_rep {E S : List (List Int32)} (h : ∀ i, i < E.length → (S.getD i []).length ≤ (E.getD i []).length) (L : List Int32) : (pu_rep E S L).length ≤ L.length := by
  unfold pu_rep
  split
  · rename_i q hq
    have h1 := (pu_lng_spec L E 0 none (fun q hq => by cases hq)).1 q hq
    have h2 := pu_lng_at L E E 0 none rfl (fun q hq => by cases hq) q hq
    have h3 := h q.1 h2.2
    rw [h2.1] at h3
    have h4 := h1.1.1
    split
    · rw [List.length_append, List.length_take]; omega
    · exact Nat.le_refl _
  · exact Nat.le_refl _
theorem pu_S2_le : ∀ i, i < pu_E2.length → (pu_S2.getD i []).length ≤ (pu_E2.getD i []).length := by decide +kernel
theorem pu_S3_le : ∀ i, i < pu_E3.length → (pu_S3.getD i []).length ≤ (pu_E3.getD i []).length := by decide +kernel
theorem pu_len_s4 (L : List Int32) : (pu_s4 L).length ≤ L.length := by
  unfold pu_s4
  split
  · split
    · rw [List.length_take]; omega
    · exact Nat.le_refl _
  · exact Nat.le_refl _
theorem pu_len_s5a (L : List Int32) : (pu_s5a L).length ≤ L.length := by
  unfold pu_s5a
  split
  · rw [List.length_take]; omega
  · exact Nat.le_refl _
theorem pu_len_s5b (L : List Int32) : (pu_s5b L).length ≤ L.length := by
  unfold pu_s5b
  split
  · rw [List.length_take]; omega
  · exact Nat.le_refl _
theorem pu_len_stem (L : List Int32) : (pu_stem L).length ≤ L.length := by
  unfold pu_stem
  exact Nat.le_trans (pu_len_s5b _) (Nat.le_trans (pu_len_s5a _) (Nat.le_trans (pu_len_s4 _) (Nat.le_trans (pu_len_rep pu_S3_le _) (Nat.le_trans (pu_len_rep pu_S2_le _) (Nat.le_trans (pu_len_s1c _) (Nat.le_trans (pu_len_s1b _) (pu_len_s1a _)))))))
theorem pu_len_own (L : List Int32) : (pu_own L).length ≤ L.length := by
  unfold pu_own
  split
  · rw [List.length_take]; omega
  · exact Nat.le_refl _
theorem pu_off_snoc (T : List (Nat × List Int32)) (q : Nat × List Int32) : pu_off (T ++ [q]) (T ++ [q]).length = pu_off T T.length + q.2.length := by
  rw [List.length_append, List.length_singleton]
  show pu_off (T ++ [q]) T.length + ((T ++ [q]).getD T.length (0, [])).2.length = _
  rw [pu_off_app T q T.length (Nat.le_refl _)]
  congr 2
  rw [List.getD_eq_getElem?_getD, List.getElem?_append_right (Nat.le_refl _), Nat.sub_self]
  rfl
/-- what one word adds -/
theorem pu_word_len (L : List Int32) (s : pu_St) : pu_off (pu_word L s).1 (pu_word L s).1.length ≤ pu_off s.1 s.1.length + L.length ∧ (pu_word L s).1.length ≤ s.1.length + 1 ∧ (pu_word L s).2 = s.2 + 1 := by
  unfold pu_word
  dsimp only
  split
  · exact ⟨Nat.le_add_right _ _, Nat.le_succ _, rfl⟩
  · refine ⟨?_, by rw [List.length_append]; exact Nat.le_refl _, rfl⟩
    rw [pu_off_snoc]
    dsimp only
    have h1 := pu_len_own L
    have h2 : ((pu_own L).map pu_low).length = (pu_own L).length := List.length_map _
    split
    · have := pu_len_stem ((pu_own L).map pu_low)
      omega
    · omega
end
