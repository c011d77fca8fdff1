section
/-! PURE, 1: sorts of characters, bytes, characters out of bytes -/
/-- what a character is, as the document numbers it -/
def pu_sort (c : Int) : Nat :=
  if (97 ≤ c ∧ c ≤ 122) ∨ (65 ≤ c ∧ c ≤ 90) ∨ (192 ≤ c ∧ c ≤ 591 ∧ c ≠ 215 ∧ c ≠ 247) ∨ (913 ≤ c ∧ c ≤ 1023) ∨ (1024 ≤ c ∧ c ≤ 1279) then 1
  else if 48 ≤ c ∧ c ≤ 57 then 2 else if 19968 ≤ c ∧ c ≤ 40959 then 7
  else if c = 95 then 3 else if c = 183 then 4 else if c = 44 ∨ c = 59 then 5 else if c = 39 ∨ c = 46 ∨ c = 8217 then 6 else 0
theorem pu_sort_lt (c : Int) : pu_sort c < 8 := by
  unfold pu_sort
  repeat' split
  all_goals omega
def pu_inner (s : Nat) : Prop := s = 1 ∨ s = 2 ∨ s = 3
abbrev pu_letterP (c : Int) : Prop := (97 ≤ c ∧ c ≤ 122) ∨ (65 ≤ c ∧ c ≤ 90) ∨ (192 ≤ c ∧ c ≤ 591 ∧ c ≠ 215 ∧ c ≠ 247) ∨ (913 ≤ c ∧ c ≤ 1023) ∨ (1024 ≤ c ∧ c ≤ 1279)
/-- a byte as a natural number -/
def pu_u (x : Int32) : Nat := x.toBitVec.toNat % 256
theorem pu_u_lt (x : Int32) : pu_u x < 256 := Nat.mod_lt _ (by decide)
theorem pu_self (x : Int32) : nI x.toBitVec.toNat = x := by
  apply Int32.toBitVec_inj.mp
  show BitVec.ofNat 32 x.toBitVec.toNat = x.toBitVec
  exact BitVec.ofNat_toNat _ _ |>.trans (by simp)
theorem pu_and255 (x : Int32) : x &&& 255 = nI (pu_u x) := pk_and x 8 rfl
theorem pu_and63 (x : Int32) : x &&& 63 = nI (pu_u x % 64) := by
  rw [pk_and x (m := 63) 6 rfl]
  unfold pu_u
  rw [Nat.mod_mod_of_dvd _ (by decide : (64 : Nat) ∣ 256)]
theorem pu_and31 (x : Int32) : x &&& 31 = nI (pu_u x % 32) := by
  rw [pk_and x (m := 31) 5 rfl]
  unfold pu_u
  rw [Nat.mod_mod_of_dvd _ (by decide : (32 : Nat) ∣ 256)]
theorem pu_and15 (x : Int32) : x &&& 15 = nI (pu_u x % 16) := by
  rw [pk_and x (m := 15) 4 rfl]
  unfold pu_u
  rw [Nat.mod_mod_of_dvd _ (by decide : (16 : Nat) ∣ 256)]
theorem pu_and7 (x : Int32) : x &&& 7 = nI (pu_u x % 8) := by
  rw [pk_and x (m := 7) 3 rfl]
  unfold pu_u
  rw [Nat.mod_mod_of_dvd _ (by decide : (8 : Nat) ∣ 256)]
theorem pu_nand (a b : Nat) : nI a &&& nI b = nI (a &&& b) := by
  apply Int32.toBitVec_inj.mp
  show BitVec.ofNat 32 a &&& BitVec.ofNat 32 b = BitVec.ofNat 32 (a &&& b)
  rw [BitVec.ofNat_and]
theorem pu_nor (a b : Nat) : nI a ||| nI b = nI (a ||| b) := by
  apply Int32.toBitVec_inj.mp
  show BitVec.ofNat 32 a ||| BitVec.ofNat 32 b = BitVec.ofNat 32 (a ||| b)
  rw [BitVec.ofNat_or]
theorem pu_m192 : ∀ u, u < 256 → u &&& 192 = u / 64 * 64 := by decide +kernel
theorem pu_and192 (x : Int32) : x &&& 192 = nI (pu_u x / 64 * 64) := by
  have h1 : x &&& 192 = nI (x.toBitVec.toNat &&& 192) := by
    rw [← pu_nand, pu_self]
    rfl
  rw [h1]
  congr 1
  rw [← pu_m192 (pu_u x) (pu_u_lt x)]
  unfold pu_u
  rw [show (256 : Nat) = 2 ^ 8 from rfl, ← Nat.and_two_pow_sub_one_eq_mod, Nat.and_assoc]
  rfl
/-- how many bytes the well-formed sequence has that begins there; 0: none does -/
def pu_size (u : Nat → Nat) (at_ end_ : Nat) : Nat :=
  if u at_ < 128 then 1
  else if 194 ≤ u at_ ∧ u at_ ≤ 223 then
    if at_ + 1 < end_ ∧ 128 ≤ u (at_ + 1) ∧ u (at_ + 1) < 192 then 2 else 0
  else if 224 ≤ u at_ ∧ u at_ ≤ 239 then
    if at_ + 2 < end_ ∧ (if u at_ = 224 then 160 else 128) ≤ u (at_ + 1) ∧ u (at_ + 1) < (if u at_ = 237 then 160 else 192) ∧ 128 ≤ u (at_ + 2) ∧ u (at_ + 2) < 192 then 3 else 0
  else if 240 ≤ u at_ ∧ u at_ ≤ 244 then
    if at_ + 3 < end_ ∧ (if u at_ = 240 then 144 else 128) ≤ u (at_ + 1) ∧ u (at_ + 1) < (if u at_ = 244 then 144 else 192) ∧ 128 ≤ u (at_ + 2) ∧ u (at_ + 2) < 192 ∧ 128 ≤ u (at_ + 3) ∧ u (at_ + 3) < 192 then 4 else 0
  else 0
theorem pu_size_le (u : Nat → Nat) (a e : Nat) : pu_size u a e ≤ 4 := by
  unfold pu_size
  repeat' split
  all_goals omega
theorem pu_size_in {u : Nat → Nat} {a e : Nat} (h : a < e) : a + pu_size u a e ≤ e := by
  unfold pu_size
  repeat' split
  all_goals omega
/-- the character there -/
def pu_char (u : Nat → Nat) (a e : Nat) : Nat :=
  if pu_size u a e = 0 then 65533
  else if pu_size u a e = 1 then u a
  else if pu_size u a e = 2 then u a % 32 * 64 + u (a + 1) % 64
  else if pu_size u a e = 3 then (u a % 16 * 64 + u (a + 1) % 64) * 64 + u (a + 2) % 64
  else ((u a % 8 * 64 + u (a + 1) % 64) * 64 + u (a + 2) % 64) * 64 + u (a + 3) % 64
def pu_step (u : Nat → Nat) (a e : Nat) : Nat := if pu_size u a e = 0 then 1 else pu_size u a e
theorem pu_step_pos (u : Nat → Nat) (a e : Nat) : 1 ≤ pu_step u a e := by
  unfold pu_step
  split <;> omega
/-- the characters from a on, behind k that are there -/
def pu_chars (u : Nat → Nat) (e : Nat) : Nat → Nat → List Nat
  | 0, _ => []
  | n + 1, a => if a < e then pu_char u a e :: pu_chars u e n (a + pu_step u a e) else []
theorem pu_chars_len (u : Nat → Nat) (e : Nat) : ∀ n a, (pu_chars u e n a).length ≤ n
  | 0, _ => Nat.zero_le _
  | n + 1, a => by
    unfold pu_chars
    split
    · have := pu_chars_len u e n (a + pu_step u a e)
      simp only [List.length_cons]
      omega
    · exact Nat.zero_le _
/-- or of what lies apart is a sum -/
theorem pu_or6 {a b : Nat} (hb : b < 64) : nI (a * 64) ||| nI b = nI (a * 64 + b) := by
  rw [pu_nor]
  congr 1
  rw [Nat.mul_comm a 64, show (64 : Nat) = 2 ^ 6 from rfl, Nat.two_pow_add_eq_or_of_lt hb]
theorem pu_shl6 {a : Nat} (h : a * 64 < 2 ^ 32) : nI a <<< ((6 : Int32) &&& 31) = nI (a * 64) := pk_shlN ((6 : Int32) &&& 31) 6 (by decide) h
theorem pu_neg {x : Int32} (hb : x.toInt8.toInt32 = x) (h : pu_u x < 128) : x = nI (pu_u x) := by
  have h1 := pu_and255 x
  rw [← h1]
  have h2 : ∀ y : BitVec 8, y.toNat < 128 → (Int8.ofBitVec y).toInt32 = (Int8.ofBitVec y).toInt32 &&& 255 := by decide +kernel
  have h3 := h2 x.toInt8.toBitVec (by
    have e1 : x.toInt8.toBitVec.toNat = pu_u x := by
      unfold pu_u
      show (x.toBitVec.signExtend 8).toNat = _
      rw [BitVec.signExtend_eq_setWidth_of_le _ (by decide), BitVec.toNat_setWidth]
    rw [e1]; exact h)
  rw [show Int8.ofBitVec x.toInt8.toBitVec = x.toInt8 from rfl, hb] at h3
  exact h3
end
section
/-! PURE, 2: spans, words, stems -/
abbrev pu_inn (s : Nat) : Prop := s = 1 ∨ s = 2 ∨ s = 3
abbrev pu_isW (s : Nat) : Prop := s = 1 ∨ s = 2 ∨ s = 7
def pu_st (f : Nat → Int32) (i : Nat) : Nat := pu_sort (f i).toInt
abbrev pu_ties (m o : Nat) : Prop := (o = 1 ∧ (m = 4 ∨ m = 6)) ∨ (o = 2 ∧ (m = 5 ∨ m = 6))
abbrev pu_tie (f : Nat → Int32) (n m : Nat) : Prop := 1 ≤ m ∧ m + 1 < n ∧ pu_st f (m + 1) = pu_st f (m - 1) ∧ pu_ties (pu_st f m) (pu_st f (m - 1))
/-- the end of what belongs together, behind e -/
def pu_span (f : Nat → Int32) (n : Nat) : Nat → Nat → Nat
  | 0, e => e
  | k + 1, e => if e < n then (if pu_inn (pu_st f e) then pu_span f n k (e + 1) else if pu_tie f n e then pu_span f n k (e + 2) else e) else e
def pu_spanEnd (f : Nat → Int32) (n a : Nat) : Nat := if pu_inn (pu_st f a) then pu_span f n n (a + 1) else a + 1
theorem pu_span_ge (f : Nat → Int32) (n : Nat) : ∀ k e, e ≤ pu_span f n k e
  | 0, e => Nat.le_refl e
  | k + 1, e => by
    have h1 := pu_span_ge f n k (e + 1)
    have h2 := pu_span_ge f n k (e + 2)
    unfold pu_span
    split
    · split
      · omega
      · split <;> omega
    · omega
theorem pu_span_le (f : Nat → Int32) (n : Nat) : ∀ k e, e ≤ n → pu_span f n k e ≤ n
  | 0, e, h => h
  | k + 1, e, h => by
    unfold pu_span
    split
    · split
      · exact pu_span_le f n k (e + 1) (by omega)
      · split
        · rename_i h2
          exact pu_span_le f n k (e + 2) (by have := h2.2.1; omega)
        · exact h
    · exact h
theorem pu_spanEnd_gt (f : Nat → Int32) (n a : Nat) : a + 1 ≤ pu_spanEnd f n a := by
  unfold pu_spanEnd
  split
  · exact pu_span_ge f n n (a + 1)
  · exact Nat.le_refl _
theorem pu_spanEnd_le (f : Nat → Int32) {n a : Nat} (h : a < n) : pu_spanEnd f n a ≤ n := by
  unfold pu_spanEnd
  split
  · exact pu_span_le f n n (a + 1) h
  · exact h
/-- whether a word's sort is among k places from a on -/
def pu_any (f : Nat → Int32) : Nat → Nat → Bool
  | 0, _ => false
  | k + 1, a => if pu_isW (pu_st f a) then true else pu_any f k (a + 1)
def pu_slice (f : Nat → Int32) (a len : Nat) : List Int32 := (List.range len).map (fun i => f (a + i))
theorem pu_slice_len (f : Nat → Int32) (a len : Nat) : (pu_slice f a len).length = len := by simp [pu_slice]
theorem pu_slice_get (f : Nat → Int32) {a len i : Nat} (h : i < len) : (pu_slice f a len).getD i 0 = f (a + i) := by
  simp [pu_slice, List.getD_eq_getElem?_getD, h]
/-- an owner's ending off -/
def pu_own (L : List Int32) : List Int32 := if 2 < L.length ∧ (L.getD (L.length - 2) 0 = 39 ∨ L.getD (L.length - 2) 0 = 8217) ∧ (L.getD (L.length - 1) 0 = 115 ∨ L.getD (L.length - 1) 0 = 83) then L.take (L.length - 2) else L
def pu_low (c : Int32) : Int32 := if (65 ≤ c.toInt ∧ c.toInt ≤ 90) ∨ (192 ≤ c.toInt ∧ c.toInt ≤ 222 ∧ c.toInt ≠ 215) ∨ (913 ≤ c.toInt ∧ c.toInt ≤ 939 ∧ c.toInt ≠ 930) ∨ (1040 ≤ c.toInt ∧ c.toInt ≤ 1071) then c + 32 else if 1024 ≤ c.toInt ∧ c.toInt ≤ 1039 then c + 80 else c
abbrev pu_small (L : List Int32) : Prop := ∀ c ∈ L, 97 ≤ c.toInt ∧ c.toInt ≤ 122
abbrev pu_isV (c : Int32) : Prop := c = 97 ∨ c = 101 ∨ c = 105 ∨ c = 111 ∨ c = 117
def pu_vow (L : List Int32) : Nat → Bool
  | 0 => decide (pu_isV (L.getD 0 0))
  | k + 1 => decide (pu_isV (L.getD (k + 1) 0)) || (decide (L.getD (k + 1) 0 = 121) && !pu_vow L k)
def pu_meas (L : List Int32) : Nat → Nat
  | 0 => 0
  | k + 1 => pu_meas L k + (if 1 ≤ k ∧ pu_vow L (k - 1) = true ∧ pu_vow L k = false then 1 else 0)
def pu_anyV (L : List Int32) : Nat → Bool
  | 0 => false
  | k + 1 => pu_anyV L k || pu_vow L k
abbrev pu_dbl (L : List Int32) : Prop := 1 < L.length ∧ L.getD (L.length - 1) 0 = L.getD (L.length - 2) 0 ∧ pu_vow L (L.length - 1) = false
abbrev pu_cvc (L : List Int32) (k : Nat) : Prop := 3 ≤ k ∧ pu_vow L (k - 3) = false ∧ pu_vow L (k - 2) = true ∧ pu_vow L (k - 1) = false ∧ L.getD (k - 1) 0 ≠ 119 ∧ L.getD (k - 1) 0 ≠ 120 ∧ L.getD (k - 1) 0 ≠ 121
abbrev pu_ends (L s : List Int32) : Prop := s.length ≤ L.length ∧ L.drop (L.length - s.length) = s
/-- the longest of the endings that is there: its place and itself -/
def pu_lng (L : List Int32) : List (List Int32) → Nat → Option (Nat × List Int32) → Option (Nat × List Int32)
  | [], _, b => b
  | t :: ts, i, b => pu_lng L ts (i + 1) (if pu_ends L t ∧ (∀ q, b = some q → q.2.length < t.length) then some (i, t) else b)
def pu_stops : List (List Int32) := [[97], [97, 110], [97, 110, 100], [97, 114, 101], [97, 115], [97, 116], [98, 101], [98, 117, 116], [98, 121], [102, 111, 114], [105, 102], [105, 110], [105, 110, 116, 111], [105, 115], [105, 116], [110, 111], [110, 111, 116], [111, 102], [111, 110], [111, 114], [115, 117, 99, 104], [116, 104, 97, 116], [116, 104, 101], [116, 104, 101, 105, 114], [116, 104, 101, 110], [116, 104, 101, 114, 101], [116, 104, 101, 115, 101], [116, 104, 101, 121], [116, 104, 105, 115], [116, 111], [119, 97, 115], [119, 105, 108, 108], [119, 105, 116, 104]]
def pu_E2 : List (List Int32) := [[97, 116, 105, 111, 110, 97, 108], [116, 105, 111, 110, 97, 108], [101, 110, 99, 105], [97, 110, 99, 105], [105, 122, 101, 114], [97, 98, 108, 105], [97, 108, 108, 105], [101, 110, 116, 108, 105], [101, 108, 105], [111, 117, 115, 108, 105], [105, 122, 97, 116, 105, 111, 110], [97, 116, 105, 111, 110], [97, 116, 111, 114], [97, 108, 105, 115, 109], [105, 118, 101, 110, 101, 115, 115], [102, 117, 108, 110, 101, 115, 115], [111, 117, 115, 110, 101, 115, 115], [97, 108, 105, 116, 105], [105, 118, 105, 116, 105], [98, 105, 108, 105, 116, 105]]
def pu_S2 : List (List Int32) := [[97, 116, 101], [116, 105, 111, 110], [101, 110, 99, 101], [97, 110, 99, 101], [105, 122, 101], [97, 98, 108, 101], [97, 108], [101, 110, 116], [101], [111, 117, 115], [105, 122, 101], [97, 116, 101], [97, 116, 101], [97, 108], [105, 118, 101], [102, 117, 108], [111, 117, 115], [97, 108], [105, 118, 101], [98, 108, 101]]
def pu_E3 : List (List Int32) := [[105, 99, 97, 116, 101], [97, 116, 105, 118, 101], [97, 108, 105, 122, 101], [105, 99, 105, 116, 105], [105, 99, 97, 108], [102, 117, 108], [110, 101, 115, 115]]
def pu_S3 : List (List Int32) := [[105, 99], [], [97, 108], [105, 99], [105, 99], [], []]
def pu_E4 : List (List Int32) := [[97, 108], [97, 110, 99, 101], [101, 110, 99, 101], [101, 114], [105, 99], [97, 98, 108, 101], [105, 98, 108, 101], [97, 110, 116], [101, 109, 101, 110, 116], [109, 101, 110, 116], [101, 110, 116], [111, 117], [105, 115, 109], [97, 116, 101], [105, 116, 105], [111, 117, 115], [105, 118, 101], [105, 122, 101], [105, 111, 110]]
def pu_E4c : List (List Int32) := [[97, 108], [97, 110, 99, 101], [101, 110, 99, 101], [101, 114], [105, 99], [97, 98, 108, 101], [105, 98, 108, 101], [97, 110, 116], [101, 109, 101, 110, 116], [109, 101, 110, 116], [101, 110, 116], [105, 111, 110], [111, 117], [105, 115, 109], [97, 116, 101], [105, 116, 105], [111, 117, 115], [105, 118, 101], [105, 122, 101]]
/-- the steps, as the reference takes them -/
def pu_s1a (L : List Int32) : List Int32 := if pu_ends L [115, 115, 101, 115] ∨ pu_ends L [105, 101, 115] then L.take (L.length - 2) else if pu_ends L [115] ∧ ¬ pu_ends L [115, 115] then L.take (L.length - 1) else L
def pu_s1bm (L : List Int32) : List Int32 := if pu_ends L [97, 116] ∨ pu_ends L [98, 108] ∨ pu_ends L [105, 122] then L ++ [101] else if pu_dbl L ∧ L.getD (L.length - 1) 0 ≠ 108 ∧ L.getD (L.length - 1) 0 ≠ 115 ∧ L.getD (L.length - 1) 0 ≠ 122 then L.take (L.length - 1) else if pu_meas L L.length = 1 ∧ pu_cvc L L.length then L ++ [101] else L
def pu_s1b (L : List Int32) : List Int32 := if pu_ends L [101, 101, 100] then (if 0 < pu_meas L (L.length - 3) then L.take (L.length - 1) else L) else if pu_ends L [101, 100] then (if pu_anyV L (L.length - 2) = true then pu_s1bm (L.take (L.length - 2)) else L) else if pu_ends L [105, 110, 103] then (if pu_anyV L (L.length - 3) = true then pu_s1bm (L.take (L.length - 3)) else L) else L
def pu_s1c (L : List Int32) : List Int32 := if pu_ends L [121] ∧ pu_anyV L (L.length - 1) = true then L.take (L.length - 1) ++ [105] else L
def pu_rep (E S : List (List Int32)) (L : List Int32) : List Int32 := match pu_lng L E 0 none with
  | some q => if 0 < pu_meas L (L.length - q.2.length) then L.take (L.length - q.2.length) ++ S.getD q.1 [] else L
  | none => L
def pu_s4 (L : List Int32) : List Int32 := match pu_lng L pu_E4 0 none with
  | some q => if (q.2 = [105, 111, 110] → 0 < L.length - q.2.length ∧ (L.getD (L.length - q.2.length - 1) 0 = 115 ∨ L.getD (L.length - q.2.length - 1) 0 = 116)) ∧ 1 < pu_meas L (L.length - q.2.length) then L.take (L.length - q.2.length) else L
  | none => L
def pu_s5a (L : List Int32) : List Int32 := if pu_ends L [101] ∧ (1 < pu_meas L (L.length - 1) ∨ (pu_meas L (L.length - 1) = 1 ∧ ¬ pu_cvc L (L.length - 1))) then L.take (L.length - 1) else L
def pu_s5b (L : List Int32) : List Int32 := if pu_ends L [108, 108] ∧ 1 < pu_meas L L.length then L.take (L.length - 1) else L
def pu_stem (L : List Int32) : List Int32 := pu_s5b (pu_s5a (pu_s4 (pu_rep pu_E3 pu_S3 (pu_rep pu_E2 pu_S2 (pu_s1c (pu_s1b (pu_s1a L)))))))
abbrev pu_St : Type := List (Nat × List Int32) × Nat
/-- one word more: a token, or none -/
def pu_word (L : List Int32) (s : pu_St) : pu_St :=
  let M := (pu_own L).map pu_low
  if M ∈ pu_stops then (s.1, s.2 + 1) else (s.1 ++ [(s.2, if pu_small M ∧ 2 < M.length then pu_stem M else M)], s.2 + 1)
/-- the words of a span, 255 characters each at most -/
def pu_take (f : Nat → Int32) (e : Nat) : Nat → Nat → pu_St → pu_St
  | 0, _, s => s
  | k + 1, a, s => if a < e then pu_take f e k (a + 255) (pu_word (pu_slice f a (if e - a < 255 then e - a else 255)) s) else s
def pu_cut (f : Nat → Int32) (n : Nat) : Nat → Nat → pu_St → pu_St
  | 0, _, s => s
  | k + 1, a, s => if a < n then pu_cut f n k (pu_spanEnd f n a) (if pu_any f (pu_spanEnd f n a - a) a = true then pu_take f (pu_spanEnd f n a) (pu_spanEnd f n a) a s else s) else s
end
section
/-! PURE, 3: the steps as the class takes them are the steps as the reference takes them -/
theorem pu_ends_split {L t : List Int32} (h : pu_ends L t) : L = L.take (L.length - t.length) ++ t := by
  have h1 := List.take_append_drop (L.length - t.length) L
  rw [h.2] at h1
  exact h1.symm
theorem pu_ends_app (P t : List Int32) : pu_ends (P ++ t) t := by
  refine ⟨by simp, ?_⟩
  rw [List.length_append, Nat.add_sub_cancel]
  exact List.drop_left
theorem pu_ends_tail {P q t : List Int32} (hl : t.length ≤ q.length) : pu_ends (P ++ q) t ↔ q.drop (q.length - t.length) = t := by
  unfold pu_ends
  rw [List.length_append]
  have h1 : P.length + q.length - t.length = P.length + (q.length - t.length) := by omega
  have h2 : (P ++ q).drop (P.length + (q.length - t.length)) = q.drop (q.length - t.length) := by
    rw [List.drop_append, List.drop_eq_nil_of_le (by omega), List.nil_append, Nat.add_sub_cancel_left]
  rw [h1, h2]
  constructor
  · intro h; exact h.2
  · intro h; exact ⟨by omega, h⟩
theorem pu_ends_len {L s t : List Int32} (hs : pu_ends L s) (ht : pu_ends L t) (h : s.length = t.length) : s = t := by
  rw [← hs.2, ← ht.2, h]
theorem pu_lng_no {L t : List Int32} {ts : List (List Int32)} {i : Nat} {b : Option (Nat × List Int32)} (h : ¬ pu_ends L t) : pu_lng L (t :: ts) i b = pu_lng L ts (i + 1) b := by
  rw [pu_lng, if_neg (fun z => h z.1)]
theorem pu_lng_yes {L t : List Int32} {ts : List (List Int32)} {i : Nat} (h : pu_ends L t) : pu_lng L (t :: ts) i none = pu_lng L ts (i + 1) (some (i, t)) := by
  rw [pu_lng, if_pos ⟨h, fun q hq => by cases hq⟩]
theorem pu_lng_short {L t : List Int32} {ts : List (List Int32)} {i : Nat} {q : Nat × List Int32} (h : t.length ≤ q.2.length) : pu_lng L (t :: ts) i (some q) = pu_lng L ts (i + 1) (some q) := by
  rw [pu_lng, if_neg (fun z => by have := z.2 q rfl; omega)]
/-- what a search for the longest finds -/
theorem pu_lng_spec (L : List Int32) : ∀ (E : List (List Int32)) (i : Nat) (b : Option (Nat × List Int32)), (∀ q, b = some q → pu_ends L q.2) →
    (∀ q, pu_lng L E i b = some q → pu_ends L q.2 ∧ (q.2 ∈ E ∨ b = some q) ∧ (∀ t ∈ E, pu_ends L t → t.length ≤ q.2.length) ∧ (∀ r, b = some r → r.2.length ≤ q.2.length)) ∧
    (pu_lng L E i b = none → b = none ∧ ∀ t ∈ E, ¬ pu_ends L t)
  | [], i, b, hb => by
    refine ⟨fun q hq => ⟨hb q hq, Or.inr hq, fun t ht => absurd ht List.not_mem_nil, fun r hr => ?_⟩, fun h => ⟨h, fun t ht => absurd ht List.not_mem_nil⟩⟩
    have h1 : b = some q := hq
    rw [h1] at hr
    cases hr
    exact Nat.le_refl _
  | t :: E, i, b, hb => by
    unfold pu_lng
    by_cases hc : pu_ends L t ∧ (∀ q, b = some q → q.2.length < t.length)
    · rw [if_pos hc]
      have ih := pu_lng_spec L E (i + 1) (some (i, t)) (fun q hq => by cases hq; exact hc.1)
      refine ⟨fun q hq => ?_, fun h => ?_⟩
      · obtain ⟨h1, h2, h3, h4⟩ := ih.1 q hq
        have h5 := h4 (i, t) rfl
        refine ⟨h1, Or.inl ?_, fun u hu hE => ?_, fun r hr => ?_⟩
        · rcases h2 with h2 | h2
          · exact List.mem_cons_of_mem _ h2
          · cases h2; exact List.mem_cons_self
        · rcases List.mem_cons.mp hu with rfl | hu
          · exact h5
          · exact h3 u hu hE
        · have := hc.2 r hr
          simp only at h5
          omega
      · exact absurd (ih.2 h).1 (by simp)
    · rw [if_neg hc]
      have ih := pu_lng_spec L E (i + 1) b hb
      refine ⟨fun q hq => ?_, fun h => ?_⟩
      · obtain ⟨h1, h2, h3, h4⟩ := ih.1 q hq
        refine ⟨h1, ?_, fun u hu hE => ?_, h4⟩
        · rcases h2 with h2 | h2
          · exact Or.inl (List.mem_cons_of_mem _ h2)
          · exact Or.inr h2
        · rcases List.mem_cons.mp hu with rfl | hu
          · have h6 : ¬ ∀ q, b = some q → q.2.length < u.length := fun z => hc ⟨hE, z⟩
            cases hb2 : b with
            | none => exact absurd (fun q hq => by rw [hb2] at hq; cases hq) h6
            | some r =>
              have h7 := h4 r hb2
              rcases Nat.lt_or_ge r.2.length u.length with h8 | h8
              · exact absurd (fun q hq => by rw [hb2] at hq; cases hq; exact h8) h6
              · omega
          · exact h3 u hu hE
      · obtain ⟨h1, h2⟩ := ih.2 h
        refine ⟨h1, fun u hu hE => ?_⟩
        rcases List.mem_cons.mp hu with rfl | hu
        · exact hc ⟨hE, fun q hq => by rw [h1] at hq; cases hq⟩
        · exact h2 u hu hE
/-- two lists of the same endings find the same -/
theorem pu_lng_same (L : List Int32) {E F : List (List Int32)} (h : ∀ t, t ∈ E ↔ t ∈ F) : (pu_lng L E 0 none).map Prod.snd = (pu_lng L F 0 none).map Prod.snd := by
  have e1 := pu_lng_spec L E 0 none (fun q hq => by cases hq)
  have e2 := pu_lng_spec L F 0 none (fun q hq => by cases hq)
  cases hE : pu_lng L E 0 none with
  | none =>
    have h1 := (e1.2 hE).2
    cases hF : pu_lng L F 0 none with
    | none => rfl
    | some q =>
      obtain ⟨a1, a2, -, -⟩ := e2.1 q hF
      rcases a2 with a2 | a2
      · exact absurd a1 (h1 _ ((h _).mpr a2))
      · cases a2
  | some q =>
    obtain ⟨a1, a2, a3, -⟩ := e1.1 q hE
    have a2 : q.2 ∈ E := by
      rcases a2 with a2 | a2
      · exact a2
      · cases a2
    cases hF : pu_lng L F 0 none with
    | none => exact absurd a1 ((e2.2 hF).2 _ ((h _).mp a2))
    | some r =>
      obtain ⟨b1, b2, b3, -⟩ := e2.1 r hF
      have b2 : r.2 ∈ F := by
        rcases b2 with b2 | b2
        · exact b2
        · cases b2
      have c1 := a3 r.2 ((h _).mpr b2) b1
      have c2 := b3 q.2 ((h _).mp a2) a1
      show some q.2 = some r.2
      rw [pu_ends_len a1 b1 (by omega)]
def pc_E1a : List (List Int32) := [[115, 115, 101, 115], [105, 101, 115], [115, 115], [115]]
def pc_S1a : List (List Int32) := [[115, 115], [105], [115, 115], []]
def pc_E1b : List (List Int32) := [[101, 101, 100], [101, 100], [105, 110, 103]]
def pc_S1b : List (List Int32) := [[101, 101], [], []]
/-- a step of the class that takes the longest ending off, puts another in its place -/
def pc_s1a (L : List Int32) : List Int32 := match pu_lng L pc_E1a 0 none with
  | some q => L.take (L.length - q.2.length) ++ pc_S1a.getD q.1 []
  | none => L
def pc_mend (L : List Int32) : List Int32 := if pu_ends L [97, 116] ∨ pu_ends L [98, 108] ∨ pu_ends L [105, 122] then L ++ [101] else if pu_dbl L ∧ ¬ pu_ends L [108] ∧ ¬ pu_ends L [115] ∧ ¬ pu_ends L [122] then L.take (L.length - 1) else if pu_meas L L.length = 1 ∧ pu_cvc L L.length then L ++ [101] else L
def pc_s1b (L : List Int32) : List Int32 := match pu_lng L pc_E1b 0 none with
  | some q => if q.2 = [101, 101, 100] then (if 0 < pu_meas L (L.length - q.2.length) then L.take (L.length - q.2.length) ++ pc_S1b.getD q.1 [] else L) else if pu_anyV L (L.length - q.2.length) = true then pc_mend (L.take (L.length - q.2.length) ++ pc_S1b.getD q.1 []) else L
  | none => L
def pc_s4 (L : List Int32) : List Int32 := if pu_ends L [105, 111, 110] ∧ ¬ pu_ends L [115, 105, 111, 110] ∧ ¬ pu_ends L [116, 105, 111, 110] then L else match pu_lng L pu_E4c 0 none with
  | some q => if 1 < pu_meas L (L.length - q.2.length) then L.take (L.length - q.2.length) else L
  | none => L
theorem pu_ends_cat {P q t : List Int32} (hl : t.length ≤ q.length) (h : q.drop (q.length - t.length) = t) : pu_ends (P ++ q) t := (pu_ends_tail hl).mpr h
theorem pu_ends_ncat {P q t : List Int32} (hl : t.length ≤ q.length) (h : ¬ q.drop (q.length - t.length) = t) : ¬ pu_ends (P ++ q) t := fun z => h ((pu_ends_tail hl).mp z)
theorem pu_take_cat {P q : List Int32} {n : Nat} (h : n ≤ q.length) : (P ++ q).take ((P ++ q).length - n) = P ++ q.take (q.length - n) := by
  rw [List.length_append, List.take_append, List.take_of_length_le (by omega)]
  congr 2
  omega
theorem pc_s1a_eq (L : List Int32) : pc_s1a L = pu_s1a L := by
  by_cases h1 : pu_ends L [115, 115, 101, 115]
  · have e := pu_ends_split h1
    generalize L.take (L.length - 4) = P at e
    subst e
    unfold pc_s1a pu_s1a
    rw [if_pos (Or.inl h1)]
    have g : pu_lng (P ++ [115, 115, 101, 115]) pc_E1a 0 none = some (0, [115, 115, 101, 115]) := by
      unfold pc_E1a
      rw [pu_lng_yes h1, pu_lng_short (by decide), pu_lng_short (by decide), pu_lng_short (by decide)]
      rfl
    rw [g]
    show (P ++ _).take ((P ++ _).length - 4) ++ _ = (P ++ _).take ((P ++ _).length - 2)
    rw [pu_take_cat (by decide), pu_take_cat (by decide), List.append_assoc]
    rfl
  · by_cases h2 : pu_ends L [105, 101, 115]
    · have e := pu_ends_split h2
      generalize L.take (L.length - 3) = P at e
      subst e
      unfold pc_s1a pu_s1a
      rw [if_pos (Or.inr h2)]
      have g : pu_lng (P ++ [105, 101, 115]) pc_E1a 0 none = some (1, [105, 101, 115]) := by
        unfold pc_E1a
        rw [pu_lng_no h1, pu_lng_yes h2, pu_lng_short (by decide), pu_lng_short (by decide)]
        rfl
      rw [g]
      show (P ++ _).take ((P ++ _).length - 3) ++ _ = (P ++ _).take ((P ++ _).length - 2)
      rw [pu_take_cat (by decide), pu_take_cat (by decide), List.append_assoc]
      rfl
    · by_cases h3 : pu_ends L [115, 115]
      · have e := pu_ends_split h3
        generalize L.take (L.length - 2) = P at e
        subst e
        unfold pc_s1a pu_s1a
        rw [if_neg (fun z => z.elim h1 h2), if_neg (fun z => z.2 h3)]
        have g : pu_lng (P ++ [115, 115]) pc_E1a 0 none = some (2, [115, 115]) := by
          unfold pc_E1a
          rw [pu_lng_no h1, pu_lng_no h2, pu_lng_yes h3, pu_lng_short (by decide)]
          rfl
        rw [g]
        show (P ++ _).take ((P ++ _).length - 2) ++ _ = _
        rw [pu_take_cat (by decide), List.append_assoc]
        rfl
      · by_cases h4 : pu_ends L [115]
        · unfold pc_s1a pu_s1a
          rw [if_neg (fun z => z.elim h1 h2), if_pos ⟨h4, h3⟩]
          have g : pu_lng L pc_E1a 0 none = some (3, [115]) := by
            unfold pc_E1a
            rw [pu_lng_no h1, pu_lng_no h2, pu_lng_no h3, pu_lng_yes h4]
            rfl
          rw [g]
          exact List.append_nil _
        · unfold pc_s1a pu_s1a
          rw [if_neg (fun z => z.elim h1 h2), if_neg (fun z => h4 z.1)]
          have g : pu_lng L pc_E1a 0 none = none := by
            unfold pc_E1a
            rw [pu_lng_no h1, pu_lng_no h2, pu_lng_no h3, pu_lng_no h4]
            rfl
          rw [g]
theorem pu_ends1 (L : List Int32) (c : Int32) : pu_ends L [c] ↔ 0 < L.length ∧ L.getD (L.length - 1) 0 = c := by
  constructor
  · intro h
    have e := pu_ends_split h
    generalize L.take (L.length - [c].length) = P at e
    subst e
    simp
  · rintro ⟨h1, h2⟩
    refine ⟨h1, ?_⟩
    rw [List.drop_eq_getElem_cons (by simp; omega)]
    rw [List.getD_eq_getElem?_getD, List.getElem?_eq_getElem (by omega)] at h2
    simp only [Option.getD_some] at h2
    simp only [List.length_cons, List.length_nil]
    rw [h2, List.drop_eq_nil_of_le (by omega)]
theorem pc_mend_eq (L : List Int32) : pc_mend L = pu_s1bm L := by
  unfold pc_mend pu_s1bm
  by_cases h1 : pu_ends L [97, 116] ∨ pu_ends L [98, 108] ∨ pu_ends L [105, 122]
  · rw [if_pos h1, if_pos h1]
  · rw [if_neg h1, if_neg h1]
    have e : (pu_dbl L ∧ ¬ pu_ends L [108] ∧ ¬ pu_ends L [115] ∧ ¬ pu_ends L [122]) ↔ (pu_dbl L ∧ L.getD (L.length - 1) 0 ≠ 108 ∧ L.getD (L.length - 1) 0 ≠ 115 ∧ L.getD (L.length - 1) 0 ≠ 122) := by
      refine and_congr_right fun hd => ?_
      have h0 : 0 < L.length := by have := hd.1; omega
      rw [pu_ends1, pu_ends1, pu_ends1]
      simp only [h0, true_and]
    by_cases h2 : pu_dbl L ∧ ¬ pu_ends L [108] ∧ ¬ pu_ends L [115] ∧ ¬ pu_ends L [122]
    · rw [if_pos h2, if_pos (e.mp h2)]
    · rw [if_neg h2, if_neg (fun z => h2 (e.mpr z))]
theorem pc_s1b_eq (L : List Int32) : pc_s1b L = pu_s1b L := by
  by_cases h1 : pu_ends L [101, 101, 100]
  · have e := pu_ends_split h1
    have g : pu_lng L pc_E1b 0 none = some (0, [101, 101, 100]) := by
      unfold pc_E1b
      rw [pu_lng_yes h1, pu_lng_short (by decide), pu_lng_short (by decide)]
      rfl
    unfold pc_s1b pu_s1b
    rw [g, if_pos h1]
    show (if _ then (if 0 < pu_meas L (L.length - 3) then L.take (L.length - 3) ++ [101, 101] else L) else _) = _
    rw [if_pos rfl]
    have e2 : L.take (L.length - 3) ++ [101, 101] = L.take (L.length - 1) := by
      generalize hP : L.take (L.length - [(101 : Int32), 101, 100].length) = P at e
      subst e
      rw [pu_take_cat (by decide)]
      rfl
    rw [e2]
  · by_cases h2 : pu_ends L [101, 100]
    · have n3 : ¬ pu_ends L [105, 110, 103] := by
        have e := pu_ends_split h2
        intro z
        have e2 := pu_ends_split z
        have a1 := (pu_ends1 L 100).mp (by rw [e]; exact pu_ends_cat (by decide) rfl)
        have a2 := (pu_ends1 L 103).mp (by rw [e2]; exact pu_ends_cat (by decide) rfl)
        exact absurd (a1.2.symm.trans a2.2) (by decide)
      have g : pu_lng L pc_E1b 0 none = some (1, [101, 100]) := by
        unfold pc_E1b
        rw [pu_lng_no h1, pu_lng_yes h2, pu_lng_no n3]
        rfl
      unfold pc_s1b pu_s1b
      rw [g, if_neg h1, if_pos h2]
      show (if _ then _ else if pu_anyV L (L.length - 2) = true then pc_mend (L.take (L.length - 2) ++ []) else L) = _
      rw [if_neg (by decide), List.append_nil, pc_mend_eq]
    · by_cases h3 : pu_ends L [105, 110, 103]
      · have g : pu_lng L pc_E1b 0 none = some (2, [105, 110, 103]) := by
          unfold pc_E1b
          rw [pu_lng_no h1, pu_lng_no h2, pu_lng_yes h3]
          rfl
        unfold pc_s1b pu_s1b
        rw [g, if_neg h1, if_neg h2, if_pos h3]
        show (if _ then _ else if pu_anyV L (L.length - 3) = true then pc_mend (L.take (L.length - 3) ++ []) else L) = _
        rw [if_neg (by decide), List.append_nil, pc_mend_eq]
      · have g : pu_lng L pc_E1b 0 none = none := by
          unfold pc_E1b
          rw [pu_lng_no h1, pu_lng_no h2, pu_lng_no h3]
          rfl
        unfold pc_s1b pu_s1b
        rw [g, if_neg h1, if_neg h2, if_neg h3]
theorem pu_E4_same : ∀ t, t ∈ pu_E4c ↔ t ∈ pu_E4 := by
  have a1 : ∀ t ∈ pu_E4c, t ∈ pu_E4 := by decide +kernel
  have a2 : ∀ t ∈ pu_E4, t ∈ pu_E4c := by decide +kernel
  exact fun t => ⟨a1 t, a2 t⟩
theorem pu_E4_ion : ∀ t ∈ pu_E4, 3 ≤ t.length → t.drop (t.length - 3) = [105, 111, 110] → t = [105, 111, 110] := by decide +kernel
theorem pc_s4_eq (L : List Int32) : pc_s4 L = pu_s4 L := by
  have hs := pu_lng_same L pu_E4_same
  have sp := pu_lng_spec L pu_E4 0 none (fun q hq => by cases hq)
  unfold pc_s4 pu_s4
  cases hE : pu_lng L pu_E4 0 none with
  | none =>
    rw [hE] at hs
    have hC : pu_lng L pu_E4c 0 none = none := by
      cases hC : pu_lng L pu_E4c 0 none with
      | none => rfl
      | some q => rw [hC] at hs; cases hs
    rw [hC]
    simp only [ite_self]
  | some q =>
    rw [hE] at hs
    obtain ⟨a1, a2, a3, -⟩ := sp.1 q hE
    have a2 : q.2 ∈ pu_E4 := by
      rcases a2 with a2 | a2
      · exact a2
      · cases a2
    obtain ⟨r, hC, hr⟩ : ∃ r, pu_lng L pu_E4c 0 none = some r ∧ r.2 = q.2 := by
      cases hC : pu_lng L pu_E4c 0 none with
      | none => rw [hC] at hs; cases hs
      | some r => rw [hC] at hs; exact ⟨r, rfl, Option.some.inj hs⟩
    rw [hC]
    show (if _ then L else if 1 < pu_meas L (L.length - r.2.length) then L.take (L.length - r.2.length) else L) = (if _ then _ else L)
    rw [hr]
    by_cases hi : pu_ends L [105, 111, 110]
    · -- then it is the longest
      have hq : q.2 = [105, 111, 110] := by
        have h3 := a3 [105, 111, 110] (by decide +kernel) hi
        refine pu_E4_ion q.2 a2 h3 ?_
        have b1 := pu_ends_split a1
        rw [b1] at hi
        exact (pu_ends_tail h3).mp hi
      have hlen : 3 ≤ L.length := hi.1
      have key : (pu_ends L [115, 105, 111, 110] ∨ pu_ends L [116, 105, 111, 110]) ↔ (0 < L.length - 3 ∧ (L.getD (L.length - 3 - 1) 0 = 115 ∨ L.getD (L.length - 3 - 1) 0 = 116)) := by
        have b1 := pu_ends_split hi
        generalize hP : L.take (L.length - [(105 : Int32), 111, 110].length) = P at b1
        subst b1
        have l1 : (P ++ [(105 : Int32), 111, 110]).length - 3 = P.length := by simp
        rw [l1]
        have one : ∀ c : Int32, pu_ends (P ++ [(105 : Int32), 111, 110]) (c :: [105, 111, 110]) ↔ (0 < P.length ∧ P.getD (P.length - 1) 0 = c) := by
          intro c
          rw [← pu_ends1]
          constructor
          · intro z
            have b2 := pu_ends_split z
            have b3 : P ++ [(105 : Int32), 111, 110] = (List.take ((P ++ [(105 : Int32), 111, 110]).length - (c :: [(105 : Int32), 111, 110]).length) (P ++ [(105 : Int32), 111, 110]) ++ [c]) ++ [(105 : Int32), 111, 110] := by
              rw [List.append_assoc]
              exact b2
            have b4 := List.append_cancel_right b3
            rw [b4]
            exact pu_ends_app _ _
          · intro z
            have b2 := pu_ends_split z
            generalize List.take (P.length - [c].length) P = P2 at b2
            rw [b2, List.append_assoc]
            exact pu_ends_app _ _
        have gd : ∀ h : 0 < P.length, (P ++ [(105 : Int32), 111, 110]).getD (P.length - 1) 0 = P.getD (P.length - 1) 0 := by
          intro h
          rw [List.getD_eq_getElem?_getD, List.getD_eq_getElem?_getD, List.getElem?_append_left (by omega)]
        rw [one 115, one 116]
        constructor
        · rintro (⟨z1, z2⟩ | ⟨z1, z2⟩)
          · exact ⟨z1, Or.inl (by rw [gd z1]; exact z2)⟩
          · exact ⟨z1, Or.inr (by rw [gd z1]; exact z2)⟩
        · rintro ⟨z1, z2⟩
          rw [gd z1] at z2
          exact z2.imp (fun z => ⟨z1, z⟩) (fun z => ⟨z1, z⟩)
      rw [hq]
      show (if _ then L else if 1 < pu_meas L (L.length - 3) then L.take (L.length - 3) else L) = (if (_ → 0 < L.length - 3 ∧ (L.getD (L.length - 3 - 1) 0 = 115 ∨ L.getD (L.length - 3 - 1) 0 = 116)) ∧ 1 < pu_meas L (L.length - 3) then L.take (L.length - 3) else L)
      by_cases hk : pu_ends L [115, 105, 111, 110] ∨ pu_ends L [116, 105, 111, 110]
      · rw [if_neg (fun z => hk.elim z.2.1 z.2.2)]
        by_cases hm : 1 < pu_meas L (L.length - 3)
        · rw [if_pos hm, if_pos ⟨fun _ => key.mp hk, hm⟩]
        · rw [if_neg hm, if_neg (fun z => hm z.2)]
      · rw [if_pos ⟨hi, fun z => hk (Or.inl z), fun z => hk (Or.inr z)⟩, if_neg (fun z => hk (key.mpr (z.1 rfl)))]
    · rw [if_neg (fun z => hi z.1)]
      have hq : ¬ q.2 = [105, 111, 110] := fun z => hi (z ▸ a1)
      by_cases hm : 1 < pu_meas L (L.length - q.2.length)
      · rw [if_pos hm, if_pos ⟨fun z => absurd z hq, hm⟩]
      · rw [if_neg hm, if_neg (fun z => hm z.2)]
end
section
/-! PURE, 4: the words that say nothing as numbers; tokens one behind the other -/
def pu_dig (c : Int32) : Nat := (c.toInt - 96).toNat
/-- the number of a word, its last letter first -/
def pu_kr : List Int32 → Nat
  | [] => 0
  | c :: l => pu_kr l * 32 + pu_dig c
def pu_key (L : List Int32) : Nat := pu_kr L.reverse
theorem pu_dig_in {c : Int32} (h : 97 ≤ c.toInt ∧ c.toInt ≤ 122) : 1 ≤ pu_dig c ∧ pu_dig c ≤ 26 ∧ (pu_dig c : Int) = c.toInt - 96 := by
  unfold pu_dig
  omega
theorem pu_kr_inj : ∀ (L M : List Int32), pu_small L → pu_small M → pu_kr L = pu_kr M → L = M
  | [], [], _, _, _ => rfl
  | [], c :: M, _, hM, h => by
    have := pu_dig_in (hM c List.mem_cons_self)
    simp only [pu_kr] at h
    omega
  | c :: L, [], hL, _, h => by
    have := pu_dig_in (hL c List.mem_cons_self)
    simp only [pu_kr] at h
    omega
  | c :: L, d :: M, hL, hM, h => by
    have h1 := pu_dig_in (hL c List.mem_cons_self)
    have h2 := pu_dig_in (hM d List.mem_cons_self)
    simp only [pu_kr] at h
    have h3 : pu_dig c = pu_dig d := by omega
    have h4 : pu_kr L = pu_kr M := by omega
    have h5 := pu_kr_inj L M (fun x hx => hL x (List.mem_cons_of_mem _ hx)) (fun x hx => hM x (List.mem_cons_of_mem _ hx)) h4
    have h6 : c = d := Int32.toInt_inj.mp (by omega)
    rw [h5, h6]
theorem pu_key_inj {L M : List Int32} (hL : pu_small L) (hM : pu_small M) (h : pu_key L = pu_key M) : L = M := by
  have h1 := pu_kr_inj L.reverse M.reverse (fun x hx => hL x (List.mem_reverse.mp hx)) (fun x hx => hM x (List.mem_reverse.mp hx)) h
  have h2 := congrArg List.reverse h1
  rw [List.reverse_reverse, List.reverse_reverse] at h2
  exact h2
theorem pu_key_snoc (L : List Int32) (c : Int32) : pu_key (L ++ [c]) = pu_key L * 32 + pu_dig c := by
  unfold pu_key
  rw [List.reverse_append]
  rfl
theorem pu_stops_ok : ∀ t ∈ pu_stops, t.length ≤ 5 ∧ ∀ c ∈ t, 97 ≤ c.toInt ∧ c.toInt ≤ 122 := by decide +kernel
theorem pu_stops_len : pu_stops.length = 33 := rfl
/-- a word is among them: by its number -/
theorem pu_stops_iff (M : List Int32) : M ∈ pu_stops ↔ (M.length ≤ 5 ∧ pu_small M) ∧ ∃ i, i < 33 ∧ pu_key (pu_stops.getD i []) = pu_key M := by
  constructor
  · intro h
    have h1 := pu_stops_ok M h
    obtain ⟨i, hi⟩ := List.getElem?_of_mem h
    have hl := (List.getElem?_eq_some_iff.mp hi).1
    exact ⟨h1, i, hl, by rw [List.getD_eq_getElem?_getD, hi]; rfl⟩
  · rintro ⟨⟨-, h2⟩, i, hi, h3⟩
    have hm : pu_stops.getD i [] ∈ pu_stops := by
      rw [List.getD_eq_getElem?_getD, List.getElem?_eq_getElem (show i < pu_stops.length from hi)]
      exact List.getElem_mem _
    rw [← pu_key_inj (pu_stops_ok _ hm).2 h2 h3]
    exact hm
/-- where token i begins -/
def pu_off (T : List (Nat × List Int32)) : Nat → Nat
  | 0 => 0
  | i + 1 => pu_off T i + (T.getD i (0, [])).2.length
theorem pu_off_app (T : List (Nat × List Int32)) (q : Nat × List Int32) : ∀ i, i ≤ T.length → pu_off (T ++ [q]) i = pu_off T i
  | 0, _ => rfl
  | i + 1, h => by
    have h1 := pu_off_app T q i (by omega)
    have h2 : (T ++ [q]).getD i (0, []) = T.getD i (0, []) := by
      rw [List.getD_eq_getElem?_getD, List.getD_eq_getElem?_getD, List.getElem?_append_left (by omega)]
    unfold pu_off
    rw [h1, h2]
theorem pu_off_mono (T : List (Nat × List Int32)) : ∀ i j, i ≤ j → pu_off T i ≤ pu_off T j
  | i, 0, h => by
    have : i = 0 := by omega
    subst this
    exact Nat.le_refl _
  | i, j + 1, h => by
    rcases Nat.lt_or_ge i (j + 1) with h1 | h1
    · have := pu_off_mono T i j (by omega)
      have h2 : pu_off T (j + 1) = pu_off T j + (T.getD j (0, [])).2.length := rfl
      omega
    · have : i = j + 1 := by omega
      subst this
      exact Nat.le_refl _
/-- the rows ch, po, st hold the tokens T -/
def pu_Tok (ch po st : Nat → Int32) (T : List (Nat × List Int32)) : Prop :=
  (∀ i, i ≤ T.length → st i = nI (pu_off T i)) ∧ (∀ i, i < T.length → po i = nI (T.getD i (0, [])).1) ∧
  ∀ i, i < T.length → ∀ k, k < (T.getD i (0, [])).2.length → ch (pu_off T i + k) = (T.getD i (0, [])).2.getD k 0
theorem pu_Tok_nil {ch po st : Nat → Int32} (h : st 0 = nI 0) : pu_Tok ch po st [] :=
  ⟨fun i hi => by have : i = 0 := Nat.le_zero.mp hi
                  subst this; exact h, fun i hi => absurd hi (Nat.not_lt_zero _), fun i hi => absurd hi (Nat.not_lt_zero _)⟩
theorem pu_Tok_add {ch po st ch' po' st' : Nat → Int32} {T : List (Nat × List Int32)} (h : pu_Tok ch po st T) (p : Nat) (L : List Int32)
    (hs : ∀ i, i ≤ T.length → st' i = st i) (hs1 : st' (T.length + 1) = nI (pu_off T T.length + L.length)) (hp : ∀ i, i < T.length → po' i = po i) (hp1 : po' T.length = nI p)
    (hc : ∀ i, i < pu_off T T.length → ch' i = ch i) (hc1 : ∀ k, k < L.length → ch' (pu_off T T.length + k) = L.getD k 0) : pu_Tok ch' po' st' (T ++ [(p, L)]) := by
  obtain ⟨h1, h2, h3⟩ := h
  have g1 : ∀ i, i < T.length → (T ++ [(p, L)]).getD i (0, []) = T.getD i (0, []) := fun i hi => by
    rw [List.getD_eq_getElem?_getD, List.getD_eq_getElem?_getD, List.getElem?_append_left hi]
  have g2 : (T ++ [(p, L)]).getD T.length (0, []) = (p, L) := by
    rw [List.getD_eq_getElem?_getD, List.getElem?_append_right (Nat.le_refl _), Nat.sub_self]
    rfl
  refine ⟨fun i hi => ?_, fun i hi => ?_, fun i hi k hk => ?_⟩
  · rw [List.length_append, List.length_singleton] at hi
    rcases Nat.lt_or_ge T.length i with h | h
    · have : i = T.length + 1 := by omega
      subst this
      rw [hs1]
      show _ = nI (pu_off (T ++ [(p, L)]) T.length + ((T ++ [(p, L)]).getD T.length (0, [])).2.length)
      rw [g2, pu_off_app T _ T.length (Nat.le_refl _)]
    · rw [hs i h, h1 i h, pu_off_app T _ i h]
  · rw [List.length_append, List.length_singleton] at hi
    rcases Nat.lt_or_ge i T.length with h | h
    · rw [hp i h, h2 i h, g1 i h]
    · have : i = T.length := by omega
      subst this
      rw [hp1, g2]
  · rw [List.length_append, List.length_singleton] at hi
    rcases Nat.lt_or_ge i T.length with h | h
    · rw [g1 i h] at hk ⊢
      have h4 := pu_off_mono T (i + 1) T.length (by omega)
      have h5 : pu_off T (i + 1) = pu_off T i + (T.getD i (0, [])).2.length := rfl
      rw [pu_off_app T _ i (by omega), hc _ (by omega), h3 i h k hk]
    · have : i = T.length := by omega
      subst this
      rw [g2] at hk ⊢
      rw [pu_off_app T _ T.length (Nat.le_refl _), hc1 k hk]
/-- the first token with the same characters as token i; k: where the search stands -/
def pu_first (T : List (Nat × List Int32)) (i : Nat) : Nat → Nat → Nat
  | 0, j => j
  | k + 1, j => if (T.getD j (0, [])).2 = (T.getD i (0, [])).2 then j else pu_first T i k (j + 1)
end
section
/-! PURE, 5: vowels by runs of y, as the reference finds them -/
theorem pu_vow_y {L : List Int32} {k : Nat} (h : L.getD (k + 1) 0 = 121) : pu_vow L (k + 1) = !pu_vow L k := by
  have h1 : ¬ pu_isV (L.getD (k + 1) 0) := by rw [h]; decide
  rw [pu_vow, decide_eq_false h1, decide_eq_true h]
  simp
theorem pu_vow_y0 {L : List Int32} (h : L.getD 0 0 = 121) : pu_vow L 0 = false := by
  have h1 : ¬ pu_isV (L.getD 0 0) := by rw [h]; decide
  rw [pu_vow, decide_eq_false h1]
theorem pu_vow_n {L : List Int32} {k : Nat} (h : ¬ L.getD k 0 = 121) : pu_vow L k = decide (pu_isV (L.getD k 0)) := by
  cases k with
  | zero => rfl
  | succ k => rw [pu_vow, decide_eq_false h]; simp
/-- in a run of y's they alternate -/
theorem pu_vow_run {L : List Int32} {a : Nat} : ∀ m, (∀ j, j ≤ m → L.getD (a + j) 0 = 121) → pu_vow L (a + m) = (if m % 2 = 0 then pu_vow L a else !pu_vow L a)
  | 0, _ => by simp
  | m + 1, h => by
    have ih := pu_vow_run (L := L) (a := a) m (fun j hj => h j (by omega))
    have h1 := pu_vow_y (L := L) (k := a + m) (h (m + 1) (Nat.le_refl _))
    rw [show a + (m + 1) = a + m + 1 from rfl, h1, ih]
    rcases Nat.mod_two_eq_zero_or_one m with h2 | h2
    · rw [if_pos h2, if_neg (by omega)]
    · rw [if_neg (by omega), if_pos (by omega), Bool.not_not]
theorem pu_vow_first {L : List Int32} {a : Nat} (h : L.getD a 0 = 121) : pu_vow L a = (decide (0 < a) && !pu_vow L (a - 1)) := by
  cases a with
  | zero => rw [pu_vow_y0 h]; rfl
  | succ b => rw [pu_vow_y h]; simp
/-! the search for a vowel, the count, upward -/
theorem pu_anyV_true {L : List Int32} {k n : Nat} (h : k < n) (hv : pu_vow L k = true) : pu_anyV L n = true := by
  induction n with
  | zero => omega
  | succ n ih =>
    rw [pu_anyV]
    rcases Nat.lt_or_ge k n with h1 | h1
    · rw [ih h1]; rfl
    · have : k = n := by omega
      subst this
      rw [hv, Bool.or_true]
theorem pu_anyV_false {L : List Int32} {n : Nat} (h : ∀ k, k < n → pu_vow L k = false) : pu_anyV L n = false := by
  induction n with
  | zero => rfl
  | succ n ih => rw [pu_anyV, ih (fun k hk => h k (by omega)), h n (by omega)]; rfl
theorem pu_meas_le (L : List Int32) : ∀ k, pu_meas L k ≤ k
  | 0 => Nat.le_refl _
  | k + 1 => by
    have := pu_meas_le L k
    rw [pu_meas]
    split <;> omega
end
section
/-! PURE, 6: a stem is no longer than its word -/
theorem pu_len_s1a (L : List Int32) : (pu_s1a L).length ≤ L.length := by
  unfold pu_s1a
  repeat' split
  all_goals first | exact Nat.le_refl _ | (rw [List.length_take]; omega)
theorem pu_len_s1bm (L : List Int32) : (pu_s1bm L).length ≤ L.length + 1 := by
  unfold pu_s1bm
  repeat' split
  all_goals first | omega | (rw [List.length_append]; exact Nat.le_refl _) | (rw [List.length_take]; omega)
theorem pu_len_s1b (L : List Int32) : (pu_s1b L).length ≤ L.length := by
  unfold pu_s1b
  split
  · split
    · rw [List.length_take]; omega
    · exact Nat.le_refl _
  · split
    · rename_i h1 h2
      have h3 := h2.1
      split
      · have := pu_len_s1bm (L.take (L.length - 2))
        rw [List.length_take] at this
        simp only [List.length_cons, List.length_nil] at h3
        omega
      · exact Nat.le_refl _
    · split
      · rename_i h1 h2 h4
        have h3 := h4.1
        split
        · have := pu_len_s1bm (L.take (L.length - 3))
          rw [List.length_take] at this
          simp only [List.length_cons, List.length_nil] at h3
          omega
        · exact Nat.le_refl _
      · exact Nat.le_refl _
theorem pu_len_s1c (L : List Int32) : (pu_s1c L).length ≤ L.length := by
  unfold pu_s1c
  split
  · rename_i h
    have h3 := h.1.1
    simp only [List.length_cons, List.length_nil] at h3
    rw [List.length_append, List.length_take]
    simp only [List.length_cons, List.length_nil]
    omega
  · exact Nat.le_refl _
/-- the place that a search gives is the ending's -/
theorem pu_lng_at (L : List Int32) (F : List (List Int32)) : ∀ (E : List (List Int32)) (i : Nat) (b : Option (Nat × List Int32)), F.drop i = E → (∀ q, b = some q → F.getD q.1 [] = q.2 ∧ q.1 < F.length) → ∀ q, pu_lng L E i b = some q → F.getD q.1 [] = q.2 ∧ q.1 < F.length
  | [], i, b, _, hb, q, hq => hb q hq
  | t :: E, i, b, hd, hb, q, hq => by
    have hi : i < F.length := by
      rcases Nat.lt_or_ge i F.length with h | h
      · exact h
      · rw [List.drop_eq_nil_of_le h] at hd; cases hd
    have h1 : F.drop (i + 1) = E := by
      rw [← List.drop_drop, hd]
      rfl
    unfold pu_lng at hq
    refine pu_lng_at L F E (i + 1) _ h1 (fun r hr => ?_) q hq
    split at hr
    · cases hr
      refine ⟨?_, hi⟩
      rw [List.drop_eq_getElem_cons hi] at hd
      rw [List.getD_eq_getElem?_getD, List.getElem?_eq_getElem hi]
      exact (List.cons.inj hd).1
    · exact hb r hr
theorem pu_len_rep {E S : List (List Int32)} (h : ∀ i, i < E.length → (S.getD i []).length ≤ (E.getD i []).length) (L : List Int32) : (pu_rep E S L).length ≤ L.length := by
  unfold pu_rep
  split
  · rename_i q hq
    have h1 := (pu_lng_spec L E 0 none (fun q hq => by cases hq)).1 q hq
    have h2 := pu_lng_at L E E 0 none rfl (fun q hq => by cases hq) q hq
    have h3 := h q.1 h2.2
    rw [h2.1] at h3
    have h4 := h1.1.1
    split
    · rw [List.length_append, List.length_take]; omega
    · exact Nat.le_refl _
  · exact Nat.le_refl _
theorem pu_S2_le : ∀ i, i < pu_E2.length → (pu_S2.getD i []).length ≤ (pu_E2.getD i []).length := by decide +kernel
theorem pu_S3_le : ∀ i, i < pu_E3.length → (pu_S3.getD i []).length ≤ (pu_E3.getD i []).length := by decide +kernel
theorem pu_len_s4 (L : List Int32) : (pu_s4 L).length ≤ L.length := by
  unfold pu_s4
  split
  · split
    · rw [List.length_take]; omega
    · exact Nat.le_refl _
  · exact Nat.le_refl _
theorem pu_len_s5a (L : List Int32) : (pu_s5a L).length ≤ L.length := by
  unfold pu_s5a
  split
  · rw [List.length_take]; omega
  · exact Nat.le_refl _
theorem pu_len_s5b (L : List Int32) : (pu_s5b L).length ≤ L.length := by
  unfold pu_s5b
  split
  · rw [List.length_take]; omega
  · exact Nat.le_refl _
theorem pu_len_stem (L : List Int32) : (pu_stem L).length ≤ L.length := by
  unfold pu_stem
  exact Nat.le_trans (pu_len_s5b _) (Nat.le_trans (pu_len_s5a _) (Nat.le_trans (pu_len_s4 _) (Nat.le_trans (pu_len_rep pu_S3_le _) (Nat.le_trans (pu_len_rep pu_S2_le _) (Nat.le_trans (pu_len_s1c _) (Nat.le_trans (pu_len_s1b _) (pu_len_s1a _)))))))
theorem pu_len_own (L : List Int32) : (pu_own L).length ≤ L.length := by
  unfold pu_own
  split
  · rw [List.length_take]; omega
  · exact Nat.le_refl _
theorem pu_off_snoc (T : List (Nat × List Int32)) (q : Nat × List Int32) : pu_off (T ++ [q]) (T ++ [q]).length = pu_off T T.length + q.2.length := by
  rw [List.length_append, List.length_singleton]
  show pu_off (T ++ [q]) T.length + ((T ++ [q]).getD T.length (0, [])).2.length = _
  rw [pu_off_app T q T.length (Nat.le_refl _)]
  congr 2
  rw [List.getD_eq_getElem?_getD, List.getElem?_append_right (Nat.le_refl _), Nat.sub_self]
  rfl
/-- what one word adds -/
theorem pu_word_len (L : List Int32) (s : pu_St) : pu_off (pu_word L s).1 (pu_word L s).1.length ≤ pu_off s.1 s.1.length + L.length ∧ (pu_word L s).1.length ≤ s.1.length + 1 ∧ (pu_word L s).2 = s.2 + 1 := by
  unfold pu_word
  dsimp only
  split
  · exact ⟨Nat.le_add_right _ _, Nat.le_succ _, rfl⟩
  · refine ⟨?_, by rw [List.length_append]; exact Nat.le_refl _, rfl⟩
    rw [pu_off_snoc]
    dsimp only
    have h1 := pu_len_own L
    have h2 : ((pu_own L).map pu_low).length = (pu_own L).length := List.length_map _
    split
    · have := pu_len_stem ((pu_own L).map pu_low)
      omega
    · omega
end
section
-- ===== PART A: goes FIRST, ahead of the names: the tables' words, and 'selects' of the private methods out of them =====
/-- a private method of a class that the tables say can be made, by its rows of tables_1 -/
def lw_okq (q : MethodName × Nat) : Prop := (q.1.cls ≠ "java/lang/invoke/MethodHandle" ∧ q.1.cls ≠ "java/lang/invoke/VarHandle") ∧ Cond.instantiable q.1.cls q.2 ∈ tables_1 ∧ Cond.privateMethod q.1 ∈ tables_1 ∧ Cond.instanceMethod q.1 ∈ tables_1
theorem lw_p0 : lw_okq (⟨"WordChain$Text", "sortAt", "(I)I"⟩, 2) := ⟨⟨by decide +kernel, by decide +kernel⟩, List.mem_of_getElem? (i := 32) (by decide +kernel), List.mem_of_getElem? (i := 312) (by decide +kernel), List.mem_of_getElem? (i := 313) (by decide +kernel)⟩
theorem lw_p1 : lw_okq (⟨"WordChain$Text", "isTie", "(I)Z"⟩, 2) := ⟨⟨by decide +kernel, by decide +kernel⟩, List.mem_of_getElem? (i := 32) (by decide +kernel), List.mem_of_getElem? (i := 326) (by decide +kernel), List.mem_of_getElem? (i := 327) (by decide +kernel)⟩
theorem lw_p2 : lw_okq (⟨"WordChain", "takeWords", "(II)V"⟩, 7) := ⟨⟨by decide +kernel, by decide +kernel⟩, List.mem_of_getElem? (i := 24) (by decide +kernel), List.mem_of_getElem? (i := 337) (by decide +kernel), List.mem_of_getElem? (i := 338) (by decide +kernel)⟩
theorem lw_p3 : lw_okq (⟨"WordChain$Stemmer", "markVowels", "()V"⟩, 7) := ⟨⟨by decide +kernel, by decide +kernel⟩, List.mem_of_getElem? (i := 111) (by decide +kernel), List.mem_of_getElem? (i := 375) (by decide +kernel), List.mem_of_getElem? (i := 376) (by decide +kernel)⟩
theorem lw_p4 : lw_okq (⟨"WordChain$Stemmer", "step1a", "()V"⟩, 7) := ⟨⟨by decide +kernel, by decide +kernel⟩, List.mem_of_getElem? (i := 111) (by decide +kernel), List.mem_of_getElem? (i := 379) (by decide +kernel), List.mem_of_getElem? (i := 380) (by decide +kernel)⟩
theorem lw_p5 : lw_okq (⟨"WordChain$Stemmer", "longest", "([LWordChain$Ending;)LWordChain$Ending;"⟩, 7) := ⟨⟨by decide +kernel, by decide +kernel⟩, List.mem_of_getElem? (i := 111) (by decide +kernel), List.mem_of_getElem? (i := 383) (by decide +kernel), List.mem_of_getElem? (i := 384) (by decide +kernel)⟩
theorem lw_p6 : lw_okq (⟨"WordChain$Stemmer", "stemBefore", "(LWordChain$Ending;)I"⟩, 7) := ⟨⟨by decide +kernel, by decide +kernel⟩, List.mem_of_getElem? (i := 111) (by decide +kernel), List.mem_of_getElem? (i := 394) (by decide +kernel), List.mem_of_getElem? (i := 395) (by decide +kernel)⟩
theorem lw_p7 : lw_okq (⟨"WordChain$Stemmer", "become", "(ILjava/lang/String;)V"⟩, 7) := ⟨⟨by decide +kernel, by decide +kernel⟩, List.mem_of_getElem? (i := 111) (by decide +kernel), List.mem_of_getElem? (i := 398) (by decide +kernel), List.mem_of_getElem? (i := 399) (by decide +kernel)⟩
theorem lw_p8 : lw_okq (⟨"WordChain$Stemmer", "step1b", "()V"⟩, 7) := ⟨⟨by decide +kernel, by decide +kernel⟩, List.mem_of_getElem? (i := 111) (by decide +kernel), List.mem_of_getElem? (i := 406) (by decide +kernel), List.mem_of_getElem? (i := 407) (by decide +kernel)⟩
theorem lw_p9 : lw_okq (⟨"WordChain$Stemmer", "measure", "(I)I"⟩, 7) := ⟨⟨by decide +kernel, by decide +kernel⟩, List.mem_of_getElem? (i := 111) (by decide +kernel), List.mem_of_getElem? (i := 418) (by decide +kernel), List.mem_of_getElem? (i := 419) (by decide +kernel)⟩
theorem lw_p10 : lw_okq (⟨"WordChain$Stemmer", "hasVowel", "(I)Z"⟩, 7) := ⟨⟨by decide +kernel, by decide +kernel⟩, List.mem_of_getElem? (i := 111) (by decide +kernel), List.mem_of_getElem? (i := 422) (by decide +kernel), List.mem_of_getElem? (i := 423) (by decide +kernel)⟩
theorem lw_p11 : lw_okq (⟨"WordChain$Stemmer", "mendAfter1b", "()V"⟩, 7) := ⟨⟨by decide +kernel, by decide +kernel⟩, List.mem_of_getElem? (i := 111) (by decide +kernel), List.mem_of_getElem? (i := 426) (by decide +kernel), List.mem_of_getElem? (i := 427) (by decide +kernel)⟩
theorem lw_p12 : lw_okq (⟨"WordChain$Stemmer", "isDouble", "()Z"⟩, 7) := ⟨⟨by decide +kernel, by decide +kernel⟩, List.mem_of_getElem? (i := 111) (by decide +kernel), List.mem_of_getElem? (i := 433) (by decide +kernel), List.mem_of_getElem? (i := 434) (by decide +kernel)⟩
theorem lw_p13 : lw_okq (⟨"WordChain$Stemmer", "isCvc", "(I)Z"⟩, 7) := ⟨⟨by decide +kernel, by decide +kernel⟩, List.mem_of_getElem? (i := 111) (by decide +kernel), List.mem_of_getElem? (i := 439) (by decide +kernel), List.mem_of_getElem? (i := 440) (by decide +kernel)⟩
theorem lw_p14 : lw_okq (⟨"WordChain$Stemmer", "step1c", "()V"⟩, 7) := ⟨⟨by decide +kernel, by decide +kernel⟩, List.mem_of_getElem? (i := 111) (by decide +kernel), List.mem_of_getElem? (i := 443) (by decide +kernel), List.mem_of_getElem? (i := 444) (by decide +kernel)⟩
theorem lw_p15 : lw_okq (⟨"WordChain$Stemmer", "replaceIfAbove", "([LWordChain$Ending;I)V"⟩, 7) := ⟨⟨by decide +kernel, by decide +kernel⟩, List.mem_of_getElem? (i := 111) (by decide +kernel), List.mem_of_getElem? (i := 448) (by decide +kernel), List.mem_of_getElem? (i := 449) (by decide +kernel)⟩
def lw_privs_1 : List (MethodName × Nat) := [(⟨"WordChain$Text", "sortAt", "(I)I"⟩, 2), (⟨"WordChain$Text", "isTie", "(I)Z"⟩, 2), (⟨"WordChain", "takeWords", "(II)V"⟩, 7), (⟨"WordChain$Stemmer", "markVowels", "()V"⟩, 7), (⟨"WordChain$Stemmer", "step1a", "()V"⟩, 7), (⟨"WordChain$Stemmer", "longest", "([LWordChain$Ending;)LWordChain$Ending;"⟩, 7), (⟨"WordChain$Stemmer", "stemBefore", "(LWordChain$Ending;)I"⟩, 7), (⟨"WordChain$Stemmer", "become", "(ILjava/lang/String;)V"⟩, 7), (⟨"WordChain$Stemmer", "step1b", "()V"⟩, 7), (⟨"WordChain$Stemmer", "measure", "(I)I"⟩, 7), (⟨"WordChain$Stemmer", "hasVowel", "(I)Z"⟩, 7), (⟨"WordChain$Stemmer", "mendAfter1b", "()V"⟩, 7), (⟨"WordChain$Stemmer", "isDouble", "()Z"⟩, 7), (⟨"WordChain$Stemmer", "isCvc", "(I)Z"⟩, 7), (⟨"WordChain$Stemmer", "step1c", "()V"⟩, 7), (⟨"WordChain$Stemmer", "replaceIfAbove", "([LWordChain$Ending;I)V"⟩, 7)]
theorem lw_r1 : ∀ q ∈ lw_privs_1, lw_okq q := List.forall_mem_cons.mpr ⟨lw_p0, List.forall_mem_cons.mpr ⟨lw_p1, List.forall_mem_cons.mpr ⟨lw_p2, List.forall_mem_cons.mpr ⟨lw_p3, List.forall_mem_cons.mpr ⟨lw_p4, List.forall_mem_cons.mpr ⟨lw_p5, List.forall_mem_cons.mpr ⟨lw_p6, List.forall_mem_cons.mpr ⟨lw_p7, List.forall_mem_cons.mpr ⟨lw_p8, List.forall_mem_cons.mpr ⟨lw_p9, List.forall_mem_cons.mpr ⟨lw_p10, List.forall_mem_cons.mpr ⟨lw_p11, List.forall_mem_cons.mpr ⟨lw_p12, List.forall_mem_cons.mpr ⟨lw_p13, List.forall_mem_cons.mpr ⟨lw_p14, List.forall_mem_cons.mpr ⟨lw_p15, fun _ h => absurd h List.not_mem_nil⟩⟩⟩⟩⟩⟩⟩⟩⟩⟩⟩⟩⟩⟩⟩⟩
theorem lw_p16 : lw_okq (⟨"WordChain$Stemmer", "step4", "()V"⟩, 7) := ⟨⟨by decide +kernel, by decide +kernel⟩, List.mem_of_getElem? (i := 111) (by decide +kernel), List.mem_of_getElem? (i := 452) (by decide +kernel), List.mem_of_getElem? (i := 453) (by decide +kernel)⟩
theorem lw_p17 : lw_okq (⟨"WordChain$Stemmer", "step5a", "()V"⟩, 7) := ⟨⟨by decide +kernel, by decide +kernel⟩, List.mem_of_getElem? (i := 111) (by decide +kernel), List.mem_of_getElem? (i := 457) (by decide +kernel), List.mem_of_getElem? (i := 458) (by decide +kernel)⟩
theorem lw_p18 : lw_okq (⟨"WordChain$Stemmer", "step5b", "()V"⟩, 7) := ⟨⟨by decide +kernel, by decide +kernel⟩, List.mem_of_getElem? (i := 111) (by decide +kernel), List.mem_of_getElem? (i := 461) (by decide +kernel), List.mem_of_getElem? (i := 462) (by decide +kernel)⟩
theorem lw_p19 : lw_okq (⟨"java/lang/Throwable", "fillInStackTrace", "(I)Ljava/lang/Throwable;"⟩, 6) := ⟨⟨by decide +kernel, by decide +kernel⟩, List.mem_of_getElem? (i := 522) (by decide +kernel), List.mem_of_getElem? (i := 520) (by decide +kernel), List.mem_of_getElem? (i := 521) (by decide +kernel)⟩
theorem lw_p20 : lw_okq (⟨"WordChain", "append", "(I)V"⟩, 7) := ⟨⟨by decide +kernel, by decide +kernel⟩, List.mem_of_getElem? (i := 24) (by decide +kernel), List.mem_of_getElem? (i := 551) (by decide +kernel), List.mem_of_getElem? (i := 552) (by decide +kernel)⟩
theorem lw_p21 : lw_okq (⟨"WordChain$Tokens", "areAlike", "(II)Z"⟩, 4) := ⟨⟨by decide +kernel, by decide +kernel⟩, List.mem_of_getElem? (i := 235) (by decide +kernel), List.mem_of_getElem? (i := 631) (by decide +kernel), List.mem_of_getElem? (i := 632) (by decide +kernel)⟩
theorem lw_p22 : lw_okq (⟨"WordChainModel", "decode", "([BII)V"⟩, 16) := ⟨⟨by decide +kernel, by decide +kernel⟩, List.mem_of_getElem? (i := 646) (by decide +kernel), List.mem_of_getElem? (i := 802) (by decide +kernel), List.mem_of_getElem? (i := 803) (by decide +kernel)⟩
theorem lw_p23 : lw_okq (⟨"WordChainModel", "cut", "([III)V"⟩, 16) := ⟨⟨by decide +kernel, by decide +kernel⟩, List.mem_of_getElem? (i := 646) (by decide +kernel), List.mem_of_getElem? (i := 813) (by decide +kernel), List.mem_of_getElem? (i := 814) (by decide +kernel)⟩
theorem lw_p24 : lw_okq (⟨"WordChainModel", "token", "([III)V"⟩, 16) := ⟨⟨by decide +kernel, by decide +kernel⟩, List.mem_of_getElem? (i := 646) (by decide +kernel), List.mem_of_getElem? (i := 828) (by decide +kernel), List.mem_of_getElem? (i := 829) (by decide +kernel)⟩
theorem lw_p25 : lw_okq (⟨"WordChainModel", "is", "(Ljava/lang/String;)Z"⟩, 16) := ⟨⟨by decide +kernel, by decide +kernel⟩, List.mem_of_getElem? (i := 646) (by decide +kernel), List.mem_of_getElem? (i := 835) (by decide +kernel), List.mem_of_getElem? (i := 836) (by decide +kernel)⟩
theorem lw_p26 : lw_okq (⟨"WordChainModel", "ends", "(Ljava/lang/String;)Z"⟩, 16) := ⟨⟨by decide +kernel, by decide +kernel⟩, List.mem_of_getElem? (i := 646) (by decide +kernel), List.mem_of_getElem? (i := 840) (by decide +kernel), List.mem_of_getElem? (i := 841) (by decide +kernel)⟩
theorem lw_p27 : lw_okq (⟨"WordChainModel", "stem", "()V"⟩, 16) := ⟨⟨by decide +kernel, by decide +kernel⟩, List.mem_of_getElem? (i := 646) (by decide +kernel), List.mem_of_getElem? (i := 845) (by decide +kernel), List.mem_of_getElem? (i := 846) (by decide +kernel)⟩
theorem lw_p28 : lw_okq (⟨"WordChainModel", "stemOneB", "()V"⟩, 16) := ⟨⟨by decide +kernel, by decide +kernel⟩, List.mem_of_getElem? (i := 646) (by decide +kernel), List.mem_of_getElem? (i := 853) (by decide +kernel), List.mem_of_getElem? (i := 854) (by decide +kernel)⟩
theorem lw_p29 : lw_okq (⟨"WordChainModel", "measure", "(I)I"⟩, 16) := ⟨⟨by decide +kernel, by decide +kernel⟩, List.mem_of_getElem? (i := 646) (by decide +kernel), List.mem_of_getElem? (i := 858) (by decide +kernel), List.mem_of_getElem? (i := 859) (by decide +kernel)⟩
theorem lw_p30 : lw_okq (⟨"WordChainModel", "vowel", "(I)Z"⟩, 16) := ⟨⟨by decide +kernel, by decide +kernel⟩, List.mem_of_getElem? (i := 646) (by decide +kernel), List.mem_of_getElem? (i := 862) (by decide +kernel), List.mem_of_getElem? (i := 863) (by decide +kernel)⟩
theorem lw_p31 : lw_okq (⟨"WordChainModel", "anyVowel", "(I)Z"⟩, 16) := ⟨⟨by decide +kernel, by decide +kernel⟩, List.mem_of_getElem? (i := 646) (by decide +kernel), List.mem_of_getElem? (i := 868) (by decide +kernel), List.mem_of_getElem? (i := 869) (by decide +kernel)⟩
def lw_privs_2 : List (MethodName × Nat) := [(⟨"WordChain$Stemmer", "step4", "()V"⟩, 7), (⟨"WordChain$Stemmer", "step5a", "()V"⟩, 7), (⟨"WordChain$Stemmer", "step5b", "()V"⟩, 7), (⟨"java/lang/Throwable", "fillInStackTrace", "(I)Ljava/lang/Throwable;"⟩, 6), (⟨"WordChain", "append", "(I)V"⟩, 7), (⟨"WordChain$Tokens", "areAlike", "(II)Z"⟩, 4), (⟨"WordChainModel", "decode", "([BII)V"⟩, 16), (⟨"WordChainModel", "cut", "([III)V"⟩, 16), (⟨"WordChainModel", "token", "([III)V"⟩, 16), (⟨"WordChainModel", "is", "(Ljava/lang/String;)Z"⟩, 16), (⟨"WordChainModel", "ends", "(Ljava/lang/String;)Z"⟩, 16), (⟨"WordChainModel", "stem", "()V"⟩, 16), (⟨"WordChainModel", "stemOneB", "()V"⟩, 16), (⟨"WordChainModel", "measure", "(I)I"⟩, 16), (⟨"WordChainModel", "vowel", "(I)Z"⟩, 16), (⟨"WordChainModel", "anyVowel", "(I)Z"⟩, 16)]
theorem lw_r2 : ∀ q ∈ lw_privs_2, lw_okq q := List.forall_mem_cons.mpr ⟨lw_p16, List.forall_mem_cons.mpr ⟨lw_p17, List.forall_mem_cons.mpr ⟨lw_p18, List.forall_mem_cons.mpr ⟨lw_p19, List.forall_mem_cons.mpr ⟨lw_p20, List.forall_mem_cons.mpr ⟨lw_p21, List.forall_mem_cons.mpr ⟨lw_p22, List.forall_mem_cons.mpr ⟨lw_p23, List.forall_mem_cons.mpr ⟨lw_p24, List.forall_mem_cons.mpr ⟨lw_p25, List.forall_mem_cons.mpr ⟨lw_p26, List.forall_mem_cons.mpr ⟨lw_p27, List.forall_mem_cons.mpr ⟨lw_p28, List.forall_mem_cons.mpr ⟨lw_p29, List.forall_mem_cons.mpr ⟨lw_p30, List.forall_mem_cons.mpr ⟨lw_p31, fun _ h => absurd h List.not_mem_nil⟩⟩⟩⟩⟩⟩⟩⟩⟩⟩⟩⟩⟩⟩⟩⟩
theorem lw_p32 : lw_okq (⟨"WordChainModel", "instead", "(ILjava/lang/String;)V"⟩, 16) := ⟨⟨by decide +kernel, by decide +kernel⟩, List.mem_of_getElem? (i := 646) (by decide +kernel), List.mem_of_getElem? (i := 874) (by decide +kernel), List.mem_of_getElem? (i := 875) (by decide +kernel)⟩
theorem lw_p33 : lw_okq (⟨"WordChainModel", "cvc", "(I)Z"⟩, 16) := ⟨⟨by decide +kernel, by decide +kernel⟩, List.mem_of_getElem? (i := 646) (by decide +kernel), List.mem_of_getElem? (i := 878) (by decide +kernel), List.mem_of_getElem? (i := 879) (by decide +kernel)⟩
theorem lw_p34 : lw_okq (⟨"WordChainModel", "longest", "([Ljava/lang/String;)I"⟩, 16) := ⟨⟨by decide +kernel, by decide +kernel⟩, List.mem_of_getElem? (i := 646) (by decide +kernel), List.mem_of_getElem? (i := 883) (by decide +kernel), List.mem_of_getElem? (i := 884) (by decide +kernel)⟩
theorem lw_p35 : lw_okq (⟨"WordChainModel", "there", "(I)Z"⟩, 16) := ⟨⟨by decide +kernel, by decide +kernel⟩, List.mem_of_getElem? (i := 646) (by decide +kernel), List.mem_of_getElem? (i := 893) (by decide +kernel), List.mem_of_getElem? (i := 894) (by decide +kernel)⟩
theorem lw_p36 : lw_okq (⟨"WordChainModel", "same", "(II)Z"⟩, 16) := ⟨⟨by decide +kernel, by decide +kernel⟩, List.mem_of_getElem? (i := 646) (by decide +kernel), List.mem_of_getElem? (i := 905) (by decide +kernel), List.mem_of_getElem? (i := 906) (by decide +kernel)⟩
def lw_privs_3 : List (MethodName × Nat) := [(⟨"WordChainModel", "instead", "(ILjava/lang/String;)V"⟩, 16), (⟨"WordChainModel", "cvc", "(I)Z"⟩, 16), (⟨"WordChainModel", "longest", "([Ljava/lang/String;)I"⟩, 16), (⟨"WordChainModel", "there", "(I)Z"⟩, 16), (⟨"WordChainModel", "same", "(II)Z"⟩, 16)]
theorem lw_r3 : ∀ q ∈ lw_privs_3, lw_okq q := List.forall_mem_cons.mpr ⟨lw_p32, List.forall_mem_cons.mpr ⟨lw_p33, List.forall_mem_cons.mpr ⟨lw_p34, List.forall_mem_cons.mpr ⟨lw_p35, List.forall_mem_cons.mpr ⟨lw_p36, fun _ h => absurd h List.not_mem_nil⟩⟩⟩⟩⟩
def lw_privs : List (MethodName × Nat) := lw_privs_1 ++ (lw_privs_2 ++ (lw_privs_3))
def lw_tbl : List Cond := k2_sels lw_privs ++ tables_1
theorem lw_privs_ok : ∀ q ∈ lw_privs, lw_okq q := by
  show ∀ q ∈ lw_privs_1 ++ (lw_privs_2 ++ (lw_privs_3)), lw_okq q
  exact List.forall_mem_append.mpr ⟨lw_r1, List.forall_mem_append.mpr ⟨lw_r2, lw_r3⟩⟩
end
section
/-! NAMES: classes, fields, methods -/
def R_En : String := "WordChain$Ending"
def F_En : u_T := fun k => match k with
  | 0 => ("WordChain$Ending", "text", "Ljava/lang/String;", true)
  | _ => ("WordChain$Ending", "substitute", "Ljava/lang/String;", true)
def t_En : Nat → FieldType := fun k => match k with
  | 0 => .object "java/lang/String"
  | _ => .object "java/lang/String"
theorem n_En : ∀ a, a < 2 → ∀ b, b < 2 → a ≠ b → (F_En a).2.1 ≠ (F_En b).2.1 := by decide +kernel
theorem t_En_ok : ∀ k, k < 2 → parseFieldDescriptor (F_En k).2.2.1 = some (t_En k) := by decide +kernel
def R_Si : String := "WordChain$SilentWords"
def F_Si : u_T := fun k => match k with
  | _ => ("WordChain$SilentWords", "keys", "[I", true)
def t_Si : Nat → FieldType := fun k => match k with
  | _ => .array .int
theorem n_Si : ∀ a, a < 1 → ∀ b, b < 1 → a ≠ b → (F_Si a).2.1 ≠ (F_Si b).2.1 := by decide +kernel
theorem t_Si_ok : ∀ k, k < 1 → parseFieldDescriptor (F_Si k).2.2.1 = some (t_Si k) := by decide +kernel
def R_Sm : String := "WordChain$Stemmer"
def F_Sm : u_T := fun k => match k with
  | 0 => ("WordChain$Stemmer", "word", "LWordChain$Word;", true)
  | 1 => ("WordChain$Stemmer", "vowels", "[Z", true)
  | 2 => ("WordChain$Stemmer", "endings1a", "[LWordChain$Ending;", true)
  | 3 => ("WordChain$Stemmer", "endings1b", "[LWordChain$Ending;", true)
  | 4 => ("WordChain$Stemmer", "endings2", "[LWordChain$Ending;", true)
  | 5 => ("WordChain$Stemmer", "endings3", "[LWordChain$Ending;", true)
  | _ => ("WordChain$Stemmer", "endings4", "[LWordChain$Ending;", true)
def t_Sm : Nat → FieldType := fun k => match k with
  | 0 => .object "WordChain$Word"
  | 1 => .array .boolean
  | 2 => .array (.object "WordChain$Ending")
  | 3 => .array (.object "WordChain$Ending")
  | 4 => .array (.object "WordChain$Ending")
  | 5 => .array (.object "WordChain$Ending")
  | _ => .array (.object "WordChain$Ending")
theorem n_Sm : ∀ a, a < 7 → ∀ b, b < 7 → a ≠ b → (F_Sm a).2.1 ≠ (F_Sm b).2.1 := by decide +kernel
theorem t_Sm_ok : ∀ k, k < 7 → parseFieldDescriptor (F_Sm k).2.2.1 = some (t_Sm k) := by decide +kernel
def R_Te : String := "WordChain$Text"
def F_Te : u_T := fun k => match k with
  | 0 => ("WordChain$Text", "characters", "[I", true)
  | _ => ("WordChain$Text", "length", "I", false)
def t_Te : Nat → FieldType := fun k => match k with
  | 0 => .array .int
  | _ => .int
theorem n_Te : ∀ a, a < 2 → ∀ b, b < 2 → a ≠ b → (F_Te a).2.1 ≠ (F_Te b).2.1 := by decide +kernel
theorem t_Te_ok : ∀ k, k < 2 → parseFieldDescriptor (F_Te k).2.2.1 = some (t_Te k) := by decide +kernel
def R_To : String := "WordChain$Tokens"
def F_To : u_T := fun k => match k with
  | 0 => ("WordChain$Tokens", "characters", "[I", true)
  | 1 => ("WordChain$Tokens", "positions", "[I", true)
  | 2 => ("WordChain$Tokens", "starts", "[I", true)
  | _ => ("WordChain$Tokens", "size", "I", false)
def t_To : Nat → FieldType := fun k => match k with
  | 0 => .array .int
  | 1 => .array .int
  | 2 => .array .int
  | _ => .int
theorem n_To : ∀ a, a < 4 → ∀ b, b < 4 → a ≠ b → (F_To a).2.1 ≠ (F_To b).2.1 := by decide +kernel
theorem t_To_ok : ∀ k, k < 4 → parseFieldDescriptor (F_To k).2.2.1 = some (t_To k) := by decide +kernel
def R_Wo : String := "WordChain$Word"
def F_Wo : u_T := fun k => match k with
  | 0 => ("WordChain$Word", "characters", "[I", true)
  | _ => ("WordChain$Word", "length", "I", false)
def t_Wo : Nat → FieldType := fun k => match k with
  | 0 => .array .int
  | _ => .int
theorem n_Wo : ∀ a, a < 2 → ∀ b, b < 2 → a ≠ b → (F_Wo a).2.1 ≠ (F_Wo b).2.1 := by decide +kernel
theorem t_Wo_ok : ∀ k, k < 2 → parseFieldDescriptor (F_Wo k).2.2.1 = some (t_Wo k) := by decide +kernel
def R_X : String := "WordChain"
def F_X : u_T := fun k => match k with
  | 0 => ("WordChain", "input", "[B", true)
  | 1 => ("WordChain", "inputLength", "I", false)
  | 2 => ("WordChain", "text", "LWordChain$Text;", true)
  | 3 => ("WordChain", "silentWords", "LWordChain$SilentWords;", true)
  | 4 => ("WordChain", "stemmer", "LWordChain$Stemmer;", true)
  | 5 => ("WordChain", "tokens", "LWordChain$Tokens;", true)
  | _ => ("WordChain", "words", "I", false)
def t_X : Nat → FieldType := fun k => match k with
  | 0 => .array .byte
  | 1 => .int
  | 2 => .object "WordChain$Text"
  | 3 => .object "WordChain$SilentWords"
  | 4 => .object "WordChain$Stemmer"
  | 5 => .object "WordChain$Tokens"
  | _ => .int
theorem n_X : ∀ a, a < 7 → ∀ b, b < 7 → a ≠ b → (F_X a).2.1 ≠ (F_X b).2.1 := by decide +kernel
theorem t_X_ok : ∀ k, k < 7 → parseFieldDescriptor (F_X k).2.2.1 = some (t_X k) := by decide +kernel
def R_M : String := "WordChainModel"
def F_M : u_T := fun k => match k with
  | 0 => ("WordChainModel", "STOPS", "[Ljava/lang/String;", true)
  | 1 => ("WordChainModel", "TWO", "[Ljava/lang/String;", true)
  | 2 => ("WordChainModel", "THREE", "[Ljava/lang/String;", true)
  | 3 => ("WordChainModel", "FOUR", "[Ljava/lang/String;", true)
  | 4 => ("WordChainModel", "input", "[B", true)
  | 5 => ("WordChainModel", "inputSize", "I", false)
  | 6 => ("WordChainModel", "thrown", "I", false)
  | 7 => ("WordChainModel", "chars", "[I", true)
  | 8 => ("WordChainModel", "charMany", "I", false)
  | 9 => ("WordChainModel", "cutChars", "[I", true)
  | 10 => ("WordChainModel", "cutAt", "[I", true)
  | 11 => ("WordChainModel", "cutPosition", "[I", true)
  | 12 => ("WordChainModel", "cutMany", "I", false)
  | 13 => ("WordChainModel", "cutWords", "I", false)
  | 14 => ("WordChainModel", "word", "[I", true)
  | _ => ("WordChainModel", "wordMany", "I", false)
def t_M : Nat → FieldType := fun k => match k with
  | 0 => .array (.object "java/lang/String")
  | 1 => .array (.object "java/lang/String")
  | 2 => .array (.object "java/lang/String")
  | 3 => .array (.object "java/lang/String")
  | 4 => .array .byte
  | 5 => .int
  | 6 => .int
  | 7 => .array .int
  | 8 => .int
  | 9 => .array .int
  | 10 => .array .int
  | 11 => .array .int
  | 12 => .int
  | 13 => .int
  | 14 => .array .int
  | _ => .int
theorem n_M : ∀ a, a < 16 → ∀ b, b < 16 → a ≠ b → (F_M a).2.1 ≠ (F_M b).2.1 := by decide +kernel
theorem t_M_ok : ∀ k, k < 16 → parseFieldDescriptor (F_M k).2.2.1 = some (t_M k) := by decide +kernel
abbrev classes : List vw_C := [(R_En, F_En, 2), (R_Si, F_Si, 1), (R_Sm, F_Sm, 7), (R_Te, F_Te, 2), (R_To, F_To, 4), (R_Wo, F_Wo, 2), (R_X, F_X, 7), (R_M, F_M, 16)]
abbrev b_X_init : ByteArray := prog_1_method_1_code
def y_X_init : MethodName := ⟨"WordChain", "<init>", "()V"⟩
abbrev b_Te_init : ByteArray := prog_6_method_1_code
def y_Te_init : MethodName := ⟨"WordChain$Text", "<init>", "(I)V"⟩
abbrev b_Si_init : ByteArray := prog_3_method_1_code
def y_Si_init : MethodName := ⟨"WordChain$SilentWords", "<init>", "()V"⟩
abbrev b_Str_length : ByteArray := prog_17_method_54_code
def y_Str_length : MethodName := ⟨"java/lang/String", "length", "()I"⟩
abbrev b_Str_coder : ByteArray := prog_17_method_152_code
def y_Str_coder : MethodName := ⟨"java/lang/String", "coder", "()B"⟩
abbrev b_Str_charAt : ByteArray := prog_17_method_56_code
def y_Str_charAt : MethodName := ⟨"java/lang/String", "charAt", "(I)C"⟩
abbrev b_Str_isLatin1 : ByteArray := prog_17_method_154_code
def y_Str_isLatin1 : MethodName := ⟨"java/lang/String", "isLatin1", "()Z"⟩
abbrev b_Lat_charAt : ByteArray := prog_18_method_2_code
def y_Lat_charAt : MethodName := ⟨"java/lang/StringLatin1", "charAt", "([BI)C"⟩
abbrev b_Str_checkIndex : ByteArray := prog_17_method_155_code
def y_Str_checkIndex : MethodName := ⟨"java/lang/String", "checkIndex", "(II)V"⟩
abbrev b_Pre_checkIndex : ByteArray := prog_23_method_11_code
def y_Pre_checkIndex : MethodName := ⟨"jdk/internal/util/Preconditions", "checkIndex", "(IILjava/util/function/BiFunction;)I"⟩
abbrev b_U16_charAt : ByteArray := prog_19_method_83_code
def y_U16_charAt : MethodName := ⟨"java/lang/StringUTF16", "charAt", "([BI)C"⟩
abbrev b_U16_checkIndex : ByteArray := prog_19_method_91_code
def y_U16_checkIndex : MethodName := ⟨"java/lang/StringUTF16", "checkIndex", "(I[B)V"⟩
abbrev b_U16_length : ByteArray := prog_19_method_6_code
def y_U16_length : MethodName := ⟨"java/lang/StringUTF16", "length", "([B)I"⟩
abbrev b_U16_getChar : ByteArray := prog_19_method_5_code
def y_U16_getChar : MethodName := ⟨"java/lang/StringUTF16", "getChar", "([BI)C"⟩
abbrev b_Si_withLetter : ByteArray := prog_3_method_3_code
def y_Si_withLetter : MethodName := ⟨"WordChain$SilentWords", "withLetter", "(II)I"⟩
abbrev b_Sm_init : ByteArray := prog_5_method_1_code
def y_Sm_init : MethodName := ⟨"WordChain$Stemmer", "<init>", "(I)V"⟩
abbrev b_En_init : ByteArray := prog_2_method_1_code
def y_En_init : MethodName := ⟨"WordChain$Ending", "<init>", "(Ljava/lang/String;Ljava/lang/String;)V"⟩
abbrev b_Wo_init : ByteArray := prog_9_method_1_code
def y_Wo_init : MethodName := ⟨"WordChain$Word", "<init>", "(I)V"⟩
abbrev b_To_init : ByteArray := prog_7_method_1_code
def y_To_init : MethodName := ⟨"WordChain$Tokens", "<init>", "(I)V"⟩
abbrev b_X_cut : ByteArray := prog_1_method_4_code
def y_X_cut : MethodName := ⟨"WordChain", "cut", "()I"⟩
abbrev b_Te_read : ByteArray := prog_6_method_2_code
def y_Te_read : MethodName := ⟨"WordChain$Text", "read", "([BI)V"⟩
abbrev b_Ut_sizeAt : ByteArray := prog_8_method_2_code
def y_Ut_sizeAt : MethodName := ⟨"WordChain$Utf8", "sizeAt", "([BII)I"⟩
abbrev b_Ut_sizeByLead : ByteArray := prog_8_method_4_code
def y_Ut_sizeByLead : MethodName := ⟨"WordChain$Utf8", "sizeByLead", "(I)I"⟩
abbrev b_Ut_isSecond : ByteArray := prog_8_method_5_code
def y_Ut_isSecond : MethodName := ⟨"WordChain$Utf8", "isSecond", "(II)Z"⟩
abbrev b_Ut_valueAt : ByteArray := prog_8_method_3_code
def y_Ut_valueAt : MethodName := ⟨"WordChain$Utf8", "valueAt", "([BII)I"⟩
abbrev b_To_clear : ByteArray := prog_7_method_2_code
def y_To_clear : MethodName := ⟨"WordChain$Tokens", "clear", "()V"⟩
abbrev b_Te_spanEnd : ByteArray := prog_6_method_3_code
def y_Te_spanEnd : MethodName := ⟨"WordChain$Text", "spanEnd", "(I)I"⟩
abbrev b_Te_sortAt : ByteArray := prog_6_method_6_code
def y_Te_sortAt : MethodName := ⟨"WordChain$Text", "sortAt", "(I)I"⟩
abbrev b_So_of : ByteArray := prog_4_method_2_code
def y_So_of : MethodName := ⟨"WordChain$Sorts", "of", "(I)I"⟩
abbrev b_So_isLetter : ByteArray := prog_4_method_5_code
def y_So_isLetter : MethodName := ⟨"WordChain$Sorts", "isLetter", "(I)Z"⟩
abbrev b_So_isInner : ByteArray := prog_4_method_3_code
def y_So_isInner : MethodName := ⟨"WordChain$Sorts", "isInner", "(I)Z"⟩
abbrev b_Te_isTie : ByteArray := prog_6_method_5_code
def y_Te_isTie : MethodName := ⟨"WordChain$Text", "isTie", "(I)Z"⟩
abbrev b_So_ties : ByteArray := prog_4_method_4_code
def y_So_ties : MethodName := ⟨"WordChain$Sorts", "ties", "(II)Z"⟩
abbrev b_Te_isWord : ByteArray := prog_6_method_4_code
def y_Te_isWord : MethodName := ⟨"WordChain$Text", "isWord", "(II)Z"⟩
abbrev b_X_takeWords : ByteArray := prog_1_method_11_code
def y_X_takeWords : MethodName := ⟨"WordChain", "takeWords", "(II)V"⟩
abbrev b_Wo_take : ByteArray := prog_9_method_2_code
def y_Wo_take : MethodName := ⟨"WordChain$Word", "take", "([III)V"⟩
abbrev b_Wo_dropOwnersEnding : ByteArray := prog_9_method_3_code
def y_Wo_dropOwnersEnding : MethodName := ⟨"WordChain$Word", "dropOwnersEnding", "()V"⟩
abbrev b_Wo_lower : ByteArray := prog_9_method_4_code
def y_Wo_lower : MethodName := ⟨"WordChain$Word", "lower", "()V"⟩
abbrev b_Wo_lowered : ByteArray := prog_9_method_8_code
def y_Wo_lowered : MethodName := ⟨"WordChain$Word", "lowered", "(I)I"⟩
abbrev b_Si_have : ByteArray := prog_3_method_2_code
def y_Si_have : MethodName := ⟨"WordChain$SilentWords", "have", "(LWordChain$Word;)Z"⟩
abbrev b_Wo_isSmallLetters : ByteArray := prog_9_method_5_code
def y_Wo_isSmallLetters : MethodName := ⟨"WordChain$Word", "isSmallLetters", "()Z"⟩
abbrev b_Sm_stemIfFit : ByteArray := prog_5_method_2_code
def y_Sm_stemIfFit : MethodName := ⟨"WordChain$Stemmer", "stemIfFit", "()V"⟩
abbrev b_Sm_markVowels : ByteArray := prog_5_method_14_code
def y_Sm_markVowels : MethodName := ⟨"WordChain$Stemmer", "markVowels", "()V"⟩
abbrev b_Sm_step1a : ByteArray := prog_5_method_3_code
def y_Sm_step1a : MethodName := ⟨"WordChain$Stemmer", "step1a", "()V"⟩
abbrev b_Sm_longest : ByteArray := prog_5_method_11_code
def y_Sm_longest : MethodName := ⟨"WordChain$Stemmer", "longest", "([LWordChain$Ending;)LWordChain$Ending;"⟩
abbrev b_Wo_endsWith : ByteArray := prog_9_method_6_code
def y_Wo_endsWith : MethodName := ⟨"WordChain$Word", "endsWith", "(Ljava/lang/String;)Z"⟩
abbrev b_Sm_stemBefore : ByteArray := prog_5_method_12_code
def y_Sm_stemBefore : MethodName := ⟨"WordChain$Stemmer", "stemBefore", "(LWordChain$Ending;)I"⟩
abbrev b_Sm_become : ByteArray := prog_5_method_13_code
def y_Sm_become : MethodName := ⟨"WordChain$Stemmer", "become", "(ILjava/lang/String;)V"⟩
abbrev b_Wo_append : ByteArray := prog_9_method_7_code
def y_Wo_append : MethodName := ⟨"WordChain$Word", "append", "(Ljava/lang/String;)V"⟩
abbrev b_Sm_step1b : ByteArray := prog_5_method_4_code
def y_Sm_step1b : MethodName := ⟨"WordChain$Stemmer", "step1b", "()V"⟩
abbrev b_Str_equals : ByteArray := prog_17_method_66_code
def y_Str_equals : MethodName := ⟨"java/lang/String", "equals", "(Ljava/lang/Object;)Z"⟩
abbrev b_Lat_equals : ByteArray := prog_18_method_13_code
def y_Lat_equals : MethodName := ⟨"java/lang/StringLatin1", "equals", "([B[B)Z"⟩
abbrev b_Sm_measure : ByteArray := prog_5_method_15_code
def y_Sm_measure : MethodName := ⟨"WordChain$Stemmer", "measure", "(I)I"⟩
abbrev b_Sm_hasVowel : ByteArray := prog_5_method_16_code
def y_Sm_hasVowel : MethodName := ⟨"WordChain$Stemmer", "hasVowel", "(I)Z"⟩
abbrev b_Sm_mendAfter1b : ByteArray := prog_5_method_5_code
def y_Sm_mendAfter1b : MethodName := ⟨"WordChain$Stemmer", "mendAfter1b", "()V"⟩
abbrev b_Sm_isDouble : ByteArray := prog_5_method_17_code
def y_Sm_isDouble : MethodName := ⟨"WordChain$Stemmer", "isDouble", "()Z"⟩
abbrev b_Sm_isCvc : ByteArray := prog_5_method_18_code
def y_Sm_isCvc : MethodName := ⟨"WordChain$Stemmer", "isCvc", "(I)Z"⟩
abbrev b_Sm_step1c : ByteArray := prog_5_method_6_code
def y_Sm_step1c : MethodName := ⟨"WordChain$Stemmer", "step1c", "()V"⟩
abbrev b_Sm_replaceIfAbove : ByteArray := prog_5_method_7_code
def y_Sm_replaceIfAbove : MethodName := ⟨"WordChain$Stemmer", "replaceIfAbove", "([LWordChain$Ending;I)V"⟩
abbrev b_Sm_step4 : ByteArray := prog_5_method_8_code
def y_Sm_step4 : MethodName := ⟨"WordChain$Stemmer", "step4", "()V"⟩
abbrev b_Sm_step5a : ByteArray := prog_5_method_9_code
def y_Sm_step5a : MethodName := ⟨"WordChain$Stemmer", "step5a", "()V"⟩
abbrev b_Sm_step5b : ByteArray := prog_5_method_10_code
def y_Sm_step5b : MethodName := ⟨"WordChain$Stemmer", "step5b", "()V"⟩
abbrev b_To_add : ByteArray := prog_7_method_3_code
def y_To_add : MethodName := ⟨"WordChain$Tokens", "add", "(LWordChain$Word;I)V"⟩
abbrev b_X_count : ByteArray := prog_1_method_9_code
def y_X_count : MethodName := ⟨"WordChain", "count", "(I)I"⟩
abbrev b_X_feed : ByteArray := prog_1_method_2_code
def y_X_feed : MethodName := ⟨"WordChain", "feed", "(IIIII)I"⟩
abbrev b_X_append : ByteArray := prog_1_method_10_code
def y_X_append : MethodName := ⟨"WordChain", "append", "(I)V"⟩
abbrev b_X_end : ByteArray := prog_1_method_3_code
def y_X_end : MethodName := ⟨"WordChain", "end", "(I)I"⟩
abbrev b_X_token : ByteArray := prog_1_method_5_code
def y_X_token : MethodName := ⟨"WordChain", "token", "(II)I"⟩
abbrev b_To_has : ByteArray := prog_7_method_4_code
def y_To_has : MethodName := ⟨"WordChain$Tokens", "has", "(I)Z"⟩
abbrev b_To_lengthOf : ByteArray := prog_7_method_5_code
def y_To_lengthOf : MethodName := ⟨"WordChain$Tokens", "lengthOf", "(I)I"⟩
abbrev b_X_character : ByteArray := prog_1_method_6_code
def y_X_character : MethodName := ⟨"WordChain", "character", "(II)I"⟩
abbrev b_X_first : ByteArray := prog_1_method_7_code
def y_X_first : MethodName := ⟨"WordChain", "first", "(I)I"⟩
abbrev b_To_firstLike : ByteArray := prog_7_method_6_code
def y_To_firstLike : MethodName := ⟨"WordChain$Tokens", "firstLike", "(I)I"⟩
abbrev b_To_areAlike : ByteArray := prog_7_method_7_code
def y_To_areAlike : MethodName := ⟨"WordChain$Tokens", "areAlike", "(II)Z"⟩
abbrev b_X_sort : ByteArray := prog_1_method_8_code
def y_X_sort : MethodName := ⟨"WordChain", "sort", "(I)I"⟩
abbrev b_M_init : ByteArray := prog_11_method_1_code
def y_M_init : MethodName := ⟨"WordChainModel", "<init>", "()V"⟩
abbrev b_M_thrown : ByteArray := prog_11_method_2_code
def y_M_thrown : MethodName := ⟨"WordChainModel", "thrown", "()I"⟩
abbrev b_M_feed : ByteArray := prog_11_method_23_code
def y_M_feed : MethodName := ⟨"WordChainModel", "feed", "(IIIII)I"⟩
abbrev b_M_end : ByteArray := prog_11_method_24_code
def y_M_end : MethodName := ⟨"WordChainModel", "end", "(I)I"⟩
abbrev b_M_cut_v : ByteArray := prog_11_method_25_code
def y_M_cut_v : MethodName := ⟨"WordChainModel", "cut", "()I"⟩
abbrev b_M_decode : ByteArray := prog_11_method_6_code
def y_M_decode : MethodName := ⟨"WordChainModel", "decode", "([BII)V"⟩
abbrev b_M_formed : ByteArray := prog_11_method_5_code
def y_M_formed : MethodName := ⟨"WordChainModel", "formed", "([BII)I"⟩
abbrev b_M_tail : ByteArray := prog_11_method_4_code
def y_M_tail : MethodName := ⟨"WordChainModel", "tail", "(I)Z"⟩
abbrev b_M_cut_aIII : ByteArray := prog_11_method_10_code
def y_M_cut_aIII : MethodName := ⟨"WordChainModel", "cut", "([III)V"⟩
abbrev b_M_sortOf : ByteArray := prog_11_method_7_code
def y_M_sortOf : MethodName := ⟨"WordChainModel", "sortOf", "(I)I"⟩
abbrev b_M_inWord : ByteArray := prog_11_method_8_code
def y_M_inWord : MethodName := ⟨"WordChainModel", "inWord", "(I)Z"⟩
abbrev b_M_further : ByteArray := prog_11_method_9_code
def y_M_further : MethodName := ⟨"WordChainModel", "further", "([III)I"⟩
abbrev b_M_token_aIII : ByteArray := prog_11_method_11_code
def y_M_token_aIII : MethodName := ⟨"WordChainModel", "token", "([III)V"⟩
abbrev b_M_lowered : ByteArray := prog_11_method_12_code
def y_M_lowered : MethodName := ⟨"WordChainModel", "lowered", "(I)I"⟩
abbrev b_M_is : ByteArray := prog_11_method_13_code
def y_M_is : MethodName := ⟨"WordChainModel", "is", "(Ljava/lang/String;)Z"⟩
abbrev b_M_ends : ByteArray := prog_11_method_14_code
def y_M_ends : MethodName := ⟨"WordChainModel", "ends", "(Ljava/lang/String;)Z"⟩
abbrev b_M_stem : ByteArray := prog_11_method_21_code
def y_M_stem : MethodName := ⟨"WordChainModel", "stem", "()V"⟩
abbrev b_M_stemOneB : ByteArray := prog_11_method_22_code
def y_M_stemOneB : MethodName := ⟨"WordChainModel", "stemOneB", "()V"⟩
abbrev b_M_measure : ByteArray := prog_11_method_16_code
def y_M_measure : MethodName := ⟨"WordChainModel", "measure", "(I)I"⟩
abbrev b_M_vowel : ByteArray := prog_11_method_15_code
def y_M_vowel : MethodName := ⟨"WordChainModel", "vowel", "(I)Z"⟩
abbrev b_M_anyVowel : ByteArray := prog_11_method_17_code
def y_M_anyVowel : MethodName := ⟨"WordChainModel", "anyVowel", "(I)Z"⟩
abbrev b_M_instead : ByteArray := prog_11_method_19_code
def y_M_instead : MethodName := ⟨"WordChainModel", "instead", "(ILjava/lang/String;)V"⟩
abbrev b_M_cvc : ByteArray := prog_11_method_18_code
def y_M_cvc : MethodName := ⟨"WordChainModel", "cvc", "(I)Z"⟩
abbrev b_M_longest : ByteArray := prog_11_method_20_code
def y_M_longest : MethodName := ⟨"WordChainModel", "longest", "([Ljava/lang/String;)I"⟩
abbrev b_M_token_II : ByteArray := prog_11_method_27_code
def y_M_token_II : MethodName := ⟨"WordChainModel", "token", "(II)I"⟩
abbrev b_M_there : ByteArray := prog_11_method_26_code
def y_M_there : MethodName := ⟨"WordChainModel", "there", "(I)Z"⟩
abbrev b_M_character : ByteArray := prog_11_method_28_code
def y_M_character : MethodName := ⟨"WordChainModel", "character", "(II)I"⟩
abbrev b_M_first : ByteArray := prog_11_method_30_code
def y_M_first : MethodName := ⟨"WordChainModel", "first", "(I)I"⟩
abbrev b_M_same : ByteArray := prog_11_method_29_code
def y_M_same : MethodName := ⟨"WordChainModel", "same", "(II)Z"⟩
abbrev b_M_sort : ByteArray := prog_11_method_31_code
def y_M_sort : MethodName := ⟨"WordChainModel", "sort", "(I)I"⟩
abbrev b_M_count : ByteArray := prog_11_method_32_code
def y_M_count : MethodName := ⟨"WordChainModel", "count", "(I)I"⟩
abbrev b_L_feed : ByteArray := method_3_code
def y_L_feed : MethodName := ⟨"WordChainLaw", "feed", "(LWordChain;IIIII[J)I"⟩
abbrev b_L_end : ByteArray := method_4_code
def y_L_end : MethodName := ⟨"WordChainLaw", "end", "(LWordChain;I[J)I"⟩
abbrev b_L_token : ByteArray := method_5_code
def y_L_token : MethodName := ⟨"WordChainLaw", "token", "(LWordChain;II[J)I"⟩
abbrev b_L_character : ByteArray := method_6_code
def y_L_character : MethodName := ⟨"WordChainLaw", "character", "(LWordChain;II[J)I"⟩
abbrev b_L_first : ByteArray := method_7_code
def y_L_first : MethodName := ⟨"WordChainLaw", "first", "(LWordChain;I[J)I"⟩
abbrev b_L_sort : ByteArray := method_8_code
def y_L_sort : MethodName := ⟨"WordChainLaw", "sort", "(LWordChain;I[J)I"⟩
end
section
/-! WHAT STAYS: strings, statics -/
abbrev sv_G : Type := va_G × (Nat → ClassId) × (Nat → Nat) × (Nat → Nat)
/-- the texts of the literals, as bytes; a literal has its own number, its place in sv_lits -/
def sv_lits : List (String × Nat × String × Nat) := [("WordChain$SilentWords", 13, "a an and are as at be but by for if in into is it no not of on or such that the their then there these they this to was will with ", 0), ("WordChain$Stemmer", 9, "sses", 1), ("WordChain$Stemmer", 11, "ss", 2), ("WordChain$Stemmer", 16, "ies", 3), ("WordChain$Stemmer", 18, "i", 4), ("WordChain$Stemmer", 20, "s", 5), ("WordChain$Stemmer", 22, "", 6), ("WordChain$Stemmer", 30, "eed", 7), ("WordChain$Stemmer", 32, "ee", 8), ("WordChain$Stemmer", 34, "ed", 9), ("WordChain$Stemmer", 36, "ing", 10), ("WordChain$Stemmer", 41, "ational", 11), ("WordChain$Stemmer", 43, "ate", 12), ("WordChain$Stemmer", 45, "tional", 13), ("WordChain$Stemmer", 47, "tion", 14), ("WordChain$Stemmer", 49, "enci", 15), ("WordChain$Stemmer", 51, "ence", 16), ("WordChain$Stemmer", 53, "anci", 17), ("WordChain$Stemmer", 55, "ance", 18), ("WordChain$Stemmer", 57, "izer", 19), ("WordChain$Stemmer", 59, "ize", 20), ("WordChain$Stemmer", 61, "abli", 21), ("WordChain$Stemmer", 63, "able", 22), ("WordChain$Stemmer", 65, "alli", 23), ("WordChain$Stemmer", 67, "al", 24), ("WordChain$Stemmer", 69, "entli", 25), ("WordChain$Stemmer", 71, "ent", 26), ("WordChain$Stemmer", 73, "eli", 27), ("WordChain$Stemmer", 75, "e", 28), ("WordChain$Stemmer", 77, "ousli", 29), ("WordChain$Stemmer", 79, "ous", 30), ("WordChain$Stemmer", 81, "ization", 31), ("WordChain$Stemmer", 83, "ation", 32), ("WordChain$Stemmer", 85, "ator", 33), ("WordChain$Stemmer", 87, "alism", 34), ("WordChain$Stemmer", 89, "iveness", 35), ("WordChain$Stemmer", 91, "ive", 36), ("WordChain$Stemmer", 93, "fulness", 37), ("WordChain$Stemmer", 95, "ful", 38), ("WordChain$Stemmer", 97, "ousness", 39), ("WordChain$Stemmer", 99, "aliti", 40), ("WordChain$Stemmer", 101, "iviti", 41), ("WordChain$Stemmer", 103, "biliti", 42), ("WordChain$Stemmer", 105, "ble", 43), ("WordChain$Stemmer", 110, "icate", 44), ("WordChain$Stemmer", 112, "ic", 45), ("WordChain$Stemmer", 114, "ative", 46), ("WordChain$Stemmer", 116, "alize", 47), ("WordChain$Stemmer", 118, "iciti", 48), ("WordChain$Stemmer", 120, "ical", 49), ("WordChain$Stemmer", 122, "ness", 50), ("WordChain$Stemmer", 127, "er", 51), ("WordChain$Stemmer", 129, "ible", 52), ("WordChain$Stemmer", 131, "ant", 53), ("WordChain$Stemmer", 133, "ement", 54), ("WordChain$Stemmer", 135, "ment", 55), ("WordChain$Stemmer", 137, "ion", 56), ("WordChain$Stemmer", 139, "ou", 57), ("WordChain$Stemmer", 141, "ism", 58), ("WordChain$Stemmer", 143, "iti", 59), ("WordChain$Stemmer", 230, "at", 60), ("WordChain$Stemmer", 236, "bl", 61), ("WordChain$Stemmer", 238, "iz", 62), ("WordChain$Stemmer", 243, "l", 63), ("WordChain$Stemmer", 245, "z", 64), ("WordChain$Stemmer", 250, "y", 65), ("WordChain$Stemmer", 252, "sion", 66), ("WordChain$Stemmer", 254, "ll", 67), ("WordChain", 52, "INPUT is full", 68), ("WordChain", 62, "as many bytes can't go", 69), ("WordChain", 96, "what is 0 or 1", 70), ("WordChain", 104, "no such TOKEN", 71), ("WordChain", 114, "no such CHARACTER", 72), ("WordChain", 126, "no CHARACTER", 73), ("WordChainModel", 9, "a", 74), ("WordChainModel", 11, "an", 75), ("WordChainModel", 13, "and", 76), ("WordChainModel", 15, "are", 77), ("WordChainModel", 17, "as", 78), ("WordChainModel", 19, "at", 79), ("WordChainModel", 21, "be", 80), ("WordChainModel", 23, "but", 81), ("WordChainModel", 25, "by", 82), ("WordChainModel", 27, "for", 83), ("WordChainModel", 29, "if", 84), ("WordChainModel", 31, "in", 85), ("WordChainModel", 33, "into", 86), ("WordChainModel", 35, "is", 87), ("WordChainModel", 37, "it", 88), ("WordChainModel", 39, "no", 89), ("WordChainModel", 41, "not", 90), ("WordChainModel", 43, "of", 91), ("WordChainModel", 45, "on", 92), ("WordChainModel", 47, "or", 93), ("WordChainModel", 49, "such", 94), ("WordChainModel", 51, "that", 95), ("WordChainModel", 53, "the", 96), ("WordChainModel", 55, "their", 97), ("WordChainModel", 57, "then", 98), ("WordChainModel", 59, "there", 99), ("WordChainModel", 61, "these", 100), ("WordChainModel", 63, "they", 101), ("WordChainModel", 65, "this", 102), ("WordChainModel", 67, "to", 103), ("WordChainModel", 69, "was", 104), ("WordChainModel", 71, "will", 105), ("WordChainModel", 73, "with", 106), ("WordChainModel", 81, "ational", 107), ("WordChainModel", 83, "ate", 108), ("WordChainModel", 85, "tional", 109), ("WordChainModel", 87, "tion", 110), ("WordChainModel", 89, "enci", 111), ("WordChainModel", 91, "ence", 112), ("WordChainModel", 93, "anci", 113), ("WordChainModel", 95, "ance", 114), ("WordChainModel", 97, "izer", 115), ("WordChainModel", 99, "ize", 116), ("WordChainModel", 101, "abli", 117), ("WordChainModel", 103, "able", 118), ("WordChainModel", 105, "alli", 119), ("WordChainModel", 107, "al", 120), ("WordChainModel", 109, "entli", 121), ("WordChainModel", 111, "ent", 122), ("WordChainModel", 113, "eli", 123), ("WordChainModel", 115, "e", 124), ("WordChainModel", 117, "ousli", 125), ("WordChainModel", 119, "ous", 126), ("WordChainModel", 121, "ization", 127), ("WordChainModel", 123, "ation", 128), ("WordChainModel", 125, "ator", 129), ("WordChainModel", 127, "alism", 130), ("WordChainModel", 129, "iveness", 131), ("WordChainModel", 131, "ive", 132), ("WordChainModel", 133, "fulness", 133), ("WordChainModel", 135, "ful", 134), ("WordChainModel", 137, "ousness", 135), ("WordChainModel", 139, "aliti", 136), ("WordChainModel", 141, "iviti", 137), ("WordChainModel", 143, "biliti", 138), ("WordChainModel", 145, "ble", 139), ("WordChainModel", 150, "icate", 140), ("WordChainModel", 152, "ic", 141), ("WordChainModel", 154, "ative", 142), ("WordChainModel", 156, "", 143), ("WordChainModel", 158, "alize", 144), ("WordChainModel", 160, "iciti", 145), ("WordChainModel", 162, "ical", 146), ("WordChainModel", 164, "ness", 147), ("WordChainModel", 169, "er", 148), ("WordChainModel", 171, "ible", 149), ("WordChainModel", 173, "ant", 150), ("WordChainModel", 175, "ement", 151), ("WordChainModel", 177, "ment", 152), ("WordChainModel", 179, "ou", 153), ("WordChainModel", 181, "ism", 154), ("WordChainModel", 183, "iti", 155), ("WordChainModel", 185, "ion", 156), ("WordChainModel", 280, "sses", 157), ("WordChainModel", 282, "ies", 158), ("WordChainModel", 284, "s", 159), ("WordChainModel", 286, "ss", 160), ("WordChainModel", 316, "eed", 161), ("WordChainModel", 318, "ed", 162), ("WordChainModel", 320, "ing", 163), ("WordChainModel", 322, "bl", 164), ("WordChainModel", 324, "iz", 165), ("WordChainModel", 291, "y", 166), ("WordChainModel", 314, "ll", 167)]
abbrev sv_nS : Nat := 168
def sv_txts : List (List Int32) := [[97, 32, 97, 110, 32, 97, 110, 100, 32, 97, 114, 101, 32, 97, 115, 32, 97, 116, 32, 98, 101, 32, 98, 117, 116, 32, 98, 121, 32, 102, 111, 114, 32, 105, 102, 32, 105, 110, 32, 105, 110, 116, 111, 32, 105, 115, 32, 105, 116, 32, 110, 111, 32, 110, 111, 116, 32, 111, 102, 32, 111, 110, 32, 111, 114, 32, 115, 117, 99, 104, 32, 116, 104, 97, 116, 32, 116, 104, 101, 32, 116, 104, 101, 105, 114, 32, 116, 104, 101, 110, 32, 116, 104, 101, 114, 101, 32, 116, 104, 101, 115, 101, 32, 116, 104, 101, 121, 32, 116, 104, 105, 115, 32, 116, 111, 32, 119, 97, 115, 32, 119, 105, 108, 108, 32, 119, 105, 116, 104, 32], [115, 115, 101, 115], [115, 115], [105, 101, 115], [105], [115], [], [101, 101, 100], [101, 101], [101, 100], [105, 110, 103], [97, 116, 105, 111, 110, 97, 108], [97, 116, 101], [116, 105, 111, 110, 97, 108], [116, 105, 111, 110], [101, 110, 99, 105], [101, 110, 99, 101], [97, 110, 99, 105], [97, 110, 99, 101], [105, 122, 101, 114], [105, 122, 101], [97, 98, 108, 105], [97, 98, 108, 101], [97, 108, 108, 105], [97, 108], [101, 110, 116, 108, 105], [101, 110, 116], [101, 108, 105], [101], [111, 117, 115, 108, 105], [111, 117, 115], [105, 122, 97, 116, 105, 111, 110], [97, 116, 105, 111, 110], [97, 116, 111, 114], [97, 108, 105, 115, 109], [105, 118, 101, 110, 101, 115, 115], [105, 118, 101], [102, 117, 108, 110, 101, 115, 115], [102, 117, 108], [111, 117, 115, 110, 101, 115, 115], [97, 108, 105, 116, 105], [105, 118, 105, 116, 105], [98, 105, 108, 105, 116, 105], [98, 108, 101], [105, 99, 97, 116, 101], [105, 99], [97, 116, 105, 118, 101], [97, 108, 105, 122, 101], [105, 99, 105, 116, 105], [105, 99, 97, 108], [110, 101, 115, 115], [101, 114], [105, 98, 108, 101], [97, 110, 116], [101, 109, 101, 110, 116], [109, 101, 110, 116], [105, 111, 110], [111, 117], [105, 115, 109], [105, 116, 105], [97, 116], [98, 108], [105, 122], [108], [122], [121], [115, 105, 111, 110], [108, 108], [73, 78, 80, 85, 84, 32, 105, 115, 32, 102, 117, 108, 108], [97, 115, 32, 109, 97, 110, 121, 32, 98, 121, 116, 101, 115, 32, 99, 97, 110, 39, 116, 32, 103, 111], [119, 104, 97, 116, 32, 105, 115, 32, 48, 32, 111, 114, 32, 49], [110, 111, 32, 115, 117, 99, 104, 32, 84, 79, 75, 69, 78], [110, 111, 32, 115, 117, 99, 104, 32, 67, 72, 65, 82, 65, 67, 84, 69, 82], [110, 111, 32, 67, 72, 65, 82, 65, 67, 84, 69, 82], [97], [97, 110], [97, 110, 100], [97, 114, 101], [97, 115], [97, 116], [98, 101], [98, 117, 116], [98, 121], [102, 111, 114], [105, 102], [105, 110], [105, 110, 116, 111], [105, 115], [105, 116], [110, 111], [110, 111, 116], [111, 102], [111, 110], [111, 114], [115, 117, 99, 104], [116, 104, 97, 116], [116, 104, 101], [116, 104, 101, 105, 114], [116, 104, 101, 110], [116, 104, 101, 114, 101], [116, 104, 101, 115, 101], [116, 104, 101, 121], [116, 104, 105, 115], [116, 111], [119, 97, 115], [119, 105, 108, 108], [119, 105, 116, 104], [97, 116, 105, 111, 110, 97, 108], [97, 116, 101], [116, 105, 111, 110, 97, 108], [116, 105, 111, 110], [101, 110, 99, 105], [101, 110, 99, 101], [97, 110, 99, 105], [97, 110, 99, 101], [105, 122, 101, 114], [105, 122, 101], [97, 98, 108, 105], [97, 98, 108, 101], [97, 108, 108, 105], [97, 108], [101, 110, 116, 108, 105], [101, 110, 116], [101, 108, 105], [101], [111, 117, 115, 108, 105], [111, 117, 115], [105, 122, 97, 116, 105, 111, 110], [97, 116, 105, 111, 110], [97, 116, 111, 114], [97, 108, 105, 115, 109], [105, 118, 101, 110, 101, 115, 115], [105, 118, 101], [102, 117, 108, 110, 101, 115, 115], [102, 117, 108], [111, 117, 115, 110, 101, 115, 115], [97, 108, 105, 116, 105], [105, 118, 105, 116, 105], [98, 105, 108, 105, 116, 105], [98, 108, 101], [105, 99, 97, 116, 101], [105, 99], [97, 116, 105, 118, 101], [], [97, 108, 105, 122, 101], [105, 99, 105, 116, 105], [105, 99, 97, 108], [110, 101, 115, 115], [101, 114], [105, 98, 108, 101], [97, 110, 116], [101, 109, 101, 110, 116], [109, 101, 110, 116], [111, 117], [105, 115, 109], [105, 116, 105], [105, 111, 110], [115, 115, 101, 115], [105, 101, 115], [115], [115, 115], [101, 101, 100], [101, 100], [105, 110, 103], [98, 108], [105, 122], [121], [108, 108]]
def sv_txt (i : Nat) : List Int32 := sv_txts.getD i []
def sv_S1 (byt : List Int32) (aK aV : Nat) (A : Nat → Prop) (U : State) (H : Heap) : Prop := va_O "java/lang/String" aK A U H ∧ va_OF "java/lang/String" "coder" "B" (.int 0) aK A U H ∧ va_OF "java/lang/String" "value" "[B" (.ref aV) aK A U H ∧ va_T .byte aV byt.length (fun j => .int (byt.getD j 0)) A U H
def sv_Str (g : sv_G) (A : Nat → Prop) (U : State) (H : Heap) : Prop := (∀ i, i < sv_nS → sv_S1 (sv_txt i) (g.2.2.1 i) (g.2.2.2 i) A U H) ∧ (∀ q ∈ sv_lits, vk_R q.1 q.2.1 q.2.2.1 (g.2.2.1 q.2.2.2) U) ∧ va_Z "java/lang/String" "COMPACT_STRINGS" "Z" (.int 1) A U H ∧ va_AO "WordChain$Ending" U ∧ va_AO "java/lang/String" U ∧ ∃ v : Value, va_Z "jdk/internal/util/Preconditions" "SIOOBE_FORMATTER" "Ljava/util/function/BiFunction;" v A U H
theorem sv_S1.to {byt : List Int32} {aK aV : Nat} {A B : Nat → Prop} {s U : State} {H : Heap} (h : sv_S1 byt aK aV A s s.heap) (hq : ∀ a : Nat, a < s.heap.size → ¬ A a → H[a]? = s.heap[a]?) (hAB : ∀ q, B q → A q) (hvm : s.vm.Alike U.vm) : sv_S1 byt aK aV B U H :=
  ⟨va_O.moved hvm ((h.1.kept hq).narrow hAB), va_OF.moved hvm ((h.2.1.kept hq).narrow hAB), va_OF.moved hvm ((h.2.2.1.kept hq).narrow hAB), va_T.moved hvm ((h.2.2.2.kept hq).narrow hAB)⟩
theorem sv_Str.call {g : sv_G} {A B : Nat → Prop} {s U : State} {H : Heap} {locs : List Loc} (h : sv_Str g A s s.heap) (hS : va_S A s.heap H locs) (hAB : ∀ q, B q → A q) (hU : U.heap = H) (hW : s.WarmedH U.vm) : sv_Str g B U U.heap := by
  subst hU
  obtain ⟨h1, h2, h3, h5, h6, v, h4⟩ := h
  exact ⟨fun i hi => (h1 i hi).to hS.2.1 hAB hW.alike, fun q hq => (h2 q hq).warm hW, va_Z.moved hW.alike ((h3.kept hS.2.1).narrow hAB), va_AO.moved hW.alike h5, va_AO.moved hW.alike h6, v, va_Z.moved hW.alike ((h4.kept hS.2.1).narrow hAB)⟩
theorem sv_Str.same {g : sv_G} {A : Nat → Prop} {u U : State} {H : Heap} (hv : U.vm = u.vm) (h : sv_Str g A u H) : sv_Str g A U H := by
  have ha : u.vm.Alike U.vm := by rw [hv]; exact Vm.Alike.refl _
  obtain ⟨h1, h2, h3, h5, h6, v, h4⟩ := h
  exact ⟨fun i hi => ⟨va_O.moved ha (h1 i hi).1, va_OF.moved ha (h1 i hi).2.1, va_OF.moved ha (h1 i hi).2.2.1, va_T.moved ha (h1 i hi).2.2.2⟩, fun q hq => (h2 q hq).same hv, va_Z.moved ha h3, va_AO.moved ha h5, va_AO.moved ha h6, v, va_Z.moved ha h4⟩
end
section
/-! OUR LAYER: a walk over the whole world as a list (sv_V), its fixed things (sv_C), contracts over whole worlds -/
def sv_tys (g : sv_G) : List (ClassId × FieldType) := [(g.2.1 0, .int), (g.2.1 1, .byte), (g.2.1 2, .boolean), (g.2.1 3, .long), (g.2.1 4, .object "WordChain$Ending"), (g.2.1 5, .object "java/lang/String")]
def sv_good (w : Cond) : Bool := (w.onTables && w.keeps) || (match w with | .arrayClass _ => true | _ => false)
def sv_tbl : List Cond := lw_tbl.filter sv_good
theorem sv_tbl_good (w : Cond) (h : w ∈ sv_tbl) : (w.onTables && w.keeps) = true ∨ ∃ ty, w = .arrayClass ty := by
  have h2 := (List.mem_filter.mp h).2
  unfold sv_good at h2
  rcases (Bool.or_eq_true _ _).mp h2 with h3 | h3
  · exact Or.inl h3
  · refine Or.inr ?_
    revert h3
    cases w <;> intro h3 <;> first | exact ⟨_, rfl⟩ | cases h3
theorem sv_in {w : Cond} (h : w ∈ lw_tbl) (hg : sv_good w = true) : w ∈ sv_tbl := List.mem_filter.mpr ⟨h, hg⟩
theorem sv_at {w : Cond} (i : Nat) (h : lw_tbl[i]? = some w) (hg : sv_good w = true) : w ∈ sv_tbl := sv_in (List.mem_of_getElem? h) hg
/-- the locals, by their numbers; all of one slot -/
def sv_L (ls : Array Slot) (nL : Nat) (lv : List (Option Value)) : Prop := ls.size = nL ∧ lv_wf ls ∧ ∀ (i : Nat) (v : Value), lv[i]? = some (some v) → ls[i]? = some (.val v) ∧ v.category = 1
def sv_pairs (lv : List (Option Value)) : List (Nat × Value) := lv.zipIdx.filterMap (fun q => q.1.map (fun v => (q.2, v)))
theorem sv_pairs_mem {lv : List (Option Value)} {i : Nat} {v : Value} : (i, v) ∈ sv_pairs lv ↔ lv[i]? = some (some v) := by
  unfold sv_pairs
  rw [List.mem_filterMap]
  constructor
  · rintro ⟨⟨o, j⟩, h1, h2⟩
    have h3 := List.mem_zipIdx_iff_getElem?.mp h1
    cases o with
    | none => cases h2
    | some w =>
      cases h2
      exact h3
  · intro h
    exact ⟨(some v, i), List.mem_zipIdx_iff_getElem?.mpr h, rfl⟩
theorem sv_L.has {ls : Array Slot} {nL : Nat} {lv : List (Option Value)} (h : sv_L ls nL lv) : lv_has ls nL (sv_pairs lv) := ⟨h.1, h.2.1, fun q hq => (h.2.2 q.1 q.2 (sv_pairs_mem.mp hq)).1⟩
theorem sv_L.get {ls : Array Slot} {nL : Nat} {lv : List (Option Value)} (h : sv_L ls nL lv) {i : Nat} {v : Value} (hv : lv[i]? = some (some v)) : ls[i]? = some (.val v) := (h.2.2 i v hv).1
theorem sv_L.lt {ls : Array Slot} {nL : Nat} {lv : List (Option Value)} (h : sv_L ls nL lv) {i : Nat} {v : Value} (hv : lv[i]? = some (some v)) : i < nL := by
  have h2 := lv_lt (h.get hv)
  rw [h.1] at h2
  exact h2
theorem sv_L.stored {ls ls' : Array Slot} {nL : Nat} {lv : List (Option Value)} (h : sv_L ls nL lv) {i : Nat} {v : Value} (hc : v.category = 1) (h' : lv_has ls' nL ((i, v) :: (sv_pairs lv).filter (fun q => !(q.1 == i) && !(q.1 + 1 == i && q.2.category == 2)))) : sv_L ls' nL (lv.set i (some v)) := by
  refine ⟨h'.1, h'.2.1, fun j w hj => ?_⟩
  by_cases hji : i = j
  · subst hji
    have hl : i < lv.length := by
      rcases Nat.lt_or_ge i lv.length with q | q
      · exact q
      · rw [List.getElem?_eq_none (by rw [List.length_set]; exact q)] at hj; cases hj
    rw [List.getElem?_set_self hl] at hj
    cases hj
    exact ⟨h'.2.2 (i, v) List.mem_cons_self, hc⟩
  · rw [List.getElem?_set_ne hji] at hj
    have h1 := h.2.2 j w hj
    refine ⟨h'.2.2 (j, w) (List.mem_cons_of_mem _ (List.mem_filter.mpr ⟨sv_pairs_mem.mpr hj, ?_⟩)), h1.2⟩
    have a1 : (j == i) = false := by simpa using fun q => hji q.symm
    have a2 : (w.category == 2) = false := by rw [h1.2]; rfl
    simp [a1, a2]
theorem sv_L.sub {ls : Array Slot} {nL : Nat} {lv lv' : List (Option Value)} (h : sv_L ls nL lv) (hs : ∀ (i : Nat) (v : Value), lv'[i]? = some (some v) → lv[i]? = some (some v)) : sv_L ls nL lv' := ⟨h.1, h.2.1, fun i v hv => h.2.2 i v (hs i v hv)⟩
abbrev sv_X : Type := (Program × Launch × Env × Room) × (State × MethodId × Array Value × List Frame) × (Method × Code × (State → Prop)) × sv_G × (Nat → Prop)
/-- from pc, with these cells, locals and stack, the walk comes to its end; k cells of n slots are made so far -/
def sv_V (X : sv_X) (nL k n : Nat) (ws : va_W) (pc : Nat) (lv : List (Option Value)) (st : List Value) : Prop := match X with
  | ((p, l, e, R), (s, m, args, below), (meth, c, Q), g, A) => ∀ (H : Heap) (locs : List Loc) (ls : Array Slot), va_P g.1 classes ws H → va_D A ws → va_S A s.heap H locs → sv_L ls nL lv → W p l e R s m args below meth c H locs k n Q (F0 m pc ls st)
/-- what is fixed in a walk -/
def sv_C (X : sv_X) (l' : Launch) (cc : ByteArray) (nL : Nat) (own : String) (rm : Room) (g' : sv_G) : Prop := match X with
  | ((p, l, e, R), (s, m, args, below), (meth, c, Q), g, A) => l' = l ∧ g' = g ∧ rm = R ∧ p.tables.exec = Jvm.exec ∧ c.code = cc ∧ c.maxLocals = nL ∧ s.vm.findClass own = some m.cls ∧ (∀ w ∈ sv_tbl, w.before args s = true) ∧ va_K g.1 classes (sv_tys g) s ∧ (∀ q : Nat, s.heap.size ≤ q → A q) ∧ sv_Str g A s s.heap ∧ (meth.name = "<init>" ∨ True)

def sv_isInit (X : sv_X) : Prop := match X with
  | ((p, l, e, R), (s, m, args, below), (meth, c, Q), g, A) => meth.name = "<init>"
end
section
section SVR
variable {X : sv_X} {l : Launch} {cc : ByteArray} {nL k n pc : Nat} {own : String} {rm : Room} {g : sv_G} {ws : va_W} {lv : List (Option Value)} {st : List Value}
theorem sv_iconst (C : sv_C X l cc nL own rm g) {n0 : Int} {v : Int32} (hv : Int32.ofInt n0 = v) (hd : decode cc pc = .ok (.iconst n0, 1)) (z : sv_V X nL k n ws (pc + 1) lv (.int v :: st)) : sv_V X nL k n ws pc lv st := by
  obtain ⟨⟨p, l0, e, R⟩, ⟨s, m, args, below⟩, ⟨meth, c, Q⟩, g0, A⟩ := X
  obtain ⟨rfl, rfl, rfl, hx, hb, hml, hown, hts, hK, hA, hZ, hin⟩ := C
  intro H locs ls hP hD hS hl
  exact lv_iconst hx hb hd hv (z H locs ls hP hD hS hl)
theorem sv_bipush (C : sv_C X l cc nL own rm g) {n0 : Int} {v : Int32} (hv : (Int8.ofInt n0).toInt32 = v) (hd : decode cc pc = .ok (.bipush n0, 2)) (z : sv_V X nL k n ws (pc + 2) lv (.int v :: st)) : sv_V X nL k n ws pc lv st := by
  obtain ⟨⟨p, l0, e, R⟩, ⟨s, m, args, below⟩, ⟨meth, c, Q⟩, g0, A⟩ := X
  obtain ⟨rfl, rfl, rfl, hx, hb, hml, hown, hts, hK, hA, hZ, hin⟩ := C
  intro H locs ls hP hD hS hl
  exact lv_bipush hx hb hd hv (z H locs ls hP hD hS hl)
theorem sv_sipush (C : sv_C X l cc nL own rm g) {n0 : Int} {v : Int32} (hv : (Int16.ofInt n0).toInt32 = v) (hd : decode cc pc = .ok (.sipush n0, 3)) (z : sv_V X nL k n ws (pc + 3) lv (.int v :: st)) : sv_V X nL k n ws pc lv st := by
  obtain ⟨⟨p, l0, e, R⟩, ⟨s, m, args, below⟩, ⟨meth, c, Q⟩, g0, A⟩ := X
  obtain ⟨rfl, rfl, rfl, hx, hb, hml, hown, hts, hK, hA, hZ, hin⟩ := C
  intro H locs ls hP hD hS hl
  exact lv_sipush hx hb hd hv (z H locs ls hP hD hS hl)
theorem sv_ldc (C : sv_C X l cc nL own rm g) {ix : Nat} {v : Int32} (hc : Cond.constant own ix v ∈ sv_tbl) (hd : decode cc pc = .ok (.ldc ix, 2)) (z : sv_V X nL k n ws (pc + 2) lv (.int v :: st)) : sv_V X nL k n ws pc lv st := by
  obtain ⟨⟨p, l0, e, R⟩, ⟨s, m, args, below⟩, ⟨meth, c, Q⟩, g0, A⟩ := X
  obtain ⟨rfl, rfl, rfl, hx, hb, hml, hown, hts, hK, hA, hZ, hin⟩ := C
  intro H locs ls hP hD hS hl
  exact lv_ldc hx hb hown (hts _ hc) hd (z H locs ls hP hD hS hl)
theorem sv_lconst (C : sv_C X l cc nL own rm g) {n0 : Fin 2} {v : Int64} (hv : Int64.ofNat (n0 : Nat) = v) (hd : decode cc pc = .ok (.lconst n0, 1)) (z : sv_V X nL k n ws (pc + 1) lv (.long v :: st)) : sv_V X nL k n ws pc lv st := by
  obtain ⟨⟨p, l0, e, R⟩, ⟨s, m, args, below⟩, ⟨meth, c, Q⟩, g0, A⟩ := X
  obtain ⟨rfl, rfl, rfl, hx, hb, hml, hown, hts, hK, hA, hZ, hin⟩ := C
  intro H locs ls hP hD hS hl
  exact lv_lconst hx hb hd hv (z H locs ls hP hD hS hl)
theorem sv_null (C : sv_C X l cc nL own rm g)  (hd : decode cc pc = .ok (.aconst_null, 1)) (z : sv_V X nL k n ws (pc + 1) lv (.null :: st)) : sv_V X nL k n ws pc lv st := by
  obtain ⟨⟨p, l0, e, R⟩, ⟨s, m, args, below⟩, ⟨meth, c, Q⟩, g0, A⟩ := X
  obtain ⟨rfl, rfl, rfl, hx, hb, hml, hown, hts, hK, hA, hZ, hin⟩ := C
  intro H locs ls hP hD hS hl
  exact lv_null hx hb hd (z H locs ls hP hD hS hl)
theorem sv_iload_n (C : sv_C X l cc nL own rm g) {k0 : Fin 4} {i : Nat} {x : Int32} (hi : (k0 : Nat) = i) (hv : lv[i]? = some (some (.int x))) (hd : decode cc pc = .ok (.iload_n k0, 1)) (z : sv_V X nL k n ws (pc + 1) lv (.int x :: st)) : sv_V X nL k n ws pc lv st := by
  obtain ⟨⟨p, l0, e, R⟩, ⟨s, m, args, below⟩, ⟨meth, c, Q⟩, g0, A⟩ := X
  obtain ⟨rfl, rfl, rfl, hx, hb, hml, hown, hts, hK, hA, hZ, hin⟩ := C
  intro H locs ls hP hD hS hl
  exact lv_iload_n hx hb hd hi (hl.get hv) (z H locs ls hP hD hS hl)
theorem sv_iload (C : sv_C X l cc nL own rm g) {i : Nat} {x : Int32} (hv : lv[i]? = some (some (.int x))) (hd : decode cc pc = .ok (.iload i, 2)) (z : sv_V X nL k n ws (pc + 2) lv (.int x :: st)) : sv_V X nL k n ws pc lv st := by
  obtain ⟨⟨p, l0, e, R⟩, ⟨s, m, args, below⟩, ⟨meth, c, Q⟩, g0, A⟩ := X
  obtain ⟨rfl, rfl, rfl, hx, hb, hml, hown, hts, hK, hA, hZ, hin⟩ := C
  intro H locs ls hP hD hS hl
  exact lv_iload hx hb hd (hl.get hv) (z H locs ls hP hD hS hl)
theorem sv_aload_n (C : sv_C X l cc nL own rm g) {k0 : Fin 4} {i : Nat} {x : Nat} (hi : (k0 : Nat) = i) (hv : lv[i]? = some (some (.ref x))) (hd : decode cc pc = .ok (.aload_n k0, 1)) (z : sv_V X nL k n ws (pc + 1) lv (.ref x :: st)) : sv_V X nL k n ws pc lv st := by
  obtain ⟨⟨p, l0, e, R⟩, ⟨s, m, args, below⟩, ⟨meth, c, Q⟩, g0, A⟩ := X
  obtain ⟨rfl, rfl, rfl, hx, hb, hml, hown, hts, hK, hA, hZ, hin⟩ := C
  intro H locs ls hP hD hS hl
  exact lv_aload_n hx hb hd hi (hl.get hv) (z H locs ls hP hD hS hl)
theorem sv_aload (C : sv_C X l cc nL own rm g) {i : Nat} {x : Nat} (hv : lv[i]? = some (some (.ref x))) (hd : decode cc pc = .ok (.aload i, 2)) (z : sv_V X nL k n ws (pc + 2) lv (.ref x :: st)) : sv_V X nL k n ws pc lv st := by
  obtain ⟨⟨p, l0, e, R⟩, ⟨s, m, args, below⟩, ⟨meth, c, Q⟩, g0, A⟩ := X
  obtain ⟨rfl, rfl, rfl, hx, hb, hml, hown, hts, hK, hA, hZ, hin⟩ := C
  intro H locs ls hP hD hS hl
  exact lv_aload hx hb hd (hl.get hv) (z H locs ls hP hD hS hl)
theorem sv_aload_nN (C : sv_C X l cc nL own rm g) {k0 : Fin 4} {i : Nat} (hi : (k0 : Nat) = i) (hv : lv[i]? = some (some .null)) (hd : decode cc pc = .ok (.aload_n k0, 1)) (z : sv_V X nL k n ws (pc + 1) lv (.null :: st)) : sv_V X nL k n ws pc lv st := by
  obtain ⟨⟨p, l0, e, R⟩, ⟨s, m, args, below⟩, ⟨meth, c, Q⟩, g0, A⟩ := X
  obtain ⟨rfl, rfl, rfl, hx, hb, hml, hown, hts, hK, hA, hZ, hin⟩ := C
  intro H locs ls hP hD hS hl
  exact lv_aload_nN hx hb hd hi (hl.get hv) (z H locs ls hP hD hS hl)
theorem sv_aloadN (C : sv_C X l cc nL own rm g) {i : Nat} (hv : lv[i]? = some (some .null)) (hd : decode cc pc = .ok (.aload i, 2)) (z : sv_V X nL k n ws (pc + 2) lv (.null :: st)) : sv_V X nL k n ws pc lv st := by
  obtain ⟨⟨p, l0, e, R⟩, ⟨s, m, args, below⟩, ⟨meth, c, Q⟩, g0, A⟩ := X
  obtain ⟨rfl, rfl, rfl, hx, hb, hml, hown, hts, hK, hA, hZ, hin⟩ := C
  intro H locs ls hP hD hS hl
  exact lv_aloadN hx hb hd (hl.get hv) (z H locs ls hP hD hS hl)
theorem sv_istore_n (C : sv_C X l cc nL own rm g) {k0 : Fin 4} {i : Nat} {x : Int32} (hi : (k0 : Nat) = i) (hn : i < nL) (lv' : List (Option Value)) (hlv : lv.set i (some (.int x)) = lv') (hd : decode cc pc = .ok (.istore_n k0, 1)) (z : sv_V X nL k n ws (pc + 1) lv' st) : sv_V X nL k n ws pc lv (.int x :: st) := by
  obtain ⟨⟨p, l0, e, R⟩, ⟨s, m, args, below⟩, ⟨meth, c, Q⟩, g0, A⟩ := X
  obtain ⟨rfl, rfl, rfl, hx, hb, hml, hown, hts, hK, hA, hZ, hin⟩ := C
  intro H locs ls hP hD hS hl
  exact lv_istore_n hx hb hd hi hl.has hn rfl (fun ls2 hl2 => z H locs ls2 hP hD hS (by have h3 := hl.stored rfl hl2; rw [hlv] at h3; exact h3))
theorem sv_istore (C : sv_C X l cc nL own rm g) {i : Nat} {x : Int32} (hn : i < nL) (lv' : List (Option Value)) (hlv : lv.set i (some (.int x)) = lv') (hd : decode cc pc = .ok (.istore i, 2)) (z : sv_V X nL k n ws (pc + 2) lv' st) : sv_V X nL k n ws pc lv (.int x :: st) := by
  obtain ⟨⟨p, l0, e, R⟩, ⟨s, m, args, below⟩, ⟨meth, c, Q⟩, g0, A⟩ := X
  obtain ⟨rfl, rfl, rfl, hx, hb, hml, hown, hts, hK, hA, hZ, hin⟩ := C
  intro H locs ls hP hD hS hl
  exact lv_istore hx hb hd hl.has hn rfl (fun ls2 hl2 => z H locs ls2 hP hD hS (by have h3 := hl.stored rfl hl2; rw [hlv] at h3; exact h3))
theorem sv_astore_n (C : sv_C X l cc nL own rm g) {k0 : Fin 4} {i : Nat} {x : Nat} (hi : (k0 : Nat) = i) (hn : i < nL) (lv' : List (Option Value)) (hlv : lv.set i (some (.ref x)) = lv') (hd : decode cc pc = .ok (.astore_n k0, 1)) (z : sv_V X nL k n ws (pc + 1) lv' st) : sv_V X nL k n ws pc lv (.ref x :: st) := by
  obtain ⟨⟨p, l0, e, R⟩, ⟨s, m, args, below⟩, ⟨meth, c, Q⟩, g0, A⟩ := X
  obtain ⟨rfl, rfl, rfl, hx, hb, hml, hown, hts, hK, hA, hZ, hin⟩ := C
  intro H locs ls hP hD hS hl
  exact lv_astore_n hx hb hd hi hl.has hn rfl (fun ls2 hl2 => z H locs ls2 hP hD hS (by have h3 := hl.stored rfl hl2; rw [hlv] at h3; exact h3))
theorem sv_astore (C : sv_C X l cc nL own rm g) {i : Nat} {x : Nat} (hn : i < nL) (lv' : List (Option Value)) (hlv : lv.set i (some (.ref x)) = lv') (hd : decode cc pc = .ok (.astore i, 2)) (z : sv_V X nL k n ws (pc + 2) lv' st) : sv_V X nL k n ws pc lv (.ref x :: st) := by
  obtain ⟨⟨p, l0, e, R⟩, ⟨s, m, args, below⟩, ⟨meth, c, Q⟩, g0, A⟩ := X
  obtain ⟨rfl, rfl, rfl, hx, hb, hml, hown, hts, hK, hA, hZ, hin⟩ := C
  intro H locs ls hP hD hS hl
  exact lv_astore hx hb hd hl.has hn rfl (fun ls2 hl2 => z H locs ls2 hP hD hS (by have h3 := hl.stored rfl hl2; rw [hlv] at h3; exact h3))
theorem sv_astore_nN (C : sv_C X l cc nL own rm g) {k0 : Fin 4} {i : Nat}  (hi : (k0 : Nat) = i) (hn : i < nL) (lv' : List (Option Value)) (hlv : lv.set i (some (.null)) = lv') (hd : decode cc pc = .ok (.astore_n k0, 1)) (z : sv_V X nL k n ws (pc + 1) lv' st) : sv_V X nL k n ws pc lv (.null :: st) := by
  obtain ⟨⟨p, l0, e, R⟩, ⟨s, m, args, below⟩, ⟨meth, c, Q⟩, g0, A⟩ := X
  obtain ⟨rfl, rfl, rfl, hx, hb, hml, hown, hts, hK, hA, hZ, hin⟩ := C
  intro H locs ls hP hD hS hl
  exact lv_astore_nN hx hb hd hi hl.has hn rfl (fun ls2 hl2 => z H locs ls2 hP hD hS (by have h3 := hl.stored rfl hl2; rw [hlv] at h3; exact h3))
theorem sv_astoreN (C : sv_C X l cc nL own rm g) {i : Nat}  (hn : i < nL) (lv' : List (Option Value)) (hlv : lv.set i (some (.null)) = lv') (hd : decode cc pc = .ok (.astore i, 2)) (z : sv_V X nL k n ws (pc + 2) lv' st) : sv_V X nL k n ws pc lv (.null :: st) := by
  obtain ⟨⟨p, l0, e, R⟩, ⟨s, m, args, below⟩, ⟨meth, c, Q⟩, g0, A⟩ := X
  obtain ⟨rfl, rfl, rfl, hx, hb, hml, hown, hts, hK, hA, hZ, hin⟩ := C
  intro H locs ls hP hD hS hl
  exact lv_astoreN hx hb hd hl.has hn rfl (fun ls2 hl2 => z H locs ls2 hP hD hS (by have h3 := hl.stored rfl hl2; rw [hlv] at h3; exact h3))
theorem sv_iinc (C : sv_C X l cc nL own rm g) {i : Nat} {n0 : Int} {x v : Int32} (hx0 : lv[i]? = some (some (.int x))) (hv : x + Int32.ofInt n0 = v) (lv' : List (Option Value)) (hlv : lv.set i (some (.int v)) = lv') (hd : decode cc pc = .ok (.iinc i n0, 3)) (z : sv_V X nL k n ws (pc + 3) lv' st) : sv_V X nL k n ws pc lv st := by
  obtain ⟨⟨p, l0, e, R⟩, ⟨s, m, args, below⟩, ⟨meth, c, Q⟩, g0, A⟩ := X
  obtain ⟨rfl, rfl, rfl, hx, hb, hml, hown, hts, hK, hA, hZ, hin⟩ := C
  intro H locs ls hP hD hS hl
  obtain ⟨kq, hkq⟩ := List.getElem?_of_mem (sv_pairs_mem.mpr hx0)
  exact lv_iinc hx hb hd hl.has hkq hv (hl.lt hx0) rfl (fun ls2 hl2 => z H locs ls2 hP hD hS (by have h3 := hl.stored rfl hl2; rw [hlv] at h3; exact h3))
theorem sv_iadd (C : sv_C X l cc nL own rm g) {x y : Int32} (hd : decode cc pc = .ok (.iadd, 1)) (z : sv_V X nL k n ws (pc + 1) lv (.int (x + y) :: st)) : sv_V X nL k n ws pc lv (.int y :: .int x :: st) := by
  obtain ⟨⟨p, l0, e, R⟩, ⟨s, m, args, below⟩, ⟨meth, c, Q⟩, g0, A⟩ := X
  obtain ⟨rfl, rfl, rfl, hx, hb, hml, hown, hts, hK, hA, hZ, hin⟩ := C
  intro H locs ls hP hD hS hl
  exact lv_iadd hx hb hd (z H locs ls hP hD hS hl)
theorem sv_isub (C : sv_C X l cc nL own rm g) {x y : Int32} (hd : decode cc pc = .ok (.isub, 1)) (z : sv_V X nL k n ws (pc + 1) lv (.int (x - y) :: st)) : sv_V X nL k n ws pc lv (.int y :: .int x :: st) := by
  obtain ⟨⟨p, l0, e, R⟩, ⟨s, m, args, below⟩, ⟨meth, c, Q⟩, g0, A⟩ := X
  obtain ⟨rfl, rfl, rfl, hx, hb, hml, hown, hts, hK, hA, hZ, hin⟩ := C
  intro H locs ls hP hD hS hl
  exact lv_isub hx hb hd (z H locs ls hP hD hS hl)
theorem sv_imul (C : sv_C X l cc nL own rm g) {x y : Int32} (hd : decode cc pc = .ok (.imul, 1)) (z : sv_V X nL k n ws (pc + 1) lv (.int (x * y) :: st)) : sv_V X nL k n ws pc lv (.int y :: .int x :: st) := by
  obtain ⟨⟨p, l0, e, R⟩, ⟨s, m, args, below⟩, ⟨meth, c, Q⟩, g0, A⟩ := X
  obtain ⟨rfl, rfl, rfl, hx, hb, hml, hown, hts, hK, hA, hZ, hin⟩ := C
  intro H locs ls hP hD hS hl
  exact lv_imul hx hb hd (z H locs ls hP hD hS hl)
theorem sv_iand (C : sv_C X l cc nL own rm g) {x y : Int32} (hd : decode cc pc = .ok (.iand, 1)) (z : sv_V X nL k n ws (pc + 1) lv (.int (x &&& y) :: st)) : sv_V X nL k n ws pc lv (.int y :: .int x :: st) := by
  obtain ⟨⟨p, l0, e, R⟩, ⟨s, m, args, below⟩, ⟨meth, c, Q⟩, g0, A⟩ := X
  obtain ⟨rfl, rfl, rfl, hx, hb, hml, hown, hts, hK, hA, hZ, hin⟩ := C
  intro H locs ls hP hD hS hl
  exact lv_iand hx hb hd (z H locs ls hP hD hS hl)
theorem sv_ior (C : sv_C X l cc nL own rm g) {x y : Int32} (hd : decode cc pc = .ok (.ior, 1)) (z : sv_V X nL k n ws (pc + 1) lv (.int (x ||| y) :: st)) : sv_V X nL k n ws pc lv (.int y :: .int x :: st) := by
  obtain ⟨⟨p, l0, e, R⟩, ⟨s, m, args, below⟩, ⟨meth, c, Q⟩, g0, A⟩ := X
  obtain ⟨rfl, rfl, rfl, hx, hb, hml, hown, hts, hK, hA, hZ, hin⟩ := C
  intro H locs ls hP hD hS hl
  exact lv_ior hx hb hd (z H locs ls hP hD hS hl)
theorem sv_ishl (C : sv_C X l cc nL own rm g) {x y : Int32} (hd : decode cc pc = .ok (.ishl, 1)) (z : sv_V X nL k n ws (pc + 1) lv (.int (x <<< (y &&& 31)) :: st)) : sv_V X nL k n ws pc lv (.int y :: .int x :: st) := by
  obtain ⟨⟨p, l0, e, R⟩, ⟨s, m, args, below⟩, ⟨meth, c, Q⟩, g0, A⟩ := X
  obtain ⟨rfl, rfl, rfl, hx, hb, hml, hown, hts, hK, hA, hZ, hin⟩ := C
  intro H locs ls hP hD hS hl
  exact lv_ishl hx hb hd (z H locs ls hP hD hS hl)
theorem sv_ishr (C : sv_C X l cc nL own rm g) {x y : Int32} (hd : decode cc pc = .ok (.ishr, 1)) (z : sv_V X nL k n ws (pc + 1) lv (.int (x >>> (y &&& 31)) :: st)) : sv_V X nL k n ws pc lv (.int y :: .int x :: st) := by
  obtain ⟨⟨p, l0, e, R⟩, ⟨s, m, args, below⟩, ⟨meth, c, Q⟩, g0, A⟩ := X
  obtain ⟨rfl, rfl, rfl, hx, hb, hml, hown, hts, hK, hA, hZ, hin⟩ := C
  intro H locs ls hP hD hS hl
  exact lv_ishr hx hb hd (z H locs ls hP hD hS hl)
theorem sv_irem (C : sv_C X l cc nL own rm g) {x y : Int32} (hne : ¬ y = 0) (hd : decode cc pc = .ok (.irem, 1)) (z : sv_V X nL k n ws (pc + 1) lv (.int (x - x / y * y) :: st)) : sv_V X nL k n ws pc lv (.int y :: .int x :: st) := by
  obtain ⟨⟨p, l0, e, R⟩, ⟨s, m, args, below⟩, ⟨meth, c, Q⟩, g0, A⟩ := X
  obtain ⟨rfl, rfl, rfl, hx, hb, hml, hown, hts, hK, hA, hZ, hin⟩ := C
  intro H locs ls hP hD hS hl
  exact lv_irem hx hb hd hne (z H locs ls hP hD hS hl)
theorem sv_iushr (C : sv_C X l cc nL own rm g) {x y v : Int32} (hv : (x.toUInt32 >>> (y.toUInt32 &&& Int32.toUInt32 31)).toInt32 = v) (hd : decode cc pc = .ok (.iushr, 1)) (z : sv_V X nL k n ws (pc + 1) lv (.int v :: st)) : sv_V X nL k n ws pc lv (.int y :: .int x :: st) := by
  obtain ⟨⟨p, l0, e, R⟩, ⟨s, m, args, below⟩, ⟨meth, c, Q⟩, g0, A⟩ := X
  obtain ⟨rfl, rfl, rfl, hx, hb, hml, hown, hts, hK, hA, hZ, hin⟩ := C
  intro H locs ls hP hD hS hl
  exact lv_iushr hx hb hd hv (z H locs ls hP hD hS hl)
theorem sv_i2l (C : sv_C X l cc nL own rm g) {x : Int32} (hd : decode cc pc = .ok (.i2l, 1)) (z : sv_V X nL k n ws (pc + 1) lv (.long x.toInt64 :: st)) : sv_V X nL k n ws pc lv (.int x :: st) := by
  obtain ⟨⟨p, l0, e, R⟩, ⟨s, m, args, below⟩, ⟨meth, c, Q⟩, g0, A⟩ := X
  obtain ⟨rfl, rfl, rfl, hx, hb, hml, hown, hts, hK, hA, hZ, hin⟩ := C
  intro H locs ls hP hD hS hl
  exact lv_i2l hx hb hd rfl (z H locs ls hP hD hS hl)
theorem sv_i2b (C : sv_C X l cc nL own rm g) {x : Int32} (hd : decode cc pc = .ok (.i2b, 1)) (z : sv_V X nL k n ws (pc + 1) lv (.int x.toInt8.toInt32 :: st)) : sv_V X nL k n ws pc lv (.int x :: st) := by
  obtain ⟨⟨p, l0, e, R⟩, ⟨s, m, args, below⟩, ⟨meth, c, Q⟩, g0, A⟩ := X
  obtain ⟨rfl, rfl, rfl, hx, hb, hml, hown, hts, hK, hA, hZ, hin⟩ := C
  intro H locs ls hP hD hS hl
  exact lv_i2b hx hb hd rfl (z H locs ls hP hD hS hl)
theorem sv_i2c (C : sv_C X l cc nL own rm g) {x : Int32} (hd : decode cc pc = .ok (.i2c, 1)) (z : sv_V X nL k n ws (pc + 1) lv (.int (x.toUInt32 % 65536).toInt32 :: st)) : sv_V X nL k n ws pc lv (.int x :: st) := by
  obtain ⟨⟨p, l0, e, R⟩, ⟨s, m, args, below⟩, ⟨meth, c, Q⟩, g0, A⟩ := X
  obtain ⟨rfl, rfl, rfl, hx, hb, hml, hown, hts, hK, hA, hZ, hin⟩ := C
  intro H locs ls hP hD hS hl
  exact lv_i2c hx hb hd rfl (z H locs ls hP hD hS hl)
theorem sv_lcmp (C : sv_C X l cc nL own rm g) {x y : Int64} (hd : decode cc pc = .ok (.lcmp, 1)) (z : sv_V X nL k n ws (pc + 1) lv (.int (lg_cmp x y) :: st)) : sv_V X nL k n ws pc lv (.long y :: .long x :: st) := by
  obtain ⟨⟨p, l0, e, R⟩, ⟨s, m, args, below⟩, ⟨meth, c, Q⟩, g0, A⟩ := X
  obtain ⟨rfl, rfl, rfl, hx, hb, hml, hown, hts, hK, hA, hZ, hin⟩ := C
  intro H locs ls hP hD hS hl
  exact W.lcmp hx hb hd (z H locs ls hP hD hS hl)
theorem sv_dup (C : sv_C X l cc nL own rm g) {v : Value} (hv : v.category = 1) (hd : decode cc pc = .ok (.dup, 1)) (z : sv_V X nL k n ws (pc + 1) lv (v :: v :: st)) : sv_V X nL k n ws pc lv (v :: st) := by
  obtain ⟨⟨p, l0, e, R⟩, ⟨s, m, args, below⟩, ⟨meth, c, Q⟩, g0, A⟩ := X
  obtain ⟨rfl, rfl, rfl, hx, hb, hml, hown, hts, hK, hA, hZ, hin⟩ := C
  intro H locs ls hP hD hS hl
  exact lv_dup hx hb hd hv (z H locs ls hP hD hS hl)
theorem sv_pop (C : sv_C X l cc nL own rm g) {v : Value} (hv : v.category = 1) (hd : decode cc pc = .ok (.pop, 1)) (z : sv_V X nL k n ws (pc + 1) lv st) : sv_V X nL k n ws pc lv (v :: st) := by
  obtain ⟨⟨p, l0, e, R⟩, ⟨s, m, args, below⟩, ⟨meth, c, Q⟩, g0, A⟩ := X
  obtain ⟨rfl, rfl, rfl, hx, hb, hml, hown, hts, hK, hA, hZ, hin⟩ := C
  intro H locs ls hP hD hS hl
  exact lv_pop hx hb hd hv (z H locs ls hP hD hS hl)
theorem sv_dup_x1 (C : sv_C X l cc nL own rm g) {v w : Value} (hv : v.category = 1) (hw : w.category = 1) (hd : decode cc pc = .ok (.dup_x1, 1)) (z : sv_V X nL k n ws (pc + 1) lv (v :: w :: v :: st)) : sv_V X nL k n ws pc lv (v :: w :: st) := by
  obtain ⟨⟨p, l0, e, R⟩, ⟨s, m, args, below⟩, ⟨meth, c, Q⟩, g0, A⟩ := X
  obtain ⟨rfl, rfl, rfl, hx, hb, hml, hown, hts, hK, hA, hZ, hin⟩ := C
  intro H locs ls hP hD hS hl
  exact lv_dup_x1 hx hb hd hv hw (z H locs ls hP hD hS hl)
theorem sv_dup2 (C : sv_C X l cc nL own rm g) {v w : Value} (hv : v.category = 1) (hw : w.category = 1) (hd : decode cc pc = .ok (.dup2, 1)) (z : sv_V X nL k n ws (pc + 1) lv (v :: w :: v :: w :: st)) : sv_V X nL k n ws pc lv (v :: w :: st) := by
  obtain ⟨⟨p, l0, e, R⟩, ⟨s, m, args, below⟩, ⟨meth, c, Q⟩, g0, A⟩ := X
  obtain ⟨rfl, rfl, rfl, hx, hb, hml, hown, hts, hK, hA, hZ, hin⟩ := C
  intro H locs ls hP hD hS hl
  exact lv_dup2_11 hx hb hd hv hw (z H locs ls hP hD hS hl)
theorem sv_if_eq (C : sv_C X l cc nL own rm g) {x : Int32} {off : Int} (tgt : Nat) (ht : (pc : Int) + off = (tgt : Int)) (hd : decode cc pc = .ok (.ifCond .eq off, 3)) (zt : x = 0 → sv_V X nL k n ws tgt lv st) (zf : ¬ x = 0 → sv_V X nL k n ws (pc + 3) lv st) : sv_V X nL k n ws pc lv (.int x :: st) := by
  obtain ⟨⟨p, l0, e, R⟩, ⟨s, m, args, below⟩, ⟨meth, c, Q⟩, g0, A⟩ := X
  obtain ⟨rfl, rfl, rfl, hx, hb, hml, hown, hts, hK, hA, hZ, hin⟩ := C
  intro H locs ls hP hD hS hl
  exact lv_if_eq hx hb hd ht (fun q => zt q H locs ls hP hD hS hl) (fun q => zf q H locs ls hP hD hS hl)
theorem sv_icmp_eq (C : sv_C X l cc nL own rm g) {x y : Int32} {off : Int} (tgt : Nat) (ht : (pc : Int) + off = (tgt : Int)) (hd : decode cc pc = .ok (.if_icmp .eq off, 3)) (zt : x = y → sv_V X nL k n ws tgt lv st) (zf : ¬ x = y → sv_V X nL k n ws (pc + 3) lv st) : sv_V X nL k n ws pc lv (.int y :: .int x :: st) := by
  obtain ⟨⟨p, l0, e, R⟩, ⟨s, m, args, below⟩, ⟨meth, c, Q⟩, g0, A⟩ := X
  obtain ⟨rfl, rfl, rfl, hx, hb, hml, hown, hts, hK, hA, hZ, hin⟩ := C
  intro H locs ls hP hD hS hl
  exact lv_icmp_eq hx hb hd ht (fun q => zt q H locs ls hP hD hS hl) (fun q => zf q H locs ls hP hD hS hl)
theorem sv_if_ne (C : sv_C X l cc nL own rm g) {x : Int32} {off : Int} (tgt : Nat) (ht : (pc : Int) + off = (tgt : Int)) (hd : decode cc pc = .ok (.ifCond .ne off, 3)) (zt : ¬ x = 0 → sv_V X nL k n ws tgt lv st) (zf : x = 0 → sv_V X nL k n ws (pc + 3) lv st) : sv_V X nL k n ws pc lv (.int x :: st) := by
  obtain ⟨⟨p, l0, e, R⟩, ⟨s, m, args, below⟩, ⟨meth, c, Q⟩, g0, A⟩ := X
  obtain ⟨rfl, rfl, rfl, hx, hb, hml, hown, hts, hK, hA, hZ, hin⟩ := C
  intro H locs ls hP hD hS hl
  exact lv_if_ne hx hb hd ht (fun q => zt q H locs ls hP hD hS hl) (fun q => zf q H locs ls hP hD hS hl)
theorem sv_icmp_ne (C : sv_C X l cc nL own rm g) {x y : Int32} {off : Int} (tgt : Nat) (ht : (pc : Int) + off = (tgt : Int)) (hd : decode cc pc = .ok (.if_icmp .ne off, 3)) (zt : ¬ x = y → sv_V X nL k n ws tgt lv st) (zf : x = y → sv_V X nL k n ws (pc + 3) lv st) : sv_V X nL k n ws pc lv (.int y :: .int x :: st) := by
  obtain ⟨⟨p, l0, e, R⟩, ⟨s, m, args, below⟩, ⟨meth, c, Q⟩, g0, A⟩ := X
  obtain ⟨rfl, rfl, rfl, hx, hb, hml, hown, hts, hK, hA, hZ, hin⟩ := C
  intro H locs ls hP hD hS hl
  exact lv_icmp_ne hx hb hd ht (fun q => zt q H locs ls hP hD hS hl) (fun q => zf q H locs ls hP hD hS hl)
theorem sv_if_lt (C : sv_C X l cc nL own rm g) {x : Int32} {off : Int} (tgt : Nat) (ht : (pc : Int) + off = (tgt : Int)) (hd : decode cc pc = .ok (.ifCond .lt off, 3)) (zt : x < 0 → sv_V X nL k n ws tgt lv st) (zf : ¬ x < 0 → sv_V X nL k n ws (pc + 3) lv st) : sv_V X nL k n ws pc lv (.int x :: st) := by
  obtain ⟨⟨p, l0, e, R⟩, ⟨s, m, args, below⟩, ⟨meth, c, Q⟩, g0, A⟩ := X
  obtain ⟨rfl, rfl, rfl, hx, hb, hml, hown, hts, hK, hA, hZ, hin⟩ := C
  intro H locs ls hP hD hS hl
  exact lv_if_lt hx hb hd ht (fun q => zt q H locs ls hP hD hS hl) (fun q => zf q H locs ls hP hD hS hl)
theorem sv_icmp_lt (C : sv_C X l cc nL own rm g) {x y : Int32} {off : Int} (tgt : Nat) (ht : (pc : Int) + off = (tgt : Int)) (hd : decode cc pc = .ok (.if_icmp .lt off, 3)) (zt : x < y → sv_V X nL k n ws tgt lv st) (zf : ¬ x < y → sv_V X nL k n ws (pc + 3) lv st) : sv_V X nL k n ws pc lv (.int y :: .int x :: st) := by
  obtain ⟨⟨p, l0, e, R⟩, ⟨s, m, args, below⟩, ⟨meth, c, Q⟩, g0, A⟩ := X
  obtain ⟨rfl, rfl, rfl, hx, hb, hml, hown, hts, hK, hA, hZ, hin⟩ := C
  intro H locs ls hP hD hS hl
  exact lv_icmp_lt hx hb hd ht (fun q => zt q H locs ls hP hD hS hl) (fun q => zf q H locs ls hP hD hS hl)
theorem sv_if_ge (C : sv_C X l cc nL own rm g) {x : Int32} {off : Int} (tgt : Nat) (ht : (pc : Int) + off = (tgt : Int)) (hd : decode cc pc = .ok (.ifCond .ge off, 3)) (zt : 0 ≤ x → sv_V X nL k n ws tgt lv st) (zf : ¬ 0 ≤ x → sv_V X nL k n ws (pc + 3) lv st) : sv_V X nL k n ws pc lv (.int x :: st) := by
  obtain ⟨⟨p, l0, e, R⟩, ⟨s, m, args, below⟩, ⟨meth, c, Q⟩, g0, A⟩ := X
  obtain ⟨rfl, rfl, rfl, hx, hb, hml, hown, hts, hK, hA, hZ, hin⟩ := C
  intro H locs ls hP hD hS hl
  exact lv_if_ge hx hb hd ht (fun q => zt q H locs ls hP hD hS hl) (fun q => zf q H locs ls hP hD hS hl)
theorem sv_icmp_ge (C : sv_C X l cc nL own rm g) {x y : Int32} {off : Int} (tgt : Nat) (ht : (pc : Int) + off = (tgt : Int)) (hd : decode cc pc = .ok (.if_icmp .ge off, 3)) (zt : y ≤ x → sv_V X nL k n ws tgt lv st) (zf : ¬ y ≤ x → sv_V X nL k n ws (pc + 3) lv st) : sv_V X nL k n ws pc lv (.int y :: .int x :: st) := by
  obtain ⟨⟨p, l0, e, R⟩, ⟨s, m, args, below⟩, ⟨meth, c, Q⟩, g0, A⟩ := X
  obtain ⟨rfl, rfl, rfl, hx, hb, hml, hown, hts, hK, hA, hZ, hin⟩ := C
  intro H locs ls hP hD hS hl
  exact lv_icmp_ge hx hb hd ht (fun q => zt q H locs ls hP hD hS hl) (fun q => zf q H locs ls hP hD hS hl)
theorem sv_if_gt (C : sv_C X l cc nL own rm g) {x : Int32} {off : Int} (tgt : Nat) (ht : (pc : Int) + off = (tgt : Int)) (hd : decode cc pc = .ok (.ifCond .gt off, 3)) (zt : 0 < x → sv_V X nL k n ws tgt lv st) (zf : ¬ 0 < x → sv_V X nL k n ws (pc + 3) lv st) : sv_V X nL k n ws pc lv (.int x :: st) := by
  obtain ⟨⟨p, l0, e, R⟩, ⟨s, m, args, below⟩, ⟨meth, c, Q⟩, g0, A⟩ := X
  obtain ⟨rfl, rfl, rfl, hx, hb, hml, hown, hts, hK, hA, hZ, hin⟩ := C
  intro H locs ls hP hD hS hl
  exact lv_if_gt hx hb hd ht (fun q => zt q H locs ls hP hD hS hl) (fun q => zf q H locs ls hP hD hS hl)
theorem sv_icmp_gt (C : sv_C X l cc nL own rm g) {x y : Int32} {off : Int} (tgt : Nat) (ht : (pc : Int) + off = (tgt : Int)) (hd : decode cc pc = .ok (.if_icmp .gt off, 3)) (zt : y < x → sv_V X nL k n ws tgt lv st) (zf : ¬ y < x → sv_V X nL k n ws (pc + 3) lv st) : sv_V X nL k n ws pc lv (.int y :: .int x :: st) := by
  obtain ⟨⟨p, l0, e, R⟩, ⟨s, m, args, below⟩, ⟨meth, c, Q⟩, g0, A⟩ := X
  obtain ⟨rfl, rfl, rfl, hx, hb, hml, hown, hts, hK, hA, hZ, hin⟩ := C
  intro H locs ls hP hD hS hl
  exact lv_icmp_gt hx hb hd ht (fun q => zt q H locs ls hP hD hS hl) (fun q => zf q H locs ls hP hD hS hl)
theorem sv_if_le (C : sv_C X l cc nL own rm g) {x : Int32} {off : Int} (tgt : Nat) (ht : (pc : Int) + off = (tgt : Int)) (hd : decode cc pc = .ok (.ifCond .le off, 3)) (zt : x ≤ 0 → sv_V X nL k n ws tgt lv st) (zf : ¬ x ≤ 0 → sv_V X nL k n ws (pc + 3) lv st) : sv_V X nL k n ws pc lv (.int x :: st) := by
  obtain ⟨⟨p, l0, e, R⟩, ⟨s, m, args, below⟩, ⟨meth, c, Q⟩, g0, A⟩ := X
  obtain ⟨rfl, rfl, rfl, hx, hb, hml, hown, hts, hK, hA, hZ, hin⟩ := C
  intro H locs ls hP hD hS hl
  exact lv_if_le hx hb hd ht (fun q => zt q H locs ls hP hD hS hl) (fun q => zf q H locs ls hP hD hS hl)
theorem sv_icmp_le (C : sv_C X l cc nL own rm g) {x y : Int32} {off : Int} (tgt : Nat) (ht : (pc : Int) + off = (tgt : Int)) (hd : decode cc pc = .ok (.if_icmp .le off, 3)) (zt : x ≤ y → sv_V X nL k n ws tgt lv st) (zf : ¬ x ≤ y → sv_V X nL k n ws (pc + 3) lv st) : sv_V X nL k n ws pc lv (.int y :: .int x :: st) := by
  obtain ⟨⟨p, l0, e, R⟩, ⟨s, m, args, below⟩, ⟨meth, c, Q⟩, g0, A⟩ := X
  obtain ⟨rfl, rfl, rfl, hx, hb, hml, hown, hts, hK, hA, hZ, hin⟩ := C
  intro H locs ls hP hD hS hl
  exact lv_icmp_le hx hb hd ht (fun q => zt q H locs ls hP hD hS hl) (fun q => zf q H locs ls hP hD hS hl)
theorem sv_goto (C : sv_C X l cc nL own rm g)  {off : Int} (tgt : Nat) (ht : (pc : Int) + off = (tgt : Int)) (hd : decode cc pc = .ok (.goto off, 3)) (z : sv_V X nL k n ws tgt lv st) : sv_V X nL k n ws pc lv st := by
  obtain ⟨⟨p, l0, e, R⟩, ⟨s, m, args, below⟩, ⟨meth, c, Q⟩, g0, A⟩ := X
  obtain ⟨rfl, rfl, rfl, hx, hb, hml, hown, hts, hK, hA, hZ, hin⟩ := C
  intro H locs ls hP hD hS hl
  exact lv_goto hx hb hd ht (z H locs ls hP hD hS hl)
theorem sv_ifnull (C : sv_C X l cc nL own rm g) {x : Nat} {off : Int} (hd : decode cc pc = .ok (.ifnull off, 3)) (z : sv_V X nL k n ws (pc + 3) lv st) : sv_V X nL k n ws pc lv (.ref x :: st) := by
  obtain ⟨⟨p, l0, e, R⟩, ⟨s, m, args, below⟩, ⟨meth, c, Q⟩, g0, A⟩ := X
  obtain ⟨rfl, rfl, rfl, hx, hb, hml, hown, hts, hK, hA, hZ, hin⟩ := C
  intro H locs ls hP hD hS hl
  exact lv_ifnull hx hb hd  (z H locs ls hP hD hS hl)
theorem sv_ifnullN (C : sv_C X l cc nL own rm g)  {off : Int} (tgt : Nat) (ht : (pc : Int) + off = (tgt : Int)) (hd : decode cc pc = .ok (.ifnull off, 3)) (z : sv_V X nL k n ws tgt lv st) : sv_V X nL k n ws pc lv (.null :: st) := by
  obtain ⟨⟨p, l0, e, R⟩, ⟨s, m, args, below⟩, ⟨meth, c, Q⟩, g0, A⟩ := X
  obtain ⟨rfl, rfl, rfl, hx, hb, hml, hown, hts, hK, hA, hZ, hin⟩ := C
  intro H locs ls hP hD hS hl
  exact lv_ifnullN hx hb hd ht (z H locs ls hP hD hS hl)
theorem sv_ifnonnull (C : sv_C X l cc nL own rm g) {x : Nat} {off : Int} (tgt : Nat) (ht : (pc : Int) + off = (tgt : Int)) (hd : decode cc pc = .ok (.ifnonnull off, 3)) (z : sv_V X nL k n ws tgt lv st) : sv_V X nL k n ws pc lv (.ref x :: st) := by
  obtain ⟨⟨p, l0, e, R⟩, ⟨s, m, args, below⟩, ⟨meth, c, Q⟩, g0, A⟩ := X
  obtain ⟨rfl, rfl, rfl, hx, hb, hml, hown, hts, hK, hA, hZ, hin⟩ := C
  intro H locs ls hP hD hS hl
  exact lv_ifnonnull hx hb hd ht (z H locs ls hP hD hS hl)
theorem sv_ifnonnullN (C : sv_C X l cc nL own rm g)  {off : Int} (hd : decode cc pc = .ok (.ifnonnull off, 3)) (z : sv_V X nL k n ws (pc + 3) lv st) : sv_V X nL k n ws pc lv (.null :: st) := by
  obtain ⟨⟨p, l0, e, R⟩, ⟨s, m, args, below⟩, ⟨meth, c, Q⟩, g0, A⟩ := X
  obtain ⟨rfl, rfl, rfl, hx, hb, hml, hown, hts, hK, hA, hZ, hin⟩ := C
  intro H locs ls hP hD hS hl
  exact lv_ifnonnullN hx hb hd  (z H locs ls hP hD hS hl)
theorem sv_tableOut (C : sv_C X l cc nL own rm g) {dflt lo hi : Int} {offs : Array Int} {len : Nat} {x : Int32} (tgt : Nat) (hd : decode cc pc = .ok (.tableswitch dflt lo hi offs, len)) (h : x.toInt < lo ∨ hi < x.toInt) (ht : (pc : Int) + dflt = (tgt : Int)) (z : sv_V X nL k n ws tgt lv st) : sv_V X nL k n ws pc lv (.int x :: st) := by
  obtain ⟨⟨p, l0, e, R⟩, ⟨s, m, args, below⟩, ⟨meth, c, Q⟩, g0, A⟩ := X
  obtain ⟨rfl, rfl, rfl, hx, hb, hml, hown, hts, hK, hA, hZ, hin⟩ := C
  intro H locs ls hP hD hS hl
  exact lv_tableOut hx hb hd h ht (z H locs ls hP hD hS hl)
theorem sv_tableIn (C : sv_C X l cc nL own rm g) {dflt lo hi : Int} {offs : Array Int} {len : Nat} {x : Int32} {off : Int} (tgt : Nat) (hd : decode cc pc = .ok (.tableswitch dflt lo hi offs, len)) (h1 : ¬ x.toInt < lo) (h2 : ¬ hi < x.toInt) (ho : offs[(x.toInt - lo).toNat]? = some off) (ht : (pc : Int) + off = (tgt : Int)) (z : sv_V X nL k n ws tgt lv st) : sv_V X nL k n ws pc lv (.int x :: st) := by
  obtain ⟨⟨p, l0, e, R⟩, ⟨s, m, args, below⟩, ⟨meth, c, Q⟩, g0, A⟩ := X
  obtain ⟨rfl, rfl, rfl, hx, hb, hml, hown, hts, hK, hA, hZ, hin⟩ := C
  intro H locs ls hP hD hS hl
  exact lv_tableIn hx hb hd h1 h2 ho ht (z H locs ls hP hD hS hl)
theorem sv_lookup (C : sv_C X l cc nL own rm g) {dflt : Int} {ps : Array (Int × Int)} {len : Nat} {x : Int32} {off : Int} (tgt : Nat) (hd : decode cc pc = .ok (.lookupswitch dflt ps, len)) (hp : (ps.toList.zip (ps.toList.drop 1)).all (fun (a, next) => a.1 < next.1) = true) (ho : Op.lookupswitch.offset ps.toList dflt x.toInt = off) (ht : (pc : Int) + off = (tgt : Int)) (z : sv_V X nL k n ws tgt lv st) : sv_V X nL k n ws pc lv (.int x :: st) := by
  obtain ⟨⟨p, l0, e, R⟩, ⟨s, m, args, below⟩, ⟨meth, c, Q⟩, g0, A⟩ := X
  obtain ⟨rfl, rfl, rfl, hx, hb, hml, hown, hts, hK, hA, hZ, hin⟩ := C
  intro H locs ls hP hD hS hl
  exact lv_lookup hx hb hd hp ho ht (z H locs ls hP hD hS hl)
/-- a field, as a class's pool names it: class number ci, field number kf -/
def sv_FL (own : String) (ix ci kf : Nat) : Prop := ∃ (Cn : String) (T : u_T) (N : Nat), classes[ci]? = some (Cn, T, N) ∧ kf < N ∧ (∀ w ∈ u_ws Cn T N, w ∈ sv_tbl) ∧ Cond.fieldLink own ix (T kf).1 (T kf).2.1 (T kf).2.2.1 ∈ sv_tbl
/-- .. and it may be written -/
def sv_FP (own : String) (ix ci kf : Nat) (ty : FieldType) (fin : Bool) : Prop := ∃ (Cn : String) (T : u_T) (N : Nat) (ty0 : Nat → FieldType), classes[ci]? = some (Cn, T, N) ∧ kf < N ∧ (∀ w ∈ u_ws Cn T N, w ∈ sv_tbl) ∧ Cond.fieldLink own ix (T kf).1 (T kf).2.1 (T kf).2.2.1 ∈ sv_tbl ∧ (∀ k, k < N → parseFieldDescriptor (T k).2.2.1 = some (ty0 k)) ∧ (∀ a, a < N → ∀ b, b < N → a ≠ b → (T a).2.1 ≠ (T b).2.1) ∧ (T kf).2.2.2 = fin ∧ (fin = true → (T kf).1 = own) ∧ parseFieldDescriptor (T kf).2.2.1 = some ty
theorem sv_get (C : sv_C X l cc nL own rm g) {ix ci kf a : Nat} {fs : List Value} {v : Value} (hf : sv_FL own ix ci kf) (q0 : Nat) (he : ws[q0]? = some (a, .inr (ci, fs))) (hv : fs[kf]? = some v) (hd : decode cc pc = .ok (.getfield ix, 3)) (z : sv_V X nL k n ws (pc + 3) lv (v :: st)) : sv_V X nL k n ws pc lv (.ref a :: st) := by
  obtain ⟨⟨p, l0, e, R⟩, ⟨s, m, args, below⟩, ⟨meth, c, Q⟩, g0, A⟩ := X
  obtain ⟨rfl, rfl, rfl, hx, hb, hml, hown, hts, hK, hA, hZ, hin⟩ := C
  intro H locs ls hP hD hS hl
  obtain ⟨Cn, T, N, h1, h2, h3, h4⟩ := hf
  exact va_get hx hb hts h3 hown hK hP q0 he h1 kf h2 (hts _ h4) (fun _ h9 => h9) hv hd (z H locs ls hP hD hS hl)
theorem sv_getM (C : sv_C X l cc nL own rm g) {ix ci kf a : Nat} {fs : List Value} {v : Value} (hf : sv_FL own ix ci kf) (he : (a, .inr (ci, fs)) ∈ ws) (hv : fs[kf]? = some v) (hd : decode cc pc = .ok (.getfield ix, 3)) (z : sv_V X nL k n ws (pc + 3) lv (v :: st)) : sv_V X nL k n ws pc lv (.ref a :: st) := by
  obtain ⟨⟨p, l0, e, R⟩, ⟨s, m, args, below⟩, ⟨meth, c, Q⟩, g0, A⟩ := X
  obtain ⟨rfl, rfl, rfl, hx, hb, hml, hown, hts, hK, hA, hZ, hin⟩ := C
  intro H locs ls hP hD hS hl
  obtain ⟨q0, he⟩ := List.getElem?_of_mem he
  obtain ⟨Cn, T, N, h1, h2, h3, h4⟩ := hf
  exact va_get hx hb hts h3 hown hK hP q0 he h1 kf h2 (hts _ h4) (fun _ h9 => h9) hv hd (z H locs ls hP hD hS hl)
theorem sv_put (C : sv_C X l cc nL own rm g) {ix ci kf a : Nat} {fs : List Value} {v : Value} {ty : FieldType} (hf : sv_FP own ix ci kf ty false) (q0 : Nat) (he : ws[q0]? = some (a, .inr (ci, fs))) (hn : narrow ty v = v) (hfit : fits ty v = true) (hlf : kf < fs.length) (ws' : va_W) (hws : ws.set q0 (a, .inr (ci, fs.set kf v)) = ws') (hd : decode cc pc = .ok (.putfield ix, 3)) (z : sv_V X nL k n ws' (pc + 3) lv st) : sv_V X nL k n ws pc lv (v :: .ref a :: st) := by
  obtain ⟨⟨p, l0, e, R⟩, ⟨s, m, args, below⟩, ⟨meth, c, Q⟩, g0, A⟩ := X
  obtain ⟨rfl, rfl, rfl, hx, hb, hml, hown, hts, hK, hA, hZ, hin⟩ := C
  intro H locs ls hP hD hS hl
  obtain ⟨Cn, T, N, ty0, h1, h2, h3, h4, h5, h6, h7, h8, h9⟩ := hf
  exact va_put hx hb hts h3 ty0 h5 h6 hown hK hP hD hS q0 he h1 kf h2 (hts _ h4) (fun _ h9 => h9) h7 h9 hn hfit hlf hd (fun H2 locs2 hP2 hD2 hS2 => z H2 locs2 ls (by rw [← hws]; exact hP2) (by rw [← hws]; exact hD2) hS2 hl)
theorem sv_putF (C : sv_C X l cc nL own rm g) {ix ci kf a : Nat} {fs : List Value} {v : Value} {ty : FieldType} (hinit : sv_isInit X) (hf : sv_FP own ix ci kf ty true) (q0 : Nat) (he : ws[q0]? = some (a, .inr (ci, fs))) (hn : narrow ty v = v) (hfit : fits ty v = true) (hlf : kf < fs.length) (ws' : va_W) (hws : ws.set q0 (a, .inr (ci, fs.set kf v)) = ws') (hd : decode cc pc = .ok (.putfield ix, 3)) (z : sv_V X nL k n ws' (pc + 3) lv st) : sv_V X nL k n ws pc lv (v :: .ref a :: st) := by
  obtain ⟨⟨p, l0, e, R⟩, ⟨s, m, args, below⟩, ⟨meth, c, Q⟩, g0, A⟩ := X
  obtain ⟨rfl, rfl, rfl, hx, hb, hml, hown, hts, hK, hA, hZ, hin⟩ := C
  intro H locs ls hP hD hS hl
  obtain ⟨Cn, T, N, ty0, h1, h2, h3, h4, h5, h6, h7, h8, h9⟩ := hf
  exact va_putF hx hb hts h3 ty0 h5 h6 hown hK hP hD hS q0 he h1 kf h2 (hts _ h4) (fun _ h9 => h9) h7 hinit (h8 rfl) h9 hn hfit hlf hd (fun H2 locs2 hP2 hD2 hS2 => z H2 locs2 ls (by rw [← hws]; exact hP2) (by rw [← hws]; exact hD2) hS2 hl)
theorem sv_iald (C : sv_C X l cc nL own rm g) {a N : Nat} {f : Nat → Int32} {i : Int32} (q0 : Nat) (ha : ws[q0]? = some (a, .inl (g.2.1 0, N, .inl f))) (hin0 : vp_in i N) (hd : decode cc pc = .ok (.iaload, 1)) (z : sv_V X nL k n ws (pc + 1) lv (.int (f i.toNatClampNeg) :: st)) : sv_V X nL k n ws pc lv (.int i :: .ref a :: st) := by
  obtain ⟨⟨p, l0, e, R⟩, ⟨s, m, args, below⟩, ⟨meth, c, Q⟩, g0, A⟩ := X
  obtain ⟨rfl, rfl, rfl, hx, hb, hml, hown, hts, hK, hA, hZ, hin⟩ := C
  intro H locs ls hP hD hS hl
  exact va_iald hx hb hK hP q0 0 ha rfl hin0 hd (z H locs ls hP hD hS hl)
theorem sv_bald (C : sv_C X l cc nL own rm g) {a N : Nat} {f : Nat → Int32} {i : Int32} (q0 : Nat) (ha : ws[q0]? = some (a, .inl (g.2.1 1, N, .inl f))) (hin0 : vp_in i N) (hd : decode cc pc = .ok (.baload, 1)) (z : sv_V X nL k n ws (pc + 1) lv (.int (f i.toNatClampNeg) :: st)) : sv_V X nL k n ws pc lv (.int i :: .ref a :: st) := by
  obtain ⟨⟨p, l0, e, R⟩, ⟨s, m, args, below⟩, ⟨meth, c, Q⟩, g0, A⟩ := X
  obtain ⟨rfl, rfl, rfl, hx, hb, hml, hown, hts, hK, hA, hZ, hin⟩ := C
  intro H locs ls hP hD hS hl
  exact va_bald hx hb hK hP q0 1 ha rfl hin0 hd (z H locs ls hP hD hS hl)
theorem sv_zald (C : sv_C X l cc nL own rm g) {a N : Nat} {f : Nat → Int32} {i : Int32} (q0 : Nat) (ha : ws[q0]? = some (a, .inl (g.2.1 2, N, .inl f))) (hin0 : vp_in i N) (hd : decode cc pc = .ok (.baload, 1)) (z : sv_V X nL k n ws (pc + 1) lv (.int (f i.toNatClampNeg) :: st)) : sv_V X nL k n ws pc lv (.int i :: .ref a :: st) := by
  obtain ⟨⟨p, l0, e, R⟩, ⟨s, m, args, below⟩, ⟨meth, c, Q⟩, g0, A⟩ := X
  obtain ⟨rfl, rfl, rfl, hx, hb, hml, hown, hts, hK, hA, hZ, hin⟩ := C
  intro H locs ls hP hD hS hl
  exact va_zald hx hb hK hP q0 2 ha rfl hin0 hd (z H locs ls hP hD hS hl)
theorem sv_iast (C : sv_C X l cc nL own rm g) {a N : Nat} {f : Nat → Int32} {i x : Int32} (q0 : Nat) (ha : ws[q0]? = some (a, .inl (g.2.1 0, N, .inl f))) (hin0 : vp_in i N) (ws' : va_W) (hws : ws.set q0 (a, .inl (g.2.1 0, N, .inl (upd f i.toNatClampNeg x))) = ws') (hd : decode cc pc = .ok (.iastore, 1)) (z : sv_V X nL k n ws' (pc + 1) lv st) : sv_V X nL k n ws pc lv (.int x :: .int i :: .ref a :: st) := by
  obtain ⟨⟨p, l0, e, R⟩, ⟨s, m, args, below⟩, ⟨meth, c, Q⟩, g0, A⟩ := X
  obtain ⟨rfl, rfl, rfl, hx, hb, hml, hown, hts, hK, hA, hZ, hin⟩ := C
  intro H locs ls hP hD hS hl
  exact va_iast hx hb hK hP hD hS q0 0 ha rfl hin0 hd (fun H2 locs2 hP2 hD2 hS2 => z H2 locs2 ls (by rw [← hws]; exact hP2) (by rw [← hws]; exact hD2) hS2 hl)
theorem sv_bast (C : sv_C X l cc nL own rm g) {a N : Nat} {f : Nat → Int32} {i x : Int32} (q0 : Nat) (ha : ws[q0]? = some (a, .inl (g.2.1 1, N, .inl f))) (hin0 : vp_in i N) (ws' : va_W) (hws : ws.set q0 (a, .inl (g.2.1 1, N, .inl (upd f i.toNatClampNeg (vp_nar .byte x)))) = ws') (hd : decode cc pc = .ok (.bastore, 1)) (z : sv_V X nL k n ws' (pc + 1) lv st) : sv_V X nL k n ws pc lv (.int x :: .int i :: .ref a :: st) := by
  obtain ⟨⟨p, l0, e, R⟩, ⟨s, m, args, below⟩, ⟨meth, c, Q⟩, g0, A⟩ := X
  obtain ⟨rfl, rfl, rfl, hx, hb, hml, hown, hts, hK, hA, hZ, hin⟩ := C
  intro H locs ls hP hD hS hl
  exact va_bast hx hb hK hP hD hS q0 1 ha rfl hin0 hd (fun H2 locs2 hP2 hD2 hS2 => z H2 locs2 ls (by rw [← hws]; exact hP2) (by rw [← hws]; exact hD2) hS2 hl)
theorem sv_zast (C : sv_C X l cc nL own rm g) {a N : Nat} {f : Nat → Int32} {i x : Int32} (q0 : Nat) (ha : ws[q0]? = some (a, .inl (g.2.1 2, N, .inl f))) (hin0 : vp_in i N) (ws' : va_W) (hws : ws.set q0 (a, .inl (g.2.1 2, N, .inl (upd f i.toNatClampNeg (vp_nar .boolean x)))) = ws') (hd : decode cc pc = .ok (.bastore, 1)) (z : sv_V X nL k n ws' (pc + 1) lv st) : sv_V X nL k n ws pc lv (.int x :: .int i :: .ref a :: st) := by
  obtain ⟨⟨p, l0, e, R⟩, ⟨s, m, args, below⟩, ⟨meth, c, Q⟩, g0, A⟩ := X
  obtain ⟨rfl, rfl, rfl, hx, hb, hml, hown, hts, hK, hA, hZ, hin⟩ := C
  intro H locs ls hP hD hS hl
  exact va_zast hx hb hK hP hD hS q0 2 ha rfl hin0 hd (fun H2 locs2 hP2 hD2 hS2 => z H2 locs2 ls (by rw [← hws]; exact hP2) (by rw [← hws]; exact hD2) hS2 hl)
theorem sv_lald (C : sv_C X l cc nL own rm g) {a N : Nat} {f : Nat → Int64} {i : Int32} (q0 : Nat) (ha : ws[q0]? = some (a, .inl (g.2.1 3, N, .inr (.inl f)))) (hin0 : vp_in i N) (hd : decode cc pc = .ok (.laload, 1)) (z : sv_V X nL k n ws (pc + 1) lv (.long (f i.toNatClampNeg) :: st)) : sv_V X nL k n ws pc lv (.int i :: .ref a :: st) := by
  obtain ⟨⟨p, l0, e, R⟩, ⟨s, m, args, below⟩, ⟨meth, c, Q⟩, g0, A⟩ := X
  obtain ⟨rfl, rfl, rfl, hx, hb, hml, hown, hts, hK, hA, hZ, hin⟩ := C
  intro H locs ls hP hD hS hl
  exact va_lald hx hb hK hP q0 3 ha rfl hin0 hd (z H locs ls hP hD hS hl)
theorem sv_last (C : sv_C X l cc nL own rm g) {a N : Nat} {f : Nat → Int64} {i : Int32} {x : Int64} (q0 : Nat) (ha : ws[q0]? = some (a, .inl (g.2.1 3, N, .inr (.inl f)))) (hin0 : vp_in i N) (ws' : va_W) (hws : ws.set q0 (a, .inl (g.2.1 3, N, .inr (.inl (vp_updL f i.toNatClampNeg x)))) = ws') (hd : decode cc pc = .ok (.lastore, 1)) (z : sv_V X nL k n ws' (pc + 1) lv st) : sv_V X nL k n ws pc lv (.long x :: .int i :: .ref a :: st) := by
  obtain ⟨⟨p, l0, e, R⟩, ⟨s, m, args, below⟩, ⟨meth, c, Q⟩, g0, A⟩ := X
  obtain ⟨rfl, rfl, rfl, hx, hb, hml, hown, hts, hK, hA, hZ, hin⟩ := C
  intro H locs ls hP hD hS hl
  exact va_last hx hb hK hP hD hS q0 3 ha rfl hin0 hd (fun H2 locs2 hP2 hD2 hS2 => z H2 locs2 ls (by rw [← hws]; exact hP2) (by rw [← hws]; exact hD2) hS2 hl)
theorem sv_aaldE (C : sv_C X l cc nL own rm g) {a N : Nat} {f : Nat → Option Nat} {i : Int32} (ha : (a, .inl (g.2.1 4, N, .inr (.inr (.inr (.inr f))))) ∈ ws) (hin0 : vp_in i N) (hd : decode cc pc = .ok (.aaload, 1)) (z : sv_V X nL k n ws (pc + 1) lv (va_rf (f i.toNatClampNeg) :: st)) : sv_V X nL k n ws pc lv (.int i :: .ref a :: st) := by
  obtain ⟨⟨p, l0, e, R⟩, ⟨s, m, args, below⟩, ⟨meth, c, Q⟩, g0, A⟩ := X
  obtain ⟨rfl, rfl, rfl, hx, hb, hml, hown, hts, hK, hA, hZ, hin⟩ := C
  intro H locs ls hP hD hS hl
  obtain ⟨q0, ha⟩ := List.getElem?_of_mem ha
  exact va_aldq hx hb hK hP q0 4 ha rfl hin0 hd (z H locs ls hP hD hS hl)
theorem sv_aaldS (C : sv_C X l cc nL own rm g) {a N : Nat} {f : Nat → Option Nat} {i : Int32} (ha : (a, .inl (g.2.1 5, N, .inr (.inr (.inr (.inr f))))) ∈ ws) (hin0 : vp_in i N) (hd : decode cc pc = .ok (.aaload, 1)) (z : sv_V X nL k n ws (pc + 1) lv (va_rf (f i.toNatClampNeg) :: st)) : sv_V X nL k n ws pc lv (.int i :: .ref a :: st) := by
  obtain ⟨⟨p, l0, e, R⟩, ⟨s, m, args, below⟩, ⟨meth, c, Q⟩, g0, A⟩ := X
  obtain ⟨rfl, rfl, rfl, hx, hb, hml, hown, hts, hK, hA, hZ, hin⟩ := C
  intro H locs ls hP hD hS hl
  obtain ⟨q0, ha⟩ := List.getElem?_of_mem ha
  exact va_aldq hx hb hK hP q0 5 ha rfl hin0 hd (z H locs ls hP hD hS hl)
theorem sv_alen (C : sv_C X l cc nL own rm g) {a : Nat} {t0 : Nat} {x : vp_A} {ty : FieldType} {cA : ClassId} {v : Int32} (ht : (sv_tys g)[t0]? = some (cA, ty)) (ha : (a, .inl (cA, x)) ∈ ws) (hv : Int32.ofNat x.1 = v) (hd : decode cc pc = .ok (.arraylength, 1)) (z : sv_V X nL k n ws (pc + 1) lv (.int v :: st)) : sv_V X nL k n ws pc lv (.ref a :: st) := by
  obtain ⟨⟨p, l0, e, R⟩, ⟨s, m, args, below⟩, ⟨meth, c, Q⟩, g0, A⟩ := X
  obtain ⟨rfl, rfl, rfl, hx, hb, hml, hown, hts, hK, hA, hZ, hin⟩ := C
  intro H locs ls hP hD hS hl
  obtain ⟨q0, ha⟩ := List.getElem?_of_mem ha
  exact va_alen hx hb hK hP q0 t0 ha ht hv hd (z H locs ls hP hD hS hl)
/-- the cells in another order, or fewer -/
theorem sv_perm (is : List Nat) (ws' : va_W) (hn : va_nd is = true) (h1 : is.map (fun i => ws[i]?) = ws'.map some) (z : sv_V X nL k n ws' pc lv st) : sv_V X nL k n ws pc lv st := by
  obtain ⟨⟨p, l0, e, R⟩, ⟨s, m, args, below⟩, ⟨meth, c, Q⟩, g0, A⟩ := X
  intro H locs ls hP hD hS hl
  refine z H locs ls ?_ (hD.sub is hn h1) hS hl
  intro j q hj
  have h2 : (is.map (fun i => ws[i]?))[j]? = some (some q) := by rw [h1, List.getElem?_map, hj]; rfl
  rw [List.getElem?_map] at h2
  cases hi : is[j]? with
  | none => rw [hi] at h2; cases h2
  | some i => rw [hi] at h2; exact hP i q (Option.some.inj h2)
theorem sv_sub (lv' : List (Option Value)) (hs : ∀ (i : Nat) (v : Value), lv'[i]? = some (some v) → lv[i]? = some (some v)) (z : sv_V X nL k n ws pc lv' st) : sv_V X nL k n ws pc lv st := by
  obtain ⟨⟨p, l0, e, R⟩, ⟨s, m, args, below⟩, ⟨meth, c, Q⟩, g0, A⟩ := X
  intro H locs ls hP hD hS hl
  exact z H locs ls hP hD hS (hl.sub hs)
theorem sv_widen {k2 n2 : Nat} (h1 : k ≤ k2) (h2 : n ≤ n2) (z : sv_V X nL k2 n2 ws pc lv st) : sv_V X nL k n ws pc lv st := by
  obtain ⟨⟨p, l0, e, R⟩, ⟨s, m, args, below⟩, ⟨meth, c, Q⟩, g0, A⟩ := X
  intro H locs ls hP hD hS hl
  exact W.widen h1 h2 (z H locs ls hP hD hS hl)
end SVR
end
section
/-! PERMUTATIONS, MAKINGS, LIBRARY ROWS -/
theorem sv_P_perm {D : va_G} {cl : List vw_C} {ws ws' : va_W} {H : Heap} (hp : ws.Perm ws') (h : va_P D cl ws H) : va_P D cl ws' H := by
  intro k q hk
  obtain ⟨j, hj⟩ := List.getElem?_of_mem (hp.mem_iff.mpr (List.mem_of_getElem? hk))
  exact h j q hj
theorem sv_D_iff {A : Nat → Prop} {ws : va_W} : va_D A ws ↔ (ws.map Prod.fst).Nodup ∧ ∀ q ∈ ws, A q.1 := by
  constructor
  · rintro ⟨h1, h2⟩
    refine ⟨?_, fun q hq => ?_⟩
    · refine List.nodup_iff_pairwise_ne.mpr (List.pairwise_iff_getElem.mpr fun i j hi hj hij hh => ?_)
      rw [List.length_map] at hi hj
      rw [List.getElem_map, List.getElem_map] at hh
      have h3 := h1 i j _ _ (List.getElem?_eq_getElem hi) (List.getElem?_eq_getElem hj) hh
      omega
    · obtain ⟨j, hj⟩ := List.getElem?_of_mem hq
      exact h2 j q hj
  · rintro ⟨h1, h2⟩
    refine ⟨fun i j p q hi hj hpq => ?_, fun k q hk => h2 q (List.mem_of_getElem? hk)⟩
    have h1 := List.pairwise_iff_getElem.mp (List.nodup_iff_pairwise_ne.mp h1)
    obtain ⟨li, ei⟩ := List.getElem?_eq_some_iff.mp hi
    obtain ⟨lj, ej⟩ := List.getElem?_eq_some_iff.mp hj
    rcases Nat.lt_trichotomy i j with h | h | h
    · exact absurd (by rw [List.getElem_map, List.getElem_map, ei, ej, hpq]) (h1 i j (by rw [List.length_map]; exact li) (by rw [List.length_map]; exact lj) h)
    · exact h
    · exact absurd (by rw [List.getElem_map, List.getElem_map, ei, ej, hpq]) (h1 j i (by rw [List.length_map]; exact lj) (by rw [List.length_map]; exact li) h)
theorem sv_D_perm {A : Nat → Prop} {ws ws' : va_W} (hp : ws.Perm ws') (h : va_D A ws) : va_D A ws' := by
  rw [sv_D_iff] at h ⊢
  exact ⟨(hp.map Prod.fst).nodup_iff.mp h.1, fun q hq => h.2 q (hp.mem_iff.mpr hq)⟩
theorem sv_range {α : Type} (d : α) (l : List α) : (List.range l.length).map (fun i => l.getD i d) = l := by
  apply List.ext_getElem
  · simp
  · intro i h1 h2
    simp [List.getD_eq_getElem?_getD, h2]
section SVP
variable {X : sv_X} {l : Launch} {cc : ByteArray} {nL k n pc : Nat} {own : String} {rm : Room} {g : sv_G} {ws : va_W} {lv : List (Option Value)} {st : List Value}
theorem sv_Perm {ws' : va_W} (hp : ws.Perm ws') (z : sv_V X nL k n ws' pc lv st) : sv_V X nL k n ws pc lv st := by
  obtain ⟨⟨p, l0, e, R⟩, ⟨s, m, args, below⟩, ⟨meth, c, Q⟩, g0, A⟩ := X
  intro H locs ls hP hD hS hl
  exact z H locs ls (sv_P_perm hp hP) (sv_D_perm hp hD) hS hl
/-- the first cells in another order; the rest stays -/
theorem sv_rot (is : List Nat) (pre pre' rest ws' : va_W) (h1 : ws = pre ++ rest) (h2 : ws' = pre' ++ rest) (hm : is.map (fun i => pre.getD i (0, .inr (0, []))) = pre') (hi : is.isPerm (List.range pre.length) = true) (z : sv_V X nL k n ws' pc lv st) : sv_V X nL k n ws pc lv st := by
  subst h1; subst h2
  refine sv_Perm (List.Perm.append_right rest ?_) z
  have h3 := (List.isPerm_iff.mp hi).map (fun i => pre.getD i (0, .inr (0, [])))
  rw [hm, sv_range] at h3
  exact h3.symm
theorem sv_eqi {x y : Int32} (h : x = y) (z : sv_V X nL k n ws pc lv (.int y :: st)) : sv_V X nL k n ws pc lv (.int x :: st) := by subst h; exact z
theorem sv_eqi2 {v : Value} {x y : Int32} (h : x = y) (z : sv_V X nL k n ws pc lv (v :: .int y :: st)) : sv_V X nL k n ws pc lv (v :: .int x :: st) := by subst h; exact z
theorem sv_lvE {lv' : List (Option Value)} (h : lv = lv') (z : sv_V X nL k n ws pc lv' st) : sv_V X nL k n ws pc lv st := by subst h; exact z
theorem sv_wsE {ws' : va_W} (h : ws = ws') (z : sv_V X nL k n ws' pc lv st) : sv_V X nL k n ws pc lv st := by subst h; exact z
theorem sv_pcE {pc' : Nat} (h : pc = pc') (z : sv_V X nL k n ws pc' lv st) : sv_V X nL k n ws pc lv st := by subst h; exact z
theorem sv_objInit (C : sv_C X l cc nL own rm g) {ix a : Nat} (h1 : Cond.methodLink own ix Lib.objectInit ∈ sv_tbl) (h2 : Cond.instanceMethod Lib.objectInit ∈ sv_tbl) (h3 : Cond.code Lib.objectInit ⟨#[0xb1]⟩ 1 none ∈ sv_tbl) (hf : 1 ≤ rm.frames) (hlo : (st.map fun v => v.category).sum + 12 ≤ rm.locals) (hd : decode cc pc = .ok (.invokespecial ix, 3)) (z : sv_V X nL k n ws (pc + 3) lv st) : sv_V X nL k n ws pc lv (.ref a :: st) := by
  obtain ⟨⟨p, l0, e, R⟩, ⟨s, m, args, below⟩, ⟨meth, c, Q⟩, g0, A⟩ := X
  obtain ⟨rfl, rfl, rfl, hx, hb, hml, hown, hts, hK, hA, hZ, hin⟩ := C
  intro H locs ls hP hD hS hl
  exact W.objInit hx hb hown (hts _ h1) (hts _ h2) (hts _ h3) rfl (hl.1.trans hml.symm) rfl hd hf (by show 2 * 0 + _ + 12 ≤ _; omega) (z H locs ls hP hD hS hl)
theorem sv_mmax (C : sv_C X l cc nL own rm g) {ix : Nat} {x y : Int32} (h1 : Cond.methodLink own ix Lib.Math.max.name ∈ sv_tbl) (h2 : Cond.static Lib.Math.max.name ∈ sv_tbl) (h3 : Cond.initialized "java/lang/Math" ∈ sv_tbl) (h4 : Cond.code Lib.Math.max.name Lib.Math.max.code 2 (some .int) ∈ sv_tbl) (hf : 1 ≤ rm.frames) (hlo : (st.map fun v => v.category).sum + 13 ≤ rm.locals) (hc : k ≤ rm.cells) (hs : n ≤ rm.slots) (hd : decode cc pc = .ok (.invokestatic ix, 3)) (z : sv_V X nL k n ws (pc + 3) lv (.int (if x < y then y else x) :: st)) : sv_V X nL k n ws pc lv (.int y :: .int x :: st) := by
  obtain ⟨⟨p, l0, e, R⟩, ⟨s, m, args, below⟩, ⟨meth, c, Q⟩, g0, A⟩ := X
  obtain ⟨rfl, rfl, rfl, hx, hb, hml, hown, hts, hK, hA, hZ, hin⟩ := C
  intro H locs ls hP hD hS hl
  exact va_mmax hx hb (hml.trans hl.1.symm) hown (hts _ h1) (hts _ h2) (hts _ h3) (hts _ h4) hf hlo hc hs hd (z H locs ls hP hD hS hl)
theorem sv_mmin (C : sv_C X l cc nL own rm g) {ix : Nat} {x y : Int32} (h1 : Cond.methodLink own ix Lib.Math.min.name ∈ sv_tbl) (h2 : Cond.static Lib.Math.min.name ∈ sv_tbl) (h3 : Cond.initialized "java/lang/Math" ∈ sv_tbl) (h4 : Cond.code Lib.Math.min.name Lib.Math.min.code 2 (some .int) ∈ sv_tbl) (hf : 1 ≤ rm.frames) (hlo : (st.map fun v => v.category).sum + 13 ≤ rm.locals) (hc : k ≤ rm.cells) (hs : n ≤ rm.slots) (hd : decode cc pc = .ok (.invokestatic ix, 3)) (z : sv_V X nL k n ws (pc + 3) lv (.int (if y < x then y else x) :: st)) : sv_V X nL k n ws pc lv (.int y :: .int x :: st) := by
  obtain ⟨⟨p, l0, e, R⟩, ⟨s, m, args, below⟩, ⟨meth, c, Q⟩, g0, A⟩ := X
  obtain ⟨rfl, rfl, rfl, hx, hb, hml, hown, hts, hK, hA, hZ, hin⟩ := C
  intro H locs ls hP hD hS hl
  exact va_mmin hx hb (hml.trans hl.1.symm) hown (hts _ h1) (hts _ h2) (hts _ h3) (hts _ h4) hf hlo hc hs hd (z H locs ls hP hD hS hl)
theorem sv_copyi (C : sv_C X l cc nL own rm g) {ix a a0 : Nat} {n0 n1 : Nat} {f h : Nat → Int32} {sp dp len : Int32} (w1 : Cond.methodLink own ix arraycopyName ∈ sv_tbl) (w2 : Cond.native arraycopyName ∈ sv_tbl) (w3 : Cond.static arraycopyName ∈ sv_tbl) (w4 : Cond.initialized "java/lang/System" ∈ sv_tbl) (q0 q1 : Nat) (ha0 : ws[q0]? = some (a0, .inl (g.2.1 0, n0, .inl f))) (ha1 : ws[q1]? = some (a, .inl (g.2.1 0, n1, .inl h))) (h1 : ¬ sp < 0) (h2 : ¬ dp < 0) (h3 : ¬ len < 0) (h4 : sp.toNatClampNeg + len.toNatClampNeg ≤ n0) (h5 : dp.toNatClampNeg + len.toNatClampNeg ≤ n1) (hf : 1 ≤ rm.frames) (hlo : (st.map fun v => v.category).sum + (nativeFrameWords "java/lang/System" "arraycopy" 5 + 11) ≤ rm.locals) (ws' : va_W) (hws : ws.set q1 (a, .inl (g.2.1 0, n1, .inl (va_cpy f h sp.toNatClampNeg dp.toNatClampNeg len.toNatClampNeg))) = ws') (hd : decode cc pc = .ok (.invokestatic ix, 3)) (z : sv_V X nL k n ws' (pc + 3) lv st) : sv_V X nL k n ws pc lv (.int len :: .int dp :: .ref a :: .int sp :: .ref a0 :: st) := by
  obtain ⟨⟨p, l0, e, R⟩, ⟨s, m, args, below⟩, ⟨meth, c, Q⟩, g0, A⟩ := X
  obtain ⟨rfl, rfl, rfl, hx, hb, hml, hown, hts, hK, hA, hZ, hin⟩ := C
  intro H locs ls hP hD hS hl
  exact va_copyi hx hb (hml.trans hl.1.symm) hown (hts _ w1) (hts _ w2) (hts _ w3) (hts _ w4) hK hP hD hS q0 q1 0 0 ha0 ha1 rfl rfl rfl h1 h2 h3 h4 h5 (fun _ _ => rfl) hf hlo hd (fun H2 locs2 hP2 hD2 hS2 => z H2 locs2 ls (by rw [← hws]; exact hP2) (by rw [← hws]; exact hD2) hS2 hl)
theorem sv_new (C : sv_C X l cc nL own rm g) {ix ci N : Nat} {Cn : String} {T : u_T} {fs : List Value} (ty : Nat → FieldType) (hc : classes[ci]? = some (Cn, T, N)) (hin0 : ∀ w ∈ u_ws Cn T N, w ∈ sv_tbl) (hty : ∀ j, j < N → parseFieldDescriptor (T j).2.2.1 = some (ty j)) (h1 : Cond.classLink own ix Cn ∈ sv_tbl) (h2 : Cond.instantiable Cn N ∈ sv_tbl) (h3 : Cond.initialized Cn ∈ sv_tbl) (hfs : ∀ j, j < N → defaultValue (ty j) = vp_V fs j) (hcells : k + 1 ≤ rm.cells) (hslots : n + N ≤ rm.slots) (hd : decode cc pc = .ok (.new ix, 3)) (z : ∀ q : Nat, sv_V X nL (k + 1) (n + N) ((q, .inr (ci, fs)) :: ws) (pc + 3) lv (.ref q :: st)) : sv_V X nL k n ws pc lv st := by
  obtain ⟨⟨p, l0, e, R⟩, ⟨s, m, args, below⟩, ⟨meth, c, Q⟩, g0, A⟩ := X
  obtain ⟨rfl, rfl, rfl, hx, hb, hml, hown, hts, hK, hA, hZ, hin⟩ := C
  intro H locs ls hP hD hS hl
  exact va_new hx hb hts hin0 ty hty hown (hts _ h1) (hts _ h2) (hts _ h3) hK hP hD hS hA hc hfs hcells hslots hd (fun q H1 hP1 hD1 hS1 => z q H1 locs ls (sv_P_perm (List.perm_append_singleton _ _) hP1) (sv_D_perm (List.perm_append_singleton _ _) hD1) hS1 hl)
theorem sv_newI (C : sv_C X l cc nL own rm g) {len : Int32} {N : Nat} (h1 : Cond.arrayClass (newarray.typeOf .int) ∈ sv_tbl) (hn : ¬ len < 0) (hN : len.toNatClampNeg = N) (hby : N * componentBytes .int ≤ 536870912) (hcells : k + 1 ≤ rm.cells) (hslots : n + N ≤ rm.slots) (hd : decode cc pc = .ok (.newarray .int, 2)) (z : ∀ q : Nat, sv_V X nL (k + 1) (n + N) ((q, .inl (g.2.1 0, N, .inl (fun _ => 0))) :: ws) (pc + 2) lv (.ref q :: st)) : sv_V X nL k n ws pc lv (.int len :: st) := by
  obtain ⟨⟨p, l0, e, R⟩, ⟨s, m, args, below⟩, ⟨meth, c, Q⟩, g0, A⟩ := X
  obtain ⟨rfl, rfl, rfl, hx, hb, hml, hown, hts, hK, hA, hZ, hin⟩ := C
  intro H locs ls hP hD hS hl
  refine va_newa (a0 := (N, .inl (fun _ => 0))) hx hb (hts _ h1) rfl hK hP hD hS hA (fun cA => rfl) hn hN hby hcells hslots hd (fun q cA H1 hK1 hP1 hD1 hS1 => ?_)
  have e1 : cA = g.2.1 0 := by
    have a1 := (hK1.2 (sv_tys g).length (cA, .int) (by rw [List.getElem?_append_right (Nat.le_refl _), Nat.sub_self]; rfl)).2
    have a2 := (hK.2 0 (g.2.1 0, .int) rfl).2
    exact Option.some.inj (a1.symm.trans a2)
  subst e1
  exact z q H1 locs ls (sv_P_perm (List.perm_append_singleton _ _) hP1) (sv_D_perm (List.perm_append_singleton _ _) hD1) hS1 hl
theorem sv_newB (C : sv_C X l cc nL own rm g) {len : Int32} {N : Nat} (h1 : Cond.arrayClass (newarray.typeOf .byte) ∈ sv_tbl) (hn : ¬ len < 0) (hN : len.toNatClampNeg = N) (hby : N * componentBytes .byte ≤ 536870912) (hcells : k + 1 ≤ rm.cells) (hslots : n + N ≤ rm.slots) (hd : decode cc pc = .ok (.newarray .byte, 2)) (z : ∀ q : Nat, sv_V X nL (k + 1) (n + N) ((q, .inl (g.2.1 1, N, .inl (fun _ => 0))) :: ws) (pc + 2) lv (.ref q :: st)) : sv_V X nL k n ws pc lv (.int len :: st) := by
  obtain ⟨⟨p, l0, e, R⟩, ⟨s, m, args, below⟩, ⟨meth, c, Q⟩, g0, A⟩ := X
  obtain ⟨rfl, rfl, rfl, hx, hb, hml, hown, hts, hK, hA, hZ, hin⟩ := C
  intro H locs ls hP hD hS hl
  refine va_newa (a0 := (N, .inl (fun _ => 0))) hx hb (hts _ h1) rfl hK hP hD hS hA (fun cA => rfl) hn hN hby hcells hslots hd (fun q cA H1 hK1 hP1 hD1 hS1 => ?_)
  have e1 : cA = g.2.1 1 := by
    have a1 := (hK1.2 (sv_tys g).length (cA, .byte) (by rw [List.getElem?_append_right (Nat.le_refl _), Nat.sub_self]; rfl)).2
    have a2 := (hK.2 1 (g.2.1 1, .byte) rfl).2
    exact Option.some.inj (a1.symm.trans a2)
  subst e1
  exact z q H1 locs ls (sv_P_perm (List.perm_append_singleton _ _) hP1) (sv_D_perm (List.perm_append_singleton _ _) hD1) hS1 hl
theorem sv_newZ (C : sv_C X l cc nL own rm g) {len : Int32} {N : Nat} (h1 : Cond.arrayClass (newarray.typeOf .boolean) ∈ sv_tbl) (hn : ¬ len < 0) (hN : len.toNatClampNeg = N) (hby : N * componentBytes .boolean ≤ 536870912) (hcells : k + 1 ≤ rm.cells) (hslots : n + N ≤ rm.slots) (hd : decode cc pc = .ok (.newarray .boolean, 2)) (z : ∀ q : Nat, sv_V X nL (k + 1) (n + N) ((q, .inl (g.2.1 2, N, .inl (fun _ => 0))) :: ws) (pc + 2) lv (.ref q :: st)) : sv_V X nL k n ws pc lv (.int len :: st) := by
  obtain ⟨⟨p, l0, e, R⟩, ⟨s, m, args, below⟩, ⟨meth, c, Q⟩, g0, A⟩ := X
  obtain ⟨rfl, rfl, rfl, hx, hb, hml, hown, hts, hK, hA, hZ, hin⟩ := C
  intro H locs ls hP hD hS hl
  refine va_newa (a0 := (N, .inl (fun _ => 0))) hx hb (hts _ h1) rfl hK hP hD hS hA (fun cA => rfl) hn hN hby hcells hslots hd (fun q cA H1 hK1 hP1 hD1 hS1 => ?_)
  have e1 : cA = g.2.1 2 := by
    have a1 := (hK1.2 (sv_tys g).length (cA, .boolean) (by rw [List.getElem?_append_right (Nat.le_refl _), Nat.sub_self]; rfl)).2
    have a2 := (hK.2 2 (g.2.1 2, .boolean) rfl).2
    exact Option.some.inj (a1.symm.trans a2)
  subst e1
  exact z q H1 locs ls (sv_P_perm (List.perm_append_singleton _ _) hP1) (sv_D_perm (List.perm_append_singleton _ _) hD1) hS1 hl
theorem sv_newL (C : sv_C X l cc nL own rm g) {len : Int32} {N : Nat} (h1 : Cond.arrayClass (newarray.typeOf .long) ∈ sv_tbl) (hn : ¬ len < 0) (hN : len.toNatClampNeg = N) (hby : N * componentBytes .long ≤ 536870912) (hcells : k + 1 ≤ rm.cells) (hslots : n + N ≤ rm.slots) (hd : decode cc pc = .ok (.newarray .long, 2)) (z : ∀ q : Nat, sv_V X nL (k + 1) (n + N) ((q, .inl (g.2.1 3, N, .inr (.inl (fun _ => 0)))) :: ws) (pc + 2) lv (.ref q :: st)) : sv_V X nL k n ws pc lv (.int len :: st) := by
  obtain ⟨⟨p, l0, e, R⟩, ⟨s, m, args, below⟩, ⟨meth, c, Q⟩, g0, A⟩ := X
  obtain ⟨rfl, rfl, rfl, hx, hb, hml, hown, hts, hK, hA, hZ, hin⟩ := C
  intro H locs ls hP hD hS hl
  refine va_newa (a0 := (N, .inr (.inl (fun _ => 0)))) hx hb (hts _ h1) rfl hK hP hD hS hA (fun cA => rfl) hn hN hby hcells hslots hd (fun q cA H1 hK1 hP1 hD1 hS1 => ?_)
  have e1 : cA = g.2.1 3 := by
    have a1 := (hK1.2 (sv_tys g).length (cA, .long) (by rw [List.getElem?_append_right (Nat.le_refl _), Nat.sub_self]; rfl)).2
    have a2 := (hK.2 3 (g.2.1 3, .long) rfl).2
    exact Option.some.inj (a1.symm.trans a2)
  subst e1
  exact z q H1 locs ls (sv_P_perm (List.perm_append_singleton _ _) hP1) (sv_D_perm (List.perm_append_singleton _ _) hD1) hS1 hl
theorem sv_newE (C : sv_C X l cc nL own rm g) {ix : Nat} {len : Int32} {N : Nat} (h1 : Cond.classLink own ix "WordChain$Ending" ∈ sv_tbl) (hn : ¬ len < 0) (hN : len.toNatClampNeg = N) (hby : N * 4 ≤ 536870912) (hcells : k + 1 ≤ rm.cells) (hslots : n + N ≤ rm.slots) (hd : decode cc pc = .ok (.anewarray ix, 3)) (z : ∀ q : Nat, sv_V X nL (k + 1) (n + N) ((q, .inl (g.2.1 4, N, .inr (.inr (.inr (.inr (fun _ => none)))))) :: ws) (pc + 3) lv (.ref q :: st)) : sv_V X nL k n ws pc lv (.int len :: st) := by
  obtain ⟨⟨p, l0, e, R⟩, ⟨s, m, args, below⟩, ⟨meth, c, Q⟩, g0, A⟩ := X
  obtain ⟨rfl, rfl, rfl, hx, hb, hml, hown, hts, hK, hA, hZ, hin⟩ := C
  intro H locs ls hP hD hS hl
  refine va_newq hx hb hown (hts _ h1) hZ.2.2.2.1 hK hP hD hS hA hn hN hby hcells hslots hd (fun q cA H1 hK1 hP1 hD1 hS1 => ?_)
  have e1 : cA = g.2.1 4 := by
    obtain ⟨kA, comp, a1, a2, a3, a4⟩ := (hK1.2 (sv_tys g).length (cA, .object "WordChain$Ending") (by rw [List.getElem?_append_right (Nat.le_refl _), Nat.sub_self]; rfl)).2
    obtain ⟨kB, comp2, b1, b2, b3, b4⟩ := (hK.2 4 (g.2.1 4, .object "WordChain$Ending") rfl).2
    exact Option.some.inj (a4.symm.trans b4)
  subst e1
  exact z q H1 locs ls (sv_P_perm (List.perm_append_singleton _ _) hP1) (sv_D_perm (List.perm_append_singleton _ _) hD1) hS1 hl
theorem sv_newS (C : sv_C X l cc nL own rm g) {ix : Nat} {len : Int32} {N : Nat} (h1 : Cond.classLink own ix "java/lang/String" ∈ sv_tbl) (hn : ¬ len < 0) (hN : len.toNatClampNeg = N) (hby : N * 4 ≤ 536870912) (hcells : k + 1 ≤ rm.cells) (hslots : n + N ≤ rm.slots) (hd : decode cc pc = .ok (.anewarray ix, 3)) (z : ∀ q : Nat, sv_V X nL (k + 1) (n + N) ((q, .inl (g.2.1 5, N, .inr (.inr (.inr (.inr (fun _ => none)))))) :: ws) (pc + 3) lv (.ref q :: st)) : sv_V X nL k n ws pc lv (.int len :: st) := by
  obtain ⟨⟨p, l0, e, R⟩, ⟨s, m, args, below⟩, ⟨meth, c, Q⟩, g0, A⟩ := X
  obtain ⟨rfl, rfl, rfl, hx, hb, hml, hown, hts, hK, hA, hZ, hin⟩ := C
  intro H locs ls hP hD hS hl
  refine va_newq hx hb hown (hts _ h1) hZ.2.2.2.2.1 hK hP hD hS hA hn hN hby hcells hslots hd (fun q cA H1 hK1 hP1 hD1 hS1 => ?_)
  have e1 : cA = g.2.1 5 := by
    obtain ⟨kA, comp, a1, a2, a3, a4⟩ := (hK1.2 (sv_tys g).length (cA, .object "java/lang/String") (by rw [List.getElem?_append_right (Nat.le_refl _), Nat.sub_self]; rfl)).2
    obtain ⟨kB, comp2, b1, b2, b3, b4⟩ := (hK.2 5 (g.2.1 5, .object "java/lang/String") rfl).2
    exact Option.some.inj (a4.symm.trans b4)
  subst e1
  exact z q H1 locs ls (sv_P_perm (List.perm_append_singleton _ _) hP1) (sv_D_perm (List.perm_append_singleton _ _) hD1) hS1 hl
theorem sv_astE (C : sv_C X l cc nL own rm g) {a b N ci : Nat} {f : Nat → Option Nat} {fs : List Value} {T : u_T} {M : Nat} {i : Int32} (q0 qk : Nat) (ha : ws[q0]? = some (a, .inl (g.2.1 4, N, .inr (.inr (.inr (.inr f)))))) (hv : ws[qk]? = some (b, .inr (ci, fs))) (hc : classes[ci]? = some ("WordChain$Ending", T, M)) (hin0 : vp_in i N) (ws' : va_W) (hws : ws.set q0 (a, .inl (g.2.1 4, N, .inr (.inr (.inr (.inr (va_up f i.toNatClampNeg (some b))))))) = ws') (hd : decode cc pc = .ok (.aastore, 1)) (z : sv_V X nL k n ws' (pc + 1) lv st) : sv_V X nL k n ws pc lv (.ref b :: .int i :: .ref a :: st) := by
  obtain ⟨⟨p, l0, e, R⟩, ⟨s, m, args, below⟩, ⟨meth, c, Q⟩, g0, A⟩ := X
  obtain ⟨rfl, rfl, rfl, hx, hb, hml, hown, hts, hK, hA, hZ, hin⟩ := C
  intro H locs ls hP hD hS hl
  exact va_astq hx hb hK hP hD hS q0 4 qk ci (r := ("WordChain$Ending", T, M)) ha rfl hv hc hin0 hd (fun H2 locs2 hP2 hD2 hS2 => z H2 locs2 ls (by rw [← hws]; exact hP2) (by rw [← hws]; exact hD2) hS2 hl)
theorem sv_ldcS (C : sv_C X l cc nL own rm g) {ix i : Nat} {tx : String} (h1 : (own, ix, tx, i) ∈ sv_lits) (hd : decode cc pc = .ok (.ldc ix, 2)) (z : sv_V X nL k n ws (pc + 2) lv (.ref (g.2.2.1 i) :: st)) : sv_V X nL k n ws pc lv st := by
  obtain ⟨⟨p, l0, e, R⟩, ⟨s, m, args, below⟩, ⟨meth, c, Q⟩, g0, A⟩ := X
  obtain ⟨rfl, rfl, rfl, hx, hb, hml, hown, hts, hK, hA, hZ, hin⟩ := C
  intro H locs ls hP hD hS hl
  exact va_ldcS hx hb hown (hZ.2.1 _ h1) hd (z H locs ls hP hD hS hl)
end SVP
end
section
/-! CONTRACTS OVER WHOLE WORLDS -/
def sv_Pre (g : sv_G) (ws : va_W) (sz : Nat) (U : State) : Prop := U.heap.size = sz ∧ va_P g.1 classes ws U.heap ∧ va_K g.1 classes (sv_tys g) U ∧ va_D (fun _ => True) ws ∧ sv_Str g (va_A ws sz) U U.heap
def sv_B (g : sv_G) (A : Nat → Prop) (w : va_W) (t : State) : Prop := va_P g.1 classes w t.heap ∧ va_D A w
/-- y answers an int r and leaves the world w, with post r w -/
def sv_Mi (l : Launch) (y : MethodName) (cc : ByteArray) (mL : Nat) (ret : Option FieldType) (rm : Room) (g : sv_G) (av : List Value) (ws : va_W) (post : Int32 → va_W → Prop) : Prop := ∀ sz : Nat, Met l y (.code y cc mL ret :: sv_tbl) rm (va_Pc av (sv_Pre g ws sz)) (va_Qi post (sv_B g (va_A ws sz)) (va_A ws sz)) rm.cells rm.slots (va_A ws sz)
/-- .. nothing -/
def sv_Mv (l : Launch) (y : MethodName) (cc : ByteArray) (mL : Nat) (ret : Option FieldType) (rm : Room) (g : sv_G) (av : List Value) (ws : va_W) (post : va_W → Prop) : Prop := ∀ sz : Nat, Met l y (.code y cc mL ret :: sv_tbl) rm (va_Pc av (sv_Pre g ws sz)) (va_Qv post (sv_B g (va_A ws sz)) (va_A ws sz)) rm.cells rm.slots (va_A ws sz)
/-- .. a reference or null -/
def sv_Mq (l : Launch) (y : MethodName) (cc : ByteArray) (mL : Nat) (ret : Option FieldType) (rm : Room) (g : sv_G) (av : List Value) (ws : va_W) (post : Option Nat → va_W → Prop) : Prop := ∀ sz : Nat, Met l y (.code y cc mL ret :: sv_tbl) rm (va_Pc av (sv_Pre g ws sz)) (va_Qq post (sv_B g (va_A ws sz)) (va_A ws sz)) rm.cells rm.slots (va_A ws sz)
theorem sv_blind {g : sv_G} {av : List Value} {ws : va_W} {sz : Nat} : FrameBlind (va_Pc av (sv_Pre g ws sz)) := by
  intro a U gf mk q
  obtain ⟨q0, q1, qP, qK, qD, qZ⟩ := q
  exact ⟨q0, q1, qP, va_K.moved (u := U) (U := U.calling gf mk a) (Vm.Alike.refl U.vm) qK, qD, sv_Str.same (U := U.calling gf mk a) rfl qZ⟩
def sv_av (mL : Nat) (av : List Value) : List (Option Value) := av.map some ++ List.replicate (mL - av.length) none
theorem sv_sl : ∀ (av : List Value), (∀ v ∈ av, v.category = 1) → lg_sl av = av.map Slot.val
  | [], _ => rfl
  | v :: av, h => by
    have h1 : ¬ v.category = 2 := by rw [h v List.mem_cons_self]; decide
    have h2 := sv_sl av (fun w hw => h w (List.mem_cons_of_mem _ hw))
    unfold lg_sl at h2 ⊢
    rw [List.flatMap_cons, if_neg h1, h2]
    rfl
theorem sv_entry_L {av : List Value} {mL : Nat} (hav : ∀ v ∈ av, v.category = 1) (hlen : av.length ≤ mL) : sv_L ((lg_sl av ++ List.replicate (mL - (lg_sl av).length) Slot.unset).toArray) mL (sv_av mL av) := by
  have h0 := lv_entry av (n := mL) (by rw [sv_sl av hav, List.length_map]; exact hlen)
  refine ⟨h0.1, h0.2.1, fun i v hv => ?_⟩
  have hi : i < av.length := by
    rcases Nat.lt_or_ge i av.length with q | q
    · exact q
    · unfold sv_av at hv
      rw [List.getElem?_append_right (by rw [List.length_map]; exact q)] at hv
      have h3 := List.eq_of_mem_replicate (List.mem_of_getElem? hv)
      cases h3
  unfold sv_av at hv
  rw [List.getElem?_append_left (by rw [List.length_map]; exact hi), List.getElem?_map] at hv
  have hv2 : av[i]? = some v := by
    cases h4 : av[i]? with
    | none => rw [h4] at hv; cases hv
    | some w => rw [h4] at hv; cases hv; rfl
  refine ⟨?_, hav v (List.mem_of_getElem? hv2)⟩
  rw [List.getElem?_toArray, sv_sl av hav, List.getElem?_append_left (by rw [List.length_map]; exact hi), List.getElem?_map, hv2]
  rfl
theorem sv_enter_i {l : Launch} {y : MethodName} {cc : ByteArray} {mL : Nat} {ret : Option FieldType} {rm : Room} {g : sv_G} {av : List Value} {ws : va_W} {post : Int32 → va_W → Prop} (hy : plainName y.cls = true) {ty : FieldType} (hret : ret = some ty) (hav0 : av.all (fun v => v.category == 1) = true) (hlen : av.length ≤ mL)
    (body : ∀ X : sv_X, sv_C X l cc mL y.cls rm g → (y.name = "<init>" → sv_isInit X) → (∀ (w : va_W) (pc : Nat) (lv : List (Option Value)) (v : Int32), decode cc pc = .ok (.ireturn, 1) → narrow ty (.int v) = .int v → post v w → sv_V X mL rm.cells rm.slots w pc lv [.int v]) → sv_V X mL 0 0 ws 0 (sv_av mL av) []) : sv_Mi l y cc mL ret rm g av ws post := by
  have hav : ∀ v ∈ av, v.category = 1 := fun v hv => by simpa using List.all_eq_true.mp hav0 v hv
  intro sz
  refine Met.ofW (cc := cc) (maxL := mL) (ret := ret) hy rfl ?_
  intro p e s m args below meth c s₁ B hml hv
  obtain ⟨rfl, hsz, hP, hK, hD0, hZ⟩ := hv
  have hts0 := atoms_spec (ws := .code y cc mL ret :: sv_tbl) B.pre
  subst hsz
  have hD := hD0.self (sz := s.heap.size)
  rw [lg_entry_eq]
  refine body ((p, l, e, rm), (s, m, av.toArray, below), (meth, c, _), g, va_A ws s.heap.size) ⟨rfl, rfl, rfl, B.exec, B.bytes, hml, findClass_of_methodNamed B.named, fun w hw => hts0 w (List.mem_cons_of_mem _ hw), hK, fun q h => Or.inr h, hZ, Or.inr trivial⟩ (fun h => ((name_of_methodNamed B.named B.method).1).trans h) ?_ s.heap [] _ hP hD va_S.rf (sv_entry_L hav hlen)
  intro w pc lv v hd hn hq H locs ls hP hD hS hl
  exact W.zret B.exec B.bytes (B.returns.trans hret) hn (fun t ht hW => ⟨⟨v, w, rfl, hq, by rw [ht]; exact hP, hD⟩, hS.F ht⟩) hS.2.2 hd B.notSynchronized
theorem sv_enter_v {l : Launch} {y : MethodName} {cc : ByteArray} {mL : Nat} {ret : Option FieldType} {rm : Room} {g : sv_G} {av : List Value} {ws : va_W} {post : va_W → Prop} (hy : plainName y.cls = true) (hret : ret = none) (hav0 : av.all (fun v => v.category == 1) = true) (hlen : av.length ≤ mL)
    (body : ∀ X : sv_X, sv_C X l cc mL y.cls rm g → (y.name = "<init>" → sv_isInit X) → (∀ (w : va_W) (pc : Nat) (lv : List (Option Value)) , decode cc pc = .ok (.return_, 1) → post w → sv_V X mL rm.cells rm.slots w pc lv []) → sv_V X mL 0 0 ws 0 (sv_av mL av) []) : sv_Mv l y cc mL ret rm g av ws post := by
  have hav : ∀ v ∈ av, v.category = 1 := fun v hv => by simpa using List.all_eq_true.mp hav0 v hv
  intro sz
  refine Met.ofW (cc := cc) (maxL := mL) (ret := ret) hy rfl ?_
  intro p e s m args below meth c s₁ B hml hv
  obtain ⟨rfl, hsz, hP, hK, hD0, hZ⟩ := hv
  have hts0 := atoms_spec (ws := .code y cc mL ret :: sv_tbl) B.pre
  subst hsz
  have hD := hD0.self (sz := s.heap.size)
  rw [lg_entry_eq]
  refine body ((p, l, e, rm), (s, m, av.toArray, below), (meth, c, _), g, va_A ws s.heap.size) ⟨rfl, rfl, rfl, B.exec, B.bytes, hml, findClass_of_methodNamed B.named, fun w hw => hts0 w (List.mem_cons_of_mem _ hw), hK, fun q h => Or.inr h, hZ, Or.inr trivial⟩ (fun h => ((name_of_methodNamed B.named B.method).1).trans h) ?_ s.heap [] _ hP hD va_S.rf (sv_entry_L hav hlen)
  intro w pc lv hd hq H locs ls hP hD hS hl
  exact W.vret B.exec B.bytes (B.returns.trans hret) (fun t ht hW => ⟨⟨w, rfl, hq, by rw [ht]; exact hP, hD⟩, hS.F ht⟩) hS.2.2 hd B.notSynchronized
theorem sv_enter_q {l : Launch} {y : MethodName} {cc : ByteArray} {mL : Nat} {ret : Option FieldType} {rm : Room} {g : sv_G} {av : List Value} {ws : va_W} {post : Option Nat → va_W → Prop} (hy : plainName y.cls = true) {ty : FieldType} (hret : ret = some ty) (hty : (∃ n, ty = .object n) ∨ ∃ t, ty = .array t) (hav0 : av.all (fun v => v.category == 1) = true) (hlen : av.length ≤ mL)
    (body : ∀ X : sv_X, sv_C X l cc mL y.cls rm g → (y.name = "<init>" → sv_isInit X) → (∀ (w : va_W) (pc : Nat) (lv : List (Option Value)) (v : Option Nat), decode cc pc = .ok (.areturn, 1) → post v w → sv_V X mL rm.cells rm.slots w pc lv [va_rf v]) → sv_V X mL 0 0 ws 0 (sv_av mL av) []) : sv_Mq l y cc mL ret rm g av ws post := by
  have hav : ∀ v ∈ av, v.category = 1 := fun v hv => by simpa using List.all_eq_true.mp hav0 v hv
  intro sz
  refine Met.ofW (cc := cc) (maxL := mL) (ret := ret) hy rfl ?_
  intro p e s m args below meth c s₁ B hml hv
  obtain ⟨rfl, hsz, hP, hK, hD0, hZ⟩ := hv
  have hts0 := atoms_spec (ws := .code y cc mL ret :: sv_tbl) B.pre
  subst hsz
  have hD := hD0.self (sz := s.heap.size)
  rw [lg_entry_eq]
  refine body ((p, l, e, rm), (s, m, av.toArray, below), (meth, c, _), g, va_A ws s.heap.size) ⟨rfl, rfl, rfl, B.exec, B.bytes, hml, findClass_of_methodNamed B.named, fun w hw => hts0 w (List.mem_cons_of_mem _ hw), hK, fun q h => Or.inr h, hZ, Or.inr trivial⟩ (fun h => ((name_of_methodNamed B.named B.method).1).trans h) ?_ s.heap [] _ hP hD va_S.rf (sv_entry_L hav hlen)
  intro w pc lv v hd hq H locs ls hP hD hS hl
  exact W.aret B.exec B.bytes (B.returns.trans hret) hty (va_rf_or v) (fun t ht hW => ⟨⟨v, w, rfl, hq, by rw [ht]; exact hP, hD⟩, hS.F ht⟩) hS.2.2 hd B.notSynchronized
theorem sv_goodIn {w : Cond} (h : w ∈ sv_tbl) : GoodIn sv_tbl (w :: sv_tbl) := by
  intro u hu
  rcases List.mem_cons.mp hu with rfl | hu
  · exact ⟨h, sv_tbl_good _ h⟩
  · exact ⟨hu, sv_tbl_good _ hu⟩
/-- the words of a call: kind 0 virtual, 1 static, 2 constructor -/
def sv_LK (kind : Nat) (own : String) (ix : Nat) (y : MethodName) (cc : ByteArray) (mL : Nat) (ret : Option FieldType) (nA : Nat) : Prop := Cond.methodLink own ix y ∈ sv_tbl ∧ Cond.code y cc mL ret ∈ sv_tbl ∧ Cond.initialized y.cls ∈ sv_tbl ∧ (y.cls ≠ "java/lang/invoke/MethodHandle" ∧ y.cls ≠ "java/lang/invoke/VarHandle" ∧ (parseMethodDescriptor y.desc).map (fun d => d.parameters.length) = some nA) ∧ (match kind with | 0 => Cond.instanceMethod y ∈ sv_tbl ∧ Cond.selects y.cls y y ∈ sv_tbl | 1 => Cond.static y ∈ sv_tbl | _ => y.name = "<init>" ∧ Cond.instanceMethod y ∈ sv_tbl)
/-- .. of a nest mate's private method -/
def sv_LKN (kind : Nat) (own : String) (ix : Nat) (y : MethodName) (host : String) (cc : ByteArray) (mL : Nat) (ret : Option FieldType) (nA : Nat) : Prop := Cond.methodLinkNest own ix y host ∈ sv_tbl ∧ Cond.code y cc mL ret ∈ sv_tbl ∧ Cond.initialized y.cls ∈ sv_tbl ∧ (y.cls ≠ "java/lang/invoke/MethodHandle" ∧ y.cls ≠ "java/lang/invoke/VarHandle" ∧ (parseMethodDescriptor y.desc).map (fun d => d.parameters.length) = some nA) ∧ (match kind with | 0 => Cond.instanceMethod y ∈ sv_tbl ∧ Cond.selects y.cls y y ∈ sv_tbl | 1 => Cond.static y ∈ sv_tbl | _ => y.name = "<init>" ∧ Cond.instanceMethod y ∈ sv_tbl)
section SVC
variable {X : sv_X} {l : Launch} {cc : ByteArray} {nL k n pc : Nat} {own : String} {rm : Room} {g : sv_G} {ws : va_W} {lv : List (Option Value)} {st : List Value}
variable {y : MethodName} {cc2 : ByteArray} {mL : Nat} {ret : Option FieldType} {rm2 : Room}
theorem sv_callVi (C : sv_C X l cc nL own rm g) {b : Nat} {As : List Value} {ix : Nat}  {post : Int32 → va_W → Prop} (M : sv_Mi l y cc2 mL ret rm2 g (.ref b :: As) ws post) (hk : sv_LK 0 own ix y cc2 mL ret As.length) {ci : Nat} {fs : List Value} {T : u_T} {N : Nat} (he : (b, .inr (ci, fs)) ∈ ws) (hc : classes[ci]? = some (y.cls, T, N)) (hd : decode cc pc = .ok (.invokevirtual ix, 3)) (hroom : rm2.frames + 1 ≤ rm.frames ∧ 8 + (mL + 11) + rm2.locals ≤ rm.locals) (hst : (st.map fun v => v.category).sum ≤ 8) (hcs : k + rm2.cells ≤ rm.cells ∧ n + rm2.slots ≤ rm.slots) (z : ∀ (r : Int32) (w : va_W), post r w → sv_V X nL (k + rm2.cells) (n + rm2.slots) w (pc + 3) lv (.int r :: st)) : sv_V X nL k n ws pc lv (As.reverse ++ .ref b :: st) := by
  obtain ⟨⟨p, l0, e, R⟩, ⟨s, m, args, below⟩, ⟨meth, c, Q⟩, g0, A⟩ := X
  obtain ⟨rfl, rfl, rfl, hx, hb, hml, hown, hts, hK, hA, hZ, hin⟩ := C
  intro H locs ls hP hD hS hl
  have hF : ∀ q : Nat, va_A ws H.size q → A q := by
    intro q h
    rcases h with ⟨j, e1, h⟩ | h
    · exact hD.2 j _ h
    · exact hA q (Nat.le_trans hS.1 h)
  obtain ⟨h1, h2, h3, h4, h5⟩ := hk
  obtain ⟨qc, he⟩ := List.getElem?_of_mem he
  have hrecv := va_recv hK hP hc he
  exact va_calli (va_runV (As := As) (rest := st) ⟨hx, hb, hml, hown, hts⟩ (M H.size) ⟨(callB_of As.length hts (sv_goodIn h2) rfl rfl rfl (hts _ h3) (hts _ h1) h4 hroom), hts _ h5.1, hts _ h5.2⟩ ⟨sv_blind, hrecv, fun U hU hW => ⟨rfl, by rw [hU], by rw [hU]; exact hP, va_K.moved hW.alike hK, hD.weaken (fun _ _ _ _ => trivial), sv_Str.call hZ hS hF hU hW⟩⟩ rfl rfl hl.1 rfl (lv_room hst) hd hcs) hS (fun q _ h => hF q h) hF (fun r u t H1 locs1 ht hvm hw hB hz1 hk1 hS1 => z r u hw H1 locs1 ls (by rw [← ht]; exact hB.1) (hB.2.weaken (fun _ q _ h => hF q.1 h)) hS1 hl)
theorem sv_callVv (C : sv_C X l cc nL own rm g) {b : Nat} {As : List Value} {ix : Nat}  {post : va_W → Prop} (M : sv_Mv l y cc2 mL ret rm2 g (.ref b :: As) ws post) (hk : sv_LK 0 own ix y cc2 mL ret As.length) {ci : Nat} {fs : List Value} {T : u_T} {N : Nat} (he : (b, .inr (ci, fs)) ∈ ws) (hc : classes[ci]? = some (y.cls, T, N)) (hd : decode cc pc = .ok (.invokevirtual ix, 3)) (hroom : rm2.frames + 1 ≤ rm.frames ∧ 8 + (mL + 11) + rm2.locals ≤ rm.locals) (hst : (st.map fun v => v.category).sum ≤ 8) (hcs : k + rm2.cells ≤ rm.cells ∧ n + rm2.slots ≤ rm.slots) (z : ∀ w : va_W, post w → sv_V X nL (k + rm2.cells) (n + rm2.slots) w (pc + 3) lv st) : sv_V X nL k n ws pc lv (As.reverse ++ .ref b :: st) := by
  obtain ⟨⟨p, l0, e, R⟩, ⟨s, m, args, below⟩, ⟨meth, c, Q⟩, g0, A⟩ := X
  obtain ⟨rfl, rfl, rfl, hx, hb, hml, hown, hts, hK, hA, hZ, hin⟩ := C
  intro H locs ls hP hD hS hl
  have hF : ∀ q : Nat, va_A ws H.size q → A q := by
    intro q h
    rcases h with ⟨j, e1, h⟩ | h
    · exact hD.2 j _ h
    · exact hA q (Nat.le_trans hS.1 h)
  obtain ⟨h1, h2, h3, h4, h5⟩ := hk
  obtain ⟨qc, he⟩ := List.getElem?_of_mem he
  have hrecv := va_recv hK hP hc he
  exact va_callv (va_runV (As := As) (rest := st) ⟨hx, hb, hml, hown, hts⟩ (M H.size) ⟨(callB_of As.length hts (sv_goodIn h2) rfl rfl rfl (hts _ h3) (hts _ h1) h4 hroom), hts _ h5.1, hts _ h5.2⟩ ⟨sv_blind, hrecv, fun U hU hW => ⟨rfl, by rw [hU], by rw [hU]; exact hP, va_K.moved hW.alike hK, hD.weaken (fun _ _ _ _ => trivial), sv_Str.call hZ hS hF hU hW⟩⟩ rfl rfl hl.1 rfl (lv_room hst) hd hcs) hS (fun q _ h => hF q h) hF (fun u t H1 locs1 ht hvm hw hB hz1 hk1 hS1 => z u hw H1 locs1 ls (by rw [← ht]; exact hB.1) (hB.2.weaken (fun _ q _ h => hF q.1 h)) hS1 hl)
theorem sv_callVq (C : sv_C X l cc nL own rm g) {b : Nat} {As : List Value} {ix : Nat}  {post : Option Nat → va_W → Prop} (M : sv_Mq l y cc2 mL ret rm2 g (.ref b :: As) ws post) (hk : sv_LK 0 own ix y cc2 mL ret As.length) {ci : Nat} {fs : List Value} {T : u_T} {N : Nat} (he : (b, .inr (ci, fs)) ∈ ws) (hc : classes[ci]? = some (y.cls, T, N)) (hd : decode cc pc = .ok (.invokevirtual ix, 3)) (hroom : rm2.frames + 1 ≤ rm.frames ∧ 8 + (mL + 11) + rm2.locals ≤ rm.locals) (hst : (st.map fun v => v.category).sum ≤ 8) (hcs : k + rm2.cells ≤ rm.cells ∧ n + rm2.slots ≤ rm.slots) (z : ∀ (r : Option Nat) (w : va_W), post r w → sv_V X nL (k + rm2.cells) (n + rm2.slots) w (pc + 3) lv (va_rf r :: st)) : sv_V X nL k n ws pc lv (As.reverse ++ .ref b :: st) := by
  obtain ⟨⟨p, l0, e, R⟩, ⟨s, m, args, below⟩, ⟨meth, c, Q⟩, g0, A⟩ := X
  obtain ⟨rfl, rfl, rfl, hx, hb, hml, hown, hts, hK, hA, hZ, hin⟩ := C
  intro H locs ls hP hD hS hl
  have hF : ∀ q : Nat, va_A ws H.size q → A q := by
    intro q h
    rcases h with ⟨j, e1, h⟩ | h
    · exact hD.2 j _ h
    · exact hA q (Nat.le_trans hS.1 h)
  obtain ⟨h1, h2, h3, h4, h5⟩ := hk
  obtain ⟨qc, he⟩ := List.getElem?_of_mem he
  have hrecv := va_recv hK hP hc he
  exact va_callq (va_runV (As := As) (rest := st) ⟨hx, hb, hml, hown, hts⟩ (M H.size) ⟨(callB_of As.length hts (sv_goodIn h2) rfl rfl rfl (hts _ h3) (hts _ h1) h4 hroom), hts _ h5.1, hts _ h5.2⟩ ⟨sv_blind, hrecv, fun U hU hW => ⟨rfl, by rw [hU], by rw [hU]; exact hP, va_K.moved hW.alike hK, hD.weaken (fun _ _ _ _ => trivial), sv_Str.call hZ hS hF hU hW⟩⟩ rfl rfl hl.1 rfl (lv_room hst) hd hcs) hS (fun q _ h => hF q h) hF (fun r u t H1 locs1 ht hvm hw hB hz1 hk1 hS1 => z r u hw H1 locs1 ls (by rw [← ht]; exact hB.1) (hB.2.weaken (fun _ q _ h => hF q.1 h)) hS1 hl)
theorem sv_callSi (C : sv_C X l cc nL own rm g)  {As : List Value} {ix : Nat}  {post : Int32 → va_W → Prop} (M : sv_Mi l y cc2 mL ret rm2 g As ws post) (hk : sv_LK 1 own ix y cc2 mL ret As.length)  (hd : decode cc pc = .ok (.invokestatic ix, 3)) (hroom : rm2.frames + 1 ≤ rm.frames ∧ 8 + (mL + 11) + rm2.locals ≤ rm.locals) (hst : (st.map fun v => v.category).sum ≤ 8) (hcs : k + rm2.cells ≤ rm.cells ∧ n + rm2.slots ≤ rm.slots) (z : ∀ (r : Int32) (w : va_W), post r w → sv_V X nL (k + rm2.cells) (n + rm2.slots) w (pc + 3) lv (.int r :: st)) : sv_V X nL k n ws pc lv (As.reverse ++ st) := by
  obtain ⟨⟨p, l0, e, R⟩, ⟨s, m, args, below⟩, ⟨meth, c, Q⟩, g0, A⟩ := X
  obtain ⟨rfl, rfl, rfl, hx, hb, hml, hown, hts, hK, hA, hZ, hin⟩ := C
  intro H locs ls hP hD hS hl
  have hF : ∀ q : Nat, va_A ws H.size q → A q := by
    intro q h
    rcases h with ⟨j, e1, h⟩ | h
    · exact hD.2 j _ h
    · exact hA q (Nat.le_trans hS.1 h)
  obtain ⟨h1, h2, h3, h4, h5⟩ := hk
  exact va_calli (va_runS (As := As) (rest := st) ⟨hx, hb, hml, hown, hts⟩ (M H.size) ⟨(callB_of As.length hts (sv_goodIn h2) rfl rfl rfl (hts _ h3) (hts _ h1) h4 hroom), hts _ h5⟩ ⟨sv_blind, fun U hU hW => ⟨rfl, by rw [hU], by rw [hU]; exact hP, va_K.moved hW.alike hK, hD.weaken (fun _ _ _ _ => trivial), sv_Str.call hZ hS hF hU hW⟩⟩ rfl rfl hl.1 rfl (lv_room hst) hd hcs) hS (fun q _ h => hF q h) hF (fun r u t H1 locs1 ht hvm hw hB hz1 hk1 hS1 => z r u hw H1 locs1 ls (by rw [← ht]; exact hB.1) (hB.2.weaken (fun _ q _ h => hF q.1 h)) hS1 hl)
theorem sv_callSv (C : sv_C X l cc nL own rm g)  {As : List Value} {ix : Nat}  {post : va_W → Prop} (M : sv_Mv l y cc2 mL ret rm2 g As ws post) (hk : sv_LK 1 own ix y cc2 mL ret As.length)  (hd : decode cc pc = .ok (.invokestatic ix, 3)) (hroom : rm2.frames + 1 ≤ rm.frames ∧ 8 + (mL + 11) + rm2.locals ≤ rm.locals) (hst : (st.map fun v => v.category).sum ≤ 8) (hcs : k + rm2.cells ≤ rm.cells ∧ n + rm2.slots ≤ rm.slots) (z : ∀ w : va_W, post w → sv_V X nL (k + rm2.cells) (n + rm2.slots) w (pc + 3) lv st) : sv_V X nL k n ws pc lv (As.reverse ++ st) := by
  obtain ⟨⟨p, l0, e, R⟩, ⟨s, m, args, below⟩, ⟨meth, c, Q⟩, g0, A⟩ := X
  obtain ⟨rfl, rfl, rfl, hx, hb, hml, hown, hts, hK, hA, hZ, hin⟩ := C
  intro H locs ls hP hD hS hl
  have hF : ∀ q : Nat, va_A ws H.size q → A q := by
    intro q h
    rcases h with ⟨j, e1, h⟩ | h
    · exact hD.2 j _ h
    · exact hA q (Nat.le_trans hS.1 h)
  obtain ⟨h1, h2, h3, h4, h5⟩ := hk
  exact va_callv (va_runS (As := As) (rest := st) ⟨hx, hb, hml, hown, hts⟩ (M H.size) ⟨(callB_of As.length hts (sv_goodIn h2) rfl rfl rfl (hts _ h3) (hts _ h1) h4 hroom), hts _ h5⟩ ⟨sv_blind, fun U hU hW => ⟨rfl, by rw [hU], by rw [hU]; exact hP, va_K.moved hW.alike hK, hD.weaken (fun _ _ _ _ => trivial), sv_Str.call hZ hS hF hU hW⟩⟩ rfl rfl hl.1 rfl (lv_room hst) hd hcs) hS (fun q _ h => hF q h) hF (fun u t H1 locs1 ht hvm hw hB hz1 hk1 hS1 => z u hw H1 locs1 ls (by rw [← ht]; exact hB.1) (hB.2.weaken (fun _ q _ h => hF q.1 h)) hS1 hl)
theorem sv_callSq (C : sv_C X l cc nL own rm g)  {As : List Value} {ix : Nat}  {post : Option Nat → va_W → Prop} (M : sv_Mq l y cc2 mL ret rm2 g As ws post) (hk : sv_LK 1 own ix y cc2 mL ret As.length)  (hd : decode cc pc = .ok (.invokestatic ix, 3)) (hroom : rm2.frames + 1 ≤ rm.frames ∧ 8 + (mL + 11) + rm2.locals ≤ rm.locals) (hst : (st.map fun v => v.category).sum ≤ 8) (hcs : k + rm2.cells ≤ rm.cells ∧ n + rm2.slots ≤ rm.slots) (z : ∀ (r : Option Nat) (w : va_W), post r w → sv_V X nL (k + rm2.cells) (n + rm2.slots) w (pc + 3) lv (va_rf r :: st)) : sv_V X nL k n ws pc lv (As.reverse ++ st) := by
  obtain ⟨⟨p, l0, e, R⟩, ⟨s, m, args, below⟩, ⟨meth, c, Q⟩, g0, A⟩ := X
  obtain ⟨rfl, rfl, rfl, hx, hb, hml, hown, hts, hK, hA, hZ, hin⟩ := C
  intro H locs ls hP hD hS hl
  have hF : ∀ q : Nat, va_A ws H.size q → A q := by
    intro q h
    rcases h with ⟨j, e1, h⟩ | h
    · exact hD.2 j _ h
    · exact hA q (Nat.le_trans hS.1 h)
  obtain ⟨h1, h2, h3, h4, h5⟩ := hk
  exact va_callq (va_runS (As := As) (rest := st) ⟨hx, hb, hml, hown, hts⟩ (M H.size) ⟨(callB_of As.length hts (sv_goodIn h2) rfl rfl rfl (hts _ h3) (hts _ h1) h4 hroom), hts _ h5⟩ ⟨sv_blind, fun U hU hW => ⟨rfl, by rw [hU], by rw [hU]; exact hP, va_K.moved hW.alike hK, hD.weaken (fun _ _ _ _ => trivial), sv_Str.call hZ hS hF hU hW⟩⟩ rfl rfl hl.1 rfl (lv_room hst) hd hcs) hS (fun q _ h => hF q h) hF (fun r u t H1 locs1 ht hvm hw hB hz1 hk1 hS1 => z r u hw H1 locs1 ls (by rw [← ht]; exact hB.1) (hB.2.weaken (fun _ q _ h => hF q.1 h)) hS1 hl)
theorem sv_callIv (C : sv_C X l cc nL own rm g) {b : Nat} {As : List Value} {ix : Nat}  {post : va_W → Prop} (M : sv_Mv l y cc2 mL none rm2 g (.ref b :: As) ws post) (hk : sv_LK 2 own ix y cc2 mL none As.length)  (hd : decode cc pc = .ok (.invokespecial ix, 3)) (hroom : rm2.frames + 1 ≤ rm.frames ∧ 8 + (mL + 11) + rm2.locals ≤ rm.locals) (hst : (st.map fun v => v.category).sum ≤ 8) (hcs : k + rm2.cells ≤ rm.cells ∧ n + rm2.slots ≤ rm.slots) (z : ∀ w : va_W, post w → sv_V X nL (k + rm2.cells) (n + rm2.slots) w (pc + 3) lv st) : sv_V X nL k n ws pc lv (As.reverse ++ .ref b :: st) := by
  obtain ⟨⟨p, l0, e, R⟩, ⟨s, m, args, below⟩, ⟨meth, c, Q⟩, g0, A⟩ := X
  obtain ⟨rfl, rfl, rfl, hx, hb, hml, hown, hts, hK, hA, hZ, hin⟩ := C
  intro H locs ls hP hD hS hl
  have hF : ∀ q : Nat, va_A ws H.size q → A q := by
    intro q h
    rcases h with ⟨j, e1, h⟩ | h
    · exact hD.2 j _ h
    · exact hA q (Nat.le_trans hS.1 h)
  obtain ⟨h1, h2, h3, h4, h5⟩ := hk
  exact va_callv (va_runI (As := As) (rest := st) ⟨hx, hb, hml, hown, hts⟩ (M H.size) ⟨(callB_of As.length hts (sv_goodIn h2) rfl rfl rfl (hts _ h3) (hts _ h1) h4 hroom), h5.1, hts _ h5.2⟩ ⟨sv_blind, fun U hU hW => ⟨rfl, by rw [hU], by rw [hU]; exact hP, va_K.moved hW.alike hK, hD.weaken (fun _ _ _ _ => trivial), sv_Str.call hZ hS hF hU hW⟩⟩ rfl rfl hl.1 rfl (lv_room hst) hd hcs) hS (fun q _ h => hF q h) hF (fun u t H1 locs1 ht hvm hw hB hz1 hk1 hS1 => z u hw H1 locs1 ls (by rw [← ht]; exact hB.1) (hB.2.weaken (fun _ q _ h => hF q.1 h)) hS1 hl)
end SVC
end
section
/-! ROWS OVER NATURAL NUMBERS, CONSTANTS, BOOLEANS -/
section SVN
variable {X : sv_X} {l : Launch} {cc : ByteArray} {nL k n pc : Nat} {own : String} {rm : Room} {g : sv_G} {ws : va_W} {lv : List (Option Value)} {st : List Value}
theorem sv_iaddN (C : sv_C X l cc nL own rm g) (a b : Nat) (hd : decode cc pc = .ok (.iadd, 1)) (z : sv_V X nL k n ws (pc + 1) lv (.int (nI (a + b)) :: st)) : sv_V X nL k n ws pc lv (.int (nI b) :: .int (nI a) :: st) := sv_iadd C hd (by rw [nI_add]; exact z)
theorem sv_isubN (C : sv_C X l cc nL own rm g) (a b : Nat) (h : b ≤ a) (hd : decode cc pc = .ok (.isub, 1)) (z : sv_V X nL k n ws (pc + 1) lv (.int (nI (a - b)) :: st)) : sv_V X nL k n ws pc lv (.int (nI b) :: .int (nI a) :: st) := sv_isub C hd (by rw [pk_sub h]; exact z)
theorem sv_imulN (C : sv_C X l cc nL own rm g) (a b : Nat) (hd : decode cc pc = .ok (.imul, 1)) (z : sv_V X nL k n ws (pc + 1) lv (.int (nI (a * b)) :: st)) : sv_V X nL k n ws pc lv (.int (nI b) :: .int (nI a) :: st) := sv_imul C hd (by rw [pk_mul]; exact z)
theorem sv_iremN (C : sv_C X l cc nL own rm g) (a b : Nat) (ha : a < 2 ^ 31) (h0 : 0 < b) (hb : b < 2 ^ 31) (hd : decode cc pc = .ok (.irem, 1)) (z : sv_V X nL k n ws (pc + 1) lv (.int (nI (a % b)) :: st)) : sv_V X nL k n ws pc lv (.int (nI b) :: .int (nI a) :: st) := sv_irem C (nI_ne0 h0 hb) hd (by rw [pk_rem ha h0 hb]; exact z)
theorem sv_iincN (C : sv_C X l cc nL own rm g) (j : Nat) {i : Nat} (a : Nat) (hx0 : lv[i]? = some (some (.int (nI a)))) (lv' : List (Option Value)) (hlv : lv.set i (some (.int (nI (a + j)))) = lv') (hd : decode cc pc = .ok (.iinc i (j : Int), 3)) (z : sv_V X nL k n ws (pc + 3) lv' st) : sv_V X nL k n ws pc lv st := sv_iinc C hx0 (v := nI (a + j)) (by rw [show Int32.ofInt (j : Int) = nI j from rfl, nI_add]) lv' hlv hd z
theorem sv_icmpN_eq (C : sv_C X l cc nL own rm g) (a b : Nat) (ha : a < 2 ^ 31) (hb : b < 2 ^ 31) {off : Int} (tgt : Nat) (ht : (pc : Int) + off = (tgt : Int)) (hd : decode cc pc = .ok (.if_icmp .eq off, 3)) (zt : a = b → sv_V X nL k n ws tgt lv st) (zf : a ≠ b → sv_V X nL k n ws (pc + 3) lv st) : sv_V X nL k n ws pc lv (.int (nI b) :: .int (nI a) :: st) := sv_icmp_eq C tgt ht hd (fun q => zt ((nI_eq ha hb).mp q)) (fun q => zf (fun r => q ((nI_eq ha hb).mpr r)))
theorem sv_icmpN_ne (C : sv_C X l cc nL own rm g) (a b : Nat) (ha : a < 2 ^ 31) (hb : b < 2 ^ 31) {off : Int} (tgt : Nat) (ht : (pc : Int) + off = (tgt : Int)) (hd : decode cc pc = .ok (.if_icmp .ne off, 3)) (zt : a ≠ b → sv_V X nL k n ws tgt lv st) (zf : a = b → sv_V X nL k n ws (pc + 3) lv st) : sv_V X nL k n ws pc lv (.int (nI b) :: .int (nI a) :: st) := sv_icmp_ne C tgt ht hd (fun q => zt (fun r => q ((nI_eq ha hb).mpr r))) (fun q => zf ((nI_eq ha hb).mp q))
theorem sv_icmpN_lt (C : sv_C X l cc nL own rm g) (a b : Nat) (ha : a < 2 ^ 31) (hb : b < 2 ^ 31) {off : Int} (tgt : Nat) (ht : (pc : Int) + off = (tgt : Int)) (hd : decode cc pc = .ok (.if_icmp .lt off, 3)) (zt : a < b → sv_V X nL k n ws tgt lv st) (zf : b ≤ a → sv_V X nL k n ws (pc + 3) lv st) : sv_V X nL k n ws pc lv (.int (nI b) :: .int (nI a) :: st) := sv_icmp_lt C tgt ht hd (fun q => zt ((nI_ltI ha hb).mp q)) (fun q => zf (by have q2 : ¬ (a < b) := fun r => q ((nI_ltI ha hb).mpr r); omega))
theorem sv_icmpN_ge (C : sv_C X l cc nL own rm g) (a b : Nat) (ha : a < 2 ^ 31) (hb : b < 2 ^ 31) {off : Int} (tgt : Nat) (ht : (pc : Int) + off = (tgt : Int)) (hd : decode cc pc = .ok (.if_icmp .ge off, 3)) (zt : b ≤ a → sv_V X nL k n ws tgt lv st) (zf : a < b → sv_V X nL k n ws (pc + 3) lv st) : sv_V X nL k n ws pc lv (.int (nI b) :: .int (nI a) :: st) := sv_icmp_ge C tgt ht hd (fun q => zt ((nI_leI hb ha).mp q)) (fun q => zf (by have q2 : ¬ (b ≤ a) := fun r => q ((nI_leI hb ha).mpr r); omega))
theorem sv_icmpN_gt (C : sv_C X l cc nL own rm g) (a b : Nat) (ha : a < 2 ^ 31) (hb : b < 2 ^ 31) {off : Int} (tgt : Nat) (ht : (pc : Int) + off = (tgt : Int)) (hd : decode cc pc = .ok (.if_icmp .gt off, 3)) (zt : b < a → sv_V X nL k n ws tgt lv st) (zf : a ≤ b → sv_V X nL k n ws (pc + 3) lv st) : sv_V X nL k n ws pc lv (.int (nI b) :: .int (nI a) :: st) := sv_icmp_gt C tgt ht hd (fun q => zt ((nI_ltI hb ha).mp q)) (fun q => zf (by have q2 : ¬ (b < a) := fun r => q ((nI_ltI hb ha).mpr r); omega))
theorem sv_icmpN_le (C : sv_C X l cc nL own rm g) (a b : Nat) (ha : a < 2 ^ 31) (hb : b < 2 ^ 31) {off : Int} (tgt : Nat) (ht : (pc : Int) + off = (tgt : Int)) (hd : decode cc pc = .ok (.if_icmp .le off, 3)) (zt : a ≤ b → sv_V X nL k n ws tgt lv st) (zf : b < a → sv_V X nL k n ws (pc + 3) lv st) : sv_V X nL k n ws pc lv (.int (nI b) :: .int (nI a) :: st) := sv_icmp_le C tgt ht hd (fun q => zt ((nI_leI ha hb).mp q)) (fun q => zf (by have q2 : ¬ (a ≤ b) := fun r => q ((nI_leI ha hb).mpr r); omega))
theorem sv_icmpK_eq (C : sv_C X l cc nL own rm g) {x y : Int32} (b : Int) (hb : y.toInt = b) {off : Int} (tgt : Nat) (ht : (pc : Int) + off = (tgt : Int)) (hd : decode cc pc = .ok (.if_icmp .eq off, 3)) (zt : x.toInt = b → sv_V X nL k n ws tgt lv st) (zf : x.toInt ≠ b → sv_V X nL k n ws (pc + 3) lv st) : sv_V X nL k n ws pc lv (.int y :: .int x :: st) := sv_icmp_eq C tgt ht hd (fun q => zt (by rw [q]; exact hb)) (fun q => zf (fun r => q (Int32.toInt_inj.mp (r.trans hb.symm))))
theorem sv_ifZ_eq (C : sv_C X l cc nL own rm g) {x : Int32} {off : Int} (tgt : Nat) (ht : (pc : Int) + off = (tgt : Int)) (hd : decode cc pc = .ok (.ifCond .eq off, 3)) (zt : x.toInt = 0 → sv_V X nL k n ws tgt lv st) (zf : x.toInt ≠ 0 → sv_V X nL k n ws (pc + 3) lv st) : sv_V X nL k n ws pc lv (.int x :: st) := by
  have hb : (0 : Int32).toInt = 0 := rfl
  exact sv_if_eq C tgt ht hd (fun q => zt (by rw [q]; exact hb)) (fun q => zf (fun r => q (Int32.toInt_inj.mp (r.trans hb.symm))))
theorem sv_icmpK_ne (C : sv_C X l cc nL own rm g) {x y : Int32} (b : Int) (hb : y.toInt = b) {off : Int} (tgt : Nat) (ht : (pc : Int) + off = (tgt : Int)) (hd : decode cc pc = .ok (.if_icmp .ne off, 3)) (zt : x.toInt ≠ b → sv_V X nL k n ws tgt lv st) (zf : x.toInt = b → sv_V X nL k n ws (pc + 3) lv st) : sv_V X nL k n ws pc lv (.int y :: .int x :: st) := sv_icmp_ne C tgt ht hd (fun q => zt (fun r => q (Int32.toInt_inj.mp (r.trans hb.symm)))) (fun q => zf (by rw [q]; exact hb))
theorem sv_ifZ_ne (C : sv_C X l cc nL own rm g) {x : Int32} {off : Int} (tgt : Nat) (ht : (pc : Int) + off = (tgt : Int)) (hd : decode cc pc = .ok (.ifCond .ne off, 3)) (zt : x.toInt ≠ 0 → sv_V X nL k n ws tgt lv st) (zf : x.toInt = 0 → sv_V X nL k n ws (pc + 3) lv st) : sv_V X nL k n ws pc lv (.int x :: st) := by
  have hb : (0 : Int32).toInt = 0 := rfl
  exact sv_if_ne C tgt ht hd (fun q => zt (fun r => q (Int32.toInt_inj.mp (r.trans hb.symm)))) (fun q => zf (by rw [q]; exact hb))
theorem sv_icmpK_lt (C : sv_C X l cc nL own rm g) {x y : Int32} (b : Int) (hb : y.toInt = b) {off : Int} (tgt : Nat) (ht : (pc : Int) + off = (tgt : Int)) (hd : decode cc pc = .ok (.if_icmp .lt off, 3)) (zt : x.toInt < b → sv_V X nL k n ws tgt lv st) (zf : b ≤ x.toInt → sv_V X nL k n ws (pc + 3) lv st) : sv_V X nL k n ws pc lv (.int y :: .int x :: st) := sv_icmp_lt C tgt ht hd (fun q => zt (by have q2 := Int32.lt_iff_toInt_lt.mp q; omega)) (fun q => zf (by have q2 : ¬ (x.toInt < y.toInt) := fun r => q (Int32.lt_iff_toInt_lt.mpr r); omega))
theorem sv_ifZ_lt (C : sv_C X l cc nL own rm g) {x : Int32} {off : Int} (tgt : Nat) (ht : (pc : Int) + off = (tgt : Int)) (hd : decode cc pc = .ok (.ifCond .lt off, 3)) (zt : x.toInt < 0 → sv_V X nL k n ws tgt lv st) (zf : 0 ≤ x.toInt → sv_V X nL k n ws (pc + 3) lv st) : sv_V X nL k n ws pc lv (.int x :: st) := by
  have hb : (0 : Int32).toInt = 0 := rfl
  exact sv_if_lt C tgt ht hd (fun q => zt (by have q2 := Int32.lt_iff_toInt_lt.mp q; omega)) (fun q => zf (by have q2 : ¬ (x.toInt < (0 : Int32).toInt) := fun r => q (Int32.lt_iff_toInt_lt.mpr r); omega))
theorem sv_icmpK_ge (C : sv_C X l cc nL own rm g) {x y : Int32} (b : Int) (hb : y.toInt = b) {off : Int} (tgt : Nat) (ht : (pc : Int) + off = (tgt : Int)) (hd : decode cc pc = .ok (.if_icmp .ge off, 3)) (zt : b ≤ x.toInt → sv_V X nL k n ws tgt lv st) (zf : x.toInt < b → sv_V X nL k n ws (pc + 3) lv st) : sv_V X nL k n ws pc lv (.int y :: .int x :: st) := sv_icmp_ge C tgt ht hd (fun q => zt (by have q2 := Int32.le_iff_toInt_le.mp q; omega)) (fun q => zf (by have q2 : ¬ (y.toInt ≤ x.toInt) := fun r => q (Int32.le_iff_toInt_le.mpr r); omega))
theorem sv_ifZ_ge (C : sv_C X l cc nL own rm g) {x : Int32} {off : Int} (tgt : Nat) (ht : (pc : Int) + off = (tgt : Int)) (hd : decode cc pc = .ok (.ifCond .ge off, 3)) (zt : 0 ≤ x.toInt → sv_V X nL k n ws tgt lv st) (zf : x.toInt < 0 → sv_V X nL k n ws (pc + 3) lv st) : sv_V X nL k n ws pc lv (.int x :: st) := by
  have hb : (0 : Int32).toInt = 0 := rfl
  exact sv_if_ge C tgt ht hd (fun q => zt (by have q2 := Int32.le_iff_toInt_le.mp q; omega)) (fun q => zf (by have q2 : ¬ ((0 : Int32).toInt ≤ x.toInt) := fun r => q (Int32.le_iff_toInt_le.mpr r); omega))
theorem sv_icmpK_gt (C : sv_C X l cc nL own rm g) {x y : Int32} (b : Int) (hb : y.toInt = b) {off : Int} (tgt : Nat) (ht : (pc : Int) + off = (tgt : Int)) (hd : decode cc pc = .ok (.if_icmp .gt off, 3)) (zt : b < x.toInt → sv_V X nL k n ws tgt lv st) (zf : x.toInt ≤ b → sv_V X nL k n ws (pc + 3) lv st) : sv_V X nL k n ws pc lv (.int y :: .int x :: st) := sv_icmp_gt C tgt ht hd (fun q => zt (by have q2 := Int32.lt_iff_toInt_lt.mp q; omega)) (fun q => zf (by have q2 : ¬ (y.toInt < x.toInt) := fun r => q (Int32.lt_iff_toInt_lt.mpr r); omega))
theorem sv_ifZ_gt (C : sv_C X l cc nL own rm g) {x : Int32} {off : Int} (tgt : Nat) (ht : (pc : Int) + off = (tgt : Int)) (hd : decode cc pc = .ok (.ifCond .gt off, 3)) (zt : 0 < x.toInt → sv_V X nL k n ws tgt lv st) (zf : x.toInt ≤ 0 → sv_V X nL k n ws (pc + 3) lv st) : sv_V X nL k n ws pc lv (.int x :: st) := by
  have hb : (0 : Int32).toInt = 0 := rfl
  exact sv_if_gt C tgt ht hd (fun q => zt (by have q2 := Int32.lt_iff_toInt_lt.mp q; omega)) (fun q => zf (by have q2 : ¬ ((0 : Int32).toInt < x.toInt) := fun r => q (Int32.lt_iff_toInt_lt.mpr r); omega))
theorem sv_icmpK_le (C : sv_C X l cc nL own rm g) {x y : Int32} (b : Int) (hb : y.toInt = b) {off : Int} (tgt : Nat) (ht : (pc : Int) + off = (tgt : Int)) (hd : decode cc pc = .ok (.if_icmp .le off, 3)) (zt : x.toInt ≤ b → sv_V X nL k n ws tgt lv st) (zf : b < x.toInt → sv_V X nL k n ws (pc + 3) lv st) : sv_V X nL k n ws pc lv (.int y :: .int x :: st) := sv_icmp_le C tgt ht hd (fun q => zt (by have q2 := Int32.le_iff_toInt_le.mp q; omega)) (fun q => zf (by have q2 : ¬ (x.toInt ≤ y.toInt) := fun r => q (Int32.le_iff_toInt_le.mpr r); omega))
theorem sv_ifZ_le (C : sv_C X l cc nL own rm g) {x : Int32} {off : Int} (tgt : Nat) (ht : (pc : Int) + off = (tgt : Int)) (hd : decode cc pc = .ok (.ifCond .le off, 3)) (zt : x.toInt ≤ 0 → sv_V X nL k n ws tgt lv st) (zf : 0 < x.toInt → sv_V X nL k n ws (pc + 3) lv st) : sv_V X nL k n ws pc lv (.int x :: st) := by
  have hb : (0 : Int32).toInt = 0 := rfl
  exact sv_if_le C tgt ht hd (fun q => zt (by have q2 := Int32.le_iff_toInt_le.mp q; omega)) (fun q => zf (by have q2 : ¬ (x.toInt ≤ (0 : Int32).toInt) := fun r => q (Int32.le_iff_toInt_le.mpr r); omega))
theorem sv_ifN_eq (C : sv_C X l cc nL own rm g) (a : Nat) (ha : a < 2 ^ 31) {off : Int} (tgt : Nat) (ht : (pc : Int) + off = (tgt : Int)) (hd : decode cc pc = .ok (.ifCond .eq off, 3)) (zt : a = 0 → sv_V X nL k n ws tgt lv st) (zf : 0 < a → sv_V X nL k n ws (pc + 3) lv st) : sv_V X nL k n ws pc lv (.int (nI a) :: st) := by
  have h0 := nI_toInt ha
  exact sv_ifZ_eq C tgt ht hd (fun q => zt (by omega)) (fun q => zf (by omega))
theorem sv_ifN_ne (C : sv_C X l cc nL own rm g) (a : Nat) (ha : a < 2 ^ 31) {off : Int} (tgt : Nat) (ht : (pc : Int) + off = (tgt : Int)) (hd : decode cc pc = .ok (.ifCond .ne off, 3)) (zt : 0 < a → sv_V X nL k n ws tgt lv st) (zf : a = 0 → sv_V X nL k n ws (pc + 3) lv st) : sv_V X nL k n ws pc lv (.int (nI a) :: st) := by
  have h0 := nI_toInt ha
  exact sv_ifZ_ne C tgt ht hd (fun q => zt (by omega)) (fun q => zf (by omega))
theorem sv_ifN_gt (C : sv_C X l cc nL own rm g) (a : Nat) (ha : a < 2 ^ 31) {off : Int} (tgt : Nat) (ht : (pc : Int) + off = (tgt : Int)) (hd : decode cc pc = .ok (.ifCond .gt off, 3)) (zt : 0 < a → sv_V X nL k n ws tgt lv st) (zf : a = 0 → sv_V X nL k n ws (pc + 3) lv st) : sv_V X nL k n ws pc lv (.int (nI a) :: st) := by
  have h0 := nI_toInt ha
  exact sv_ifZ_gt C tgt ht hd (fun q => zt (by omega)) (fun q => zf (by omega))
theorem sv_ifN_le (C : sv_C X l cc nL own rm g) (a : Nat) (ha : a < 2 ^ 31) {off : Int} (tgt : Nat) (ht : (pc : Int) + off = (tgt : Int)) (hd : decode cc pc = .ok (.ifCond .le off, 3)) (zt : a = 0 → sv_V X nL k n ws tgt lv st) (zf : 0 < a → sv_V X nL k n ws (pc + 3) lv st) : sv_V X nL k n ws pc lv (.int (nI a) :: st) := by
  have h0 := nI_toInt ha
  exact sv_ifZ_le C tgt ht hd (fun q => zt (by omega)) (fun q => zf (by omega))
theorem sv_ifB_eq (C : sv_C X l cc nL own rm g) (P : Prop) [Decidable P] {off : Int} (tgt : Nat) (ht : (pc : Int) + off = (tgt : Int)) (hd : decode cc pc = .ok (.ifCond .eq off, 3)) (zt : ¬ P → sv_V X nL k n ws tgt lv st) (zf : P → sv_V X nL k n ws (pc + 3) lv st) : sv_V X nL k n ws pc lv (.int (if P then 1 else 0) :: st) := sv_if_eq C tgt ht hd (fun q => zt (fun r => by rw [if_pos r] at q; exact absurd q (by decide))) (fun q => zf (Decidable.byContradiction fun r => q (if_neg r)))
theorem sv_ifB_ne (C : sv_C X l cc nL own rm g) (P : Prop) [Decidable P] {off : Int} (tgt : Nat) (ht : (pc : Int) + off = (tgt : Int)) (hd : decode cc pc = .ok (.ifCond .ne off, 3)) (zt : P → sv_V X nL k n ws tgt lv st) (zf : ¬ P → sv_V X nL k n ws (pc + 3) lv st) : sv_V X nL k n ws pc lv (.int (if P then 1 else 0) :: st) := sv_if_ne C tgt ht hd (fun q => zt (Decidable.byContradiction fun r => q (if_neg r))) (fun q => zf (fun r => by rw [if_pos r] at q; exact absurd q (by decide)))
theorem sv_ialdN (C : sv_C X l cc nL own rm g) {a N : Nat} {f : Nat → Int32} (i : Nat) (q0 : Nat) (ha : ws[q0]? = some (a, .inl (g.2.1 0, N, .inl f))) (hi : i < N) (hN : N < 2 ^ 31) (hd : decode cc pc = .ok (.iaload, 1)) (z : sv_V X nL k n ws (pc + 1) lv (.int (f i) :: st)) : sv_V X nL k n ws pc lv (.int (nI i) :: .ref a :: st) := sv_iald C q0 ha (vp_in_nI hi hN) hd (by rw [nI_clamp (Nat.lt_trans hi hN)]; exact z)
theorem sv_baldN (C : sv_C X l cc nL own rm g) {a N : Nat} {f : Nat → Int32} (i : Nat) (q0 : Nat) (ha : ws[q0]? = some (a, .inl (g.2.1 1, N, .inl f))) (hi : i < N) (hN : N < 2 ^ 31) (hd : decode cc pc = .ok (.baload, 1)) (z : sv_V X nL k n ws (pc + 1) lv (.int (f i) :: st)) : sv_V X nL k n ws pc lv (.int (nI i) :: .ref a :: st) := sv_bald C q0 ha (vp_in_nI hi hN) hd (by rw [nI_clamp (Nat.lt_trans hi hN)]; exact z)
theorem sv_zaldN (C : sv_C X l cc nL own rm g) {a N : Nat} {f : Nat → Int32} (i : Nat) (q0 : Nat) (ha : ws[q0]? = some (a, .inl (g.2.1 2, N, .inl f))) (hi : i < N) (hN : N < 2 ^ 31) (hd : decode cc pc = .ok (.baload, 1)) (z : sv_V X nL k n ws (pc + 1) lv (.int (f i) :: st)) : sv_V X nL k n ws pc lv (.int (nI i) :: .ref a :: st) := sv_zald C q0 ha (vp_in_nI hi hN) hd (by rw [nI_clamp (Nat.lt_trans hi hN)]; exact z)
theorem sv_iastN (C : sv_C X l cc nL own rm g) {a N : Nat} {f : Nat → Int32} {x : Int32} (i : Nat) (q0 : Nat) (ha : ws[q0]? = some (a, .inl (g.2.1 0, N, .inl f))) (hi : i < N) (hN : N < 2 ^ 31) (ws' : va_W) (hws : ws.set q0 (a, .inl (g.2.1 0, N, .inl (upd f i x))) = ws') (hd : decode cc pc = .ok (.iastore, 1)) (z : sv_V X nL k n ws' (pc + 1) lv st) : sv_V X nL k n ws pc lv (.int x :: .int (nI i) :: .ref a :: st) := sv_iast C q0 ha (vp_in_nI hi hN) ws' (by rw [nI_clamp (Nat.lt_trans hi hN)]; exact hws) hd z
theorem sv_bastN (C : sv_C X l cc nL own rm g) {a N : Nat} {f : Nat → Int32} {x : Int32} (i : Nat) (q0 : Nat) (ha : ws[q0]? = some (a, .inl (g.2.1 1, N, .inl f))) (hi : i < N) (hN : N < 2 ^ 31) (ws' : va_W) (hws : ws.set q0 (a, .inl (g.2.1 1, N, .inl (upd f i (vp_nar .byte x)))) = ws') (hd : decode cc pc = .ok (.bastore, 1)) (z : sv_V X nL k n ws' (pc + 1) lv st) : sv_V X nL k n ws pc lv (.int x :: .int (nI i) :: .ref a :: st) := sv_bast C q0 ha (vp_in_nI hi hN) ws' (by rw [nI_clamp (Nat.lt_trans hi hN)]; exact hws) hd z
theorem sv_zastN (C : sv_C X l cc nL own rm g) {a N : Nat} {f : Nat → Int32} {x : Int32} (i : Nat) (q0 : Nat) (ha : ws[q0]? = some (a, .inl (g.2.1 2, N, .inl f))) (hi : i < N) (hN : N < 2 ^ 31) (ws' : va_W) (hws : ws.set q0 (a, .inl (g.2.1 2, N, .inl (upd f i (vp_nar .boolean x)))) = ws') (hd : decode cc pc = .ok (.bastore, 1)) (z : sv_V X nL k n ws' (pc + 1) lv st) : sv_V X nL k n ws pc lv (.int x :: .int (nI i) :: .ref a :: st) := sv_zast C q0 ha (vp_in_nI hi hN) ws' (by rw [nI_clamp (Nat.lt_trans hi hN)]; exact hws) hd z
theorem sv_aaldEN (C : sv_C X l cc nL own rm g) {a N : Nat} {f : Nat → Option Nat} (i : Nat) (ha : (a, .inl (g.2.1 4, N, .inr (.inr (.inr (.inr f))))) ∈ ws) (hi : i < N) (hN : N < 2 ^ 31) (hd : decode cc pc = .ok (.aaload, 1)) (z : sv_V X nL k n ws (pc + 1) lv (va_rf (f i) :: st)) : sv_V X nL k n ws pc lv (.int (nI i) :: .ref a :: st) := sv_aaldE C ha (vp_in_nI hi hN) hd (by rw [nI_clamp (Nat.lt_trans hi hN)]; exact z)
theorem sv_aaldSN (C : sv_C X l cc nL own rm g) {a N : Nat} {f : Nat → Option Nat} (i : Nat) (ha : (a, .inl (g.2.1 5, N, .inr (.inr (.inr (.inr f))))) ∈ ws) (hi : i < N) (hN : N < 2 ^ 31) (hd : decode cc pc = .ok (.aaload, 1)) (z : sv_V X nL k n ws (pc + 1) lv (va_rf (f i) :: st)) : sv_V X nL k n ws pc lv (.int (nI i) :: .ref a :: st) := sv_aaldS C ha (vp_in_nI hi hN) hd (by rw [nI_clamp (Nat.lt_trans hi hN)]; exact z)
end SVN
end
section
/-! WORDS: fields, calls, constants, makings -/
set_option maxRecDepth 100000 in
theorem i_En : ∀ w ∈ u_ws R_En F_En 2, w ∈ sv_tbl := (List.forall_mem_cons.mpr ⟨(sv_at 166 rfl rfl), List.forall_mem_cons.mpr ⟨(sv_at 168 rfl rfl), fun _ h => absurd h List.not_mem_nil⟩⟩ : ∀ w ∈ [Cond.laysFinal "WordChain$Ending" "WordChain$Ending" "text" "Ljava/lang/String;", Cond.laysFinal "WordChain$Ending" "WordChain$Ending" "substitute" "Ljava/lang/String;"], w ∈ sv_tbl)
set_option maxRecDepth 100000 in
theorem i_Si : ∀ w ∈ u_ws R_Si F_Si 1, w ∈ sv_tbl := (List.forall_mem_cons.mpr ⟨(sv_at 144 rfl rfl), fun _ h => absurd h List.not_mem_nil⟩ : ∀ w ∈ [Cond.laysFinal "WordChain$SilentWords" "WordChain$SilentWords" "keys" "[I"], w ∈ sv_tbl)
set_option maxRecDepth 100000 in
theorem i_Sm : ∀ w ∈ u_ws R_Sm F_Sm 7, w ∈ sv_tbl := (List.forall_mem_cons.mpr ⟨(sv_at 255 rfl rfl), List.forall_mem_cons.mpr ⟨(sv_at 257 rfl rfl), List.forall_mem_cons.mpr ⟨(sv_at 259 rfl rfl), List.forall_mem_cons.mpr ⟨(sv_at 261 rfl rfl), List.forall_mem_cons.mpr ⟨(sv_at 263 rfl rfl), List.forall_mem_cons.mpr ⟨(sv_at 265 rfl rfl), List.forall_mem_cons.mpr ⟨(sv_at 267 rfl rfl), fun _ h => absurd h List.not_mem_nil⟩⟩⟩⟩⟩⟩⟩ : ∀ w ∈ [Cond.laysFinal "WordChain$Stemmer" "WordChain$Stemmer" "word" "LWordChain$Word;", Cond.laysFinal "WordChain$Stemmer" "WordChain$Stemmer" "vowels" "[Z", Cond.laysFinal "WordChain$Stemmer" "WordChain$Stemmer" "endings1a" "[LWordChain$Ending;", Cond.laysFinal "WordChain$Stemmer" "WordChain$Stemmer" "endings1b" "[LWordChain$Ending;", Cond.laysFinal "WordChain$Stemmer" "WordChain$Stemmer" "endings2" "[LWordChain$Ending;", Cond.laysFinal "WordChain$Stemmer" "WordChain$Stemmer" "endings3" "[LWordChain$Ending;", Cond.laysFinal "WordChain$Stemmer" "WordChain$Stemmer" "endings4" "[LWordChain$Ending;"], w ∈ sv_tbl)
set_option maxRecDepth 100000 in
theorem i_Te : ∀ w ∈ u_ws R_Te F_Te 2, w ∈ sv_tbl := (List.forall_mem_cons.mpr ⟨(sv_at 78 rfl rfl), List.forall_mem_cons.mpr ⟨(sv_at 80 rfl rfl), fun _ h => absurd h List.not_mem_nil⟩⟩ : ∀ w ∈ [Cond.laysFinal "WordChain$Text" "WordChain$Text" "characters" "[I", Cond.lays "WordChain$Text" "WordChain$Text" "length" "I"], w ∈ sv_tbl)
set_option maxRecDepth 100000 in
theorem i_To : ∀ w ∈ u_ws R_To F_To 4, w ∈ sv_tbl := (List.forall_mem_cons.mpr ⟨(sv_at 285 rfl rfl), List.forall_mem_cons.mpr ⟨(sv_at 287 rfl rfl), List.forall_mem_cons.mpr ⟨(sv_at 289 rfl rfl), List.forall_mem_cons.mpr ⟨(sv_at 291 rfl rfl), fun _ h => absurd h List.not_mem_nil⟩⟩⟩⟩ : ∀ w ∈ [Cond.laysFinal "WordChain$Tokens" "WordChain$Tokens" "characters" "[I", Cond.laysFinal "WordChain$Tokens" "WordChain$Tokens" "positions" "[I", Cond.laysFinal "WordChain$Tokens" "WordChain$Tokens" "starts" "[I", Cond.lays "WordChain$Tokens" "WordChain$Tokens" "size" "I"], w ∈ sv_tbl)
set_option maxRecDepth 100000 in
theorem i_Wo : ∀ w ∈ u_ws R_Wo F_Wo 2, w ∈ sv_tbl := (List.forall_mem_cons.mpr ⟨(sv_at 242 rfl rfl), List.forall_mem_cons.mpr ⟨(sv_at 244 rfl rfl), fun _ h => absurd h List.not_mem_nil⟩⟩ : ∀ w ∈ [Cond.laysFinal "WordChain$Word" "WordChain$Word" "characters" "[I", Cond.lays "WordChain$Word" "WordChain$Word" "length" "I"], w ∈ sv_tbl)
set_option maxRecDepth 100000 in
theorem i_X : ∀ w ∈ u_ws R_X F_X 7, w ∈ sv_tbl := (List.forall_mem_cons.mpr ⟨(sv_at 301 rfl rfl), List.forall_mem_cons.mpr ⟨(sv_at 303 rfl rfl), List.forall_mem_cons.mpr ⟨(sv_at 305 rfl rfl), List.forall_mem_cons.mpr ⟨(sv_at 307 rfl rfl), List.forall_mem_cons.mpr ⟨(sv_at 309 rfl rfl), List.forall_mem_cons.mpr ⟨(sv_at 311 rfl rfl), List.forall_mem_cons.mpr ⟨(sv_at 313 rfl rfl), fun _ h => absurd h List.not_mem_nil⟩⟩⟩⟩⟩⟩⟩ : ∀ w ∈ [Cond.laysFinal "WordChain" "WordChain" "input" "[B", Cond.lays "WordChain" "WordChain" "inputLength" "I", Cond.laysFinal "WordChain" "WordChain" "text" "LWordChain$Text;", Cond.laysFinal "WordChain" "WordChain" "silentWords" "LWordChain$SilentWords;", Cond.laysFinal "WordChain" "WordChain" "stemmer" "LWordChain$Stemmer;", Cond.laysFinal "WordChain" "WordChain" "tokens" "LWordChain$Tokens;", Cond.lays "WordChain" "WordChain" "words" "I"], w ∈ sv_tbl)
set_option maxRecDepth 100000 in
theorem i_M : ∀ w ∈ u_ws R_M F_M 16, w ∈ sv_tbl := (List.forall_mem_cons.mpr ⟨(sv_at 789 rfl rfl), List.forall_mem_cons.mpr ⟨(sv_at 791 rfl rfl), List.forall_mem_cons.mpr ⟨(sv_at 793 rfl rfl), List.forall_mem_cons.mpr ⟨(sv_at 795 rfl rfl), List.forall_mem_cons.mpr ⟨(sv_at 797 rfl rfl), List.forall_mem_cons.mpr ⟨(sv_at 799 rfl rfl), List.forall_mem_cons.mpr ⟨(sv_at 801 rfl rfl), List.forall_mem_cons.mpr ⟨(sv_at 803 rfl rfl), List.forall_mem_cons.mpr ⟨(sv_at 805 rfl rfl), List.forall_mem_cons.mpr ⟨(sv_at 807 rfl rfl), List.forall_mem_cons.mpr ⟨(sv_at 809 rfl rfl), List.forall_mem_cons.mpr ⟨(sv_at 811 rfl rfl), List.forall_mem_cons.mpr ⟨(sv_at 813 rfl rfl), List.forall_mem_cons.mpr ⟨(sv_at 815 rfl rfl), List.forall_mem_cons.mpr ⟨(sv_at 817 rfl rfl), List.forall_mem_cons.mpr ⟨(sv_at 819 rfl rfl), fun _ h => absurd h List.not_mem_nil⟩⟩⟩⟩⟩⟩⟩⟩⟩⟩⟩⟩⟩⟩⟩⟩ : ∀ w ∈ [Cond.laysFinal "WordChainModel" "WordChainModel" "STOPS" "[Ljava/lang/String;", Cond.laysFinal "WordChainModel" "WordChainModel" "TWO" "[Ljava/lang/String;", Cond.laysFinal "WordChainModel" "WordChainModel" "THREE" "[Ljava/lang/String;", Cond.laysFinal "WordChainModel" "WordChainModel" "FOUR" "[Ljava/lang/String;", Cond.laysFinal "WordChainModel" "WordChainModel" "input" "[B", Cond.lays "WordChainModel" "WordChainModel" "inputSize" "I", Cond.lays "WordChainModel" "WordChainModel" "thrown" "I", Cond.laysFinal "WordChainModel" "WordChainModel" "chars" "[I", Cond.lays "WordChainModel" "WordChainModel" "charMany" "I", Cond.laysFinal "WordChainModel" "WordChainModel" "cutChars" "[I", Cond.laysFinal "WordChainModel" "WordChainModel" "cutAt" "[I", Cond.laysFinal "WordChainModel" "WordChainModel" "cutPosition" "[I", Cond.lays "WordChainModel" "WordChainModel" "cutMany" "I", Cond.lays "WordChainModel" "WordChainModel" "cutWords" "I", Cond.laysFinal "WordChainModel" "WordChainModel" "word" "[I", Cond.lays "WordChainModel" "WordChainModel" "wordMany" "I"], w ∈ sv_tbl)
set_option maxRecDepth 100000 in
theorem w_Te_13 : Cond.fieldLink "WordChain$Text" 13 "WordChain$Text" "characters" "[I" ∈ sv_tbl := (sv_at 74 rfl rfl)
set_option maxRecDepth 100000 in
theorem fg_Te_13 : sv_FL "WordChain$Text" 13 3 0 := ⟨R_Te, F_Te, 2, rfl, by decide, i_Te, w_Te_13⟩
set_option maxRecDepth 100000 in
theorem fp_Te_13 : sv_FP "WordChain$Text" 13 3 0 (.array .int) true := ⟨R_Te, F_Te, 2, t_Te, rfl, by decide, i_Te, w_Te_13, t_Te_ok, n_Te, rfl, fun _ => rfl, by decide +kernel⟩
set_option maxRecDepth 100000 in
theorem w_X_137 : Cond.fieldLink "WordChain" 137 "WordChain$Text" "characters" "[I" ∈ sv_tbl := (sv_at 75 rfl rfl)
set_option maxRecDepth 100000 in
theorem fg_X_137 : sv_FL "WordChain" 137 3 0 := ⟨R_Te, F_Te, 2, rfl, by decide, i_Te, w_X_137⟩
set_option maxRecDepth 100000 in
theorem w_Te_7 : Cond.fieldLink "WordChain$Text" 7 "WordChain$Text" "length" "I" ∈ sv_tbl := (sv_at 76 rfl rfl)
set_option maxRecDepth 100000 in
theorem fg_Te_7 : sv_FL "WordChain$Text" 7 3 1 := ⟨R_Te, F_Te, 2, rfl, by decide, i_Te, w_Te_7⟩
set_option maxRecDepth 100000 in
theorem fp_Te_7 : sv_FP "WordChain$Text" 7 3 1 (.int) false := ⟨R_Te, F_Te, 2, t_Te, rfl, by decide, i_Te, w_Te_7, t_Te_ok, n_Te, rfl, fun _ => rfl, by decide +kernel⟩
set_option maxRecDepth 100000 in
theorem w_X_72 : Cond.fieldLink "WordChain" 72 "WordChain$Text" "length" "I" ∈ sv_tbl := (sv_at 77 rfl rfl)
set_option maxRecDepth 100000 in
theorem fg_X_72 : sv_FL "WordChain" 72 3 1 := ⟨R_Te, F_Te, 2, rfl, by decide, i_Te, w_X_72⟩
set_option maxRecDepth 100000 in
theorem fp_X_72 : sv_FP "WordChain" 72 3 1 (.int) false := ⟨R_Te, F_Te, 2, t_Te, rfl, by decide, i_Te, w_X_72, t_Te_ok, n_Te, rfl, (fun h => by cases h), by decide +kernel⟩
set_option maxRecDepth 100000 in
theorem w_Si_9 : Cond.fieldLink "WordChain$SilentWords" 9 "WordChain$SilentWords" "keys" "[I" ∈ sv_tbl := (sv_at 143 rfl rfl)
set_option maxRecDepth 100000 in
theorem fg_Si_9 : sv_FL "WordChain$SilentWords" 9 1 0 := ⟨R_Si, F_Si, 1, rfl, by decide, i_Si, w_Si_9⟩
set_option maxRecDepth 100000 in
theorem fp_Si_9 : sv_FP "WordChain$SilentWords" 9 1 0 (.array .int) true := ⟨R_Si, F_Si, 1, t_Si, rfl, by decide, i_Si, w_Si_9, t_Si_ok, n_Si, rfl, fun _ => rfl, by decide +kernel⟩
set_option maxRecDepth 100000 in
theorem w_En_7 : Cond.fieldLink "WordChain$Ending" 7 "WordChain$Ending" "text" "Ljava/lang/String;" ∈ sv_tbl := (sv_at 162 rfl rfl)
set_option maxRecDepth 100000 in
theorem fg_En_7 : sv_FL "WordChain$Ending" 7 0 0 := ⟨R_En, F_En, 2, rfl, by decide, i_En, w_En_7⟩
set_option maxRecDepth 100000 in
theorem fp_En_7 : sv_FP "WordChain$Ending" 7 0 0 (.object "java/lang/String") true := ⟨R_En, F_En, 2, t_En, rfl, by decide, i_En, w_En_7, t_En_ok, n_En, rfl, fun _ => rfl, by decide +kernel⟩
set_option maxRecDepth 100000 in
theorem w_Sm_210 : Cond.fieldLink "WordChain$Stemmer" 210 "WordChain$Ending" "text" "Ljava/lang/String;" ∈ sv_tbl := (sv_at 163 rfl rfl)
set_option maxRecDepth 100000 in
theorem fg_Sm_210 : sv_FL "WordChain$Stemmer" 210 0 0 := ⟨R_En, F_En, 2, rfl, by decide, i_En, w_Sm_210⟩
set_option maxRecDepth 100000 in
theorem w_En_13 : Cond.fieldLink "WordChain$Ending" 13 "WordChain$Ending" "substitute" "Ljava/lang/String;" ∈ sv_tbl := (sv_at 164 rfl rfl)
set_option maxRecDepth 100000 in
theorem fg_En_13 : sv_FL "WordChain$Ending" 13 0 1 := ⟨R_En, F_En, 2, rfl, by decide, i_En, w_En_13⟩
set_option maxRecDepth 100000 in
theorem fp_En_13 : sv_FP "WordChain$Ending" 13 0 1 (.object "java/lang/String") true := ⟨R_En, F_En, 2, t_En, rfl, by decide, i_En, w_En_13, t_En_ok, n_En, rfl, fun _ => rfl, by decide +kernel⟩
set_option maxRecDepth 100000 in
theorem w_Sm_202 : Cond.fieldLink "WordChain$Stemmer" 202 "WordChain$Ending" "substitute" "Ljava/lang/String;" ∈ sv_tbl := (sv_at 165 rfl rfl)
set_option maxRecDepth 100000 in
theorem fg_Sm_202 : sv_FL "WordChain$Stemmer" 202 0 1 := ⟨R_En, F_En, 2, rfl, by decide, i_En, w_Sm_202⟩
set_option maxRecDepth 100000 in
theorem w_Wo_13 : Cond.fieldLink "WordChain$Word" 13 "WordChain$Word" "characters" "[I" ∈ sv_tbl := (sv_at 234 rfl rfl)
set_option maxRecDepth 100000 in
theorem fg_Wo_13 : sv_FL "WordChain$Word" 13 5 0 := ⟨R_Wo, F_Wo, 2, rfl, by decide, i_Wo, w_Wo_13⟩
set_option maxRecDepth 100000 in
theorem fp_Wo_13 : sv_FP "WordChain$Word" 13 5 0 (.array .int) true := ⟨R_Wo, F_Wo, 2, t_Wo, rfl, by decide, i_Wo, w_Wo_13, t_Wo_ok, n_Wo, rfl, fun _ => rfl, by decide +kernel⟩
set_option maxRecDepth 100000 in
theorem w_Si_38 : Cond.fieldLink "WordChain$SilentWords" 38 "WordChain$Word" "characters" "[I" ∈ sv_tbl := (sv_at 235 rfl rfl)
set_option maxRecDepth 100000 in
theorem fg_Si_38 : sv_FL "WordChain$SilentWords" 38 5 0 := ⟨R_Wo, F_Wo, 2, rfl, by decide, i_Wo, w_Si_38⟩
set_option maxRecDepth 100000 in
theorem w_To_23 : Cond.fieldLink "WordChain$Tokens" 23 "WordChain$Word" "characters" "[I" ∈ sv_tbl := (sv_at 236 rfl rfl)
set_option maxRecDepth 100000 in
theorem fg_To_23 : sv_FL "WordChain$Tokens" 23 5 0 := ⟨R_Wo, F_Wo, 2, rfl, by decide, i_Wo, w_To_23⟩
set_option maxRecDepth 100000 in
theorem w_Sm_263 : Cond.fieldLink "WordChain$Stemmer" 263 "WordChain$Word" "characters" "[I" ∈ sv_tbl := (sv_at 237 rfl rfl)
set_option maxRecDepth 100000 in
theorem fg_Sm_263 : sv_FL "WordChain$Stemmer" 263 5 0 := ⟨R_Wo, F_Wo, 2, rfl, by decide, i_Wo, w_Sm_263⟩
set_option maxRecDepth 100000 in
theorem w_Wo_7 : Cond.fieldLink "WordChain$Word" 7 "WordChain$Word" "length" "I" ∈ sv_tbl := (sv_at 238 rfl rfl)
set_option maxRecDepth 100000 in
theorem fg_Wo_7 : sv_FL "WordChain$Word" 7 5 1 := ⟨R_Wo, F_Wo, 2, rfl, by decide, i_Wo, w_Wo_7⟩
set_option maxRecDepth 100000 in
theorem fp_Wo_7 : sv_FP "WordChain$Word" 7 5 1 (.int) false := ⟨R_Wo, F_Wo, 2, t_Wo, rfl, by decide, i_Wo, w_Wo_7, t_Wo_ok, n_Wo, rfl, fun _ => rfl, by decide +kernel⟩
set_option maxRecDepth 100000 in
theorem w_Si_29 : Cond.fieldLink "WordChain$SilentWords" 29 "WordChain$Word" "length" "I" ∈ sv_tbl := (sv_at 239 rfl rfl)
set_option maxRecDepth 100000 in
theorem fg_Si_29 : sv_FL "WordChain$SilentWords" 29 5 1 := ⟨R_Wo, F_Wo, 2, rfl, by decide, i_Wo, w_Si_29⟩
set_option maxRecDepth 100000 in
theorem fp_Si_29 : sv_FP "WordChain$SilentWords" 29 5 1 (.int) false := ⟨R_Wo, F_Wo, 2, t_Wo, rfl, by decide, i_Wo, w_Si_29, t_Wo_ok, n_Wo, rfl, (fun h => by cases h), by decide +kernel⟩
set_option maxRecDepth 100000 in
theorem w_Sm_161 : Cond.fieldLink "WordChain$Stemmer" 161 "WordChain$Word" "length" "I" ∈ sv_tbl := (sv_at 240 rfl rfl)
set_option maxRecDepth 100000 in
theorem fg_Sm_161 : sv_FL "WordChain$Stemmer" 161 5 1 := ⟨R_Wo, F_Wo, 2, rfl, by decide, i_Wo, w_Sm_161⟩
set_option maxRecDepth 100000 in
theorem fp_Sm_161 : sv_FP "WordChain$Stemmer" 161 5 1 (.int) false := ⟨R_Wo, F_Wo, 2, t_Wo, rfl, by decide, i_Wo, w_Sm_161, t_Wo_ok, n_Wo, rfl, (fun h => by cases h), by decide +kernel⟩
set_option maxRecDepth 100000 in
theorem w_To_26 : Cond.fieldLink "WordChain$Tokens" 26 "WordChain$Word" "length" "I" ∈ sv_tbl := (sv_at 241 rfl rfl)
set_option maxRecDepth 100000 in
theorem fg_To_26 : sv_FL "WordChain$Tokens" 26 5 1 := ⟨R_Wo, F_Wo, 2, rfl, by decide, i_Wo, w_To_26⟩
set_option maxRecDepth 100000 in
theorem fp_To_26 : sv_FP "WordChain$Tokens" 26 5 1 (.int) false := ⟨R_Wo, F_Wo, 2, t_Wo, rfl, by decide, i_Wo, w_To_26, t_Wo_ok, n_Wo, rfl, (fun h => by cases h), by decide +kernel⟩
set_option maxRecDepth 100000 in
theorem w_Sm_153 : Cond.fieldLink "WordChain$Stemmer" 153 "WordChain$Stemmer" "word" "LWordChain$Word;" ∈ sv_tbl := (sv_at 247 rfl rfl)
set_option maxRecDepth 100000 in
theorem fg_Sm_153 : sv_FL "WordChain$Stemmer" 153 2 0 := ⟨R_Sm, F_Sm, 7, rfl, by decide, i_Sm, w_Sm_153⟩
set_option maxRecDepth 100000 in
theorem fp_Sm_153 : sv_FP "WordChain$Stemmer" 153 2 0 (.object "WordChain$Word") true := ⟨R_Sm, F_Sm, 7, t_Sm, rfl, by decide, i_Sm, w_Sm_153, t_Sm_ok, n_Sm, rfl, fun _ => rfl, by decide +kernel⟩
set_option maxRecDepth 100000 in
theorem w_X_133 : Cond.fieldLink "WordChain" 133 "WordChain$Stemmer" "word" "LWordChain$Word;" ∈ sv_tbl := (sv_at 248 rfl rfl)
set_option maxRecDepth 100000 in
theorem fg_X_133 : sv_FL "WordChain" 133 2 0 := ⟨R_Sm, F_Sm, 7, rfl, by decide, i_Sm, w_X_133⟩
set_option maxRecDepth 100000 in
theorem w_Sm_157 : Cond.fieldLink "WordChain$Stemmer" 157 "WordChain$Stemmer" "vowels" "[Z" ∈ sv_tbl := (sv_at 249 rfl rfl)
set_option maxRecDepth 100000 in
theorem fg_Sm_157 : sv_FL "WordChain$Stemmer" 157 2 1 := ⟨R_Sm, F_Sm, 7, rfl, by decide, i_Sm, w_Sm_157⟩
set_option maxRecDepth 100000 in
theorem fp_Sm_157 : sv_FP "WordChain$Stemmer" 157 2 1 (.array .boolean) true := ⟨R_Sm, F_Sm, 7, t_Sm, rfl, by decide, i_Sm, w_Sm_157, t_Sm_ok, n_Sm, rfl, fun _ => rfl, by decide +kernel⟩
set_option maxRecDepth 100000 in
theorem w_Sm_24 : Cond.fieldLink "WordChain$Stemmer" 24 "WordChain$Stemmer" "endings1a" "[LWordChain$Ending;" ∈ sv_tbl := (sv_at 250 rfl rfl)
set_option maxRecDepth 100000 in
theorem fg_Sm_24 : sv_FL "WordChain$Stemmer" 24 2 2 := ⟨R_Sm, F_Sm, 7, rfl, by decide, i_Sm, w_Sm_24⟩
set_option maxRecDepth 100000 in
theorem fp_Sm_24 : sv_FP "WordChain$Stemmer" 24 2 2 (.array (.object "WordChain$Ending")) true := ⟨R_Sm, F_Sm, 7, t_Sm, rfl, by decide, i_Sm, w_Sm_24, t_Sm_ok, n_Sm, rfl, fun _ => rfl, by decide +kernel⟩
set_option maxRecDepth 100000 in
theorem w_Sm_38 : Cond.fieldLink "WordChain$Stemmer" 38 "WordChain$Stemmer" "endings1b" "[LWordChain$Ending;" ∈ sv_tbl := (sv_at 251 rfl rfl)
set_option maxRecDepth 100000 in
theorem fg_Sm_38 : sv_FL "WordChain$Stemmer" 38 2 3 := ⟨R_Sm, F_Sm, 7, rfl, by decide, i_Sm, w_Sm_38⟩
set_option maxRecDepth 100000 in
theorem fp_Sm_38 : sv_FP "WordChain$Stemmer" 38 2 3 (.array (.object "WordChain$Ending")) true := ⟨R_Sm, F_Sm, 7, t_Sm, rfl, by decide, i_Sm, w_Sm_38, t_Sm_ok, n_Sm, rfl, fun _ => rfl, by decide +kernel⟩
set_option maxRecDepth 100000 in
theorem w_Sm_107 : Cond.fieldLink "WordChain$Stemmer" 107 "WordChain$Stemmer" "endings2" "[LWordChain$Ending;" ∈ sv_tbl := (sv_at 252 rfl rfl)
set_option maxRecDepth 100000 in
theorem fg_Sm_107 : sv_FL "WordChain$Stemmer" 107 2 4 := ⟨R_Sm, F_Sm, 7, rfl, by decide, i_Sm, w_Sm_107⟩
set_option maxRecDepth 100000 in
theorem fp_Sm_107 : sv_FP "WordChain$Stemmer" 107 2 4 (.array (.object "WordChain$Ending")) true := ⟨R_Sm, F_Sm, 7, t_Sm, rfl, by decide, i_Sm, w_Sm_107, t_Sm_ok, n_Sm, rfl, fun _ => rfl, by decide +kernel⟩
set_option maxRecDepth 100000 in
theorem w_Sm_124 : Cond.fieldLink "WordChain$Stemmer" 124 "WordChain$Stemmer" "endings3" "[LWordChain$Ending;" ∈ sv_tbl := (sv_at 253 rfl rfl)
set_option maxRecDepth 100000 in
theorem fg_Sm_124 : sv_FL "WordChain$Stemmer" 124 2 5 := ⟨R_Sm, F_Sm, 7, rfl, by decide, i_Sm, w_Sm_124⟩
set_option maxRecDepth 100000 in
theorem fp_Sm_124 : sv_FP "WordChain$Stemmer" 124 2 5 (.array (.object "WordChain$Ending")) true := ⟨R_Sm, F_Sm, 7, t_Sm, rfl, by decide, i_Sm, w_Sm_124, t_Sm_ok, n_Sm, rfl, fun _ => rfl, by decide +kernel⟩
set_option maxRecDepth 100000 in
theorem w_Sm_145 : Cond.fieldLink "WordChain$Stemmer" 145 "WordChain$Stemmer" "endings4" "[LWordChain$Ending;" ∈ sv_tbl := (sv_at 254 rfl rfl)
set_option maxRecDepth 100000 in
theorem fg_Sm_145 : sv_FL "WordChain$Stemmer" 145 2 6 := ⟨R_Sm, F_Sm, 7, rfl, by decide, i_Sm, w_Sm_145⟩
set_option maxRecDepth 100000 in
theorem fp_Sm_145 : sv_FP "WordChain$Stemmer" 145 2 6 (.array (.object "WordChain$Ending")) true := ⟨R_Sm, F_Sm, 7, t_Sm, rfl, by decide, i_Sm, w_Sm_145, t_Sm_ok, n_Sm, rfl, fun _ => rfl, by decide +kernel⟩
set_option maxRecDepth 100000 in
theorem w_To_13 : Cond.fieldLink "WordChain$Tokens" 13 "WordChain$Tokens" "characters" "[I" ∈ sv_tbl := (sv_at 277 rfl rfl)
set_option maxRecDepth 100000 in
theorem fg_To_13 : sv_FL "WordChain$Tokens" 13 4 0 := ⟨R_To, F_To, 4, rfl, by decide, i_To, w_To_13⟩
set_option maxRecDepth 100000 in
theorem fp_To_13 : sv_FP "WordChain$Tokens" 13 4 0 (.array .int) true := ⟨R_To, F_To, 4, t_To, rfl, by decide, i_To, w_To_13, t_To_ok, n_To, rfl, fun _ => rfl, by decide +kernel⟩
set_option maxRecDepth 100000 in
theorem w_X_116 : Cond.fieldLink "WordChain" 116 "WordChain$Tokens" "characters" "[I" ∈ sv_tbl := (sv_at 278 rfl rfl)
set_option maxRecDepth 100000 in
theorem fg_X_116 : sv_FL "WordChain" 116 4 0 := ⟨R_To, F_To, 4, rfl, by decide, i_To, w_X_116⟩
set_option maxRecDepth 100000 in
theorem w_To_17 : Cond.fieldLink "WordChain$Tokens" 17 "WordChain$Tokens" "positions" "[I" ∈ sv_tbl := (sv_at 279 rfl rfl)
set_option maxRecDepth 100000 in
theorem fg_To_17 : sv_FL "WordChain$Tokens" 17 4 1 := ⟨R_To, F_To, 4, rfl, by decide, i_To, w_To_17⟩
set_option maxRecDepth 100000 in
theorem fp_To_17 : sv_FP "WordChain$Tokens" 17 4 1 (.array .int) true := ⟨R_To, F_To, 4, t_To, rfl, by decide, i_To, w_To_17, t_To_ok, n_To, rfl, fun _ => rfl, by decide +kernel⟩
set_option maxRecDepth 100000 in
theorem w_X_107 : Cond.fieldLink "WordChain" 107 "WordChain$Tokens" "positions" "[I" ∈ sv_tbl := (sv_at 280 rfl rfl)
set_option maxRecDepth 100000 in
theorem fg_X_107 : sv_FL "WordChain" 107 4 1 := ⟨R_To, F_To, 4, rfl, by decide, i_To, w_X_107⟩
set_option maxRecDepth 100000 in
theorem w_To_20 : Cond.fieldLink "WordChain$Tokens" 20 "WordChain$Tokens" "starts" "[I" ∈ sv_tbl := (sv_at 281 rfl rfl)
set_option maxRecDepth 100000 in
theorem fg_To_20 : sv_FL "WordChain$Tokens" 20 4 2 := ⟨R_To, F_To, 4, rfl, by decide, i_To, w_To_20⟩
set_option maxRecDepth 100000 in
theorem fp_To_20 : sv_FP "WordChain$Tokens" 20 4 2 (.array .int) true := ⟨R_To, F_To, 4, t_To, rfl, by decide, i_To, w_To_20, t_To_ok, n_To, rfl, fun _ => rfl, by decide +kernel⟩
set_option maxRecDepth 100000 in
theorem w_X_119 : Cond.fieldLink "WordChain" 119 "WordChain$Tokens" "starts" "[I" ∈ sv_tbl := (sv_at 282 rfl rfl)
set_option maxRecDepth 100000 in
theorem fg_X_119 : sv_FL "WordChain" 119 4 2 := ⟨R_To, F_To, 4, rfl, by decide, i_To, w_X_119⟩
set_option maxRecDepth 100000 in
theorem w_To_7 : Cond.fieldLink "WordChain$Tokens" 7 "WordChain$Tokens" "size" "I" ∈ sv_tbl := (sv_at 283 rfl rfl)
set_option maxRecDepth 100000 in
theorem fg_To_7 : sv_FL "WordChain$Tokens" 7 4 3 := ⟨R_To, F_To, 4, rfl, by decide, i_To, w_To_7⟩
set_option maxRecDepth 100000 in
theorem fp_To_7 : sv_FP "WordChain$Tokens" 7 4 3 (.int) false := ⟨R_To, F_To, 4, t_To, rfl, by decide, i_To, w_To_7, t_To_ok, n_To, rfl, fun _ => rfl, by decide +kernel⟩
set_option maxRecDepth 100000 in
theorem w_X_93 : Cond.fieldLink "WordChain" 93 "WordChain$Tokens" "size" "I" ∈ sv_tbl := (sv_at 284 rfl rfl)
set_option maxRecDepth 100000 in
theorem fg_X_93 : sv_FL "WordChain" 93 4 3 := ⟨R_To, F_To, 4, rfl, by decide, i_To, w_X_93⟩
set_option maxRecDepth 100000 in
theorem fp_X_93 : sv_FP "WordChain" 93 4 3 (.int) false := ⟨R_To, F_To, 4, t_To, rfl, by decide, i_To, w_X_93, t_To_ok, n_To, rfl, (fun h => by cases h), by decide +kernel⟩
set_option maxRecDepth 100000 in
theorem w_X_9 : Cond.fieldLink "WordChain" 9 "WordChain" "input" "[B" ∈ sv_tbl := (sv_at 294 rfl rfl)
set_option maxRecDepth 100000 in
theorem fg_X_9 : sv_FL "WordChain" 9 6 0 := ⟨R_X, F_X, 7, rfl, by decide, i_X, w_X_9⟩
set_option maxRecDepth 100000 in
theorem fp_X_9 : sv_FP "WordChain" 9 6 0 (.array .byte) true := ⟨R_X, F_X, 7, t_X, rfl, by decide, i_X, w_X_9, t_X_ok, n_X, rfl, fun _ => rfl, by decide +kernel⟩
set_option maxRecDepth 100000 in
theorem w_X_13 : Cond.fieldLink "WordChain" 13 "WordChain" "inputLength" "I" ∈ sv_tbl := (sv_at 295 rfl rfl)
set_option maxRecDepth 100000 in
theorem fg_X_13 : sv_FL "WordChain" 13 6 1 := ⟨R_X, F_X, 7, rfl, by decide, i_X, w_X_13⟩
set_option maxRecDepth 100000 in
theorem fp_X_13 : sv_FP "WordChain" 13 6 1 (.int) false := ⟨R_X, F_X, 7, t_X, rfl, by decide, i_X, w_X_13, t_X_ok, n_X, rfl, fun _ => rfl, by decide +kernel⟩
set_option maxRecDepth 100000 in
theorem w_X_22 : Cond.fieldLink "WordChain" 22 "WordChain" "text" "LWordChain$Text;" ∈ sv_tbl := (sv_at 296 rfl rfl)
set_option maxRecDepth 100000 in
theorem fg_X_22 : sv_FL "WordChain" 22 6 2 := ⟨R_X, F_X, 7, rfl, by decide, i_X, w_X_22⟩
set_option maxRecDepth 100000 in
theorem fp_X_22 : sv_FP "WordChain" 22 6 2 (.object "WordChain$Text") true := ⟨R_X, F_X, 7, t_X, rfl, by decide, i_X, w_X_22, t_X_ok, n_X, rfl, fun _ => rfl, by decide +kernel⟩
set_option maxRecDepth 100000 in
theorem w_X_29 : Cond.fieldLink "WordChain" 29 "WordChain" "silentWords" "LWordChain$SilentWords;" ∈ sv_tbl := (sv_at 297 rfl rfl)
set_option maxRecDepth 100000 in
theorem fg_X_29 : sv_FL "WordChain" 29 6 3 := ⟨R_X, F_X, 7, rfl, by decide, i_X, w_X_29⟩
set_option maxRecDepth 100000 in
theorem fp_X_29 : sv_FP "WordChain" 29 6 3 (.object "WordChain$SilentWords") true := ⟨R_X, F_X, 7, t_X, rfl, by decide, i_X, w_X_29, t_X_ok, n_X, rfl, fun _ => rfl, by decide +kernel⟩
set_option maxRecDepth 100000 in
theorem w_X_36 : Cond.fieldLink "WordChain" 36 "WordChain" "stemmer" "LWordChain$Stemmer;" ∈ sv_tbl := (sv_at 298 rfl rfl)
set_option maxRecDepth 100000 in
theorem fg_X_36 : sv_FL "WordChain" 36 6 4 := ⟨R_X, F_X, 7, rfl, by decide, i_X, w_X_36⟩
set_option maxRecDepth 100000 in
theorem fp_X_36 : sv_FP "WordChain" 36 6 4 (.object "WordChain$Stemmer") true := ⟨R_X, F_X, 7, t_X, rfl, by decide, i_X, w_X_36, t_X_ok, n_X, rfl, fun _ => rfl, by decide +kernel⟩
set_option maxRecDepth 100000 in
theorem w_X_43 : Cond.fieldLink "WordChain" 43 "WordChain" "tokens" "LWordChain$Tokens;" ∈ sv_tbl := (sv_at 299 rfl rfl)
set_option maxRecDepth 100000 in
theorem fg_X_43 : sv_FL "WordChain" 43 6 5 := ⟨R_X, F_X, 7, rfl, by decide, i_X, w_X_43⟩
set_option maxRecDepth 100000 in
theorem fp_X_43 : sv_FP "WordChain" 43 6 5 (.object "WordChain$Tokens") true := ⟨R_X, F_X, 7, t_X, rfl, by decide, i_X, w_X_43, t_X_ok, n_X, rfl, fun _ => rfl, by decide +kernel⟩
set_option maxRecDepth 100000 in
theorem w_X_47 : Cond.fieldLink "WordChain" 47 "WordChain" "words" "I" ∈ sv_tbl := (sv_at 300 rfl rfl)
set_option maxRecDepth 100000 in
theorem fg_X_47 : sv_FL "WordChain" 47 6 6 := ⟨R_X, F_X, 7, rfl, by decide, i_X, w_X_47⟩
set_option maxRecDepth 100000 in
theorem fp_X_47 : sv_FP "WordChain" 47 6 6 (.int) false := ⟨R_X, F_X, 7, t_X, rfl, by decide, i_X, w_X_47, t_X_ok, n_X, rfl, fun _ => rfl, by decide +kernel⟩
set_option maxRecDepth 100000 in
theorem w_M_75 : Cond.fieldLink "WordChainModel" 75 "WordChainModel" "STOPS" "[Ljava/lang/String;" ∈ sv_tbl := (sv_at 773 rfl rfl)
set_option maxRecDepth 100000 in
theorem fg_M_75 : sv_FL "WordChainModel" 75 7 0 := ⟨R_M, F_M, 16, rfl, by decide, i_M, w_M_75⟩
set_option maxRecDepth 100000 in
theorem fp_M_75 : sv_FP "WordChainModel" 75 7 0 (.array (.object "java/lang/String")) true := ⟨R_M, F_M, 16, t_M, rfl, by decide, i_M, w_M_75, t_M_ok, n_M, rfl, fun _ => rfl, by decide +kernel⟩
set_option maxRecDepth 100000 in
theorem w_M_147 : Cond.fieldLink "WordChainModel" 147 "WordChainModel" "TWO" "[Ljava/lang/String;" ∈ sv_tbl := (sv_at 774 rfl rfl)
set_option maxRecDepth 100000 in
theorem fg_M_147 : sv_FL "WordChainModel" 147 7 1 := ⟨R_M, F_M, 16, rfl, by decide, i_M, w_M_147⟩
set_option maxRecDepth 100000 in
theorem fp_M_147 : sv_FP "WordChainModel" 147 7 1 (.array (.object "java/lang/String")) true := ⟨R_M, F_M, 16, t_M, rfl, by decide, i_M, w_M_147, t_M_ok, n_M, rfl, fun _ => rfl, by decide +kernel⟩
set_option maxRecDepth 100000 in
theorem w_M_166 : Cond.fieldLink "WordChainModel" 166 "WordChainModel" "THREE" "[Ljava/lang/String;" ∈ sv_tbl := (sv_at 775 rfl rfl)
set_option maxRecDepth 100000 in
theorem fg_M_166 : sv_FL "WordChainModel" 166 7 2 := ⟨R_M, F_M, 16, rfl, by decide, i_M, w_M_166⟩
set_option maxRecDepth 100000 in
theorem fp_M_166 : sv_FP "WordChainModel" 166 7 2 (.array (.object "java/lang/String")) true := ⟨R_M, F_M, 16, t_M, rfl, by decide, i_M, w_M_166, t_M_ok, n_M, rfl, fun _ => rfl, by decide +kernel⟩
set_option maxRecDepth 100000 in
theorem w_M_187 : Cond.fieldLink "WordChainModel" 187 "WordChainModel" "FOUR" "[Ljava/lang/String;" ∈ sv_tbl := (sv_at 776 rfl rfl)
set_option maxRecDepth 100000 in
theorem fg_M_187 : sv_FL "WordChainModel" 187 7 3 := ⟨R_M, F_M, 16, rfl, by decide, i_M, w_M_187⟩
set_option maxRecDepth 100000 in
theorem fp_M_187 : sv_FP "WordChainModel" 187 7 3 (.array (.object "java/lang/String")) true := ⟨R_M, F_M, 16, t_M, rfl, by decide, i_M, w_M_187, t_M_ok, n_M, rfl, fun _ => rfl, by decide +kernel⟩
set_option maxRecDepth 100000 in
theorem w_M_190 : Cond.fieldLink "WordChainModel" 190 "WordChainModel" "input" "[B" ∈ sv_tbl := (sv_at 777 rfl rfl)
set_option maxRecDepth 100000 in
theorem fg_M_190 : sv_FL "WordChainModel" 190 7 4 := ⟨R_M, F_M, 16, rfl, by decide, i_M, w_M_190⟩
set_option maxRecDepth 100000 in
theorem fp_M_190 : sv_FP "WordChainModel" 190 7 4 (.array .byte) true := ⟨R_M, F_M, 16, t_M, rfl, by decide, i_M, w_M_190, t_M_ok, n_M, rfl, fun _ => rfl, by decide +kernel⟩
set_option maxRecDepth 100000 in
theorem w_M_326 : Cond.fieldLink "WordChainModel" 326 "WordChainModel" "inputSize" "I" ∈ sv_tbl := (sv_at 778 rfl rfl)
set_option maxRecDepth 100000 in
theorem fg_M_326 : sv_FL "WordChainModel" 326 7 5 := ⟨R_M, F_M, 16, rfl, by decide, i_M, w_M_326⟩
set_option maxRecDepth 100000 in
theorem fp_M_326 : sv_FP "WordChainModel" 326 7 5 (.int) false := ⟨R_M, F_M, 16, t_M, rfl, by decide, i_M, w_M_326, t_M_ok, n_M, rfl, fun _ => rfl, by decide +kernel⟩
set_option maxRecDepth 100000 in
theorem w_M_210 : Cond.fieldLink "WordChainModel" 210 "WordChainModel" "thrown" "I" ∈ sv_tbl := (sv_at 779 rfl rfl)
set_option maxRecDepth 100000 in
theorem fg_M_210 : sv_FL "WordChainModel" 210 7 6 := ⟨R_M, F_M, 16, rfl, by decide, i_M, w_M_210⟩
set_option maxRecDepth 100000 in
theorem fp_M_210 : sv_FP "WordChainModel" 210 7 6 (.int) false := ⟨R_M, F_M, 16, t_M, rfl, by decide, i_M, w_M_210, t_M_ok, n_M, rfl, fun _ => rfl, by decide +kernel⟩
set_option maxRecDepth 100000 in
theorem w_M_194 : Cond.fieldLink "WordChainModel" 194 "WordChainModel" "chars" "[I" ∈ sv_tbl := (sv_at 780 rfl rfl)
set_option maxRecDepth 100000 in
theorem fg_M_194 : sv_FL "WordChainModel" 194 7 7 := ⟨R_M, F_M, 16, rfl, by decide, i_M, w_M_194⟩
set_option maxRecDepth 100000 in
theorem fp_M_194 : sv_FP "WordChainModel" 194 7 7 (.array .int) true := ⟨R_M, F_M, 16, t_M, rfl, by decide, i_M, w_M_194, t_M_ok, n_M, rfl, fun _ => rfl, by decide +kernel⟩
set_option maxRecDepth 100000 in
theorem w_M_218 : Cond.fieldLink "WordChainModel" 218 "WordChainModel" "charMany" "I" ∈ sv_tbl := (sv_at 781 rfl rfl)
set_option maxRecDepth 100000 in
theorem fg_M_218 : sv_FL "WordChainModel" 218 7 8 := ⟨R_M, F_M, 16, rfl, by decide, i_M, w_M_218⟩
set_option maxRecDepth 100000 in
theorem fp_M_218 : sv_FP "WordChainModel" 218 7 8 (.int) false := ⟨R_M, F_M, 16, t_M, rfl, by decide, i_M, w_M_218, t_M_ok, n_M, rfl, fun _ => rfl, by decide +kernel⟩
set_option maxRecDepth 100000 in
theorem w_M_198 : Cond.fieldLink "WordChainModel" 198 "WordChainModel" "cutChars" "[I" ∈ sv_tbl := (sv_at 782 rfl rfl)
set_option maxRecDepth 100000 in
theorem fg_M_198 : sv_FL "WordChainModel" 198 7 9 := ⟨R_M, F_M, 16, rfl, by decide, i_M, w_M_198⟩
set_option maxRecDepth 100000 in
theorem fp_M_198 : sv_FP "WordChainModel" 198 7 9 (.array .int) true := ⟨R_M, F_M, 16, t_M, rfl, by decide, i_M, w_M_198, t_M_ok, n_M, rfl, fun _ => rfl, by decide +kernel⟩
set_option maxRecDepth 100000 in
theorem w_M_201 : Cond.fieldLink "WordChainModel" 201 "WordChainModel" "cutAt" "[I" ∈ sv_tbl := (sv_at 783 rfl rfl)
set_option maxRecDepth 100000 in
theorem fg_M_201 : sv_FL "WordChainModel" 201 7 10 := ⟨R_M, F_M, 16, rfl, by decide, i_M, w_M_201⟩
set_option maxRecDepth 100000 in
theorem fp_M_201 : sv_FP "WordChainModel" 201 7 10 (.array .int) true := ⟨R_M, F_M, 16, t_M, rfl, by decide, i_M, w_M_201, t_M_ok, n_M, rfl, fun _ => rfl, by decide +kernel⟩
set_option maxRecDepth 100000 in
theorem w_M_204 : Cond.fieldLink "WordChainModel" 204 "WordChainModel" "cutPosition" "[I" ∈ sv_tbl := (sv_at 784 rfl rfl)
set_option maxRecDepth 100000 in
theorem fg_M_204 : sv_FL "WordChainModel" 204 7 11 := ⟨R_M, F_M, 16, rfl, by decide, i_M, w_M_204⟩
set_option maxRecDepth 100000 in
theorem fp_M_204 : sv_FP "WordChainModel" 204 7 11 (.array .int) true := ⟨R_M, F_M, 16, t_M, rfl, by decide, i_M, w_M_204, t_M_ok, n_M, rfl, fun _ => rfl, by decide +kernel⟩
set_option maxRecDepth 100000 in
theorem w_M_234 : Cond.fieldLink "WordChainModel" 234 "WordChainModel" "cutMany" "I" ∈ sv_tbl := (sv_at 785 rfl rfl)
set_option maxRecDepth 100000 in
theorem fg_M_234 : sv_FL "WordChainModel" 234 7 12 := ⟨R_M, F_M, 16, rfl, by decide, i_M, w_M_234⟩
set_option maxRecDepth 100000 in
theorem fp_M_234 : sv_FP "WordChainModel" 234 7 12 (.int) false := ⟨R_M, F_M, 16, t_M, rfl, by decide, i_M, w_M_234, t_M_ok, n_M, rfl, fun _ => rfl, by decide +kernel⟩
set_option maxRecDepth 100000 in
theorem w_M_237 : Cond.fieldLink "WordChainModel" 237 "WordChainModel" "cutWords" "I" ∈ sv_tbl := (sv_at 786 rfl rfl)
set_option maxRecDepth 100000 in
theorem fg_M_237 : sv_FL "WordChainModel" 237 7 13 := ⟨R_M, F_M, 16, rfl, by decide, i_M, w_M_237⟩
set_option maxRecDepth 100000 in
theorem fp_M_237 : sv_FP "WordChainModel" 237 7 13 (.int) false := ⟨R_M, F_M, 16, t_M, rfl, by decide, i_M, w_M_237, t_M_ok, n_M, rfl, fun _ => rfl, by decide +kernel⟩
set_option maxRecDepth 100000 in
theorem w_M_207 : Cond.fieldLink "WordChainModel" 207 "WordChainModel" "word" "[I" ∈ sv_tbl := (sv_at 787 rfl rfl)
set_option maxRecDepth 100000 in
theorem fg_M_207 : sv_FL "WordChainModel" 207 7 14 := ⟨R_M, F_M, 16, rfl, by decide, i_M, w_M_207⟩
set_option maxRecDepth 100000 in
theorem fp_M_207 : sv_FP "WordChainModel" 207 7 14 (.array .int) true := ⟨R_M, F_M, 16, t_M, rfl, by decide, i_M, w_M_207, t_M_ok, n_M, rfl, fun _ => rfl, by decide +kernel⟩
set_option maxRecDepth 100000 in
theorem w_M_254 : Cond.fieldLink "WordChainModel" 254 "WordChainModel" "wordMany" "I" ∈ sv_tbl := (sv_at 788 rfl rfl)
set_option maxRecDepth 100000 in
theorem fg_M_254 : sv_FL "WordChainModel" 254 7 15 := ⟨R_M, F_M, 16, rfl, by decide, i_M, w_M_254⟩
set_option maxRecDepth 100000 in
theorem fp_M_254 : sv_FP "WordChainModel" 254 7 15 (.int) false := ⟨R_M, F_M, 16, t_M, rfl, by decide, i_M, w_M_254, t_M_ok, n_M, rfl, fun _ => rfl, by decide +kernel⟩
set_option maxRecDepth 100000 in
theorem lk_L_36 : sv_LK 2 "WordChainLaw" 36 y_X_init b_X_init 1 none 0 := ⟨(sv_at 62 rfl rfl), (sv_at 64 rfl rfl), (sv_at 38 rfl rfl), by decide +kernel, ⟨rfl, (sv_at 63 rfl rfl)⟩⟩
set_option maxRecDepth 100000 in
theorem lk_X_19 : sv_LK 2 "WordChain" 19 y_Te_init b_Te_init 2 none 1 := ⟨(sv_at 70 rfl rfl), (sv_at 72 rfl rfl), (sv_at 39 rfl rfl), by decide +kernel, ⟨rfl, (sv_at 71 rfl rfl)⟩⟩
set_option maxRecDepth 100000 in
theorem lk_X_28 : sv_LK 2 "WordChain" 28 y_Si_init b_Si_init 4 none 0 := ⟨(sv_at 87 rfl rfl), (sv_at 89 rfl rfl), (sv_at 40 rfl rfl), by decide +kernel, ⟨rfl, (sv_at 88 rfl rfl)⟩⟩
set_option maxRecDepth 100000 in
theorem lk_Si_15 : sv_LK 0 "WordChain$SilentWords" 15 y_Str_length b_Str_length 1 (some (.int)) 0 := ⟨(sv_at 92 rfl rfl), (sv_at 95 rfl rfl), (sv_at 41 rfl rfl), by decide +kernel, ⟨(sv_at 93 rfl rfl), (sv_at 94 rfl rfl)⟩⟩
set_option maxRecDepth 100000 in
theorem lk_Str_335 : sv_LK 0 "java/lang/String" 335 y_Str_coder b_Str_coder 1 (some (.byte)) 0 := ⟨(sv_at 96 rfl rfl), (sv_at 99 rfl rfl), (sv_at 41 rfl rfl), by decide +kernel, ⟨(sv_at 97 rfl rfl), (sv_at 98 rfl rfl)⟩⟩
set_option maxRecDepth 100000 in
theorem lk_Si_21 : sv_LK 0 "WordChain$SilentWords" 21 y_Str_charAt b_Str_charAt 2 (some (.char)) 1 := ⟨(sv_at 102 rfl rfl), (sv_at 105 rfl rfl), (sv_at 41 rfl rfl), by decide +kernel, ⟨(sv_at 103 rfl rfl), (sv_at 104 rfl rfl)⟩⟩
set_option maxRecDepth 100000 in
theorem lk_Str_492 : sv_LK 0 "java/lang/String" 492 y_Str_isLatin1 b_Str_isLatin1 1 (some (.boolean)) 0 := ⟨(sv_at 106 rfl rfl), (sv_at 109 rfl rfl), (sv_at 41 rfl rfl), by decide +kernel, ⟨(sv_at 107 rfl rfl), (sv_at 108 rfl rfl)⟩⟩
set_option maxRecDepth 100000 in
theorem lk_Str_495 : sv_LK 1 "java/lang/String" 495 y_Lat_charAt b_Lat_charAt 2 (some (.char)) 2 := ⟨(sv_at 110 rfl rfl), (sv_at 112 rfl rfl), (sv_at 42 rfl rfl), by decide +kernel, (sv_at 111 rfl rfl)⟩
set_option maxRecDepth 100000 in
theorem lk_Lat_9 : sv_LK 1 "java/lang/StringLatin1" 9 y_Str_checkIndex b_Str_checkIndex 2 none 2 := ⟨(sv_at 113 rfl rfl), (sv_at 115 rfl rfl), (sv_at 41 rfl rfl), by decide +kernel, (sv_at 114 rfl rfl)⟩
set_option maxRecDepth 100000 in
theorem lk_Str_1059 : sv_LK 1 "java/lang/String" 1059 y_Pre_checkIndex b_Pre_checkIndex 3 (some (.int)) 3 := ⟨(sv_at 118 rfl rfl), (sv_at 120 rfl rfl), (sv_at 43 rfl rfl), by decide +kernel, (sv_at 119 rfl rfl)⟩
set_option maxRecDepth 100000 in
theorem lk_Str_498 : sv_LK 1 "java/lang/String" 498 y_U16_charAt b_U16_charAt 2 (some (.char)) 2 := ⟨(sv_at 121 rfl rfl), (sv_at 123 rfl rfl), (sv_at 44 rfl rfl), by decide +kernel, (sv_at 122 rfl rfl)⟩
set_option maxRecDepth 100000 in
theorem lk_U16_67 : sv_LK 1 "java/lang/StringUTF16" 67 y_U16_checkIndex b_U16_checkIndex 2 none 2 := ⟨(sv_at 124 rfl rfl), (sv_at 126 rfl rfl), (sv_at 44 rfl rfl), by decide +kernel, (sv_at 125 rfl rfl)⟩
set_option maxRecDepth 100000 in
theorem lk_U16_48 : sv_LK 1 "java/lang/StringUTF16" 48 y_U16_length b_U16_length 1 (some (.int)) 1 := ⟨(sv_at 127 rfl rfl), (sv_at 129 rfl rfl), (sv_at 44 rfl rfl), by decide +kernel, (sv_at 128 rfl rfl)⟩
set_option maxRecDepth 100000 in
theorem lk_U16_414 : sv_LK 1 "java/lang/StringUTF16" 414 y_Str_checkIndex b_Str_checkIndex 2 none 2 := ⟨(sv_at 130 rfl rfl), (sv_at 115 rfl rfl), (sv_at 41 rfl rfl), by decide +kernel, (sv_at 114 rfl rfl)⟩
set_option maxRecDepth 100000 in
theorem lk_U16_71 : sv_LK 1 "java/lang/StringUTF16" 71 y_U16_getChar b_U16_getChar 2 (some (.char)) 2 := ⟨(sv_at 131 rfl rfl), (sv_at 133 rfl rfl), (sv_at 44 rfl rfl), by decide +kernel, (sv_at 132 rfl rfl)⟩
set_option maxRecDepth 100000 in
theorem lk_Si_25 : sv_LK 1 "WordChain$SilentWords" 25 y_Si_withLetter b_Si_withLetter 2 (some (.int)) 2 := ⟨(sv_at 140 rfl rfl), (sv_at 142 rfl rfl), (sv_at 40 rfl rfl), by decide +kernel, (sv_at 141 rfl rfl)⟩
set_option maxRecDepth 100000 in
theorem lk_X_35 : sv_LK 2 "WordChain" 35 y_Sm_init b_Sm_init 2 none 1 := ⟨(sv_at 149 rfl rfl), (sv_at 151 rfl rfl), (sv_at 45 rfl rfl), by decide +kernel, ⟨rfl, (sv_at 150 rfl rfl)⟩⟩
set_option maxRecDepth 100000 in
theorem lk_Sm_13 : sv_LK 2 "WordChain$Stemmer" 13 y_En_init b_En_init 3 none 2 := ⟨(sv_at 158 rfl rfl), (sv_at 160 rfl rfl), (sv_at 46 rfl rfl), by decide +kernel, ⟨rfl, (sv_at 159 rfl rfl)⟩⟩
set_option maxRecDepth 100000 in
theorem lk_Sm_150 : sv_LK 2 "WordChain$Stemmer" 150 y_Wo_init b_Wo_init 2 none 1 := ⟨(sv_at 230 rfl rfl), (sv_at 232 rfl rfl), (sv_at 47 rfl rfl), by decide +kernel, ⟨rfl, (sv_at 231 rfl rfl)⟩⟩
set_option maxRecDepth 100000 in
theorem lk_X_42 : sv_LK 2 "WordChain" 42 y_To_init b_To_init 2 none 1 := ⟨(sv_at 273 rfl rfl), (sv_at 275 rfl rfl), (sv_at 48 rfl rfl), by decide +kernel, ⟨rfl, (sv_at 274 rfl rfl)⟩⟩
set_option maxRecDepth 100000 in
theorem lk_L_54 : sv_LK 0 "WordChainLaw" 54 y_X_cut b_X_cut 3 (some (.int)) 0 := ⟨(sv_at 316 rfl rfl), (sv_at 319 rfl rfl), (sv_at 38 rfl rfl), by decide +kernel, ⟨(sv_at 317 rfl rfl), (sv_at 318 rfl rfl)⟩⟩
set_option maxRecDepth 100000 in
theorem lk_X_65 : sv_LK 0 "WordChain" 65 y_Te_read b_Te_read 5 none 2 := ⟨(sv_at 320 rfl rfl), (sv_at 323 rfl rfl), (sv_at 39 rfl rfl), by decide +kernel, ⟨(sv_at 321 rfl rfl), (sv_at 322 rfl rfl)⟩⟩
set_option maxRecDepth 100000 in
theorem lk_Te_17 : sv_LK 1 "WordChain$Text" 17 y_Ut_sizeAt b_Ut_sizeAt 6 (some (.int)) 3 := ⟨(sv_at 324 rfl rfl), (sv_at 326 rfl rfl), (sv_at 55 rfl rfl), by decide +kernel, (sv_at 325 rfl rfl)⟩
set_option maxRecDepth 100000 in
theorem lk_Ut_7 : sv_LK 1 "WordChain$Utf8" 7 y_Ut_sizeByLead b_Ut_sizeByLead 1 (some (.int)) 1 := ⟨(sv_at 327 rfl rfl), (sv_at 329 rfl rfl), (sv_at 55 rfl rfl), by decide +kernel, (sv_at 328 rfl rfl)⟩
set_option maxRecDepth 100000 in
theorem lk_Ut_13 : sv_LK 1 "WordChain$Utf8" 13 y_Ut_isSecond b_Ut_isSecond 4 (some (.boolean)) 2 := ⟨(sv_at 330 rfl rfl), (sv_at 332 rfl rfl), (sv_at 55 rfl rfl), by decide +kernel, (sv_at 331 rfl rfl)⟩
set_option maxRecDepth 100000 in
theorem lk_Te_24 : sv_LK 1 "WordChain$Text" 24 y_Ut_valueAt b_Ut_valueAt 5 (some (.int)) 3 := ⟨(sv_at 334 rfl rfl), (sv_at 336 rfl rfl), (sv_at 55 rfl rfl), by decide +kernel, (sv_at 335 rfl rfl)⟩
set_option maxRecDepth 100000 in
theorem lk_X_69 : sv_LK 0 "WordChain" 69 y_To_clear b_To_clear 1 none 0 := ⟨(sv_at 340 rfl rfl), (sv_at 343 rfl rfl), (sv_at 48 rfl rfl), by decide +kernel, ⟨(sv_at 341 rfl rfl), (sv_at 342 rfl rfl)⟩⟩
set_option maxRecDepth 100000 in
theorem lk_X_75 : sv_LK 0 "WordChain" 75 y_Te_spanEnd b_Te_spanEnd 3 (some (.int)) 1 := ⟨(sv_at 344 rfl rfl), (sv_at 347 rfl rfl), (sv_at 39 rfl rfl), by decide +kernel, ⟨(sv_at 345 rfl rfl), (sv_at 346 rfl rfl)⟩⟩
set_option maxRecDepth 100000 in
theorem lk_Te_33 : sv_LK 0 "WordChain$Text" 33 y_Te_sortAt b_Te_sortAt 2 (some (.int)) 1 := ⟨(sv_at 348 rfl rfl), (sv_at 351 rfl rfl), (sv_at 39 rfl rfl), by decide +kernel, ⟨(sv_at 350 rfl rfl), (sv_at 0 rfl rfl)⟩⟩
set_option maxRecDepth 100000 in
theorem lk_Te_50 : sv_LK 1 "WordChain$Text" 50 y_So_of b_So_of 1 (some (.int)) 1 := ⟨(sv_at 352 rfl rfl), (sv_at 354 rfl rfl), (sv_at 57 rfl rfl), by decide +kernel, (sv_at 353 rfl rfl)⟩
set_option maxRecDepth 100000 in
theorem lk_So_7 : sv_LK 1 "WordChain$Sorts" 7 y_So_isLetter b_So_isLetter 1 (some (.boolean)) 1 := ⟨(sv_at 355 rfl rfl), (sv_at 357 rfl rfl), (sv_at 57 rfl rfl), by decide +kernel, (sv_at 356 rfl rfl)⟩
set_option maxRecDepth 100000 in
theorem lk_Te_37 : sv_LK 1 "WordChain$Text" 37 y_So_isInner b_So_isInner 1 (some (.boolean)) 1 := ⟨(sv_at 359 rfl rfl), (sv_at 361 rfl rfl), (sv_at 57 rfl rfl), by decide +kernel, (sv_at 360 rfl rfl)⟩
set_option maxRecDepth 100000 in
theorem lk_Te_43 : sv_LK 0 "WordChain$Text" 43 y_Te_isTie b_Te_isTie 3 (some (.boolean)) 1 := ⟨(sv_at 362 rfl rfl), (sv_at 365 rfl rfl), (sv_at 39 rfl rfl), by decide +kernel, ⟨(sv_at 364 rfl rfl), (sv_at 1 rfl rfl)⟩⟩
set_option maxRecDepth 100000 in
theorem lk_Te_46 : sv_LK 1 "WordChain$Text" 46 y_So_ties b_So_ties 2 (some (.boolean)) 2 := ⟨(sv_at 366 rfl rfl), (sv_at 368 rfl rfl), (sv_at 57 rfl rfl), by decide +kernel, (sv_at 367 rfl rfl)⟩
set_option maxRecDepth 100000 in
theorem lk_X_79 : sv_LK 0 "WordChain" 79 y_Te_isWord b_Te_isWord 5 (some (.boolean)) 2 := ⟨(sv_at 369 rfl rfl), (sv_at 372 rfl rfl), (sv_at 39 rfl rfl), by decide +kernel, ⟨(sv_at 370 rfl rfl), (sv_at 371 rfl rfl)⟩⟩
set_option maxRecDepth 100000 in
theorem lk_X_83 : sv_LK 0 "WordChain" 83 y_X_takeWords b_X_takeWords 5 none 2 := ⟨(sv_at 373 rfl rfl), (sv_at 376 rfl rfl), (sv_at 38 rfl rfl), by decide +kernel, ⟨(sv_at 375 rfl rfl), (sv_at 2 rfl rfl)⟩⟩
set_option maxRecDepth 100000 in
theorem lk_X_141 : sv_LK 0 "WordChain" 141 y_Wo_take b_Wo_take 4 none 3 := ⟨(sv_at 380 rfl rfl), (sv_at 383 rfl rfl), (sv_at 47 rfl rfl), by decide +kernel, ⟨(sv_at 381 rfl rfl), (sv_at 382 rfl rfl)⟩⟩
set_option maxRecDepth 100000 in
theorem lk_X_147 : sv_LK 0 "WordChain" 147 y_Wo_dropOwnersEnding b_Wo_dropOwnersEnding 3 none 0 := ⟨(sv_at 387 rfl rfl), (sv_at 390 rfl rfl), (sv_at 47 rfl rfl), by decide +kernel, ⟨(sv_at 388 rfl rfl), (sv_at 389 rfl rfl)⟩⟩
set_option maxRecDepth 100000 in
theorem lk_X_150 : sv_LK 0 "WordChain" 150 y_Wo_lower b_Wo_lower 2 none 0 := ⟨(sv_at 391 rfl rfl), (sv_at 394 rfl rfl), (sv_at 47 rfl rfl), by decide +kernel, ⟨(sv_at 392 rfl rfl), (sv_at 393 rfl rfl)⟩⟩
set_option maxRecDepth 100000 in
theorem lk_Wo_23 : sv_LK 1 "WordChain$Word" 23 y_Wo_lowered b_Wo_lowered 1 (some (.int)) 1 := ⟨(sv_at 395 rfl rfl), (sv_at 397 rfl rfl), (sv_at 47 rfl rfl), by decide +kernel, (sv_at 396 rfl rfl)⟩
set_option maxRecDepth 100000 in
theorem lk_X_153 : sv_LK 0 "WordChain" 153 y_Si_have b_Si_have 4 (some (.boolean)) 1 := ⟨(sv_at 398 rfl rfl), (sv_at 401 rfl rfl), (sv_at 40 rfl rfl), by decide +kernel, ⟨(sv_at 399 rfl rfl), (sv_at 400 rfl rfl)⟩⟩
set_option maxRecDepth 100000 in
theorem lk_Si_34 : sv_LK 0 "WordChain$SilentWords" 34 y_Wo_isSmallLetters b_Wo_isSmallLetters 2 (some (.boolean)) 0 := ⟨(sv_at 402 rfl rfl), (sv_at 405 rfl rfl), (sv_at 47 rfl rfl), by decide +kernel, ⟨(sv_at 403 rfl rfl), (sv_at 404 rfl rfl)⟩⟩
set_option maxRecDepth 100000 in
theorem lk_X_157 : sv_LK 0 "WordChain" 157 y_Sm_stemIfFit b_Sm_stemIfFit 1 none 0 := ⟨(sv_at 406 rfl rfl), (sv_at 409 rfl rfl), (sv_at 45 rfl rfl), by decide +kernel, ⟨(sv_at 407 rfl rfl), (sv_at 408 rfl rfl)⟩⟩
set_option maxRecDepth 100000 in
theorem lk_Sm_165 : sv_LK 0 "WordChain$Stemmer" 165 y_Wo_isSmallLetters b_Wo_isSmallLetters 2 (some (.boolean)) 0 := ⟨(sv_at 410 rfl rfl), (sv_at 405 rfl rfl), (sv_at 47 rfl rfl), by decide +kernel, ⟨(sv_at 403 rfl rfl), (sv_at 404 rfl rfl)⟩⟩
set_option maxRecDepth 100000 in
theorem lk_Sm_169 : sv_LK 0 "WordChain$Stemmer" 169 y_Sm_markVowels b_Sm_markVowels 4 none 0 := ⟨(sv_at 411 rfl rfl), (sv_at 414 rfl rfl), (sv_at 45 rfl rfl), by decide +kernel, ⟨(sv_at 413 rfl rfl), (sv_at 3 rfl rfl)⟩⟩
set_option maxRecDepth 100000 in
theorem lk_Sm_172 : sv_LK 0 "WordChain$Stemmer" 172 y_Sm_step1a b_Sm_step1a 2 none 0 := ⟨(sv_at 415 rfl rfl), (sv_at 418 rfl rfl), (sv_at 45 rfl rfl), by decide +kernel, ⟨(sv_at 417 rfl rfl), (sv_at 4 rfl rfl)⟩⟩
set_option maxRecDepth 100000 in
theorem lk_Sm_194 : sv_LK 0 "WordChain$Stemmer" 194 y_Sm_longest b_Sm_longest 6 (some (.object "WordChain$Ending")) 1 := ⟨(sv_at 419 rfl rfl), (sv_at 422 rfl rfl), (sv_at 45 rfl rfl), by decide +kernel, ⟨(sv_at 421 rfl rfl), (sv_at 5 rfl rfl)⟩⟩
set_option maxRecDepth 100000 in
theorem lk_Sm_256 : sv_LK 0 "WordChain$Stemmer" 256 y_Str_length b_Str_length 1 (some (.int)) 0 := ⟨(sv_at 423 rfl rfl), (sv_at 95 rfl rfl), (sv_at 41 rfl rfl), by decide +kernel, ⟨(sv_at 93 rfl rfl), (sv_at 94 rfl rfl)⟩⟩
set_option maxRecDepth 100000 in
theorem lk_Sm_232 : sv_LK 0 "WordChain$Stemmer" 232 y_Wo_endsWith b_Wo_endsWith 4 (some (.boolean)) 1 := ⟨(sv_at 424 rfl rfl), (sv_at 427 rfl rfl), (sv_at 47 rfl rfl), by decide +kernel, ⟨(sv_at 425 rfl rfl), (sv_at 426 rfl rfl)⟩⟩
set_option maxRecDepth 100000 in
theorem lk_Wo_27 : sv_LK 0 "WordChain$Word" 27 y_Str_length b_Str_length 1 (some (.int)) 0 := ⟨(sv_at 428 rfl rfl), (sv_at 95 rfl rfl), (sv_at 41 rfl rfl), by decide +kernel, ⟨(sv_at 93 rfl rfl), (sv_at 94 rfl rfl)⟩⟩
set_option maxRecDepth 100000 in
theorem lk_Wo_32 : sv_LK 0 "WordChain$Word" 32 y_Str_charAt b_Str_charAt 2 (some (.char)) 1 := ⟨(sv_at 429 rfl rfl), (sv_at 105 rfl rfl), (sv_at 41 rfl rfl), by decide +kernel, ⟨(sv_at 103 rfl rfl), (sv_at 104 rfl rfl)⟩⟩
set_option maxRecDepth 100000 in
theorem lk_Sm_198 : sv_LK 0 "WordChain$Stemmer" 198 y_Sm_stemBefore b_Sm_stemBefore 2 (some (.int)) 1 := ⟨(sv_at 430 rfl rfl), (sv_at 433 rfl rfl), (sv_at 45 rfl rfl), by decide +kernel, ⟨(sv_at 432 rfl rfl), (sv_at 6 rfl rfl)⟩⟩
set_option maxRecDepth 100000 in
theorem lk_Sm_206 : sv_LK 0 "WordChain$Stemmer" 206 y_Sm_become b_Sm_become 3 none 2 := ⟨(sv_at 434 rfl rfl), (sv_at 437 rfl rfl), (sv_at 45 rfl rfl), by decide +kernel, ⟨(sv_at 436 rfl rfl), (sv_at 7 rfl rfl)⟩⟩
set_option maxRecDepth 100000 in
theorem lk_Sm_259 : sv_LK 0 "WordChain$Stemmer" 259 y_Wo_append b_Wo_append 3 none 1 := ⟨(sv_at 438 rfl rfl), (sv_at 441 rfl rfl), (sv_at 47 rfl rfl), by decide +kernel, ⟨(sv_at 439 rfl rfl), (sv_at 440 rfl rfl)⟩⟩
set_option maxRecDepth 100000 in
theorem lk_Sm_175 : sv_LK 0 "WordChain$Stemmer" 175 y_Sm_step1b b_Sm_step1b 3 none 0 := ⟨(sv_at 442 rfl rfl), (sv_at 445 rfl rfl), (sv_at 45 rfl rfl), by decide +kernel, ⟨(sv_at 444 rfl rfl), (sv_at 8 rfl rfl)⟩⟩
set_option maxRecDepth 100000 in
theorem lk_Sm_213 : sv_LK 0 "WordChain$Stemmer" 213 y_Str_equals b_Str_equals 3 (some (.boolean)) 1 := ⟨(sv_at 446 rfl rfl), (sv_at 449 rfl rfl), (sv_at 41 rfl rfl), by decide +kernel, ⟨(sv_at 447 rfl rfl), (sv_at 448 rfl rfl)⟩⟩
set_option maxRecDepth 100000 in
theorem lk_Str_541 : sv_LK 1 "java/lang/String" 541 y_Lat_equals b_Lat_equals 3 (some (.boolean)) 2 := ⟨(sv_at 451 rfl rfl), (sv_at 453 rfl rfl), (sv_at 42 rfl rfl), by decide +kernel, (sv_at 452 rfl rfl)⟩
set_option maxRecDepth 100000 in
theorem lk_Sm_219 : sv_LK 0 "WordChain$Stemmer" 219 y_Sm_measure b_Sm_measure 4 (some (.int)) 1 := ⟨(sv_at 454 rfl rfl), (sv_at 457 rfl rfl), (sv_at 45 rfl rfl), by decide +kernel, ⟨(sv_at 456 rfl rfl), (sv_at 9 rfl rfl)⟩⟩
set_option maxRecDepth 100000 in
theorem lk_Sm_223 : sv_LK 0 "WordChain$Stemmer" 223 y_Sm_hasVowel b_Sm_hasVowel 3 (some (.boolean)) 1 := ⟨(sv_at 458 rfl rfl), (sv_at 461 rfl rfl), (sv_at 45 rfl rfl), by decide +kernel, ⟨(sv_at 460 rfl rfl), (sv_at 10 rfl rfl)⟩⟩
set_option maxRecDepth 100000 in
theorem lk_Sm_227 : sv_LK 0 "WordChain$Stemmer" 227 y_Sm_mendAfter1b b_Sm_mendAfter1b 1 none 0 := ⟨(sv_at 462 rfl rfl), (sv_at 465 rfl rfl), (sv_at 45 rfl rfl), by decide +kernel, ⟨(sv_at 464 rfl rfl), (sv_at 11 rfl rfl)⟩⟩
set_option maxRecDepth 100000 in
theorem lk_Sm_240 : sv_LK 0 "WordChain$Stemmer" 240 y_Sm_isDouble b_Sm_isDouble 2 (some (.boolean)) 0 := ⟨(sv_at 469 rfl rfl), (sv_at 472 rfl rfl), (sv_at 45 rfl rfl), by decide +kernel, ⟨(sv_at 471 rfl rfl), (sv_at 12 rfl rfl)⟩⟩
set_option maxRecDepth 100000 in
theorem lk_Sm_247 : sv_LK 0 "WordChain$Stemmer" 247 y_Sm_isCvc b_Sm_isCvc 3 (some (.boolean)) 1 := ⟨(sv_at 475 rfl rfl), (sv_at 478 rfl rfl), (sv_at 45 rfl rfl), by decide +kernel, ⟨(sv_at 477 rfl rfl), (sv_at 13 rfl rfl)⟩⟩
set_option maxRecDepth 100000 in
theorem lk_Sm_178 : sv_LK 0 "WordChain$Stemmer" 178 y_Sm_step1c b_Sm_step1c 2 none 0 := ⟨(sv_at 479 rfl rfl), (sv_at 482 rfl rfl), (sv_at 45 rfl rfl), by decide +kernel, ⟨(sv_at 481 rfl rfl), (sv_at 14 rfl rfl)⟩⟩
set_option maxRecDepth 100000 in
theorem lk_Sm_181 : sv_LK 0 "WordChain$Stemmer" 181 y_Sm_replaceIfAbove b_Sm_replaceIfAbove 4 none 2 := ⟨(sv_at 484 rfl rfl), (sv_at 487 rfl rfl), (sv_at 45 rfl rfl), by decide +kernel, ⟨(sv_at 486 rfl rfl), (sv_at 15 rfl rfl)⟩⟩
set_option maxRecDepth 100000 in
theorem lk_Sm_185 : sv_LK 0 "WordChain$Stemmer" 185 y_Sm_step4 b_Sm_step4 2 none 0 := ⟨(sv_at 488 rfl rfl), (sv_at 491 rfl rfl), (sv_at 45 rfl rfl), by decide +kernel, ⟨(sv_at 490 rfl rfl), (sv_at 16 rfl rfl)⟩⟩
set_option maxRecDepth 100000 in
theorem lk_Sm_188 : sv_LK 0 "WordChain$Stemmer" 188 y_Sm_step5a b_Sm_step5a 3 none 0 := ⟨(sv_at 493 rfl rfl), (sv_at 496 rfl rfl), (sv_at 45 rfl rfl), by decide +kernel, ⟨(sv_at 495 rfl rfl), (sv_at 17 rfl rfl)⟩⟩
set_option maxRecDepth 100000 in
theorem lk_Sm_191 : sv_LK 0 "WordChain$Stemmer" 191 y_Sm_step5b b_Sm_step5b 1 none 0 := ⟨(sv_at 497 rfl rfl), (sv_at 500 rfl rfl), (sv_at 45 rfl rfl), by decide +kernel, ⟨(sv_at 499 rfl rfl), (sv_at 18 rfl rfl)⟩⟩
set_option maxRecDepth 100000 in
theorem lk_X_160 : sv_LK 0 "WordChain" 160 y_To_add b_To_add 4 none 2 := ⟨(sv_at 502 rfl rfl), (sv_at 505 rfl rfl), (sv_at 48 rfl rfl), by decide +kernel, ⟨(sv_at 503 rfl rfl), (sv_at 504 rfl rfl)⟩⟩
set_option maxRecDepth 100000 in
theorem lk_L_71 : sv_LK 0 "WordChainLaw" 71 y_X_count b_X_count 2 (some (.int)) 1 := ⟨(sv_at 508 rfl rfl), (sv_at 511 rfl rfl), (sv_at 38 rfl rfl), by decide +kernel, ⟨(sv_at 509 rfl rfl), (sv_at 510 rfl rfl)⟩⟩
set_option maxRecDepth 100000 in
theorem lk_L_7 : sv_LK 0 "WordChainLaw" 7 y_X_feed b_X_feed 6 (some (.int)) 5 := ⟨(sv_at 516 rfl rfl), (sv_at 519 rfl rfl), (sv_at 38 rfl rfl), by decide +kernel, ⟨(sv_at 517 rfl rfl), (sv_at 518 rfl rfl)⟩⟩
set_option maxRecDepth 100000 in
theorem lk_X_57 : sv_LK 0 "WordChain" 57 y_X_append b_X_append 3 none 1 := ⟨(sv_at 587 rfl rfl), (sv_at 590 rfl rfl), (sv_at 38 rfl rfl), by decide +kernel, ⟨(sv_at 589 rfl rfl), (sv_at 20 rfl rfl)⟩⟩
set_option maxRecDepth 100000 in
theorem lk_L_15 : sv_LK 0 "WordChainLaw" 15 y_X_end b_X_end 2 (some (.int)) 1 := ⟨(sv_at 595 rfl rfl), (sv_at 598 rfl rfl), (sv_at 38 rfl rfl), by decide +kernel, ⟨(sv_at 596 rfl rfl), (sv_at 597 rfl rfl)⟩⟩
set_option maxRecDepth 100000 in
theorem lk_L_21 : sv_LK 0 "WordChainLaw" 21 y_X_token b_X_token 3 (some (.int)) 2 := ⟨(sv_at 619 rfl rfl), (sv_at 622 rfl rfl), (sv_at 38 rfl rfl), by decide +kernel, ⟨(sv_at 620 rfl rfl), (sv_at 621 rfl rfl)⟩⟩
set_option maxRecDepth 100000 in
theorem lk_X_98 : sv_LK 0 "WordChain" 98 y_To_has b_To_has 2 (some (.boolean)) 1 := ⟨(sv_at 624 rfl rfl), (sv_at 627 rfl rfl), (sv_at 48 rfl rfl), by decide +kernel, ⟨(sv_at 625 rfl rfl), (sv_at 626 rfl rfl)⟩⟩
set_option maxRecDepth 100000 in
theorem lk_X_111 : sv_LK 0 "WordChain" 111 y_To_lengthOf b_To_lengthOf 2 (some (.int)) 1 := ⟨(sv_at 644 rfl rfl), (sv_at 647 rfl rfl), (sv_at 48 rfl rfl), by decide +kernel, ⟨(sv_at 645 rfl rfl), (sv_at 646 rfl rfl)⟩⟩
set_option maxRecDepth 100000 in
theorem lk_L_27 : sv_LK 0 "WordChainLaw" 27 y_X_character b_X_character 3 (some (.int)) 2 := ⟨(sv_at 651 rfl rfl), (sv_at 654 rfl rfl), (sv_at 38 rfl rfl), by decide +kernel, ⟨(sv_at 652 rfl rfl), (sv_at 653 rfl rfl)⟩⟩
set_option maxRecDepth 100000 in
theorem lk_L_30 : sv_LK 0 "WordChainLaw" 30 y_X_first b_X_first 2 (some (.int)) 1 := ⟨(sv_at 659 rfl rfl), (sv_at 662 rfl rfl), (sv_at 38 rfl rfl), by decide +kernel, ⟨(sv_at 660 rfl rfl), (sv_at 661 rfl rfl)⟩⟩
set_option maxRecDepth 100000 in
theorem lk_X_122 : sv_LK 0 "WordChain" 122 y_To_firstLike b_To_firstLike 3 (some (.int)) 1 := ⟨(sv_at 663 rfl rfl), (sv_at 666 rfl rfl), (sv_at 48 rfl rfl), by decide +kernel, ⟨(sv_at 664 rfl rfl), (sv_at 665 rfl rfl)⟩⟩
set_option maxRecDepth 100000 in
theorem lk_To_35 : sv_LK 0 "WordChain$Tokens" 35 y_To_areAlike b_To_areAlike 5 (some (.boolean)) 2 := ⟨(sv_at 667 rfl rfl), (sv_at 670 rfl rfl), (sv_at 48 rfl rfl), by decide +kernel, ⟨(sv_at 669 rfl rfl), (sv_at 21 rfl rfl)⟩⟩
set_option maxRecDepth 100000 in
theorem lk_To_39 : sv_LK 0 "WordChain$Tokens" 39 y_To_lengthOf b_To_lengthOf 2 (some (.int)) 1 := ⟨(sv_at 671 rfl rfl), (sv_at 647 rfl rfl), (sv_at 48 rfl rfl), by decide +kernel, ⟨(sv_at 645 rfl rfl), (sv_at 646 rfl rfl)⟩⟩
set_option maxRecDepth 100000 in
theorem lk_L_33 : sv_LK 0 "WordChainLaw" 33 y_X_sort b_X_sort 2 (some (.int)) 1 := ⟨(sv_at 675 rfl rfl), (sv_at 678 rfl rfl), (sv_at 38 rfl rfl), by decide +kernel, ⟨(sv_at 676 rfl rfl), (sv_at 677 rfl rfl)⟩⟩
set_option maxRecDepth 100000 in
theorem lk_X_128 : sv_LK 1 "WordChain" 128 y_So_of b_So_of 1 (some (.int)) 1 := ⟨(sv_at 681 rfl rfl), (sv_at 354 rfl rfl), (sv_at 57 rfl rfl), by decide +kernel, (sv_at 353 rfl rfl)⟩
set_option maxRecDepth 100000 in
theorem lk_L_39 : sv_LK 2 "WordChainLaw" 39 y_M_init b_M_init 1 none 0 := ⟨(sv_at 684 rfl rfl), (sv_at 686 rfl rfl), (sv_at 49 rfl rfl), by decide +kernel, ⟨rfl, (sv_at 685 rfl rfl)⟩⟩
set_option maxRecDepth 100000 in
theorem lk_L_46 : sv_LK 0 "WordChainLaw" 46 y_M_thrown b_M_thrown 1 (some (.int)) 0 := ⟨(sv_at 822 rfl rfl), (sv_at 825 rfl rfl), (sv_at 49 rfl rfl), by decide +kernel, ⟨(sv_at 823 rfl rfl), (sv_at 824 rfl rfl)⟩⟩
set_option maxRecDepth 100000 in
theorem lk_L_45 : sv_LK 0 "WordChainLaw" 45 y_M_feed b_M_feed 8 (some (.int)) 5 := ⟨(sv_at 826 rfl rfl), (sv_at 829 rfl rfl), (sv_at 49 rfl rfl), by decide +kernel, ⟨(sv_at 827 rfl rfl), (sv_at 828 rfl rfl)⟩⟩
set_option maxRecDepth 100000 in
theorem lk_L_53 : sv_LK 0 "WordChainLaw" 53 y_M_end b_M_end 2 (some (.int)) 1 := ⟨(sv_at 830 rfl rfl), (sv_at 833 rfl rfl), (sv_at 49 rfl rfl), by decide +kernel, ⟨(sv_at 831 rfl rfl), (sv_at 832 rfl rfl)⟩⟩
set_option maxRecDepth 100000 in
theorem lk_L_57 : sv_LK 0 "WordChainLaw" 57 y_M_cut_v b_M_cut_v 1 (some (.int)) 0 := ⟨(sv_at 834 rfl rfl), (sv_at 837 rfl rfl), (sv_at 49 rfl rfl), by decide +kernel, ⟨(sv_at 835 rfl rfl), (sv_at 836 rfl rfl)⟩⟩
set_option maxRecDepth 100000 in
theorem lk_M_329 : sv_LK 0 "WordChainModel" 329 y_M_decode b_M_decode 7 none 3 := ⟨(sv_at 838 rfl rfl), (sv_at 841 rfl rfl), (sv_at 49 rfl rfl), by decide +kernel, ⟨(sv_at 840 rfl rfl), (sv_at 22 rfl rfl)⟩⟩
set_option maxRecDepth 100000 in
theorem lk_M_221 : sv_LK 1 "WordChainModel" 221 y_M_formed b_M_formed 7 (some (.int)) 3 := ⟨(sv_at 842 rfl rfl), (sv_at 844 rfl rfl), (sv_at 49 rfl rfl), by decide +kernel, (sv_at 843 rfl rfl)⟩
set_option maxRecDepth 100000 in
theorem lk_M_214 : sv_LK 1 "WordChainModel" 214 y_M_tail b_M_tail 1 (some (.boolean)) 1 := ⟨(sv_at 845 rfl rfl), (sv_at 847 rfl rfl), (sv_at 49 rfl rfl), by decide +kernel, (sv_at 846 rfl rfl)⟩
set_option maxRecDepth 100000 in
theorem lk_M_333 : sv_LK 0 "WordChainModel" 333 y_M_cut_aIII b_M_cut_aIII 10 none 3 := ⟨(sv_at 849 rfl rfl), (sv_at 852 rfl rfl), (sv_at 49 rfl rfl), by decide +kernel, ⟨(sv_at 851 rfl rfl), (sv_at 23 rfl rfl)⟩⟩
set_option maxRecDepth 100000 in
theorem lk_M_227 : sv_LK 1 "WordChainModel" 227 y_M_sortOf b_M_sortOf 1 (some (.int)) 1 := ⟨(sv_at 853 rfl rfl), (sv_at 855 rfl rfl), (sv_at 49 rfl rfl), by decide +kernel, (sv_at 854 rfl rfl)⟩
set_option maxRecDepth 100000 in
theorem lk_M_231 : sv_LK 1 "WordChainModel" 231 y_M_inWord b_M_inWord 1 (some (.boolean)) 1 := ⟨(sv_at 857 rfl rfl), (sv_at 859 rfl rfl), (sv_at 49 rfl rfl), by decide +kernel, (sv_at 858 rfl rfl)⟩
set_option maxRecDepth 100000 in
theorem lk_M_240 : sv_LK 1 "WordChainModel" 240 y_M_further b_M_further 6 (some (.int)) 3 := ⟨(sv_at 860 rfl rfl), (sv_at 862 rfl rfl), (sv_at 49 rfl rfl), by decide +kernel, (sv_at 861 rfl rfl)⟩
set_option maxRecDepth 100000 in
theorem lk_M_250 : sv_LK 0 "WordChainModel" 250 y_M_token_aIII b_M_token_aIII 10 none 3 := ⟨(sv_at 864 rfl rfl), (sv_at 867 rfl rfl), (sv_at 49 rfl rfl), by decide +kernel, ⟨(sv_at 866 rfl rfl), (sv_at 24 rfl rfl)⟩⟩
set_option maxRecDepth 100000 in
theorem lk_M_257 : sv_LK 1 "WordChainModel" 257 y_M_lowered b_M_lowered 1 (some (.int)) 1 := ⟨(sv_at 868 rfl rfl), (sv_at 870 rfl rfl), (sv_at 49 rfl rfl), by decide +kernel, (sv_at 869 rfl rfl)⟩
set_option maxRecDepth 100000 in
theorem lk_M_260 : sv_LK 0 "WordChainModel" 260 y_M_is b_M_is 2 (some (.boolean)) 1 := ⟨(sv_at 871 rfl rfl), (sv_at 874 rfl rfl), (sv_at 49 rfl rfl), by decide +kernel, ⟨(sv_at 873 rfl rfl), (sv_at 25 rfl rfl)⟩⟩
set_option maxRecDepth 100000 in
theorem lk_M_266 : sv_LK 0 "WordChainModel" 266 y_Str_length b_Str_length 1 (some (.int)) 0 := ⟨(sv_at 875 rfl rfl), (sv_at 95 rfl rfl), (sv_at 41 rfl rfl), by decide +kernel, ⟨(sv_at 93 rfl rfl), (sv_at 94 rfl rfl)⟩⟩
set_option maxRecDepth 100000 in
theorem lk_M_270 : sv_LK 0 "WordChainModel" 270 y_M_ends b_M_ends 3 (some (.boolean)) 1 := ⟨(sv_at 876 rfl rfl), (sv_at 879 rfl rfl), (sv_at 49 rfl rfl), by decide +kernel, ⟨(sv_at 878 rfl rfl), (sv_at 26 rfl rfl)⟩⟩
set_option maxRecDepth 100000 in
theorem lk_M_273 : sv_LK 0 "WordChainModel" 273 y_Str_charAt b_Str_charAt 2 (some (.char)) 1 := ⟨(sv_at 880 rfl rfl), (sv_at 105 rfl rfl), (sv_at 41 rfl rfl), by decide +kernel, ⟨(sv_at 103 rfl rfl), (sv_at 104 rfl rfl)⟩⟩
set_option maxRecDepth 100000 in
theorem lk_M_263 : sv_LK 0 "WordChainModel" 263 y_M_stem b_M_stem 4 none 0 := ⟨(sv_at 881 rfl rfl), (sv_at 884 rfl rfl), (sv_at 49 rfl rfl), by decide +kernel, ⟨(sv_at 883 rfl rfl), (sv_at 27 rfl rfl)⟩⟩
set_option maxRecDepth 100000 in
theorem lk_M_288 : sv_LK 0 "WordChainModel" 288 y_M_stemOneB b_M_stemOneB 3 none 0 := ⟨(sv_at 889 rfl rfl), (sv_at 892 rfl rfl), (sv_at 49 rfl rfl), by decide +kernel, ⟨(sv_at 891 rfl rfl), (sv_at 28 rfl rfl)⟩⟩
set_option maxRecDepth 100000 in
theorem lk_M_300 : sv_LK 0 "WordChainModel" 300 y_M_measure b_M_measure 4 (some (.int)) 1 := ⟨(sv_at 894 rfl rfl), (sv_at 897 rfl rfl), (sv_at 49 rfl rfl), by decide +kernel, ⟨(sv_at 896 rfl rfl), (sv_at 29 rfl rfl)⟩⟩
set_option maxRecDepth 100000 in
theorem lk_M_277 : sv_LK 0 "WordChainModel" 277 y_M_vowel b_M_vowel 5 (some (.boolean)) 1 := ⟨(sv_at 898 rfl rfl), (sv_at 901 rfl rfl), (sv_at 49 rfl rfl), by decide +kernel, ⟨(sv_at 900 rfl rfl), (sv_at 30 rfl rfl)⟩⟩
set_option maxRecDepth 100000 in
theorem lk_M_293 : sv_LK 0 "WordChainModel" 293 y_M_anyVowel b_M_anyVowel 3 (some (.boolean)) 1 := ⟨(sv_at 904 rfl rfl), (sv_at 907 rfl rfl), (sv_at 49 rfl rfl), by decide +kernel, ⟨(sv_at 906 rfl rfl), (sv_at 31 rfl rfl)⟩⟩
set_option maxRecDepth 100000 in
theorem lk_M_303 : sv_LK 0 "WordChainModel" 303 y_M_instead b_M_instead 4 none 2 := ⟨(sv_at 910 rfl rfl), (sv_at 913 rfl rfl), (sv_at 49 rfl rfl), by decide +kernel, ⟨(sv_at 912 rfl rfl), (sv_at 32 rfl rfl)⟩⟩
set_option maxRecDepth 100000 in
theorem lk_M_311 : sv_LK 0 "WordChainModel" 311 y_M_cvc b_M_cvc 2 (some (.boolean)) 1 := ⟨(sv_at 914 rfl rfl), (sv_at 917 rfl rfl), (sv_at 49 rfl rfl), by decide +kernel, ⟨(sv_at 916 rfl rfl), (sv_at 33 rfl rfl)⟩⟩
set_option maxRecDepth 100000 in
theorem lk_M_296 : sv_LK 0 "WordChainModel" 296 y_M_longest b_M_longest 4 (some (.int)) 1 := ⟨(sv_at 919 rfl rfl), (sv_at 922 rfl rfl), (sv_at 49 rfl rfl), by decide +kernel, ⟨(sv_at 921 rfl rfl), (sv_at 34 rfl rfl)⟩⟩
set_option maxRecDepth 100000 in
theorem lk_M_307 : sv_LK 0 "WordChainModel" 307 y_Str_equals b_Str_equals 3 (some (.boolean)) 1 := ⟨(sv_at 923 rfl rfl), (sv_at 449 rfl rfl), (sv_at 41 rfl rfl), by decide +kernel, ⟨(sv_at 447 rfl rfl), (sv_at 448 rfl rfl)⟩⟩
set_option maxRecDepth 100000 in
theorem lk_L_61 : sv_LK 0 "WordChainLaw" 61 y_M_token_II b_M_token_II 3 (some (.int)) 2 := ⟨(sv_at 925 rfl rfl), (sv_at 928 rfl rfl), (sv_at 49 rfl rfl), by decide +kernel, ⟨(sv_at 926 rfl rfl), (sv_at 927 rfl rfl)⟩⟩
set_option maxRecDepth 100000 in
theorem lk_M_336 : sv_LK 0 "WordChainModel" 336 y_M_there b_M_there 2 (some (.boolean)) 1 := ⟨(sv_at 929 rfl rfl), (sv_at 932 rfl rfl), (sv_at 49 rfl rfl), by decide +kernel, ⟨(sv_at 931 rfl rfl), (sv_at 35 rfl rfl)⟩⟩
set_option maxRecDepth 100000 in
theorem lk_L_64 : sv_LK 0 "WordChainLaw" 64 y_M_character b_M_character 3 (some (.int)) 2 := ⟨(sv_at 933 rfl rfl), (sv_at 936 rfl rfl), (sv_at 49 rfl rfl), by decide +kernel, ⟨(sv_at 934 rfl rfl), (sv_at 935 rfl rfl)⟩⟩
set_option maxRecDepth 100000 in
theorem lk_L_67 : sv_LK 0 "WordChainLaw" 67 y_M_first b_M_first 3 (some (.int)) 1 := ⟨(sv_at 937 rfl rfl), (sv_at 940 rfl rfl), (sv_at 49 rfl rfl), by decide +kernel, ⟨(sv_at 938 rfl rfl), (sv_at 939 rfl rfl)⟩⟩
set_option maxRecDepth 100000 in
theorem lk_M_338 : sv_LK 0 "WordChainModel" 338 y_M_same b_M_same 5 (some (.boolean)) 2 := ⟨(sv_at 941 rfl rfl), (sv_at 944 rfl rfl), (sv_at 49 rfl rfl), by decide +kernel, ⟨(sv_at 943 rfl rfl), (sv_at 36 rfl rfl)⟩⟩
set_option maxRecDepth 100000 in
theorem lk_L_70 : sv_LK 0 "WordChainLaw" 70 y_M_sort b_M_sort 2 (some (.int)) 1 := ⟨(sv_at 945 rfl rfl), (sv_at 948 rfl rfl), (sv_at 49 rfl rfl), by decide +kernel, ⟨(sv_at 946 rfl rfl), (sv_at 947 rfl rfl)⟩⟩
set_option maxRecDepth 100000 in
theorem lk_L_74 : sv_LK 0 "WordChainLaw" 74 y_M_count b_M_count 2 (some (.int)) 1 := ⟨(sv_at 950 rfl rfl), (sv_at 953 rfl rfl), (sv_at 49 rfl rfl), by decide +kernel, ⟨(sv_at 951 rfl rfl), (sv_at 952 rfl rfl)⟩⟩
set_option maxRecDepth 100000 in
theorem wo_2 : Cond.instanceMethod Lib.objectInit ∈ sv_tbl := (sv_at 66 rfl rfl)
set_option maxRecDepth 100000 in
theorem wo_3 : Cond.code Lib.objectInit ⟨#[0xb1]⟩ 1 none ∈ sv_tbl := (sv_at 67 rfl rfl)
set_option maxRecDepth 100000 in
theorem wo_X : Cond.methodLink "WordChain" 1 Lib.objectInit ∈ sv_tbl := (sv_at 65 rfl rfl)
set_option maxRecDepth 100000 in
theorem wo_Te : Cond.methodLink "WordChain$Text" 1 Lib.objectInit ∈ sv_tbl := (sv_at 73 rfl rfl)
set_option maxRecDepth 100000 in
theorem wo_Si : Cond.methodLink "WordChain$SilentWords" 1 Lib.objectInit ∈ sv_tbl := (sv_at 90 rfl rfl)
set_option maxRecDepth 100000 in
theorem wo_Sm : Cond.methodLink "WordChain$Stemmer" 1 Lib.objectInit ∈ sv_tbl := (sv_at 152 rfl rfl)
set_option maxRecDepth 100000 in
theorem wo_En : Cond.methodLink "WordChain$Ending" 1 Lib.objectInit ∈ sv_tbl := (sv_at 161 rfl rfl)
set_option maxRecDepth 100000 in
theorem wo_Wo : Cond.methodLink "WordChain$Word" 1 Lib.objectInit ∈ sv_tbl := (sv_at 233 rfl rfl)
set_option maxRecDepth 100000 in
theorem wo_To : Cond.methodLink "WordChain$Tokens" 1 Lib.objectInit ∈ sv_tbl := (sv_at 276 rfl rfl)
set_option maxRecDepth 100000 in
theorem wm_max_Te : Cond.methodLink "WordChain$Text" 27 Lib.Math.max.name ∈ sv_tbl := (sv_at 337 rfl rfl)
set_option maxRecDepth 100000 in
theorem wm_min_X : Cond.methodLink "WordChain" 138 Lib.Math.min.name ∈ sv_tbl := (sv_at 377 rfl rfl)
set_option maxRecDepth 100000 in
theorem wa_Wo : Cond.methodLink "WordChain$Word" 17 arraycopyName ∈ sv_tbl := (sv_at 384 rfl rfl)
set_option maxRecDepth 100000 in
theorem wa_To : Cond.methodLink "WordChain$Tokens" 29 arraycopyName ∈ sv_tbl := (sv_at 506 rfl rfl)
set_option maxRecDepth 100000 in
theorem wm_max_X : Cond.methodLink "WordChain" 87 Lib.Math.max.name ∈ sv_tbl := (sv_at 507 rfl rfl)
set_option maxRecDepth 100000 in
theorem wo_M : Cond.methodLink "WordChainModel" 1 Lib.objectInit ∈ sv_tbl := (sv_at 687 rfl rfl)
set_option maxRecDepth 100000 in
theorem wm_min_M : Cond.methodLink "WordChainModel" 244 Lib.Math.min.name ∈ sv_tbl := (sv_at 863 rfl rfl)
set_option maxRecDepth 100000 in
theorem wm_max_2 : Cond.static Lib.Math.max.name ∈ sv_tbl := (sv_at 338 rfl rfl)
set_option maxRecDepth 100000 in
theorem wm_max_4 : Cond.code Lib.Math.max.name Lib.Math.max.code 2 (some .int) ∈ sv_tbl := (sv_at 339 rfl rfl)
set_option maxRecDepth 100000 in
theorem wm_min_2 : Cond.static Lib.Math.min.name ∈ sv_tbl := (sv_at 378 rfl rfl)
set_option maxRecDepth 100000 in
theorem wm_min_4 : Cond.code Lib.Math.min.name Lib.Math.min.code 2 (some .int) ∈ sv_tbl := (sv_at 379 rfl rfl)
set_option maxRecDepth 100000 in
theorem wm_3 : Cond.initialized "java/lang/Math" ∈ sv_tbl := (sv_at 56 rfl rfl)
set_option maxRecDepth 100000 in
theorem wa_2 : Cond.native arraycopyName ∈ sv_tbl := (sv_at 386 rfl rfl)
set_option maxRecDepth 100000 in
theorem wa_3 : Cond.static arraycopyName ∈ sv_tbl := (sv_at 385 rfl rfl)
set_option maxRecDepth 100000 in
theorem wa_4 : Cond.initialized "java/lang/System" ∈ sv_tbl := (sv_at 58 rfl rfl)
set_option maxRecDepth 100000 in
theorem wc_Te_23 : Cond.constant "WordChain$Text" 23 65533 ∈ sv_tbl := (sv_at 333 rfl rfl)
set_option maxRecDepth 100000 in
theorem wc_So_13 : Cond.constant "WordChain$Sorts" 13 40959 ∈ sv_tbl := (sv_at 358 rfl rfl)
set_option maxRecDepth 100000 in
theorem wc_X_125 : Cond.constant "WordChain" 125 1114111 ∈ sv_tbl := (sv_at 679 rfl rfl)
set_option maxRecDepth 100000 in
theorem wc_M_225 : Cond.constant "WordChainModel" 225 65533 ∈ sv_tbl := (sv_at 848 rfl rfl)
set_option maxRecDepth 100000 in
theorem wc_M_226 : Cond.constant "WordChainModel" 226 40959 ∈ sv_tbl := (sv_at 856 rfl rfl)
set_option maxRecDepth 100000 in
theorem wc_M_342 : Cond.constant "WordChainModel" 342 1114111 ∈ sv_tbl := (sv_at 949 rfl rfl)
set_option maxRecDepth 100000 in
theorem ws_0 : ("WordChain$SilentWords", 13, "a an and are as at be but by for if in into is it no not of on or such that the their then there these they this to was will with ", 0) ∈ sv_lits := List.mem_of_getElem? (i := 0) (by decide +kernel)
set_option maxRecDepth 100000 in
theorem ws_1 : ("WordChain$Stemmer", 9, "sses", 1) ∈ sv_lits := List.mem_of_getElem? (i := 1) (by decide +kernel)
set_option maxRecDepth 100000 in
theorem ws_2 : ("WordChain$Stemmer", 11, "ss", 2) ∈ sv_lits := List.mem_of_getElem? (i := 2) (by decide +kernel)
set_option maxRecDepth 100000 in
theorem ws_3 : ("WordChain$Stemmer", 16, "ies", 3) ∈ sv_lits := List.mem_of_getElem? (i := 3) (by decide +kernel)
set_option maxRecDepth 100000 in
theorem ws_4 : ("WordChain$Stemmer", 18, "i", 4) ∈ sv_lits := List.mem_of_getElem? (i := 4) (by decide +kernel)
set_option maxRecDepth 100000 in
theorem ws_5 : ("WordChain$Stemmer", 20, "s", 5) ∈ sv_lits := List.mem_of_getElem? (i := 5) (by decide +kernel)
set_option maxRecDepth 100000 in
theorem ws_6 : ("WordChain$Stemmer", 22, "", 6) ∈ sv_lits := List.mem_of_getElem? (i := 6) (by decide +kernel)
set_option maxRecDepth 100000 in
theorem ws_7 : ("WordChain$Stemmer", 30, "eed", 7) ∈ sv_lits := List.mem_of_getElem? (i := 7) (by decide +kernel)
set_option maxRecDepth 100000 in
theorem ws_8 : ("WordChain$Stemmer", 32, "ee", 8) ∈ sv_lits := List.mem_of_getElem? (i := 8) (by decide +kernel)
set_option maxRecDepth 100000 in
theorem ws_9 : ("WordChain$Stemmer", 34, "ed", 9) ∈ sv_lits := List.mem_of_getElem? (i := 9) (by decide +kernel)
set_option maxRecDepth 100000 in
theorem ws_10 : ("WordChain$Stemmer", 36, "ing", 10) ∈ sv_lits := List.mem_of_getElem? (i := 10) (by decide +kernel)
set_option maxRecDepth 100000 in
theorem ws_11 : ("WordChain$Stemmer", 41, "ational", 11) ∈ sv_lits := List.mem_of_getElem? (i := 11) (by decide +kernel)
set_option maxRecDepth 100000 in
theorem ws_12 : ("WordChain$Stemmer", 43, "ate", 12) ∈ sv_lits := List.mem_of_getElem? (i := 12) (by decide +kernel)
set_option maxRecDepth 100000 in
theorem ws_13 : ("WordChain$Stemmer", 45, "tional", 13) ∈ sv_lits := List.mem_of_getElem? (i := 13) (by decide +kernel)
set_option maxRecDepth 100000 in
theorem ws_14 : ("WordChain$Stemmer", 47, "tion", 14) ∈ sv_lits := List.mem_of_getElem? (i := 14) (by decide +kernel)
set_option maxRecDepth 100000 in
theorem ws_15 : ("WordChain$Stemmer", 49, "enci", 15) ∈ sv_lits := List.mem_of_getElem? (i := 15) (by decide +kernel)
set_option maxRecDepth 100000 in
theorem ws_16 : ("WordChain$Stemmer", 51, "ence", 16) ∈ sv_lits := List.mem_of_getElem? (i := 16) (by decide +kernel)
set_option maxRecDepth 100000 in
theorem ws_17 : ("WordChain$Stemmer", 53, "anci", 17) ∈ sv_lits := List.mem_of_getElem? (i := 17) (by decide +kernel)
set_option maxRecDepth 100000 in
theorem ws_18 : ("WordChain$Stemmer", 55, "ance", 18) ∈ sv_lits := List.mem_of_getElem? (i := 18) (by decide +kernel)
set_option maxRecDepth 100000 in
theorem ws_19 : ("WordChain$Stemmer", 57, "izer", 19) ∈ sv_lits := List.mem_of_getElem? (i := 19) (by decide +kernel)
set_option maxRecDepth 100000 in
theorem ws_20 : ("WordChain$Stemmer", 59, "ize", 20) ∈ sv_lits := List.mem_of_getElem? (i := 20) (by decide +kernel)
set_option maxRecDepth 100000 in
theorem ws_21 : ("WordChain$Stemmer", 61, "abli", 21) ∈ sv_lits := List.mem_of_getElem? (i := 21) (by decide +kernel)
set_option maxRecDepth 100000 in
theorem ws_22 : ("WordChain$Stemmer", 63, "able", 22) ∈ sv_lits := List.mem_of_getElem? (i := 22) (by decide +kernel)
set_option maxRecDepth 100000 in
theorem ws_23 : ("WordChain$Stemmer", 65, "alli", 23) ∈ sv_lits := List.mem_of_getElem? (i := 23) (by decide +kernel)
set_option maxRecDepth 100000 in
theorem ws_24 : ("WordChain$Stemmer", 67, "al", 24) ∈ sv_lits := List.mem_of_getElem? (i := 24) (by decide +kernel)
set_option maxRecDepth 100000 in
theorem ws_25 : ("WordChain$Stemmer", 69, "entli", 25) ∈ sv_lits := List.mem_of_getElem? (i := 25) (by decide +kernel)
set_option maxRecDepth 100000 in
theorem ws_26 : ("WordChain$Stemmer", 71, "ent", 26) ∈ sv_lits := List.mem_of_getElem? (i := 26) (by decide +kernel)
set_option maxRecDepth 100000 in
theorem ws_27 : ("WordChain$Stemmer", 73, "eli", 27) ∈ sv_lits := List.mem_of_getElem? (i := 27) (by decide +kernel)
set_option maxRecDepth 100000 in
theorem ws_28 : ("WordChain$Stemmer", 75, "e", 28) ∈ sv_lits := List.mem_of_getElem? (i := 28) (by decide +kernel)
set_option maxRecDepth 100000 in
theorem ws_29 : ("WordChain$Stemmer", 77, "ousli", 29) ∈ sv_lits := List.mem_of_getElem? (i := 29) (by decide +kernel)
set_option maxRecDepth 100000 in
theorem ws_30 : ("WordChain$Stemmer", 79, "ous", 30) ∈ sv_lits := List.mem_of_getElem? (i := 30) (by decide +kernel)
set_option maxRecDepth 100000 in
theorem ws_31 : ("WordChain$Stemmer", 81, "ization", 31) ∈ sv_lits := List.mem_of_getElem? (i := 31) (by decide +kernel)
set_option maxRecDepth 100000 in
theorem ws_32 : ("WordChain$Stemmer", 83, "ation", 32) ∈ sv_lits := List.mem_of_getElem? (i := 32) (by decide +kernel)
set_option maxRecDepth 100000 in
theorem ws_33 : ("WordChain$Stemmer", 85, "ator", 33) ∈ sv_lits := List.mem_of_getElem? (i := 33) (by decide +kernel)
set_option maxRecDepth 100000 in
theorem ws_34 : ("WordChain$Stemmer", 87, "alism", 34) ∈ sv_lits := List.mem_of_getElem? (i := 34) (by decide +kernel)
set_option maxRecDepth 100000 in
theorem ws_35 : ("WordChain$Stemmer", 89, "iveness", 35) ∈ sv_lits := List.mem_of_getElem? (i := 35) (by decide +kernel)
set_option maxRecDepth 100000 in
theorem ws_36 : ("WordChain$Stemmer", 91, "ive", 36) ∈ sv_lits := List.mem_of_getElem? (i := 36) (by decide +kernel)
set_option maxRecDepth 100000 in
theorem ws_37 : ("WordChain$Stemmer", 93, "fulness", 37) ∈ sv_lits := List.mem_of_getElem? (i := 37) (by decide +kernel)
set_option maxRecDepth 100000 in
theorem ws_38 : ("WordChain$Stemmer", 95, "ful", 38) ∈ sv_lits := List.mem_of_getElem? (i := 38) (by decide +kernel)
set_option maxRecDepth 100000 in
theorem ws_39 : ("WordChain$Stemmer", 97, "ousness", 39) ∈ sv_lits := List.mem_of_getElem? (i := 39) (by decide +kernel)
set_option maxRecDepth 100000 in
theorem ws_40 : ("WordChain$Stemmer", 99, "aliti", 40) ∈ sv_lits := List.mem_of_getElem? (i := 40) (by decide +kernel)
set_option maxRecDepth 100000 in
theorem ws_41 : ("WordChain$Stemmer", 101, "iviti", 41) ∈ sv_lits := List.mem_of_getElem? (i := 41) (by decide +kernel)
set_option maxRecDepth 100000 in
theorem ws_42 : ("WordChain$Stemmer", 103, "biliti", 42) ∈ sv_lits := List.mem_of_getElem? (i := 42) (by decide +kernel)
set_option maxRecDepth 100000 in
theorem ws_43 : ("WordChain$Stemmer", 105, "ble", 43) ∈ sv_lits := List.mem_of_getElem? (i := 43) (by decide +kernel)
set_option maxRecDepth 100000 in
theorem ws_44 : ("WordChain$Stemmer", 110, "icate", 44) ∈ sv_lits := List.mem_of_getElem? (i := 44) (by decide +kernel)
set_option maxRecDepth 100000 in
theorem ws_45 : ("WordChain$Stemmer", 112, "ic", 45) ∈ sv_lits := List.mem_of_getElem? (i := 45) (by decide +kernel)
set_option maxRecDepth 100000 in
theorem ws_46 : ("WordChain$Stemmer", 114, "ative", 46) ∈ sv_lits := List.mem_of_getElem? (i := 46) (by decide +kernel)
set_option maxRecDepth 100000 in
theorem ws_47 : ("WordChain$Stemmer", 116, "alize", 47) ∈ sv_lits := List.mem_of_getElem? (i := 47) (by decide +kernel)
set_option maxRecDepth 100000 in
theorem ws_48 : ("WordChain$Stemmer", 118, "iciti", 48) ∈ sv_lits := List.mem_of_getElem? (i := 48) (by decide +kernel)
set_option maxRecDepth 100000 in
theorem ws_49 : ("WordChain$Stemmer", 120, "ical", 49) ∈ sv_lits := List.mem_of_getElem? (i := 49) (by decide +kernel)
set_option maxRecDepth 100000 in
theorem ws_50 : ("WordChain$Stemmer", 122, "ness", 50) ∈ sv_lits := List.mem_of_getElem? (i := 50) (by decide +kernel)
set_option maxRecDepth 100000 in
theorem ws_51 : ("WordChain$Stemmer", 127, "er", 51) ∈ sv_lits := List.mem_of_getElem? (i := 51) (by decide +kernel)
set_option maxRecDepth 100000 in
theorem ws_52 : ("WordChain$Stemmer", 129, "ible", 52) ∈ sv_lits := List.mem_of_getElem? (i := 52) (by decide +kernel)
set_option maxRecDepth 100000 in
theorem ws_53 : ("WordChain$Stemmer", 131, "ant", 53) ∈ sv_lits := List.mem_of_getElem? (i := 53) (by decide +kernel)
set_option maxRecDepth 100000 in
theorem ws_54 : ("WordChain$Stemmer", 133, "ement", 54) ∈ sv_lits := List.mem_of_getElem? (i := 54) (by decide +kernel)
set_option maxRecDepth 100000 in
theorem ws_55 : ("WordChain$Stemmer", 135, "ment", 55) ∈ sv_lits := List.mem_of_getElem? (i := 55) (by decide +kernel)
set_option maxRecDepth 100000 in
theorem ws_56 : ("WordChain$Stemmer", 137, "ion", 56) ∈ sv_lits := List.mem_of_getElem? (i := 56) (by decide +kernel)
set_option maxRecDepth 100000 in
theorem ws_57 : ("WordChain$Stemmer", 139, "ou", 57) ∈ sv_lits := List.mem_of_getElem? (i := 57) (by decide +kernel)
set_option maxRecDepth 100000 in
theorem ws_58 : ("WordChain$Stemmer", 141, "ism", 58) ∈ sv_lits := List.mem_of_getElem? (i := 58) (by decide +kernel)
set_option maxRecDepth 100000 in
theorem ws_59 : ("WordChain$Stemmer", 143, "iti", 59) ∈ sv_lits := List.mem_of_getElem? (i := 59) (by decide +kernel)
set_option maxRecDepth 100000 in
theorem ws_60 : ("WordChain$Stemmer", 230, "at", 60) ∈ sv_lits := List.mem_of_getElem? (i := 60) (by decide +kernel)
set_option maxRecDepth 100000 in
theorem ws_61 : ("WordChain$Stemmer", 236, "bl", 61) ∈ sv_lits := List.mem_of_getElem? (i := 61) (by decide +kernel)
set_option maxRecDepth 100000 in
theorem ws_62 : ("WordChain$Stemmer", 238, "iz", 62) ∈ sv_lits := List.mem_of_getElem? (i := 62) (by decide +kernel)
set_option maxRecDepth 100000 in
theorem ws_63 : ("WordChain$Stemmer", 243, "l", 63) ∈ sv_lits := List.mem_of_getElem? (i := 63) (by decide +kernel)
set_option maxRecDepth 100000 in
theorem ws_64 : ("WordChain$Stemmer", 245, "z", 64) ∈ sv_lits := List.mem_of_getElem? (i := 64) (by decide +kernel)
set_option maxRecDepth 100000 in
theorem ws_65 : ("WordChain$Stemmer", 250, "y", 65) ∈ sv_lits := List.mem_of_getElem? (i := 65) (by decide +kernel)
set_option maxRecDepth 100000 in
theorem ws_66 : ("WordChain$Stemmer", 252, "sion", 66) ∈ sv_lits := List.mem_of_getElem? (i := 66) (by decide +kernel)
set_option maxRecDepth 100000 in
theorem ws_67 : ("WordChain$Stemmer", 254, "ll", 67) ∈ sv_lits := List.mem_of_getElem? (i := 67) (by decide +kernel)
set_option maxRecDepth 100000 in
theorem ws_68 : ("WordChain", 52, "INPUT is full", 68) ∈ sv_lits := List.mem_of_getElem? (i := 68) (by decide +kernel)
set_option maxRecDepth 100000 in
theorem ws_69 : ("WordChain", 62, "as many bytes can't go", 69) ∈ sv_lits := List.mem_of_getElem? (i := 69) (by decide +kernel)
set_option maxRecDepth 100000 in
theorem ws_70 : ("WordChain", 96, "what is 0 or 1", 70) ∈ sv_lits := List.mem_of_getElem? (i := 70) (by decide +kernel)
set_option maxRecDepth 100000 in
theorem ws_71 : ("WordChain", 104, "no such TOKEN", 71) ∈ sv_lits := List.mem_of_getElem? (i := 71) (by decide +kernel)
set_option maxRecDepth 100000 in
theorem ws_72 : ("WordChain", 114, "no such CHARACTER", 72) ∈ sv_lits := List.mem_of_getElem? (i := 72) (by decide +kernel)
set_option maxRecDepth 100000 in
theorem ws_73 : ("WordChain", 126, "no CHARACTER", 73) ∈ sv_lits := List.mem_of_getElem? (i := 73) (by decide +kernel)
set_option maxRecDepth 100000 in
theorem ws_74 : ("WordChainModel", 9, "a", 74) ∈ sv_lits := List.mem_of_getElem? (i := 74) (by decide +kernel)
set_option maxRecDepth 100000 in
theorem ws_75 : ("WordChainModel", 11, "an", 75) ∈ sv_lits := List.mem_of_getElem? (i := 75) (by decide +kernel)
set_option maxRecDepth 100000 in
theorem ws_76 : ("WordChainModel", 13, "and", 76) ∈ sv_lits := List.mem_of_getElem? (i := 76) (by decide +kernel)
set_option maxRecDepth 100000 in
theorem ws_77 : ("WordChainModel", 15, "are", 77) ∈ sv_lits := List.mem_of_getElem? (i := 77) (by decide +kernel)
set_option maxRecDepth 100000 in
theorem ws_78 : ("WordChainModel", 17, "as", 78) ∈ sv_lits := List.mem_of_getElem? (i := 78) (by decide +kernel)
set_option maxRecDepth 100000 in
theorem ws_79 : ("WordChainModel", 19, "at", 79) ∈ sv_lits := List.mem_of_getElem? (i := 79) (by decide +kernel)
set_option maxRecDepth 100000 in
theorem ws_80 : ("WordChainModel", 21, "be", 80) ∈ sv_lits := List.mem_of_getElem? (i := 80) (by decide +kernel)
set_option maxRecDepth 100000 in
theorem ws_81 : ("WordChainModel", 23, "but", 81) ∈ sv_lits := List.mem_of_getElem? (i := 81) (by decide +kernel)
set_option maxRecDepth 100000 in
theorem ws_82 : ("WordChainModel", 25, "by", 82) ∈ sv_lits := List.mem_of_getElem? (i := 82) (by decide +kernel)
set_option maxRecDepth 100000 in
theorem ws_83 : ("WordChainModel", 27, "for", 83) ∈ sv_lits := List.mem_of_getElem? (i := 83) (by decide +kernel)
set_option maxRecDepth 100000 in
theorem ws_84 : ("WordChainModel", 29, "if", 84) ∈ sv_lits := List.mem_of_getElem? (i := 84) (by decide +kernel)
set_option maxRecDepth 100000 in
theorem ws_85 : ("WordChainModel", 31, "in", 85) ∈ sv_lits := List.mem_of_getElem? (i := 85) (by decide +kernel)
set_option maxRecDepth 100000 in
theorem ws_86 : ("WordChainModel", 33, "into", 86) ∈ sv_lits := List.mem_of_getElem? (i := 86) (by decide +kernel)
set_option maxRecDepth 100000 in
theorem ws_87 : ("WordChainModel", 35, "is", 87) ∈ sv_lits := List.mem_of_getElem? (i := 87) (by decide +kernel)
set_option maxRecDepth 100000 in
theorem ws_88 : ("WordChainModel", 37, "it", 88) ∈ sv_lits := List.mem_of_getElem? (i := 88) (by decide +kernel)
set_option maxRecDepth 100000 in
theorem ws_89 : ("WordChainModel", 39, "no", 89) ∈ sv_lits := List.mem_of_getElem? (i := 89) (by decide +kernel)
set_option maxRecDepth 100000 in
theorem ws_90 : ("WordChainModel", 41, "not", 90) ∈ sv_lits := List.mem_of_getElem? (i := 90) (by decide +kernel)
set_option maxRecDepth 100000 in
theorem ws_91 : ("WordChainModel", 43, "of", 91) ∈ sv_lits := List.mem_of_getElem? (i := 91) (by decide +kernel)
set_option maxRecDepth 100000 in
theorem ws_92 : ("WordChainModel", 45, "on", 92) ∈ sv_lits := List.mem_of_getElem? (i := 92) (by decide +kernel)
set_option maxRecDepth 100000 in
theorem ws_93 : ("WordChainModel", 47, "or", 93) ∈ sv_lits := List.mem_of_getElem? (i := 93) (by decide +kernel)
set_option maxRecDepth 100000 in
theorem ws_94 : ("WordChainModel", 49, "such", 94) ∈ sv_lits := List.mem_of_getElem? (i := 94) (by decide +kernel)
set_option maxRecDepth 100000 in
theorem ws_95 : ("WordChainModel", 51, "that", 95) ∈ sv_lits := List.mem_of_getElem? (i := 95) (by decide +kernel)
set_option maxRecDepth 100000 in
theorem ws_96 : ("WordChainModel", 53, "the", 96) ∈ sv_lits := List.mem_of_getElem? (i := 96) (by decide +kernel)
set_option maxRecDepth 100000 in
theorem ws_97 : ("WordChainModel", 55, "their", 97) ∈ sv_lits := List.mem_of_getElem? (i := 97) (by decide +kernel)
set_option maxRecDepth 100000 in
theorem ws_98 : ("WordChainModel", 57, "then", 98) ∈ sv_lits := List.mem_of_getElem? (i := 98) (by decide +kernel)
set_option maxRecDepth 100000 in
theorem ws_99 : ("WordChainModel", 59, "there", 99) ∈ sv_lits := List.mem_of_getElem? (i := 99) (by decide +kernel)
set_option maxRecDepth 100000 in
theorem ws_100 : ("WordChainModel", 61, "these", 100) ∈ sv_lits := List.mem_of_getElem? (i := 100) (by decide +kernel)
set_option maxRecDepth 100000 in
theorem ws_101 : ("WordChainModel", 63, "they", 101) ∈ sv_lits := List.mem_of_getElem? (i := 101) (by decide +kernel)
set_option maxRecDepth 100000 in
theorem ws_102 : ("WordChainModel", 65, "this", 102) ∈ sv_lits := List.mem_of_getElem? (i := 102) (by decide +kernel)
set_option maxRecDepth 100000 in
theorem ws_103 : ("WordChainModel", 67, "to", 103) ∈ sv_lits := List.mem_of_getElem? (i := 103) (by decide +kernel)
set_option maxRecDepth 100000 in
theorem ws_104 : ("WordChainModel", 69, "was", 104) ∈ sv_lits := List.mem_of_getElem? (i := 104) (by decide +kernel)
set_option maxRecDepth 100000 in
theorem ws_105 : ("WordChainModel", 71, "will", 105) ∈ sv_lits := List.mem_of_getElem? (i := 105) (by decide +kernel)
set_option maxRecDepth 100000 in
theorem ws_106 : ("WordChainModel", 73, "with", 106) ∈ sv_lits := List.mem_of_getElem? (i := 106) (by decide +kernel)
set_option maxRecDepth 100000 in
theorem ws_107 : ("WordChainModel", 81, "ational", 107) ∈ sv_lits := List.mem_of_getElem? (i := 107) (by decide +kernel)
set_option maxRecDepth 100000 in
theorem ws_108 : ("WordChainModel", 83, "ate", 108) ∈ sv_lits := List.mem_of_getElem? (i := 108) (by decide +kernel)
set_option maxRecDepth 100000 in
theorem ws_109 : ("WordChainModel", 85, "tional", 109) ∈ sv_lits := List.mem_of_getElem? (i := 109) (by decide +kernel)
set_option maxRecDepth 100000 in
theorem ws_110 : ("WordChainModel", 87, "tion", 110) ∈ sv_lits := List.mem_of_getElem? (i := 110) (by decide +kernel)
set_option maxRecDepth 100000 in
theorem ws_111 : ("WordChainModel", 89, "enci", 111) ∈ sv_lits := List.mem_of_getElem? (i := 111) (by decide +kernel)
set_option maxRecDepth 100000 in
theorem ws_112 : ("WordChainModel", 91, "ence", 112) ∈ sv_lits := List.mem_of_getElem? (i := 112) (by decide +kernel)
set_option maxRecDepth 100000 in
theorem ws_113 : ("WordChainModel", 93, "anci", 113) ∈ sv_lits := List.mem_of_getElem? (i := 113) (by decide +kernel)
set_option maxRecDepth 100000 in
theorem ws_114 : ("WordChainModel", 95, "ance", 114) ∈ sv_lits := List.mem_of_getElem? (i := 114) (by decide +kernel)
set_option maxRecDepth 100000 in
theorem ws_115 : ("WordChainModel", 97, "izer", 115) ∈ sv_lits := List.mem_of_getElem? (i := 115) (by decide +kernel)
set_option maxRecDepth 100000 in
theorem ws_116 : ("WordChainModel", 99, "ize", 116) ∈ sv_lits := List.mem_of_getElem? (i := 116) (by decide +kernel)
set_option maxRecDepth 100000 in
theorem ws_117 : ("WordChainModel", 101, "abli", 117) ∈ sv_lits := List.mem_of_getElem? (i := 117) (by decide +kernel)
set_option maxRecDepth 100000 in
theorem ws_118 : ("WordChainModel", 103, "able", 118) ∈ sv_lits := List.mem_of_getElem? (i := 118) (by decide +kernel)
set_option maxRecDepth 100000 in
theorem ws_119 : ("WordChainModel", 105, "alli", 119) ∈ sv_lits := List.mem_of_getElem? (i := 119) (by decide +kernel)
set_option maxRecDepth 100000 in
theorem ws_120 : ("WordChainModel", 107, "al", 120) ∈ sv_lits := List.mem_of_getElem? (i := 120) (by decide +kernel)
set_option maxRecDepth 100000 in
theorem ws_121 : ("WordChainModel", 109, "entli", 121) ∈ sv_lits := List.mem_of_getElem? (i := 121) (by decide +kernel)
set_option maxRecDepth 100000 in
theorem ws_122 : ("WordChainModel", 111, "ent", 122) ∈ sv_lits := List.mem_of_getElem? (i := 122) (by decide +kernel)
set_option maxRecDepth 100000 in
theorem ws_123 : ("WordChainModel", 113, "eli", 123) ∈ sv_lits := List.mem_of_getElem? (i := 123) (by decide +kernel)
set_option maxRecDepth 100000 in
theorem ws_124 : ("WordChainModel", 115, "e", 124) ∈ sv_lits := List.mem_of_getElem? (i := 124) (by decide +kernel)
set_option maxRecDepth 100000 in
theorem ws_125 : ("WordChainModel", 117, "ousli", 125) ∈ sv_lits := List.mem_of_getElem? (i := 125) (by decide +kernel)
set_option maxRecDepth 100000 in
theorem ws_126 : ("WordChainModel", 119, "ous", 126) ∈ sv_lits := List.mem_of_getElem? (i := 126) (by decide +kernel)
set_option maxRecDepth 100000 in
theorem ws_127 : ("WordChainModel", 121, "ization", 127) ∈ sv_lits := List.mem_of_getElem? (i := 127) (by decide +kernel)
set_option maxRecDepth 100000 in
theorem ws_128 : ("WordChainModel", 123, "ation", 128) ∈ sv_lits := List.mem_of_getElem? (i := 128) (by decide +kernel)
set_option maxRecDepth 100000 in
theorem ws_129 : ("WordChainModel", 125, "ator", 129) ∈ sv_lits := List.mem_of_getElem? (i := 129) (by decide +kernel)
set_option maxRecDepth 100000 in
theorem ws_130 : ("WordChainModel", 127, "alism", 130) ∈ sv_lits := List.mem_of_getElem? (i := 130) (by decide +kernel)
set_option maxRecDepth 100000 in
theorem ws_131 : ("WordChainModel", 129, "iveness", 131) ∈ sv_lits := List.mem_of_getElem? (i := 131) (by decide +kernel)
set_option maxRecDepth 100000 in
theorem ws_132 : ("WordChainModel", 131, "ive", 132) ∈ sv_lits := List.mem_of_getElem? (i := 132) (by decide +kernel)
set_option maxRecDepth 100000 in
theorem ws_133 : ("WordChainModel", 133, "fulness", 133) ∈ sv_lits := List.mem_of_getElem? (i := 133) (by decide +kernel)
set_option maxRecDepth 100000 in
theorem ws_134 : ("WordChainModel", 135, "ful", 134) ∈ sv_lits := List.mem_of_getElem? (i := 134) (by decide +kernel)
set_option maxRecDepth 100000 in
theorem ws_135 : ("WordChainModel", 137, "ousness", 135) ∈ sv_lits := List.mem_of_getElem? (i := 135) (by decide +kernel)
set_option maxRecDepth 100000 in
theorem ws_136 : ("WordChainModel", 139, "aliti", 136) ∈ sv_lits := List.mem_of_getElem? (i := 136) (by decide +kernel)
set_option maxRecDepth 100000 in
theorem ws_137 : ("WordChainModel", 141, "iviti", 137) ∈ sv_lits := List.mem_of_getElem? (i := 137) (by decide +kernel)
set_option maxRecDepth 100000 in
theorem ws_138 : ("WordChainModel", 143, "biliti", 138) ∈ sv_lits := List.mem_of_getElem? (i := 138) (by decide +kernel)
set_option maxRecDepth 100000 in
theorem ws_139 : ("WordChainModel", 145, "ble", 139) ∈ sv_lits := List.mem_of_getElem? (i := 139) (by decide +kernel)
set_option maxRecDepth 100000 in
theorem ws_140 : ("WordChainModel", 150, "icate", 140) ∈ sv_lits := List.mem_of_getElem? (i := 140) (by decide +kernel)
set_option maxRecDepth 100000 in
theorem ws_141 : ("WordChainModel", 152, "ic", 141) ∈ sv_lits := List.mem_of_getElem? (i := 141) (by decide +kernel)
set_option maxRecDepth 100000 in
theorem ws_142 : ("WordChainModel", 154, "ative", 142) ∈ sv_lits := List.mem_of_getElem? (i := 142) (by decide +kernel)
set_option maxRecDepth 100000 in
theorem ws_143 : ("WordChainModel", 156, "", 143) ∈ sv_lits := List.mem_of_getElem? (i := 143) (by decide +kernel)
set_option maxRecDepth 100000 in
theorem ws_144 : ("WordChainModel", 158, "alize", 144) ∈ sv_lits := List.mem_of_getElem? (i := 144) (by decide +kernel)
set_option maxRecDepth 100000 in
theorem ws_145 : ("WordChainModel", 160, "iciti", 145) ∈ sv_lits := List.mem_of_getElem? (i := 145) (by decide +kernel)
set_option maxRecDepth 100000 in
theorem ws_146 : ("WordChainModel", 162, "ical", 146) ∈ sv_lits := List.mem_of_getElem? (i := 146) (by decide +kernel)
set_option maxRecDepth 100000 in
theorem ws_147 : ("WordChainModel", 164, "ness", 147) ∈ sv_lits := List.mem_of_getElem? (i := 147) (by decide +kernel)
set_option maxRecDepth 100000 in
theorem ws_148 : ("WordChainModel", 169, "er", 148) ∈ sv_lits := List.mem_of_getElem? (i := 148) (by decide +kernel)
set_option maxRecDepth 100000 in
theorem ws_149 : ("WordChainModel", 171, "ible", 149) ∈ sv_lits := List.mem_of_getElem? (i := 149) (by decide +kernel)
set_option maxRecDepth 100000 in
theorem ws_150 : ("WordChainModel", 173, "ant", 150) ∈ sv_lits := List.mem_of_getElem? (i := 150) (by decide +kernel)
set_option maxRecDepth 100000 in
theorem ws_151 : ("WordChainModel", 175, "ement", 151) ∈ sv_lits := List.mem_of_getElem? (i := 151) (by decide +kernel)
set_option maxRecDepth 100000 in
theorem ws_152 : ("WordChainModel", 177, "ment", 152) ∈ sv_lits := List.mem_of_getElem? (i := 152) (by decide +kernel)
set_option maxRecDepth 100000 in
theorem ws_153 : ("WordChainModel", 179, "ou", 153) ∈ sv_lits := List.mem_of_getElem? (i := 153) (by decide +kernel)
set_option maxRecDepth 100000 in
theorem ws_154 : ("WordChainModel", 181, "ism", 154) ∈ sv_lits := List.mem_of_getElem? (i := 154) (by decide +kernel)
set_option maxRecDepth 100000 in
theorem ws_155 : ("WordChainModel", 183, "iti", 155) ∈ sv_lits := List.mem_of_getElem? (i := 155) (by decide +kernel)
set_option maxRecDepth 100000 in
theorem ws_156 : ("WordChainModel", 185, "ion", 156) ∈ sv_lits := List.mem_of_getElem? (i := 156) (by decide +kernel)
set_option maxRecDepth 100000 in
theorem ws_157 : ("WordChainModel", 280, "sses", 157) ∈ sv_lits := List.mem_of_getElem? (i := 157) (by decide +kernel)
set_option maxRecDepth 100000 in
theorem ws_158 : ("WordChainModel", 282, "ies", 158) ∈ sv_lits := List.mem_of_getElem? (i := 158) (by decide +kernel)
set_option maxRecDepth 100000 in
theorem ws_159 : ("WordChainModel", 284, "s", 159) ∈ sv_lits := List.mem_of_getElem? (i := 159) (by decide +kernel)
set_option maxRecDepth 100000 in
theorem ws_160 : ("WordChainModel", 286, "ss", 160) ∈ sv_lits := List.mem_of_getElem? (i := 160) (by decide +kernel)
set_option maxRecDepth 100000 in
theorem ws_161 : ("WordChainModel", 316, "eed", 161) ∈ sv_lits := List.mem_of_getElem? (i := 161) (by decide +kernel)
set_option maxRecDepth 100000 in
theorem ws_162 : ("WordChainModel", 318, "ed", 162) ∈ sv_lits := List.mem_of_getElem? (i := 162) (by decide +kernel)
set_option maxRecDepth 100000 in
theorem ws_163 : ("WordChainModel", 320, "ing", 163) ∈ sv_lits := List.mem_of_getElem? (i := 163) (by decide +kernel)
set_option maxRecDepth 100000 in
theorem ws_164 : ("WordChainModel", 322, "bl", 164) ∈ sv_lits := List.mem_of_getElem? (i := 164) (by decide +kernel)
set_option maxRecDepth 100000 in
theorem ws_165 : ("WordChainModel", 324, "iz", 165) ∈ sv_lits := List.mem_of_getElem? (i := 165) (by decide +kernel)
set_option maxRecDepth 100000 in
theorem ws_166 : ("WordChainModel", 291, "y", 166) ∈ sv_lits := List.mem_of_getElem? (i := 166) (by decide +kernel)
set_option maxRecDepth 100000 in
theorem ws_167 : ("WordChainModel", 314, "ll", 167) ∈ sv_lits := List.mem_of_getElem? (i := 167) (by decide +kernel)
set_option maxRecDepth 100000 in
theorem wn_En : Cond.instantiable R_En 2 ∈ sv_tbl := (sv_at 155 rfl rfl)
set_option maxRecDepth 100000 in
theorem wi_En : Cond.initialized R_En ∈ sv_tbl := (sv_at 46 rfl rfl)
set_option maxRecDepth 100000 in
theorem wn_Si : Cond.instantiable R_Si 1 ∈ sv_tbl := (sv_at 86 rfl rfl)
set_option maxRecDepth 100000 in
theorem wi_Si : Cond.initialized R_Si ∈ sv_tbl := (sv_at 40 rfl rfl)
set_option maxRecDepth 100000 in
theorem wn_Sm : Cond.instantiable R_Sm 7 ∈ sv_tbl := (sv_at 148 rfl rfl)
set_option maxRecDepth 100000 in
theorem wi_Sm : Cond.initialized R_Sm ∈ sv_tbl := (sv_at 45 rfl rfl)
set_option maxRecDepth 100000 in
theorem wn_Te : Cond.instantiable R_Te 2 ∈ sv_tbl := (sv_at 69 rfl rfl)
set_option maxRecDepth 100000 in
theorem wi_Te : Cond.initialized R_Te ∈ sv_tbl := (sv_at 39 rfl rfl)
set_option maxRecDepth 100000 in
theorem wn_To : Cond.instantiable R_To 4 ∈ sv_tbl := (sv_at 272 rfl rfl)
set_option maxRecDepth 100000 in
theorem wi_To : Cond.initialized R_To ∈ sv_tbl := (sv_at 48 rfl rfl)
set_option maxRecDepth 100000 in
theorem wn_Wo : Cond.instantiable R_Wo 2 ∈ sv_tbl := (sv_at 229 rfl rfl)
set_option maxRecDepth 100000 in
theorem wi_Wo : Cond.initialized R_Wo ∈ sv_tbl := (sv_at 47 rfl rfl)
set_option maxRecDepth 100000 in
theorem wn_X : Cond.instantiable R_X 7 ∈ sv_tbl := (sv_at 61 rfl rfl)
set_option maxRecDepth 100000 in
theorem wi_X : Cond.initialized R_X ∈ sv_tbl := (sv_at 38 rfl rfl)
set_option maxRecDepth 100000 in
theorem wn_M : Cond.instantiable R_M 16 ∈ sv_tbl := (sv_at 683 rfl rfl)
set_option maxRecDepth 100000 in
theorem wi_M : Cond.initialized R_M ∈ sv_tbl := (sv_at 49 rfl rfl)
set_option maxRecDepth 100000 in
theorem wk_L_8 : Cond.classLink "WordChainLaw" 8 "WordChain" ∈ sv_tbl := (sv_at 60 rfl rfl)
set_option maxRecDepth 100000 in
theorem wk_X_17 : Cond.classLink "WordChain" 17 "WordChain$Text" ∈ sv_tbl := (sv_at 68 rfl rfl)
set_option maxRecDepth 100000 in
theorem wk_X_26 : Cond.classLink "WordChain" 26 "WordChain$SilentWords" ∈ sv_tbl := (sv_at 85 rfl rfl)
set_option maxRecDepth 100000 in
theorem wk_X_33 : Cond.classLink "WordChain" 33 "WordChain$Stemmer" ∈ sv_tbl := (sv_at 147 rfl rfl)
set_option maxRecDepth 100000 in
theorem wk_Sm_7 : Cond.classLink "WordChain$Stemmer" 7 "WordChain$Ending" ∈ sv_tbl := (sv_at 153 rfl rfl)
set_option maxRecDepth 100000 in
theorem wk_Sm_148 : Cond.classLink "WordChain$Stemmer" 148 "WordChain$Word" ∈ sv_tbl := (sv_at 228 rfl rfl)
set_option maxRecDepth 100000 in
theorem wk_X_40 : Cond.classLink "WordChain" 40 "WordChain$Tokens" ∈ sv_tbl := (sv_at 271 rfl rfl)
set_option maxRecDepth 100000 in
theorem wk_Str_10 : Cond.classLink "java/lang/String" 10 "java/lang/String" ∈ sv_tbl := (sv_at 450 rfl rfl)
set_option maxRecDepth 100000 in
theorem wk_L_13 : Cond.classLink "WordChainLaw" 13 "java/lang/IndexOutOfBoundsException" ∈ sv_tbl := (sv_at 515 rfl rfl)
set_option maxRecDepth 100000 in
theorem wk_X_50 : Cond.classLink "WordChain" 50 "java/lang/IndexOutOfBoundsException" ∈ sv_tbl := (sv_at 520 rfl rfl)
set_option maxRecDepth 100000 in
theorem wk_L_19 : Cond.classLink "WordChainLaw" 19 "java/lang/IllegalArgumentException" ∈ sv_tbl := (sv_at 594 rfl rfl)
set_option maxRecDepth 100000 in
theorem wk_X_60 : Cond.classLink "WordChain" 60 "java/lang/IllegalArgumentException" ∈ sv_tbl := (sv_at 599 rfl rfl)
set_option maxRecDepth 100000 in
theorem wk_L_25 : Cond.classLink "WordChainLaw" 25 "java/util/NoSuchElementException" ∈ sv_tbl := (sv_at 618 rfl rfl)
set_option maxRecDepth 100000 in
theorem wk_X_102 : Cond.classLink "WordChain" 102 "java/util/NoSuchElementException" ∈ sv_tbl := (sv_at 628 rfl rfl)
set_option maxRecDepth 100000 in
theorem wk_L_37 : Cond.classLink "WordChainLaw" 37 "WordChainModel" ∈ sv_tbl := (sv_at 682 rfl rfl)
set_option maxRecDepth 100000 in
theorem wk_M_7 : Cond.classLink "WordChainModel" 7 "java/lang/String" ∈ sv_tbl := (sv_at 688 rfl rfl)
set_option maxRecDepth 100000 in
theorem wr_byte : Cond.arrayClass (newarray.typeOf .byte) ∈ sv_tbl := (sv_at 83 rfl rfl)
set_option maxRecDepth 100000 in
theorem wr_int : Cond.arrayClass (newarray.typeOf .int) ∈ sv_tbl := (sv_at 84 rfl rfl)
set_option maxRecDepth 100000 in
theorem wr_boolean : Cond.arrayClass (newarray.typeOf .boolean) ∈ sv_tbl := (sv_at 270 rfl rfl)
set_option maxRecDepth 100000 in
theorem wr_long : Cond.arrayClass (newarray.typeOf .long) ∈ sv_tbl := (sv_at 954 rfl rfl)
end
