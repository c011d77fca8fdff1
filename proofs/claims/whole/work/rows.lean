section
/-! PURE, 1: sorts of characters, bytes, characters out of bytes -/
/-- what a character is, as the document numbers it -/
def pu_sort (c : Int) : Nat :=
  if (97 ≤ c ∧ c ≤ 122) ∨ (65 ≤ c ∧ c ≤ 90) ∨ (192 ≤ c ∧ c ≤ 591 ∧ c ≠ 215 ∧ c ≠ 247) ∨ (913 ≤ c ∧ c ≤ 1023) ∨ (1024 ≤ c ∧ c ≤ 1279) then 1
  else if 48 ≤ c ∧ c ≤ 57 then 2 else if 19968 ≤ c ∧ c ≤ 40959 then 7
  else if c = 95 then 3 else if c = 183 then 4 else if c = 44 ∨ c = 59 then 5 else if c = 39 ∨ c = 46 ∨ c = 8217 then 6 else 0
theorem pu_sort_lt (c : Int) : pu_sort c < 8 := by
  unfold pu_sort
  repeat' split
  all_goals omega
def pu_inner (s : Nat) : Prop := s = 1 ∨ s = 2 ∨ s = 3
abbrev pu_letterP (c : Int) : Prop := (97 ≤ c ∧ c ≤ 122) ∨ (65 ≤ c ∧ c ≤ 90) ∨ (192 ≤ c ∧ c ≤ 591 ∧ c ≠ 215 ∧ c ≠ 247) ∨ (913 ≤ c ∧ c ≤ 1023) ∨ (1024 ≤ c ∧ c ≤ 1279)
/-- a byte as a natural number -/
def pu_u (x : Int32) : Nat := x.toBitVec.toNat % 256
theorem pu_u_lt (x : Int32) : pu_u x < 256 := Nat.mod_lt _ (by decide)
theorem pu_self (x : Int32) : nI x.toBitVec.toNat = x := by
  apply Int32.toBitVec_inj.mp
  show BitVec.ofNat 32 x.toBitVec.toNat = x.toBitVec
  exact BitVec.ofNat_toNat _ _ |>.trans (by simp)
theorem pu_and255 (x : Int32) : x &&& 255 = nI (pu_u x) := pk_and x 8 rfl
theorem pu_and63 (x : Int32) : x &&& 63 = nI (pu_u x % 64) := by
  rw [pk_and x (m := 63) 6 rfl]
  unfold pu_u
  rw [Nat.mod_mod_of_dvd _ (by decide : (64 : Nat) ∣ 256)]
theorem pu_and31 (x : Int32) : x &&& 31 = nI (pu_u x % 32) := by
  rw [pk_and x (m := 31) 5 rfl]
  unfold pu_u
  rw [Nat.mod_mod_of_dvd _ (by decide : (32 : Nat) ∣ 256)]
theorem pu_and15 (x : Int32) : x &&& 15 = nI (pu_u x % 16) := by
  rw [pk_and x (m := 15) 4 rfl]
  unfold pu_u
  rw [Nat.mod_mod_of_dvd _ (by decide : (16 : Nat) ∣ 256)]
theorem pu_and7 (x : Int32) : x &&& 7 = nI (pu_u x % 8) := by
  rw [pk_and x (m := 7) 3 rfl]
  unfold pu_u
  rw [Nat.mod_mod_of_dvd _ (by decide : (8 : Nat) ∣ 256)]
theorem pu_nand (a b : Nat) : nI a &&& nI b = nI (a &&& b) := by
  apply Int32.toBitVec_inj.mp
  show BitVec.ofNat 32 a &&& BitVec.ofNat 32 b = BitVec.ofNat 32 (a &&& b)
  rw [BitVec.ofNat_and]
theorem pu_nor (a b : Nat) : nI a ||| nI b = nI (a ||| b) := by
  apply Int32.toBitVec_inj.mp
  show BitVec.ofNat 32 a ||| BitVec.ofNat 32 b = BitVec.ofNat 32 (a ||| b)
  rw [BitVec.ofNat_or]
theorem pu_m192 : ∀ u, u < 256 → u &&& 192 = u / 64 * 64 := by decide +kernel
theorem pu_and192 (x : Int32) : x &&& 192 = nI (pu_u x / 64 * 64) := by
  have h1 : x &&& 192 = nI (x.toBitVec.toNat &&& 192) := by
    rw [← pu_nand, pu_self]
    rfl
  rw [h1]
  congr 1
  rw [← pu_m192 (pu_u x) (pu_u_lt x)]
  unfold pu_u
  rw [show (256 : Nat) = 2 ^ 8 from rfl, ← Nat.and_two_pow_sub_one_eq_mod, Nat.and_assoc]
  rfl
/-- how many bytes the well-formed sequence has that begins there; 0: none does -/
def pu_size (u : Nat → Nat) (at_ end_ : Nat) : Nat :=
  if u at_ < 128 then 1
  else if 194 ≤ u at_ ∧ u at_ ≤ 223 then
    if at_ + 1 < end_ ∧ 128 ≤ u (at_ + 1) ∧ u (at_ + 1) < 192 then 2 else 0
  else if 224 ≤ u at_ ∧ u at_ ≤ 239 then
    if at_ + 2 < end_ ∧ (if u at_ = 224 then 160 else 128) ≤ u (at_ + 1) ∧ u (at_ + 1) < (if u at_ = 237 then 160 else 192) ∧ 128 ≤ u (at_ + 2) ∧ u (at_ + 2) < 192 then 3 else 0
  else if 240 ≤ u at_ ∧ u at_ ≤ 244 then
    if at_ + 3 < end_ ∧ (if u at_ = 240 then 144 else 128) ≤ u (at_ + 1) ∧ u (at_ + 1) < (if u at_ = 244 then 144 else 192) ∧ 128 ≤ u (at_ + 2) ∧ u (at_ + 2) < 192 ∧ 128 ≤ u (at_ + 3) ∧ u (at_ + 3) < 192 then 4 else 0
  else 0
theorem pu_size_le (u : Nat → Nat) (a e : Nat) : pu_size u a e ≤ 4 := by
  unfold pu_size
  repeat' split
  all_goals omega
theorem pu_size_in {u : Nat → Nat} {a e : Nat} (h : a < e) : a + pu_size u a e ≤ e := by
  unfold pu_size
  repeat' split
  all_goals omega
/-- the character there -/
def pu_char (u : Nat → Nat) (a e : Nat) : Nat :=
  if pu_size u a e = 0 then 65533
  else if pu_size u a e = 1 then u a
  else if pu_size u a e = 2 then u a % 32 * 64 + u (a + 1) % 64
  else if pu_size u a e = 3 then (u a % 16 * 64 + u (a + 1) % 64) * 64 + u (a + 2) % 64
  else ((u a % 8 * 64 + u (a + 1) % 64) * 64 + u (a + 2) % 64) * 64 + u (a + 3) % 64
def pu_step (u : Nat → Nat) (a e : Nat) : Nat := if pu_size u a e = 0 then 1 else pu_size u a e
theorem pu_step_pos (u : Nat → Nat) (a e : Nat) : 1 ≤ pu_step u a e := by
  unfold pu_step
  split <;> omega
/-- the characters from a on, behind k that are there -/
def pu_chars (u : Nat → Nat) (e : Nat) : Nat → Nat → List Nat
  | 0, _ => []
  | n + 1, a => if a < e then pu_char u a e :: pu_chars u e n (a + pu_step u a e) else []
theorem pu_chars_len (u : Nat → Nat) (e : Nat) : ∀ n a, (pu_chars u e n a).length ≤ n
  | 0, _ => Nat.zero_le _
  | n + 1, a => by
    unfold pu_chars
    split
    · have := pu_chars_len u e n (a + pu_step u a e)
      simp only [List.length_cons]
      omega
    · exact Nat.zero_le _
/-- or of what lies apart is a sum -/
theorem pu_or6 {a b : Nat} (hb : b < 64) : nI (a * 64) ||| nI b = nI (a * 64 + b) := by
  rw [pu_nor]
  congr 1
  rw [Nat.mul_comm a 64, show (64 : Nat) = 2 ^ 6 from rfl, Nat.two_pow_add_eq_or_of_lt hb]
theorem pu_shl6 {a : Nat} (h : a * 64 < 2 ^ 32) : nI a <<< ((6 : Int32) &&& 31) = nI (a * 64) := pk_shlN ((6 : Int32) &&& 31) 6 (by decide) h
theorem pu_neg {x : Int32} (hb : x.toInt8.toInt32 = x) (h : pu_u x < 128) : x = nI (pu_u x) := by
  have h1 := pu_and255 x
  rw [← h1]
  have h2 : ∀ y : BitVec 8, y.toNat < 128 → (Int8.ofBitVec y).toInt32 = (Int8.ofBitVec y).toInt32 &&& 255 := by decide +kernel
  have h3 := h2 x.toInt8.toBitVec (by
    have e1 : x.toInt8.toBitVec.toNat = pu_u x := by
      unfold pu_u
      show (x.toBitVec.signExtend 8).toNat = _
      rw [BitVec.signExtend_eq_setWidth_of_le _ (by decide), BitVec.toNat_setWidth]
    rw [e1]; exact h)
  rw [show Int8.ofBitVec x.toInt8.toBitVec = x.toInt8 from rfl, hb] at h3
  exact h3
end
section
/-! PURE, 2: spans, words, stems -/
abbrev pu_inn (s : Nat) : Prop := s = 1 ∨ s = 2 ∨ s = 3
abbrev pu_isW (s : Nat) : Prop := s = 1 ∨ s = 2 ∨ s = 7
def pu_st (f : Nat → Int32) (i : Nat) : Nat := pu_sort (f i).toInt
abbrev pu_ties (m o : Nat) : Prop := (o = 1 ∧ (m = 4 ∨ m = 6)) ∨ (o = 2 ∧ (m = 5 ∨ m = 6))
abbrev pu_tie (f : Nat → Int32) (n m : Nat) : Prop := 1 ≤ m ∧ m + 1 < n ∧ pu_st f (m + 1) = pu_st f (m - 1) ∧ pu_ties (pu_st f m) (pu_st f (m - 1))
/-- the end of what belongs together, behind e -/
def pu_span (f : Nat → Int32) (n : Nat) : Nat → Nat → Nat
  | 0, e => e
  | k + 1, e => if e < n then (if pu_inn (pu_st f e) then pu_span f n k (e + 1) else if pu_tie f n e then pu_span f n k (e + 2) else e) else e
def pu_spanEnd (f : Nat → Int32) (n a : Nat) : Nat := if pu_inn (pu_st f a) then pu_span f n n (a + 1) else a + 1
theorem pu_span_ge (f : Nat → Int32) (n : Nat) : ∀ k e, e ≤ pu_span f n k e
  | 0, e => Nat.le_refl e
  | k + 1, e => by
    have h1 := pu_span_ge f n k (e + 1)
    have h2 := pu_span_ge f n k (e + 2)
    unfold pu_span
    split
    · split
      · omega
      · split <;> omega
    · omega
theorem pu_span_le (f : Nat → Int32) (n : Nat) : ∀ k e, e ≤ n → pu_span f n k e ≤ n
  | 0, e, h => h
  | k + 1, e, h => by
    unfold pu_span
    split
    · split
      · exact pu_span_le f n k (e + 1) (by omega)
      · split
        · rename_i h2
          exact pu_span_le f n k (e + 2) (by have := h2.2.1; omega)
        · exact h
    · exact h
theorem pu_spanEnd_gt (f : Nat → Int32) (n a : Nat) : a + 1 ≤ pu_spanEnd f n a := by
  unfold pu_spanEnd
  split
  · exact pu_span_ge f n n (a + 1)
  · exact Nat.le_refl _
theorem pu_spanEnd_le (f : Nat → Int32) {n a : Nat} (h : a < n) : pu_spanEnd f n a ≤ n := by
  unfold pu_spanEnd
  split
  · exact pu_span_le f n n (a + 1) h
  · exact h
/-- whether a word's sort is among k places from a on -/
def pu_any (f : Nat → Int32) : Nat → Nat → Bool
  | 0, _ => false
  | k + 1, a => if pu_isW (pu_st f a) then true else pu_any f k (a + 1)
def pu_slice (f : Nat → Int32) (a len : Nat) : List Int32 := (List.range len).map (fun i => f (a + i))
theorem pu_slice_len (f : Nat → Int32) (a len : Nat) : (pu_slice f a len).length = len := by simp [pu_slice]
theorem pu_slice_get (f : Nat → Int32) {a len i : Nat} (h : i < len) : (pu_slice f a len).getD i 0 = f (a + i) := by
  simp [pu_slice, List.getD_eq_getElem?_getD, h]
/-- an owner's ending off -/
def pu_own (L : List Int32) : List Int32 := if 2 < L.length ∧ (L.getD (L.length - 2) 0 = 39 ∨ L.getD (L.length - 2) 0 = 8217) ∧ (L.getD (L.length - 1) 0 = 115 ∨ L.getD (L.length - 1) 0 = 83) then L.take (L.length - 2) else L
def pu_low (c : Int32) : Int32 := if (65 ≤ c.toInt ∧ c.toInt ≤ 90) ∨ (192 ≤ c.toInt ∧ c.toInt ≤ 222 ∧ c.toInt ≠ 215) ∨ (913 ≤ c.toInt ∧ c.toInt ≤ 939 ∧ c.toInt ≠ 930) ∨ (1040 ≤ c.toInt ∧ c.toInt ≤ 1071) then c + 32 else if 1024 ≤ c.toInt ∧ c.toInt ≤ 1039 then c + 80 else c
abbrev pu_small (L : List Int32) : Prop := ∀ c ∈ L, 97 ≤ c.toInt ∧ c.toInt ≤ 122
abbrev pu_isV (c : Int32) : Prop := c = 97 ∨ c = 101 ∨ c = 105 ∨ c = 111 ∨ c = 117
def pu_vow (L : List Int32) : Nat → Bool
  | 0 => decide (pu_isV (L.getD 0 0))
  | k + 1 => decide (pu_isV (L.getD (k + 1) 0)) || (decide (L.getD (k + 1) 0 = 121) && !pu_vow L k)
def pu_meas (L : List Int32) : Nat → Nat
  | 0 => 0
  | k + 1 => pu_meas L k + (if 1 ≤ k ∧ pu_vow L (k - 1) = true ∧ pu_vow L k = false then 1 else 0)
def pu_anyV (L : List Int32) : Nat → Bool
  | 0 => false
  | k + 1 => pu_anyV L k || pu_vow L k
abbrev pu_dbl (L : List Int32) : Prop := 1 < L.length ∧ L.getD (L.length - 1) 0 = L.getD (L.length - 2) 0 ∧ pu_vow L (L.length - 1) = false
abbrev pu_cvc (L : List Int32) (k : Nat) : Prop := 3 ≤ k ∧ pu_vow L (k - 3) = false ∧ pu_vow L (k - 2) = true ∧ pu_vow L (k - 1) = false ∧ L.getD (k - 1) 0 ≠ 119 ∧ L.getD (k - 1) 0 ≠ 120 ∧ L.getD (k - 1) 0 ≠ 121
abbrev pu_ends (L s : List Int32) : Prop := s.length ≤ L.length ∧ L.drop (L.length - s.length) = s
/-- the longest of the endings that is there: its place and itself -/
def pu_lng (L : List Int32) : List (List Int32) → Nat → Option (Nat × List Int32) → Option (Nat × List Int32)
  | [], _, b => b
  | t :: ts, i, b => pu_lng L ts (i + 1) (if pu_ends L t ∧ (∀ q, b = some q → q.2.length < t.length) then some (i, t) else b)
def pu_stops : List (List Int32) := [[97], [97, 110], [97, 110, 100], [97, 114, 101], [97, 115], [97, 116], [98, 101], [98, 117, 116], [98, 121], [102, 111, 114], [105, 102], [105, 110], [105, 110, 116, 111], [105, 115], [105, 116], [110, 111], [110, 111, 116], [111, 102], [111, 110], [111, 114], [115, 117, 99, 104], [116, 104, 97, 116], [116, 104, 101], [116, 104, 101, 105, 114], [116, 104, 101, 110], [116, 104, 101, 114, 101], [116, 104, 101, 115, 101], [116, 104, 101, 121], [116, 104, 105, 115], [116, 111], [119, 97, 115], [119, 105, 108, 108], [119, 105, 116, 104]]
def pu_E2 : List (List Int32) := [[97, 116, 105, 111, 110, 97, 108], [116, 105, 111, 110, 97, 108], [101, 110, 99, 105], [97, 110, 99, 105], [105, 122, 101, 114], [97, 98, 108, 105], [97, 108, 108, 105], [101, 110, 116, 108, 105], [101, 108, 105], [111, 117, 115, 108, 105], [105, 122, 97, 116, 105, 111, 110], [97, 116, 105, 111, 110], [97, 116, 111, 114], [97, 108, 105, 115, 109], [105, 118, 101, 110, 101, 115, 115], [102, 117, 108, 110, 101, 115, 115], [111, 117, 115, 110, 101, 115, 115], [97, 108, 105, 116, 105], [105, 118, 105, 116, 105], [98, 105, 108, 105, 116, 105]]
def pu_S2 : List (List Int32) := [[97, 116, 101], [116, 105, 111, 110], [101, 110, 99, 101], [97, 110, 99, 101], [105, 122, 101], [97, 98, 108, 101], [97, 108], [101, 110, 116], [101], [111, 117, 115], [105, 122, 101], [97, 116, 101], [97, 116, 101], [97, 108], [105, 118, 101], [102, 117, 108], [111, 117, 115], [97, 108], [105, 118, 101], [98, 108, 101]]
def pu_E3 : List (List Int32) := [[105, 99, 97, 116, 101], [97, 116, 105, 118, 101], [97, 108, 105, 122, 101], [105, 99, 105, 116, 105], [105, 99, 97, 108], [102, 117, 108], [110, 101, 115, 115]]
def pu_S3 : List (List Int32) := [[105, 99], [], [97, 108], [105, 99], [105, 99], [], []]
def pu_E4 : List (List Int32) := [[97, 108], [97, 110, 99, 101], [101, 110, 99, 101], [101, 114], [105, 99], [97, 98, 108, 101], [105, 98, 108, 101], [97, 110, 116], [101, 109, 101, 110, 116], [109, 101, 110, 116], [101, 110, 116], [111, 117], [105, 115, 109], [97, 116, 101], [105, 116, 105], [111, 117, 115], [105, 118, 101], [105, 122, 101], [105, 111, 110]]
def pu_E4c : List (List Int32) := [[97, 108], [97, 110, 99, 101], [101, 110, 99, 101], [101, 114], [105, 99], [97, 98, 108, 101], [105, 98, 108, 101], [97, 110, 116], [101, 109, 101, 110, 116], [109, 101, 110, 116], [101, 110, 116], [105, 111, 110], [111, 117], [105, 115, 109], [97, 116, 101], [105, 116, 105], [111, 117, 115], [105, 118, 101], [105, 122, 101]]
/-- the steps, as the reference takes them -/
def pu_s1a (L : List Int32) : List Int32 := if pu_ends L [115, 115, 101, 115] ∨ pu_ends L [105, 101, 115] then L.take (L.length - 2) else if pu_ends L [115] ∧ ¬ pu_ends L [115, 115] then L.take (L.length - 1) else L
def pu_s1bm (L : List Int32) : List Int32 := if pu_ends L [97, 116] ∨ pu_ends L [98, 108] ∨ pu_ends L [105, 122] then L ++ [101] else if pu_dbl L ∧ L.getD (L.length - 1) 0 ≠ 108 ∧ L.getD (L.length - 1) 0 ≠ 115 ∧ L.getD (L.length - 1) 0 ≠ 122 then L.take (L.length - 1) else if pu_meas L L.length = 1 ∧ pu_cvc L L.length then L ++ [101] else L
def pu_s1b (L : List Int32) : List Int32 := if pu_ends L [101, 101, 100] then (if 0 < pu_meas L (L.length - 3) then L.take (L.length - 1) else L) else if pu_ends L [101, 100] then (if pu_anyV L (L.length - 2) = true then pu_s1bm (L.take (L.length - 2)) else L) else if pu_ends L [105, 110, 103] then (if pu_anyV L (L.length - 3) = true then pu_s1bm (L.take (L.length - 3)) else L) else L
def pu_s1c (L : List Int32) : List Int32 := if pu_ends L [121] ∧ pu_anyV L (L.length - 1) = true then L.take (L.length - 1) ++ [105] else L
def pu_rep (E S : List (List Int32)) (L : List Int32) : List Int32 := match pu_lng L E 0 none with
  | some q => if 0 < pu_meas L (L.length - q.2.length) then L.take (L.length - q.2.length) ++ S.getD q.1 [] else L
  | none => L
def pu_s4 (L : List Int32) : List Int32 := match pu_lng L pu_E4 0 none with
  | some q => if (q.2 = [105, 111, 110] → 0 < L.length - q.2.length ∧ (L.getD (L.length - q.2.length - 1) 0 = 115 ∨ L.getD (L.length - q.2.length - 1) 0 = 116)) ∧ 1 < pu_meas L (L.length - q.2.length) then L.take (L.length - q.2.length) else L
  | none => L
def pu_s5a (L : List Int32) : List Int32 := if pu_ends L [101] ∧ (1 < pu_meas L (L.length - 1) ∨ (pu_meas L (L.length - 1) = 1 ∧ ¬ pu_cvc L (L.length - 1))) then L.take (L.length - 1) else L
def pu_s5b (L : List Int32) : List Int32 := if pu_ends L [108, 108] ∧ 1 < pu_meas L L.length then L.take (L.length - 1) else L
def pu_stem (L : List Int32) : List Int32 := pu_s5b (pu_s5a (pu_s4 (pu_rep pu_E3 pu_S3 (pu_rep pu_E2 pu_S2 (pu_s1c (pu_s1b (pu_s1a L)))))))
abbrev pu_St : Type := List (Nat × List Int32) × Nat
/-- one word more: a token, or none -/
def pu_word (L : List Int32) (s : pu_St) : pu_St :=
  let M := (pu_own L).map pu_low
  if M ∈ pu_stops then (s.1, s.2 + 1) else (s.1 ++ [(s.2, if pu_small M ∧ 2 < M.length then pu_stem M else M)], s.2 + 1)
/-- the words of a span, 255 characters each at most -/
def pu_take (f : Nat → Int32) (e : Nat) : Nat → Nat → pu_St → pu_St
  | 0, _, s => s
  | k + 1, a, s => if a < e then pu_take f e k (a + 255) (pu_word (pu_slice f a (if e - a < 255 then e - a else 255)) s) else s
def pu_cut (f : Nat → Int32) (n : Nat) : Nat → Nat → pu_St → pu_St
  | 0, _, s => s
  | k + 1, a, s => if a < n then pu_cut f n k (pu_spanEnd f n a) (if pu_any f (pu_spanEnd f n a - a) a = true then pu_take f (pu_spanEnd f n a) (pu_spanEnd f n a) a s else s) else s
end
section
/-! PURE, 3: the steps as the class takes them are the steps as the reference takes them -/
theorem pu_ends_split {L t : List Int32} (h : pu_ends L t) : L = L.take (L.length - t.length) ++ t := by
  have h1 := List.take_append_drop (L.length - t.length) L
  rw [h.2] at h1
  exact h1.symm
theorem pu_ends_app (P t : List Int32) : pu_ends (P ++ t) t := by
  refine ⟨by simp, ?_⟩
  rw [List.length_append, Nat.add_sub_cancel]
  exact List.drop_left
theorem pu_ends_tail {P q t : List Int32} (hl : t.length ≤ q.length) : pu_ends (P ++ q) t ↔ q.drop (q.length - t.length) = t := by
  unfold pu_ends
  rw [List.length_append]
  have h1 : P.length + q.length - t.length = P.length + (q.length - t.length) := by omega
  have h2 : (P ++ q).drop (P.length + (q.length - t.length)) = q.drop (q.length - t.length) := by
    rw [List.drop_append, List.drop_eq_nil_of_le (by omega), List.nil_append, Nat.add_sub_cancel_left]
  rw [h1, h2]
  constructor
  · intro h; exact h.2
  · intro h; exact ⟨by omega, h⟩
theorem pu_ends_len {L s t : List Int32} (hs : pu_ends L s) (ht : pu_ends L t) (h : s.length = t.length) : s = t := by
  rw [← hs.2, ← ht.2, h]
theorem pu_lng_no {L t : List Int32} {ts : List (List Int32)} {i : Nat} {b : Option (Nat × List Int32)} (h : ¬ pu_ends L t) : pu_lng L (t :: ts) i b = pu_lng L ts (i + 1) b := by
  rw [pu_lng, if_neg (fun z => h z.1)]
theorem pu_lng_yes {L t : List Int32} {ts : List (List Int32)} {i : Nat} (h : pu_ends L t) : pu_lng L (t :: ts) i none = pu_lng L ts (i + 1) (some (i, t)) := by
  rw [pu_lng, if_pos ⟨h, fun q hq => by cases hq⟩]
theorem pu_lng_short {L t : List Int32} {ts : List (List Int32)} {i : Nat} {q : Nat × List Int32} (h : t.length ≤ q.2.length) : pu_lng L (t :: ts) i (some q) = pu_lng L ts (i + 1) (some q) := by
  rw [pu_lng, if_neg (fun z => by have := z.2 q rfl; omega)]
/-- what a search for the longest finds -/
theorem pu_lng_spec (L : List Int32) : ∀ (E : List (List Int32)) (i : Nat) (b : Option (Nat × List Int32)), (∀ q, b = some q → pu_ends L q.2) →
    (∀ q, pu_lng L E i b = some q → pu_ends L q.2 ∧ (q.2 ∈ E ∨ b = some q) ∧ (∀ t ∈ E, pu_ends L t → t.length ≤ q.2.length) ∧ (∀ r, b = some r → r.2.length ≤ q.2.length)) ∧
    (pu_lng L E i b = none → b = none ∧ ∀ t ∈ E, ¬ pu_ends L t)
  | [], i, b, hb => by
    refine ⟨fun q hq => ⟨hb q hq, Or.inr hq, fun t ht => absurd ht List.not_mem_nil, fun r hr => ?_⟩, fun h => ⟨h, fun t ht => absurd ht List.not_mem_nil⟩⟩
    have h1 : b = some q := hq
    rw [h1] at hr
    cases hr
    exact Nat.le_refl _
  | t :: E, i, b, hb => by
    unfold pu_lng
    by_cases hc : pu_ends L t ∧ (∀ q, b = some q → q.2.length < t.length)
    · rw [if_pos hc]
      have ih := pu_lng_spec L E (i + 1) (some (i, t)) (fun q hq => by cases hq; exact hc.1)
      refine ⟨fun q hq => ?_, fun h => ?_⟩
      · obtain ⟨h1, h2, h3, h4⟩ := ih.1 q hq
        have h5 := h4 (i, t) rfl
        refine ⟨h1, Or.inl ?_, fun u hu hE => ?_, fun r hr => ?_⟩
        · rcases h2 with h2 | h2
          · exact List.mem_cons_of_mem _ h2
          · cases h2; exact List.mem_cons_self
        · rcases List.mem_cons.mp hu with rfl | hu
          · exact h5
          · exact h3 u hu hE
        · have := hc.2 r hr
          simp only at h5
          omega
      · exact absurd (ih.2 h).1 (by simp)
    · rw [if_neg hc]
      have ih := pu_lng_spec L E (i + 1) b hb
      refine ⟨fun q hq => ?_, fun h => ?_⟩
      · obtain ⟨h1, h2, h3, h4⟩ := ih.1 q hq
        refine ⟨h1, ?_, fun u hu hE => ?_, h4⟩
        · rcases h2 with h2 | h2
          · exact Or.inl (List.mem_cons_of_mem _ h2)
          · exact Or.inr h2
        · rcases List.mem_cons.mp hu with rfl | hu
          · have h6 : ¬ ∀ q, b = some q → q.2.length < u.length := fun z => hc ⟨hE, z⟩
            cases hb2 : b with
            | none => exact absurd (fun q hq => by rw [hb2] at hq; cases hq) h6
            | some r =>
              have h7 := h4 r hb2
              rcases Nat.lt_or_ge r.2.length u.length with h8 | h8
              · exact absurd (fun q hq => by rw [hb2] at hq; cases hq; exact h8) h6
              · omega
          · exact h3 u hu hE
      · obtain ⟨h1, h2⟩ := ih.2 h
        refine ⟨h1, fun u hu hE => ?_⟩
        rcases List.mem_cons.mp hu with rfl | hu
        · exact hc ⟨hE, fun q hq => by rw [h1] at hq; cases hq⟩
        · exact h2 u hu hE
/-- two lists of the same endings find the same -/
theorem pu_lng_same (L : List Int32) {E F : List (List Int32)} (h : ∀ t, t ∈ E ↔ t ∈ F) : (pu_lng L E 0 none).map Prod.snd = (pu_lng L F 0 none).map Prod.snd := by
  have e1 := pu_lng_spec L E 0 none (fun q hq => by cases hq)
  have e2 := pu_lng_spec L F 0 none (fun q hq => by cases hq)
  cases hE : pu_lng L E 0 none with
  | none =>
    have h1 := (e1.2 hE).2
    cases hF : pu_lng L F 0 none with
    | none => rfl
    | some q =>
      obtain ⟨a1, a2, -, -⟩ := e2.1 q hF
      rcases a2 with a2 | a2
      · exact absurd a1 (h1 _ ((h _).mpr a2))
      · cases a2
  | some q =>
    obtain ⟨a1, a2, a3, -⟩ := e1.1 q hE
    have a2 : q.2 ∈ E := by
      rcases a2 with a2 | a2
      · exact a2
      · cases a2
    cases hF : pu_lng L F 0 none with
    | none => exact absurd a1 ((e2.2 hF).2 _ ((h _).mp a2))
    | some r =>
      obtain ⟨b1, b2, b3, -⟩ := e2.1 r hF
      have b2 : r.2 ∈ F := by
        rcases b2 with b2 | b2
        · exact b2
        · cases b2
      have c1 := a3 r.2 ((h _).mpr b2) b1
      have c2 := b3 q.2 ((h _).mp a2) a1
      show some q.2 = some r.2
      rw [pu_ends_len a1 b1 (by omega)]
def pc_E1a : List (List Int32) := [[115, 115, 101, 115], [105, 101, 115], [115, 115], [115]]
def pc_S1a : List (List Int32) := [[115, 115], [105], [115, 115], []]
def pc_E1b : List (List Int32) := [[101, 101, 100], [101, 100], [105, 110, 103]]
def pc_S1b : List (List Int32) := [[101, 101], [], []]
/-- a step of the class that takes the longest ending off, puts another in its place -/
def pc_s1a (L : List Int32) : List Int32 := match pu_lng L pc_E1a 0 none with
  | some q => L.take (L.length - q.2.length) ++ pc_S1a.getD q.1 []
  | none => L
def pc_mend (L : List Int32) : List Int32 := if pu_ends L [97, 116] ∨ pu_ends L [98, 108] ∨ pu_ends L [105, 122] then L ++ [101] else if pu_dbl L ∧ ¬ pu_ends L [108] ∧ ¬ pu_ends L [115] ∧ ¬ pu_ends L [122] then L.take (L.length - 1) else if pu_meas L L.length = 1 ∧ pu_cvc L L.length then L ++ [101] else L
def pc_s1b (L : List Int32) : List Int32 := match pu_lng L pc_E1b 0 none with
  | some q => if q.2 = [101, 101, 100] then (if 0 < pu_meas L (L.length - q.2.length) then L.take (L.length - q.2.length) ++ pc_S1b.getD q.1 [] else L) else if pu_anyV L (L.length - q.2.length) = true then pc_mend (L.take (L.length - q.2.length) ++ pc_S1b.getD q.1 []) else L
  | none => L
def pc_s4 (L : List Int32) : List Int32 := if pu_ends L [105, 111, 110] ∧ ¬ pu_ends L [115, 105, 111, 110] ∧ ¬ pu_ends L [116, 105, 111, 110] then L else match pu_lng L pu_E4c 0 none with
  | some q => if 1 < pu_meas L (L.length - q.2.length) then L.take (L.length - q.2.length) else L
  | none => L
theorem pu_ends_cat {P q t : List Int32} (hl : t.length ≤ q.length) (h : q.drop (q.length - t.length) = t) : pu_ends (P ++ q) t := (pu_ends_tail hl).mpr h
theorem pu_ends_ncat {P q t : List Int32} (hl : t.length ≤ q.length) (h : ¬ q.drop (q.length - t.length) = t) : ¬ pu_ends (P ++ q) t := fun z => h ((pu_ends_tail hl).mp z)
theorem pu_take_cat {P q : List Int32} {n : Nat} (h : n ≤ q.length) : (P ++ q).take ((P ++ q).length - n) = P ++ q.take (q.length - n) := by
  rw [List.length_append, List.take_append, List.take_of_length_le (by omega)]
  congr 2
  omega
theorem pc_s1a_eq (L : List Int32) : pc_s1a L = pu_s1a L := by
  by_cases h1 : pu_ends L [115, 115, 101, 115]
  · have e := pu_ends_split h1
    generalize L.take (L.length - 4) = P at e
    subst e
    unfold pc_s1a pu_s1a
    rw [if_pos (Or.inl h1)]
    have g : pu_lng (P ++ [115, 115, 101, 115]) pc_E1a 0 none = some (0, [115, 115, 101, 115]) := by
      unfold pc_E1a
      rw [pu_lng_yes h1, pu_lng_short (by decide), pu_lng_short (by decide), pu_lng_short (by decide)]
      rfl
    rw [g]
    show (P ++ _).take ((P ++ _).length - 4) ++ _ = (P ++ _).take ((P ++ _).length - 2)
    rw [pu_take_cat (by decide), pu_take_cat (by decide), List.append_assoc]
    rfl
  · by_cases h2 : pu_ends L [105, 101, 115]
    · have e := pu_ends_split h2
      generalize L.take (L.length - 3) = P at e
      subst e
      unfold pc_s1a pu_s1a
      rw [if_pos (Or.inr h2)]
      have g : pu_lng (P ++ [105, 101, 115]) pc_E1a 0 none = some (1, [105, 101, 115]) := by
        unfold pc_E1a
        rw [pu_lng_no h1, pu_lng_yes h2, pu_lng_short (by decide), pu_lng_short (by decide)]
        rfl
      rw [g]
      show (P ++ _).take ((P ++ _).length - 3) ++ _ = (P ++ _).take ((P ++ _).length - 2)
      rw [pu_take_cat (by decide), pu_take_cat (by decide), List.append_assoc]
      rfl
    · by_cases h3 : pu_ends L [115, 115]
      · have e := pu_ends_split h3
        generalize L.take (L.length - 2) = P at e
        subst e
        unfold pc_s1a pu_s1a
        rw [if_neg (fun z => z.elim h1 h2), if_neg (fun z => z.2 h3)]
        have g : pu_lng (P ++ [115, 115]) pc_E1a 0 none = some (2, [115, 115]) := by
          unfold pc_E1a
          rw [pu_lng_no h1, pu_lng_no h2, pu_lng_yes h3, pu_lng_short (by decide)]
          rfl
        rw [g]
        show (P ++ _).take ((P ++ _).length - 2) ++ _ = _
        rw [pu_take_cat (by decide), List.append_assoc]
        rfl
      · by_cases h4 : pu_ends L [115]
        · unfold pc_s1a pu_s1a
          rw [if_neg (fun z => z.elim h1 h2), if_pos ⟨h4, h3⟩]
          have g : pu_lng L pc_E1a 0 none = some (3, [115]) := by
            unfold pc_E1a
            rw [pu_lng_no h1, pu_lng_no h2, pu_lng_no h3, pu_lng_yes h4]
            rfl
          rw [g]
          exact List.append_nil _
        · unfold pc_s1a pu_s1a
          rw [if_neg (fun z => z.elim h1 h2), if_neg (fun z => h4 z.1)]
          have g : pu_lng L pc_E1a 0 none = none := by
            unfold pc_E1a
            rw [pu_lng_no h1, pu_lng_no h2, pu_lng_no h3, pu_lng_no h4]
            rfl
          rw [g]
theorem pu_ends1 (L : List Int32) (c : Int32) : pu_ends L [c] ↔ 0 < L.length ∧ L.getD (L.length - 1) 0 = c := by
  constructor
  · intro h
    have e := pu_ends_split h
    generalize L.take (L.length - [c].length) = P at e
    subst e
    simp
  · rintro ⟨h1, h2⟩
    refine ⟨h1, ?_⟩
    rw [List.drop_eq_getElem_cons (by simp; omega)]
    rw [List.getD_eq_getElem?_getD, List.getElem?_eq_getElem (by omega)] at h2
    simp only [Option.getD_some] at h2
    simp only [List.length_cons, List.length_nil]
    rw [h2, List.drop_eq_nil_of_le (by omega)]
theorem pc_mend_eq (L : List Int32) : pc_mend L = pu_s1bm L := by
  unfold pc_mend pu_s1bm
  by_cases h1 : pu_ends L [97, 116] ∨ pu_ends L [98, 108] ∨ pu_ends L [105, 122]
  · rw [if_pos h1, if_pos h1]
  · rw [if_neg h1, if_neg h1]
    have e : (pu_dbl L ∧ ¬ pu_ends L [108] ∧ ¬ pu_ends L [115] ∧ ¬ pu_ends L [122]) ↔ (pu_dbl L ∧ L.getD (L.length - 1) 0 ≠ 108 ∧ L.getD (L.length - 1) 0 ≠ 115 ∧ L.getD (L.length - 1) 0 ≠ 122) := by
      refine and_congr_right fun hd => ?_
      have h0 : 0 < L.length := by have := hd.1; omega
      rw [pu_ends1, pu_ends1, pu_ends1]
      simp only [h0, true_and]
    by_cases h2 : pu_dbl L ∧ ¬ pu_ends L [108] ∧ ¬ pu_ends L [115] ∧ ¬ pu_ends L [122]
    · rw [if_pos h2, if_pos (e.mp h2)]
    · rw [if_neg h2, if_neg (fun z => h2 (e.mpr z))]
theorem pc_s1b_eq (L : List Int32) : pc_s1b L = pu_s1b L := by
  by_cases h1 : pu_ends L [101, 101, 100]
  · have e := pu_ends_split h1
    have g : pu_lng L pc_E1b 0 none = some (0, [101, 101, 100]) := by
      unfold pc_E1b
      rw [pu_lng_yes h1, pu_lng_short (by decide), pu_lng_short (by decide)]
      rfl
    unfold pc_s1b pu_s1b
    rw [g, if_pos h1]
    show (if _ then (if 0 < pu_meas L (L.length - 3) then L.take (L.length - 3) ++ [101, 101] else L) else _) = _
    rw [if_pos rfl]
    have e2 : L.take (L.length - 3) ++ [101, 101] = L.take (L.length - 1) := by
      generalize hP : L.take (L.length - [(101 : Int32), 101, 100].length) = P at e
      subst e
      rw [pu_take_cat (by decide)]
      rfl
    rw [e2]
  · by_cases h2 : pu_ends L [101, 100]
    · have n3 : ¬ pu_ends L [105, 110, 103] := by
        have e := pu_ends_split h2
        intro z
        have e2 := pu_ends_split z
        have a1 := (pu_ends1 L 100).mp (by rw [e]; exact pu_ends_cat (by decide) rfl)
        have a2 := (pu_ends1 L 103).mp (by rw [e2]; exact pu_ends_cat (by decide) rfl)
        exact absurd (a1.2.symm.trans a2.2) (by decide)
      have g : pu_lng L pc_E1b 0 none = some (1, [101, 100]) := by
        unfold pc_E1b
        rw [pu_lng_no h1, pu_lng_yes h2, pu_lng_no n3]
        rfl
      unfold pc_s1b pu_s1b
      rw [g, if_neg h1, if_pos h2]
      show (if _ then _ else if pu_anyV L (L.length - 2) = true then pc_mend (L.take (L.length - 2) ++ []) else L) = _
      rw [if_neg (by decide), List.append_nil, pc_mend_eq]
    · by_cases h3 : pu_ends L [105, 110, 103]
      · have g : pu_lng L pc_E1b 0 none = some (2, [105, 110, 103]) := by
          unfold pc_E1b
          rw [pu_lng_no h1, pu_lng_no h2, pu_lng_yes h3]
          rfl
        unfold pc_s1b pu_s1b
        rw [g, if_neg h1, if_neg h2, if_pos h3]
        show (if _ then _ else if pu_anyV L (L.length - 3) = true then pc_mend (L.take (L.length - 3) ++ []) else L) = _
        rw [if_neg (by decide), List.append_nil, pc_mend_eq]
      · have g : pu_lng L pc_E1b 0 none = none := by
          unfold pc_E1b
          rw [pu_lng_no h1, pu_lng_no h2, pu_lng_no h3]
          rfl
        unfold pc_s1b pu_s1b
        rw [g, if_neg h1, if_neg h2, if_neg h3]
theorem pu_E4_same : ∀ t, t ∈ pu_E4c ↔ t ∈ pu_E4 := by
  have a1 : ∀ t ∈ pu_E4c, t ∈ pu_E4 := by decide +kernel
  have a2 : ∀ t ∈ pu_E4, t ∈ pu_E4c := by decide +kernel
  exact fun t => ⟨a1 t, a2 t⟩
theorem pu_E4_ion : ∀ t ∈ pu_E4, 3 ≤ t.length → t.drop (t.length - 3) = [105, 111, 110] → t = [105, 111, 110] := by decide +kernel
theorem pc_s4_eq (L : List Int32) : pc_s4 L = pu_s4 L := by
  have hs := pu_lng_same L pu_E4_same
  have sp := pu_lng_spec L pu_E4 0 none (fun q hq => by cases hq)
  unfold pc_s4 pu_s4
  cases hE : pu_lng L pu_E4 0 none with
  | none =>
    rw [hE] at hs
    have hC : pu_lng L pu_E4c 0 none = none := by
      cases hC : pu_lng L pu_E4c 0 none with
      | none => rfl
      | some q => rw [hC] at hs; cases hs
    rw [hC]
    simp only [ite_self]
  | some q =>
    rw [hE] at hs
    obtain ⟨a1, a2, a3, -⟩ := sp.1 q hE
    have a2 : q.2 ∈ pu_E4 := by
      rcases a2 with a2 | a2
      · exact a2
      · cases a2
    obtain ⟨r, hC, hr⟩ : ∃ r, pu_lng L pu_E4c 0 none = some r ∧ r.2 = q.2 := by
      cases hC : pu_lng L pu_E4c 0 none with
      | none => rw [hC] at hs; cases hs
      | some r => rw [hC] at hs; exact ⟨r, rfl, Option.some.inj hs⟩
    rw [hC]
    show (if _ then L else if 1 < pu_meas L (L.length - r.2.length) then L.take (L.length - r.2.length) else L) = (if _ then _ else L)
    rw [hr]
    by_cases hi : pu_ends L [105, 111, 110]
    · -- then it is the longest
      have hq : q.2 = [105, 111, 110] := by
        have h3 := a3 [105, 111, 110] (by decide +kernel) hi
        refine pu_E4_ion q.2 a2 h3 ?_
        have b1 := pu_ends_split a1
        rw [b1] at hi
        exact (pu_ends_tail h3).mp hi
      have hlen : 3 ≤ L.length := hi.1
      have key : (pu_ends L [115, 105, 111, 110] ∨ pu_ends L [116, 105, 111, 110]) ↔ (0 < L.length - 3 ∧ (L.getD (L.length - 3 - 1) 0 = 115 ∨ L.getD (L.length - 3 - 1) 0 = 116)) := by
        have b1 := pu_ends_split hi
        generalize hP : L.take (L.length - [(105 : Int32), 111, 110].length) = P at b1
        subst b1
        have l1 : (P ++ [(105 : Int32), 111, 110]).length - 3 = P.length := by simp
        rw [l1]
        have one : ∀ c : Int32, pu_ends (P ++ [(105 : Int32), 111, 110]) (c :: [105, 111, 110]) ↔ (0 < P.length ∧ P.getD (P.length - 1) 0 = c) := by
          intro c
          rw [← pu_ends1]
          constructor
          · intro z
            have b2 := pu_ends_split z
            have b3 : P ++ [(105 : Int32), 111, 110] = (List.take ((P ++ [(105 : Int32), 111, 110]).length - (c :: [(105 : Int32), 111, 110]).length) (P ++ [(105 : Int32), 111, 110]) ++ [c]) ++ [(105 : Int32), 111, 110] := by
              rw [List.append_assoc]
              exact b2
            have b4 := List.append_cancel_right b3
            rw [b4]
            exact pu_ends_app _ _
          · intro z
            have b2 := pu_ends_split z
            generalize List.take (P.length - [c].length) P = P2 at b2
            rw [b2, List.append_assoc]
            exact pu_ends_app _ _
        have gd : ∀ h : 0 < P.length, (P ++ [(105 : Int32), 111, 110]).getD (P.length - 1) 0 = P.getD (P.length - 1) 0 := by
          intro h
          rw [List.getD_eq_getElem?_getD, List.getD_eq_getElem?_getD, List.getElem?_append_left (by omega)]
        rw [one 115, one 116]
        constructor
        · rintro (⟨z1, z2⟩ | ⟨z1, z2⟩)
          · exact ⟨z1, Or.inl (by rw [gd z1]; exact z2)⟩
          · exact ⟨z1, Or.inr (by rw [gd z1]; exact z2)⟩
        · rintro ⟨z1, z2⟩
          rw [gd z1] at z2
          exact z2.imp (fun z => ⟨z1, z⟩) (fun z => ⟨z1, z⟩)
      rw [hq]
      show (if _ then L else if 1 < pu_meas L (L.length - 3) then L.take (L.length - 3) else L) = (if (_ → 0 < L.length - 3 ∧ (L.getD (L.length - 3 - 1) 0 = 115 ∨ L.getD (L.length - 3 - 1) 0 = 116)) ∧ 1 < pu_meas L (L.length - 3) then L.take (L.length - 3) else L)
      by_cases hk : pu_ends L [115, 105, 111, 110] ∨ pu_ends L [116, 105, 111, 110]
      · rw [if_neg (fun z => hk.elim z.2.1 z.2.2)]
        by_cases hm : 1 < pu_meas L (L.length - 3)
        · rw [if_pos hm, if_pos ⟨fun _ => key.mp hk, hm⟩]
        · rw [if_neg hm, if_neg (fun z => hm z.2)]
      · rw [if_pos ⟨hi, fun z => hk (Or.inl z), fun z => hk (Or.inr z)⟩, if_neg (fun z => hk (key.mpr (z.1 rfl)))]
    · rw [if_neg (fun z => hi z.1)]
      have hq : ¬ q.2 = [105, 111, 110] := fun z => hi (z ▸ a1)
      by_cases hm : 1 < pu_meas L (L.length - q.2.length)
      · rw [if_pos hm, if_pos ⟨fun z => absurd z hq, hm⟩]
      · rw [if_neg hm, if_neg (fun z => hm z.2)]
end
section
/-! PURE, 4: the words that say nothing as numbers; tokens one behind the other -/
def pu_dig (c : Int32) : Nat := (c.toInt - 96).toNat
/-- the number of a word, its last letter first -/
def pu_kr : List Int32 → Nat
  | [] => 0
  | c :: l => pu_kr l * 32 + pu_dig c
def pu_key (L : List Int32) : Nat := pu_kr L.reverse
theorem pu_dig_in {c : Int32} (h : 97 ≤ c.toInt ∧ c.toInt ≤ 122) : 1 ≤ pu_dig c ∧ pu_dig c ≤ 26 ∧ (pu_dig c : Int) = c.toInt - 96 := by
  unfold pu_dig
  omega
theorem pu_kr_inj : ∀ (L M : List Int32), pu_small L → pu_small M → pu_kr L = pu_kr M → L = M
  | [], [], _, _, _ => rfl
  | [], c :: M, _, hM, h => by
    have := pu_dig_in (hM c List.mem_cons_self)
    simp only [pu_kr] at h
    omega
  | c :: L, [], hL, _, h => by
    have := pu_dig_in (hL c List.mem_cons_self)
    simp only [pu_kr] at h
    omega
  | c :: L, d :: M, hL, hM, h => by
    have h1 := pu_dig_in (hL c List.mem_cons_self)
    have h2 := pu_dig_in (hM d List.mem_cons_self)
    simp only [pu_kr] at h
    have h3 : pu_dig c = pu_dig d := by omega
    have h4 : pu_kr L = pu_kr M := by omega
    have h5 := pu_kr_inj L M (fun x hx => hL x (List.mem_cons_of_mem _ hx)) (fun x hx => hM x (List.mem_cons_of_mem _ hx)) h4
    have h6 : c = d := Int32.toInt_inj.mp (by omega)
    rw [h5, h6]
theorem pu_key_inj {L M : List Int32} (hL : pu_small L) (hM : pu_small M) (h : pu_key L = pu_key M) : L = M := by
  have h1 := pu_kr_inj L.reverse M.reverse (fun x hx => hL x (List.mem_reverse.mp hx)) (fun x hx => hM x (List.mem_reverse.mp hx)) h
  have h2 := congrArg List.reverse h1
  rw [List.reverse_reverse, List.reverse_reverse] at h2
  exact h2
theorem pu_key_snoc (L : List Int32) (c : Int32) : pu_key (L ++ [c]) = pu_key L * 32 + pu_dig c := by
  unfold pu_key
  rw [List.reverse_append]
  rfl
theorem pu_stops_ok : ∀ t ∈ pu_stops, t.length ≤ 5 ∧ ∀ c ∈ t, 97 ≤ c.toInt ∧ c.toInt ≤ 122 := by decide +kernel
theorem pu_stops_len : pu_stops.length = 33 := rfl
/-- a word is among them: by its number -/
theorem pu_stops_iff (M : List Int32) : M ∈ pu_stops ↔ (M.length ≤ 5 ∧ pu_small M) ∧ ∃ i, i < 33 ∧ pu_key (pu_stops.getD i []) = pu_key M := by
  constructor
  · intro h
    have h1 := pu_stops_ok M h
    obtain ⟨i, hi⟩ := List.getElem?_of_mem h
    have hl := (List.getElem?_eq_some_iff.mp hi).1
    exact ⟨h1, i, hl, by rw [List.getD_eq_getElem?_getD, hi]; rfl⟩
  · rintro ⟨⟨-, h2⟩, i, hi, h3⟩
    have hm : pu_stops.getD i [] ∈ pu_stops := by
      rw [List.getD_eq_getElem?_getD, List.getElem?_eq_getElem (show i < pu_stops.length from hi)]
      exact List.getElem_mem _
    rw [← pu_key_inj (pu_stops_ok _ hm).2 h2 h3]
    exact hm
/-- where token i begins -/
def pu_off (T : List (Nat × List Int32)) : Nat → Nat
  | 0 => 0
  | i + 1 => pu_off T i + (T.getD i (0, [])).2.length
theorem pu_off_app (T : List (Nat × List Int32)) (q : Nat × List Int32) : ∀ i, i ≤ T.length → pu_off (T ++ [q]) i = pu_off T i
  | 0, _ => rfl
  | i + 1, h => by
    have h1 := pu_off_app T q i (by omega)
    have h2 : (T ++ [q]).getD i (0, []) = T.getD i (0, []) := by
      rw [List.getD_eq_getElem?_getD, List.getD_eq_getElem?_getD, List.getElem?_append_left (by omega)]
    unfold pu_off
    rw [h1, h2]
theorem pu_off_mono (T : List (Nat × List Int32)) : ∀ i j, i ≤ j → pu_off T i ≤ pu_off T j
  | i, 0, h => by
    have : i = 0 := by omega
    subst this
    exact Nat.le_refl _
  | i, j + 1, h => by
    rcases Nat.lt_or_ge i (j + 1) with h1 | h1
    · have := pu_off_mono T i j (by omega)
      have h2 : pu_off T (j + 1) = pu_off T j + (T.getD j (0, [])).2.length := rfl
      omega
    · have : i = j + 1 := by omega
      subst this
      exact Nat.le_refl _
/-- the rows ch, po, st hold the tokens T -/
def pu_Tok (ch po st : Nat → Int32) (T : List (Nat × List Int32)) : Prop :=
  (∀ i, i ≤ T.length → st i = nI (pu_off T i)) ∧ (∀ i, i < T.length → po i = nI (T.getD i (0, [])).1) ∧
  ∀ i, i < T.length → ∀ k, k < (T.getD i (0, [])).2.length → ch (pu_off T i + k) = (T.getD i (0, [])).2.getD k 0
theorem pu_Tok_nil {ch po st : Nat → Int32} (h : st 0 = nI 0) : pu_Tok ch po st [] :=
  ⟨fun i hi => by have : i = 0 := Nat.le_zero.mp hi
                  subst this; exact h, fun i hi => absurd hi (Nat.not_lt_zero _), fun i hi => absurd hi (Nat.not_lt_zero _)⟩
theorem pu_Tok_add {ch po st ch' po' st' : Nat → Int32} {T : List (Nat × List Int32)} (h : pu_Tok ch po st T) (p : Nat) (L : List Int32)
    (hs : ∀ i, i ≤ T.length → st' i = st i) (hs1 : st' (T.length + 1) = nI (pu_off T T.length + L.length)) (hp : ∀ i, i < T.length → po' i = po i) (hp1 : po' T.length = nI p)
    (hc : ∀ i, i < pu_off T T.length → ch' i = ch i) (hc1 : ∀ k, k < L.length → ch' (pu_off T T.length + k) = L.getD k 0) : pu_Tok ch' po' st' (T ++ [(p, L)]) := by
  obtain ⟨h1, h2, h3⟩ := h
  have g1 : ∀ i, i < T.length → (T ++ [(p, L)]).getD i (0, []) = T.getD i (0, []) := fun i hi => by
    rw [List.getD_eq_getElem?_getD, List.getD_eq_getElem?_getD, List.getElem?_append_left hi]
  have g2 : (T ++ [(p, L)]).getD T.length (0, []) = (p, L) := by
    rw [List.getD_eq_getElem?_getD, List.getElem?_append_right (Nat.le_refl _), Nat.sub_self]
    rfl
  refine ⟨fun i hi => ?_, fun i hi => ?_, fun i hi k hk => ?_⟩
  · rw [List.length_append, List.length_singleton] at hi
    rcases Nat.lt_or_ge T.length i with h | h
    · have : i = T.length + 1 := by omega
      subst this
      rw [hs1]
      show _ = nI (pu_off (T ++ [(p, L)]) T.length + ((T ++ [(p, L)]).getD T.length (0, [])).2.length)
      rw [g2, pu_off_app T _ T.length (Nat.le_refl _)]
    · rw [hs i h, h1 i h, pu_off_app T _ i h]
  · rw [List.length_append, List.length_singleton] at hi
    rcases Nat.lt_or_ge i T.length with h | h
    · rw [hp i h, h2 i h, g1 i h]
    · have : i = T.length := by omega
      subst this
      rw [hp1, g2]
  · rw [List.length_append, List.length_singleton] at hi
    rcases Nat.lt_or_ge i T.length with h | h
    · rw [g1 i h] at hk ⊢
      have h4 := pu_off_mono T (i + 1) T.length (by omega)
      have h5 : pu_off T (i + 1) = pu_off T i + (T.getD i (0, [])).2.length := rfl
      rw [pu_off_app T _ i (by omega), hc _ (by omega), h3 i h k hk]
    · have : i = T.length := by omega
      subst this
      rw [g2] at hk ⊢
      rw [pu_off_app T _ T.length (Nat.le_refl _), hc1 k hk]
/-- the first token with the same characters as token i; k: where the search stands -/
def pu_first (T : List (Nat × List Int32)) (i : Nat) : Nat → Nat → Nat
  | 0, j => j
  | k + 1, j => if (T.getD j (0, [])).2 = (T.getD i (0, [])).2 then j else pu_first T i k (j + 1)
end
section
/-! PURE, 5: vowels by runs of y, as the reference finds them -/
theorem pu_vow_y {L : List Int32} {k : Nat} (h : L.getD (k + 1) 0 = 121) : pu_vow L (k + 1) = !pu_vow L k := by
  have h1 : ¬ pu_isV (L.getD (k + 1) 0) := by rw [h]; decide
  rw [pu_vow, decide_eq_false h1, decide_eq_true h]
  simp
theorem pu_vow_y0 {L : List Int32} (h : L.getD 0 0 = 121) : pu_vow L 0 = false := by
  have h1 : ¬ pu_isV (L.getD 0 0) := by rw [h]; decide
  rw [pu_vow, decide_eq_false h1]
theorem pu_vow_n {L : List Int32} {k : Nat} (h : ¬ L.getD k 0 = 121) : pu_vow L k = decide (pu_isV (L.getD k 0)) := by
  cases k with
  | zero => rfl
  | succ k => rw [pu_vow, decide_eq_false h]; simp
/-- in a run of y's they alternate -/
theorem pu_vow_run {L : List Int32} {a : Nat} : ∀ m, (∀ j, j ≤ m → L.getD (a + j) 0 = 121) → pu_vow L (a + m) = (if m % 2 = 0 then pu_vow L a else !pu_vow L a)
  | 0, _ => by simp
  | m + 1, h => by
    have ih := pu_vow_run (L := L) (a := a) m (fun j hj => h j (by omega))
    have h1 := pu_vow_y (L := L) (k := a + m) (h (m + 1) (Nat.le_refl _))
    rw [show a + (m + 1) = a + m + 1 from rfl, h1, ih]
    rcases Nat.mod_two_eq_zero_or_one m with h2 | h2
    · rw [if_pos h2, if_neg (by omega)]
    · rw [if_neg (by omega), if_pos (by omega), Bool.not_not]
theorem pu_vow_first {L : List Int32} {a : Nat} (h : L.getD a 0 = 121) : pu_vow L a = (decide (0 < a) && !pu_vow L (a - 1)) := by
  cases a with
  | zero => rw [pu_vow_y0 h]; rfl
  | succ b => rw [pu_vow_y h]; simp
/-! the search for a vowel, the count, upward -/
theorem pu_anyV_true {L : List Int32} {k n : Nat} (h : k < n) (hv : pu_vow L k = true) : pu_anyV L n = true := by
  induction n with
  | zero => omega
  | succ n ih =>
    rw [pu_anyV]
    rcases Nat.lt_or_ge k n with h1 | h1
    · rw [ih h1]; rfl
    · have : k = n := by omega
      subst this
      rw [hv, Bool.or_true]
theorem pu_anyV_false {L : List Int32} {n : Nat} (h : ∀ k, k < n → pu_vow L k = false) : pu_anyV L n = false := by
  induction n with
  | zero => rfl
  | succ n ih => rw [pu_anyV, ih (fun k hk => h k (by omega)), h n (by omega)]; rfl
theorem pu_meas_le (L : List Int32) : ∀ k, pu_meas L k ≤ k
  | 0 => Nat.le_refl _
  | k + 1 => by
    have := pu_meas_le L k
    rw [pu_meas]
    split <;> omega
end
section
/-! PURE, 6: a stem is no longer than its word -/
theorem pu_len_s1a (L : List Int32) : (pu_s1a L).length ≤ L.length := by
  unfold pu_s1a
  repeat' split
  all_goals first | exact Nat.le_refl _ | (rw [List.length_take]; omega)
theorem pu_len_s1bm (L : List Int32) : (pu_s1bm L).length ≤ L.length + 1 := by
  unfold pu_s1bm
  repeat' split
  all_goals first | omega | (rw [List.length_append]; exact Nat.le_refl _) | (rw [List.length_take]; omega)
theorem pu_len_s1b (L : List Int32) : (pu_s1b L).length ≤ L.length := by
  unfold pu_s1b
  split
  · split
    · rw [List.length_take]; omega
    · exact Nat.le_refl _
  · split
    · rename_i h1 h2
      have h3 := h2.1
      split
      · have := pu_len_s1bm (L.take (L.length - 2))
        rw [List.length_take] at this
        simp only [List.length_cons, List.length_nil] at h3
        omega
      · exact Nat.le_refl _
    · split
      · rename_i h1 h2 h4
        have h3 := h4.1
        split
        · have := pu_len_s1bm (L.take (L.length - 3))
          rw [List.length_take] at this
          simp only [List.length_cons, List.length_nil] at h3
          omega
        · exact Nat.le_refl _
      · exact Nat.le_refl _
theorem pu_len_s1c (L : List Int32) : (pu_s1c L).length ≤ L.length := by
  unfold pu_s1c
  split
  · rename_i h
    have h3 := h.1.1
    simp only [List.length_cons, List.length_nil] at h3
    rw [List.length_append, List.length_take]
    simp only [List.length_cons, List.length_nil]
    omega
  · exact Nat.le_refl _
/-- the place that a search gives is the ending's -/
theorem pu_lng_at (L : List Int32) (F : List (List Int32)) : ∀ (E : List (List Int32)) (i : Nat) (b : Option (Nat × List Int32)), F.drop i = E → (∀ q, b = some q → F.getD q.1 [] = q.2 ∧ q.1 < F.length) → ∀ q, pu_lng L E i b = some q → F.getD q.1 [] = q.2 ∧ q.1 < F.length
  | [], i, b, _, hb, q, hq => hb q hq
  | t :: E, i, b, hd, hb, q, hq => by
    have hi : i < F.length := by
      rcases Nat.lt_or_ge i F.length with h | h
      · exact h
      · rw [List.drop_eq_nil_of_le h] at hd; cases hd
    have h1 : F.drop (i + 1) = E := by
      rw [← List.drop_drop, hd]
      rfl
    unfold pu_lng at hq
    refine pu_lng_at L F E (i + 1) _ h1 (fun r hr => ?_) q hq
    split at hr
    · cases hr
      refine ⟨?_, hi⟩
      rw [List.drop_eq_getElem_cons hi] at hd
      rw [List.getD_eq_getElem?_getD, List.getElem?_eq_getElem hi]
      exact (List.cons.inj hd).1
    · exact hb r hr
theorem pu_len_rep {E S : List (List Int32)} (h : ∀ i, i < E.length → (S.getD i []).length ≤ (E.getD i []).length) (L : List Int32) : (pu_rep E S L).length ≤ L.length := by
  unfold pu_rep
  split
  · rename_i q hq
    have h1 := (pu_lng_spec L E 0 none (fun q hq => by cases hq)).1 q hq
    have h2 := pu_lng_at L E E 0 none rfl (fun q hq => by cases hq) q hq
    have h3 := h q.1 h2.2
    rw [h2.1] at h3
    have h4 := h1.1.1
    split
    · rw [List.length_append, List.length_take]; omega
    · exact Nat.le_refl _
  · exact Nat.le_refl _
theorem pu_S2_le : ∀ i, i < pu_E2.length → (pu_S2.getD i []).length ≤ (pu_E2.getD i []).length := by decide +kernel
theorem pu_S3_le : ∀ i, i < pu_E3.length → (pu_S3.getD i []).length ≤ (pu_E3.getD i []).length := by decide +kernel
theorem pu_len_s4 (L : List Int32) : (pu_s4 L).length ≤ L.length := by
  unfold pu_s4
  split
  · split
    · rw [List.length_take]; omega
    · exact Nat.le_refl _
  · exact Nat.le_refl _
theorem pu_len_s5a (L : List Int32) : (pu_s5a L).length ≤ L.length := by
  unfold pu_s5a
  split
  · rw [List.length_take]; omega
  · exact Nat.le_refl _
theorem pu_len_s5b (L : List Int32) : (pu_s5b L).length ≤ L.length := by
  unfold pu_s5b
  split
  · rw [List.length_take]; omega
  · exact Nat.le_refl _
theorem pu_len_stem (L : List Int32) : (pu_stem L).length ≤ L.length := by
  unfold pu_stem
  exact Nat.le_trans (pu_len_s5b _) (Nat.le_trans (pu_len_s5a _) (Nat.le_trans (pu_len_s4 _) (Nat.le_trans (pu_len_rep pu_S3_le _) (Nat.le_trans (pu_len_rep pu_S2_le _) (Nat.le_trans (pu_len_s1c _) (Nat.le_trans (pu_len_s1b _) (pu_len_s1a _)))))))
theorem pu_len_own (L : List Int32) : (pu_own L).length ≤ L.length := by
  unfold pu_own
  split
  · rw [List.length_take]; omega
  · exact Nat.le_refl _
theorem pu_off_snoc (T : List (Nat × List Int32)) (q : Nat × List Int32) : pu_off (T ++ [q]) (T ++ [q]).length = pu_off T T.length + q.2.length := by
  rw [List.length_append, List.length_singleton]
  show pu_off (T ++ [q]) T.length + ((T ++ [q]).getD T.length (0, [])).2.length = _
  rw [pu_off_app T q T.length (Nat.le_refl _)]
  congr 2
  rw [List.getD_eq_getElem?_getD, List.getElem?_append_right (Nat.le_refl _), Nat.sub_self]
  rfl
/-- what one word adds -/
theorem pu_word_len (L : List Int32) (s : pu_St) : pu_off (pu_word L s).1 (pu_word L s).1.length ≤ pu_off s.1 s.1.length + L.length ∧ (pu_word L s).1.length ≤ s.1.length + 1 ∧ (pu_word L s).2 = s.2 + 1 := by
  unfold pu_word
  dsimp only
  split
  · exact ⟨Nat.le_add_right _ _, Nat.le_succ _, rfl⟩
  · refine ⟨?_, by rw [List.length_append]; exact Nat.le_refl _, rfl⟩
    rw [pu_off_snoc]
    dsimp only
    have h1 := pu_len_own L
    have h2 : ((pu_own L).map pu_low).length = (pu_own L).length := List.length_map _
    split
    · have := pu_len_stem ((pu_own L).map pu_low)
      omega
    · omega
end
section
-- ===== PART A: goes FIRST, ahead of the names: the tables' words, and 'selects' of the private methods out of them =====
/-- a private method of a class that the tables say can be made, by its rows of tables_1 -/
def lw_okq (q : MethodName × Nat) : Prop := (q.1.cls ≠ "java/lang/invoke/MethodHandle" ∧ q.1.cls ≠ "java/lang/invoke/VarHandle") ∧ Cond.instantiable q.1.cls q.2 ∈ tables_1 ∧ Cond.privateMethod q.1 ∈ tables_1 ∧ Cond.instanceMethod q.1 ∈ tables_1
theorem lw_p0 : lw_okq (⟨"WordChain$Text", "sortAt", "(I)I"⟩, 2) := ⟨⟨by decide +kernel, by decide +kernel⟩, List.mem_of_getElem? (i := 32) (by decide +kernel), List.mem_of_getElem? (i := 312) (by decide +kernel), List.mem_of_getElem? (i := 313) (by decide +kernel)⟩
theorem lw_p1 : lw_okq (⟨"WordChain$Text", "isTie", "(I)Z"⟩, 2) := ⟨⟨by decide +kernel, by decide +kernel⟩, List.mem_of_getElem? (i := 32) (by decide +kernel), List.mem_of_getElem? (i := 326) (by decide +kernel), List.mem_of_getElem? (i := 327) (by decide +kernel)⟩
theorem lw_p2 : lw_okq (⟨"WordChain", "takeWords", "(II)V"⟩, 7) := ⟨⟨by decide +kernel, by decide +kernel⟩, List.mem_of_getElem? (i := 24) (by decide +kernel), List.mem_of_getElem? (i := 337) (by decide +kernel), List.mem_of_getElem? (i := 338) (by decide +kernel)⟩
theorem lw_p3 : lw_okq (⟨"WordChain$Stemmer", "markVowels", "()V"⟩, 7) := ⟨⟨by decide +kernel, by decide +kernel⟩, List.mem_of_getElem? (i := 111) (by decide +kernel), List.mem_of_getElem? (i := 375) (by decide +kernel), List.mem_of_getElem? (i := 376) (by decide +kernel)⟩
theorem lw_p4 : lw_okq (⟨"WordChain$Stemmer", "step1a", "()V"⟩, 7) := ⟨⟨by decide +kernel, by decide +kernel⟩, List.mem_of_getElem? (i := 111) (by decide +kernel), List.mem_of_getElem? (i := 379) (by decide +kernel), List.mem_of_getElem? (i := 380) (by decide +kernel)⟩
theorem lw_p5 : lw_okq (⟨"WordChain$Stemmer", "longest", "([LWordChain$Ending;)LWordChain$Ending;"⟩, 7) := ⟨⟨by decide +kernel, by decide +kernel⟩, List.mem_of_getElem? (i := 111) (by decide +kernel), List.mem_of_getElem? (i := 383) (by decide +kernel), List.mem_of_getElem? (i := 384) (by decide +kernel)⟩
theorem lw_p6 : lw_okq (⟨"WordChain$Stemmer", "stemBefore", "(LWordChain$Ending;)I"⟩, 7) := ⟨⟨by decide +kernel, by decide +kernel⟩, List.mem_of_getElem? (i := 111) (by decide +kernel), List.mem_of_getElem? (i := 394) (by decide +kernel), List.mem_of_getElem? (i := 395) (by decide +kernel)⟩
theorem lw_p7 : lw_okq (⟨"WordChain$Stemmer", "become", "(ILjava/lang/String;)V"⟩, 7) := ⟨⟨by decide +kernel, by decide +kernel⟩, List.mem_of_getElem? (i := 111) (by decide +kernel), List.mem_of_getElem? (i := 398) (by decide +kernel), List.mem_of_getElem? (i := 399) (by decide +kernel)⟩
theorem lw_p8 : lw_okq (⟨"WordChain$Stemmer", "step1b", "()V"⟩, 7) := ⟨⟨by decide +kernel, by decide +kernel⟩, List.mem_of_getElem? (i := 111) (by decide +kernel), List.mem_of_getElem? (i := 406) (by decide +kernel), List.mem_of_getElem? (i := 407) (by decide +kernel)⟩
theorem lw_p9 : lw_okq (⟨"WordChain$Stemmer", "measure", "(I)I"⟩, 7) := ⟨⟨by decide +kernel, by decide +kernel⟩, List.mem_of_getElem? (i := 111) (by decide +kernel), List.mem_of_getElem? (i := 418) (by decide +kernel), List.mem_of_getElem? (i := 419) (by decide +kernel)⟩
theorem lw_p10 : lw_okq (⟨"WordChain$Stemmer", "hasVowel", "(I)Z"⟩, 7) := ⟨⟨by decide +kernel, by decide +kernel⟩, List.mem_of_getElem? (i := 111) (by decide +kernel), List.mem_of_getElem? (i := 422) (by decide +kernel), List.mem_of_getElem? (i := 423) (by decide +kernel)⟩
theorem lw_p11 : lw_okq (⟨"WordChain$Stemmer", "mendAfter1b", "()V"⟩, 7) := ⟨⟨by decide +kernel, by decide +kernel⟩, List.mem_of_getElem? (i := 111) (by decide +kernel), List.mem_of_getElem? (i := 426) (by decide +kernel), List.mem_of_getElem? (i := 427) (by decide +kernel)⟩
theorem lw_p12 : lw_okq (⟨"WordChain$Stemmer", "isDouble", "()Z"⟩, 7) := ⟨⟨by decide +kernel, by decide +kernel⟩, List.mem_of_getElem? (i := 111) (by decide +kernel), List.mem_of_getElem? (i := 433) (by decide +kernel), List.mem_of_getElem? (i := 434) (by decide +kernel)⟩
theorem lw_p13 : lw_okq (⟨"WordChain$Stemmer", "isCvc", "(I)Z"⟩, 7) := ⟨⟨by decide +kernel, by decide +kernel⟩, List.mem_of_getElem? (i := 111) (by decide +kernel), List.mem_of_getElem? (i := 439) (by decide +kernel), List.mem_of_getElem? (i := 440) (by decide +kernel)⟩
theorem lw_p14 : lw_okq (⟨"WordChain$Stemmer", "step1c", "()V"⟩, 7) := ⟨⟨by decide +kernel, by decide +kernel⟩, List.mem_of_getElem? (i := 111) (by decide +kernel), List.mem_of_getElem? (i := 443) (by decide +kernel), List.mem_of_getElem? (i := 444) (by decide +kernel)⟩
theorem lw_p15 : lw_okq (⟨"WordChain$Stemmer", "replaceIfAbove", "([LWordChain$Ending;I)V"⟩, 7) := ⟨⟨by decide +kernel, by decide +kernel⟩, List.mem_of_getElem? (i := 111) (by decide +kernel), List.mem_of_getElem? (i := 448) (by decide +kernel), List.mem_of_getElem? (i := 449) (by decide +kernel)⟩
def lw_privs_1 : List (MethodName × Nat) := [(⟨"WordChain$Text", "sortAt", "(I)I"⟩, 2), (⟨"WordChain$Text", "isTie", "(I)Z"⟩, 2), (⟨"WordChain", "takeWords", "(II)V"⟩, 7), (⟨"WordChain$Stemmer", "markVowels", "()V"⟩, 7), (⟨"WordChain$Stemmer", "step1a", "()V"⟩, 7), (⟨"WordChain$Stemmer", "longest", "([LWordChain$Ending;)LWordChain$Ending;"⟩, 7), (⟨"WordChain$Stemmer", "stemBefore", "(LWordChain$Ending;)I"⟩, 7), (⟨"WordChain$Stemmer", "become", "(ILjava/lang/String;)V"⟩, 7), (⟨"WordChain$Stemmer", "step1b", "()V"⟩, 7), (⟨"WordChain$Stemmer", "measure", "(I)I"⟩, 7), (⟨"WordChain$Stemmer", "hasVowel", "(I)Z"⟩, 7), (⟨"WordChain$Stemmer", "mendAfter1b", "()V"⟩, 7), (⟨"WordChain$Stemmer", "isDouble", "()Z"⟩, 7), (⟨"WordChain$Stemmer", "isCvc", "(I)Z"⟩, 7), (⟨"WordChain$Stemmer", "step1c", "()V"⟩, 7), (⟨"WordChain$Stemmer", "replaceIfAbove", "([LWordChain$Ending;I)V"⟩, 7)]
theorem lw_r1 : ∀ q ∈ lw_privs_1, lw_okq q := List.forall_mem_cons.mpr ⟨lw_p0, List.forall_mem_cons.mpr ⟨lw_p1, List.forall_mem_cons.mpr ⟨lw_p2, List.forall_mem_cons.mpr ⟨lw_p3, List.forall_mem_cons.mpr ⟨lw_p4, List.forall_mem_cons.mpr ⟨lw_p5, List.forall_mem_cons.mpr ⟨lw_p6, List.forall_mem_cons.mpr ⟨lw_p7, List.forall_mem_cons.mpr ⟨lw_p8, List.forall_mem_cons.mpr ⟨lw_p9, List.forall_mem_cons.mpr ⟨lw_p10, List.forall_mem_cons.mpr ⟨lw_p11, List.forall_mem_cons.mpr ⟨lw_p12, List.forall_mem_cons.mpr ⟨lw_p13, List.forall_mem_cons.mpr ⟨lw_p14, List.forall_mem_cons.mpr ⟨lw_p15, fun _ h => absurd h List.not_mem_nil⟩⟩⟩⟩⟩⟩⟩⟩⟩⟩⟩⟩⟩⟩⟩⟩
theorem lw_p16 : lw_okq (⟨"WordChain$Stemmer", "step4", "()V"⟩, 7) := ⟨⟨by decide +kernel, by decide +kernel⟩, List.mem_of_getElem? (i := 111) (by decide +kernel), List.mem_of_getElem? (i := 452) (by decide +kernel), List.mem_of_getElem? (i := 453) (by decide +kernel)⟩
theorem lw_p17 : lw_okq (⟨"WordChain$Stemmer", "step5a", "()V"⟩, 7) := ⟨⟨by decide +kernel, by decide +kernel⟩, List.mem_of_getElem? (i := 111) (by decide +kernel), List.mem_of_getElem? (i := 457) (by decide +kernel), List.mem_of_getElem? (i := 458) (by decide +kernel)⟩
theorem lw_p18 : lw_okq (⟨"WordChain$Stemmer", "step5b", "()V"⟩, 7) := ⟨⟨by decide +kernel, by decide +kernel⟩, List.mem_of_getElem? (i := 111) (by decide +kernel), List.mem_of_getElem? (i := 461) (by decide +kernel), List.mem_of_getElem? (i := 462) (by decide +kernel)⟩
theorem lw_p19 : lw_okq (⟨"java/lang/Throwable", "fillInStackTrace", "(I)Ljava/lang/Throwable;"⟩, 6) := ⟨⟨by decide +kernel, by decide +kernel⟩, List.mem_of_getElem? (i := 522) (by decide +kernel), List.mem_of_getElem? (i := 520) (by decide +kernel), List.mem_of_getElem? (i := 521) (by decide +kernel)⟩
theorem lw_p20 : lw_okq (⟨"WordChain", "append", "(I)V"⟩, 7) := ⟨⟨by decide +kernel, by decide +kernel⟩, List.mem_of_getElem? (i := 24) (by decide +kernel), List.mem_of_getElem? (i := 551) (by decide +kernel), List.mem_of_getElem? (i := 552) (by decide +kernel)⟩
theorem lw_p21 : lw_okq (⟨"WordChain$Tokens", "areAlike", "(II)Z"⟩, 4) := ⟨⟨by decide +kernel, by decide +kernel⟩, List.mem_of_getElem? (i := 235) (by decide +kernel), List.mem_of_getElem? (i := 631) (by decide +kernel), List.mem_of_getElem? (i := 632) (by decide +kernel)⟩
theorem lw_p22 : lw_okq (⟨"WordChainModel", "decode", "([BII)V"⟩, 16) := ⟨⟨by decide +kernel, by decide +kernel⟩, List.mem_of_getElem? (i := 646) (by decide +kernel), List.mem_of_getElem? (i := 802) (by decide +kernel), List.mem_of_getElem? (i := 803) (by decide +kernel)⟩
theorem lw_p23 : lw_okq (⟨"WordChainModel", "cut", "([III)V"⟩, 16) := ⟨⟨by decide +kernel, by decide +kernel⟩, List.mem_of_getElem? (i := 646) (by decide +kernel), List.mem_of_getElem? (i := 813) (by decide +kernel), List.mem_of_getElem? (i := 814) (by decide +kernel)⟩
theorem lw_p24 : lw_okq (⟨"WordChainModel", "token", "([III)V"⟩, 16) := ⟨⟨by decide +kernel, by decide +kernel⟩, List.mem_of_getElem? (i := 646) (by decide +kernel), List.mem_of_getElem? (i := 828) (by decide +kernel), List.mem_of_getElem? (i := 829) (by decide +kernel)⟩
theorem lw_p25 : lw_okq (⟨"WordChainModel", "is", "(Ljava/lang/String;)Z"⟩, 16) := ⟨⟨by decide +kernel, by decide +kernel⟩, List.mem_of_getElem? (i := 646) (by decide +kernel), List.mem_of_getElem? (i := 835) (by decide +kernel), List.mem_of_getElem? (i := 836) (by decide +kernel)⟩
theorem lw_p26 : lw_okq (⟨"WordChainModel", "ends", "(Ljava/lang/String;)Z"⟩, 16) := ⟨⟨by decide +kernel, by decide +kernel⟩, List.mem_of_getElem? (i := 646) (by decide +kernel), List.mem_of_getElem? (i := 840) (by decide +kernel), List.mem_of_getElem? (i := 841) (by decide +kernel)⟩
theorem lw_p27 : lw_okq (⟨"WordChainModel", "stem", "()V"⟩, 16) := ⟨⟨by decide +kernel, by decide +kernel⟩, List.mem_of_getElem? (i := 646) (by decide +kernel), List.mem_of_getElem? (i := 845) (by decide +kernel), List.mem_of_getElem? (i := 846) (by decide +kernel)⟩
theorem lw_p28 : lw_okq (⟨"WordChainModel", "stemOneB", "()V"⟩, 16) := ⟨⟨by decide +kernel, by decide +kernel⟩, List.mem_of_getElem? (i := 646) (by decide +kernel), List.mem_of_getElem? (i := 853) (by decide +kernel), List.mem_of_getElem? (i := 854) (by decide +kernel)⟩
theorem lw_p29 : lw_okq (⟨"WordChainModel", "measure", "(I)I"⟩, 16) := ⟨⟨by decide +kernel, by decide +kernel⟩, List.mem_of_getElem? (i := 646) (by decide +kernel), List.mem_of_getElem? (i := 858) (by decide +kernel), List.mem_of_getElem? (i := 859) (by decide +kernel)⟩
theorem lw_p30 : lw_okq (⟨"WordChainModel", "vowel", "(I)Z"⟩, 16) := ⟨⟨by decide +kernel, by decide +kernel⟩, List.mem_of_getElem? (i := 646) (by decide +kernel), List.mem_of_getElem? (i := 862) (by decide +kernel), List.mem_of_getElem? (i := 863) (by decide +kernel)⟩
theorem lw_p31 : lw_okq (⟨"WordChainModel", "anyVowel", "(I)Z"⟩, 16) := ⟨⟨by decide +kernel, by decide +kernel⟩, List.mem_of_getElem? (i := 646) (by decide +kernel), List.mem_of_getElem? (i := 868) (by decide +kernel), List.mem_of_getElem? (i := 869) (by decide +kernel)⟩
def lw_privs_2 : List (MethodName × Nat) := [(⟨"WordChain$Stemmer", "step4", "()V"⟩, 7), (⟨"WordChain$Stemmer", "step5a", "()V"⟩, 7), (⟨"WordChain$Stemmer", "step5b", "()V"⟩, 7), (⟨"java/lang/Throwable", "fillInStackTrace", "(I)Ljava/lang/Throwable;"⟩, 6), (⟨"WordChain", "append", "(I)V"⟩, 7), (⟨"WordChain$Tokens", "areAlike", "(II)Z"⟩, 4), (⟨"WordChainModel", "decode", "([BII)V"⟩, 16), (⟨"WordChainModel", "cut", "([III)V"⟩, 16), (⟨"WordChainModel", "token", "([III)V"⟩, 16), (⟨"WordChainModel", "is", "(Ljava/lang/String;)Z"⟩, 16), (⟨"WordChainModel", "ends", "(Ljava/lang/String;)Z"⟩, 16), (⟨"WordChainModel", "stem", "()V"⟩, 16), (⟨"WordChainModel", "stemOneB", "()V"⟩, 16), (⟨"WordChainModel", "measure", "(I)I"⟩, 16), (⟨"WordChainModel", "vowel", "(I)Z"⟩, 16), (⟨"WordChainModel", "anyVowel", "(I)Z"⟩, 16)]
theorem lw_r2 : ∀ q ∈ lw_privs_2, lw_okq q := List.forall_mem_cons.mpr ⟨lw_p16, List.forall_mem_cons.mpr ⟨lw_p17, List.forall_mem_cons.mpr ⟨lw_p18, List.forall_mem_cons.mpr ⟨lw_p19, List.forall_mem_cons.mpr ⟨lw_p20, List.forall_mem_cons.mpr ⟨lw_p21, List.forall_mem_cons.mpr ⟨lw_p22, List.forall_mem_cons.mpr ⟨lw_p23, List.forall_mem_cons.mpr ⟨lw_p24, List.forall_mem_cons.mpr ⟨lw_p25, List.forall_mem_cons.mpr ⟨lw_p26, List.forall_mem_cons.mpr ⟨lw_p27, List.forall_mem_cons.mpr ⟨lw_p28, List.forall_mem_cons.mpr ⟨lw_p29, List.forall_mem_cons.mpr ⟨lw_p30, List.forall_mem_cons.mpr ⟨lw_p31, fun _ h => absurd h List.not_mem_nil⟩⟩⟩⟩⟩⟩⟩⟩⟩⟩⟩⟩⟩⟩⟩⟩
theorem lw_p32 : lw_okq (⟨"WordChainModel", "instead", "(ILjava/lang/String;)V"⟩, 16) := ⟨⟨by decide +kernel, by decide +kernel⟩, List.mem_of_getElem? (i := 646) (by decide +kernel), List.mem_of_getElem? (i := 874) (by decide +kernel), List.mem_of_getElem? (i := 875) (by decide +kernel)⟩
theorem lw_p33 : lw_okq (⟨"WordChainModel", "cvc", "(I)Z"⟩, 16) := ⟨⟨by decide +kernel, by decide +kernel⟩, List.mem_of_getElem? (i := 646) (by decide +kernel), List.mem_of_getElem? (i := 878) (by decide +kernel), List.mem_of_getElem? (i := 879) (by decide +kernel)⟩
theorem lw_p34 : lw_okq (⟨"WordChainModel", "longest", "([Ljava/lang/String;)I"⟩, 16) := ⟨⟨by decide +kernel, by decide +kernel⟩, List.mem_of_getElem? (i := 646) (by decide +kernel), List.mem_of_getElem? (i := 883) (by decide +kernel), List.mem_of_getElem? (i := 884) (by decide +kernel)⟩
theorem lw_p35 : lw_okq (⟨"WordChainModel", "there", "(I)Z"⟩, 16) := ⟨⟨by decide +kernel, by decide +kernel⟩, List.mem_of_getElem? (i := 646) (by decide +kernel), List.mem_of_getElem? (i := 893) (by decide +kernel), List.mem_of_getElem? (i := 894) (by decide +kernel)⟩
theorem lw_p36 : lw_okq (⟨"WordChainModel", "same", "(II)Z"⟩, 16) := ⟨⟨by decide +kernel, by decide +kernel⟩, List.mem_of_getElem? (i := 646) (by decide +kernel), List.mem_of_getElem? (i := 905) (by decide +kernel), List.mem_of_getElem? (i := 906) (by decide +kernel)⟩
def lw_privs_3 : List (MethodName × Nat) := [(⟨"WordChainModel", "instead", "(ILjava/lang/String;)V"⟩, 16), (⟨"WordChainModel", "cvc", "(I)Z"⟩, 16), (⟨"WordChainModel", "longest", "([Ljava/lang/String;)I"⟩, 16), (⟨"WordChainModel", "there", "(I)Z"⟩, 16), (⟨"WordChainModel", "same", "(II)Z"⟩, 16)]
theorem lw_r3 : ∀ q ∈ lw_privs_3, lw_okq q := List.forall_mem_cons.mpr ⟨lw_p32, List.forall_mem_cons.mpr ⟨lw_p33, List.forall_mem_cons.mpr ⟨lw_p34, List.forall_mem_cons.mpr ⟨lw_p35, List.forall_mem_cons.mpr ⟨lw_p36, fun _ h => absurd h List.not_mem_nil⟩⟩⟩⟩⟩
def lw_privs : List (MethodName × Nat) := lw_privs_1 ++ (lw_privs_2 ++ (lw_privs_3))
def lw_tbl : List Cond := k2_sels lw_privs ++ tables_1
theorem lw_privs_ok : ∀ q ∈ lw_privs, lw_okq q := by
  show ∀ q ∈ lw_privs_1 ++ (lw_privs_2 ++ (lw_privs_3)), lw_okq q
  exact List.forall_mem_append.mpr ⟨lw_r1, List.forall_mem_append.mpr ⟨lw_r2, lw_r3⟩⟩
end
section
/-! NAMES: classes, fields, methods -/
def R_En : String := "WordChain$Ending"
def F_En : u_T := fun k => match k with
  | 0 => ("WordChain$Ending", "text", "Ljava/lang/String;", true)
  | _ => ("WordChain$Ending", "substitute", "Ljava/lang/String;", true)
def t_En : Nat → FieldType := fun k => match k with
  | 0 => .object "java/lang/String"
  | _ => .object "java/lang/String"
theorem n_En : ∀ a, a < 2 → ∀ b, b < 2 → a ≠ b → (F_En a).2.1 ≠ (F_En b).2.1 := by decide +kernel
theorem t_En_ok : ∀ k, k < 2 → parseFieldDescriptor (F_En k).2.2.1 = some (t_En k) := by decide +kernel
def R_Si : String := "WordChain$SilentWords"
def F_Si : u_T := fun k => match k with
  | _ => ("WordChain$SilentWords", "keys", "[I", true)
def t_Si : Nat → FieldType := fun k => match k with
  | _ => .array .int
theorem n_Si : ∀ a, a < 1 → ∀ b, b < 1 → a ≠ b → (F_Si a).2.1 ≠ (F_Si b).2.1 := by decide +kernel
theorem t_Si_ok : ∀ k, k < 1 → parseFieldDescriptor (F_Si k).2.2.1 = some (t_Si k) := by decide +kernel
def R_Sm : String := "WordChain$Stemmer"
def F_Sm : u_T := fun k => match k with
  | 0 => ("WordChain$Stemmer", "word", "LWordChain$Word;", true)
  | 1 => ("WordChain$Stemmer", "vowels", "[Z", true)
  | 2 => ("WordChain$Stemmer", "endings1a", "[LWordChain$Ending;", true)
  | 3 => ("WordChain$Stemmer", "endings1b", "[LWordChain$Ending;", true)
  | 4 => ("WordChain$Stemmer", "endings2", "[LWordChain$Ending;", true)
  | 5 => ("WordChain$Stemmer", "endings3", "[LWordChain$Ending;", true)
  | _ => ("WordChain$Stemmer", "endings4", "[LWordChain$Ending;", true)
def t_Sm : Nat → FieldType := fun k => match k with
  | 0 => .object "WordChain$Word"
  | 1 => .array .boolean
  | 2 => .array (.object "WordChain$Ending")
  | 3 => .array (.object "WordChain$Ending")
  | 4 => .array (.object "WordChain$Ending")
  | 5 => .array (.object "WordChain$Ending")
  | _ => .array (.object "WordChain$Ending")
theorem n_Sm : ∀ a, a < 7 → ∀ b, b < 7 → a ≠ b → (F_Sm a).2.1 ≠ (F_Sm b).2.1 := by decide +kernel
theorem t_Sm_ok : ∀ k, k < 7 → parseFieldDescriptor (F_Sm k).2.2.1 = some (t_Sm k) := by decide +kernel
def R_Te : String := "WordChain$Text"
def F_Te : u_T := fun k => match k with
  | 0 => ("WordChain$Text", "characters", "[I", true)
  | _ => ("WordChain$Text", "length", "I", false)
def t_Te : Nat → FieldType := fun k => match k with
  | 0 => .array .int
  | _ => .int
theorem n_Te : ∀ a, a < 2 → ∀ b, b < 2 → a ≠ b → (F_Te a).2.1 ≠ (F_Te b).2.1 := by decide +kernel
theorem t_Te_ok : ∀ k, k < 2 → parseFieldDescriptor (F_Te k).2.2.1 = some (t_Te k) := by decide +kernel
def R_To : String := "WordChain$Tokens"
def F_To : u_T := fun k => match k with
  | 0 => ("WordChain$Tokens", "characters", "[I", true)
  | 1 => ("WordChain$Tokens", "positions", "[I", true)
  | 2 => ("WordChain$Tokens", "starts", "[I", true)
  | _ => ("WordChain$Tokens", "size", "I", false)
def t_To : Nat → FieldType := fun k => match k with
  | 0 => .array .int
  | 1 => .array .int
  | 2 => .array .int
  | _ => .int
theorem n_To : ∀ a, a < 4 → ∀ b, b < 4 → a ≠ b → (F_To a).2.1 ≠ (F_To b).2.1 := by decide +kernel
theorem t_To_ok : ∀ k, k < 4 → parseFieldDescriptor (F_To k).2.2.1 = some (t_To k) := by decide +kernel
def R_Wo : String := "WordChain$Word"
def F_Wo : u_T := fun k => match k with
  | 0 => ("WordChain$Word", "characters", "[I", true)
  | _ => ("WordChain$Word", "length", "I", false)
def t_Wo : Nat → FieldType := fun k => match k with
  | 0 => .array .int
  | _ => .int
theorem n_Wo : ∀ a, a < 2 → ∀ b, b < 2 → a ≠ b → (F_Wo a).2.1 ≠ (F_Wo b).2.1 := by decide +kernel
theorem t_Wo_ok : ∀ k, k < 2 → parseFieldDescriptor (F_Wo k).2.2.1 = some (t_Wo k) := by decide +kernel
def R_X : String := "WordChain"
def F_X : u_T := fun k => match k with
  | 0 => ("WordChain", "input", "[B", true)
  | 1 => ("WordChain", "inputLength", "I", false)
  | 2 => ("WordChain", "text", "LWordChain$Text;", true)
  | 3 => ("WordChain", "silentWords", "LWordChain$SilentWords;", true)
  | 4 => ("WordChain", "stemmer", "LWordChain$Stemmer;", true)
  | 5 => ("WordChain", "tokens", "LWordChain$Tokens;", true)
  | _ => ("WordChain", "words", "I", false)
def t_X : Nat → FieldType := fun k => match k with
  | 0 => .array .byte
  | 1 => .int
  | 2 => .object "WordChain$Text"
  | 3 => .object "WordChain$SilentWords"
  | 4 => .object "WordChain$Stemmer"
  | 5 => .object "WordChain$Tokens"
  | _ => .int
theorem n_X : ∀ a, a < 7 → ∀ b, b < 7 → a ≠ b → (F_X a).2.1 ≠ (F_X b).2.1 := by decide +kernel
theorem t_X_ok : ∀ k, k < 7 → parseFieldDescriptor (F_X k).2.2.1 = some (t_X k) := by decide +kernel
def R_M : String := "WordChainModel"
def F_M : u_T := fun k => match k with
  | 0 => ("WordChainModel", "STOPS", "[Ljava/lang/String;", true)
  | 1 => ("WordChainModel", "TWO", "[Ljava/lang/String;", true)
  | 2 => ("WordChainModel", "THREE", "[Ljava/lang/String;", true)
  | 3 => ("WordChainModel", "FOUR", "[Ljava/lang/String;", true)
  | 4 => ("WordChainModel", "input", "[B", true)
  | 5 => ("WordChainModel", "inputSize", "I", false)
  | 6 => ("WordChainModel", "thrown", "I", false)
  | 7 => ("WordChainModel", "chars", "[I", true)
  | 8 => ("WordChainModel", "charMany", "I", false)
  | 9 => ("WordChainModel", "cutChars", "[I", true)
  | 10 => ("WordChainModel", "cutAt", "[I", true)
  | 11 => ("WordChainModel", "cutPosition", "[I", true)
  | 12 => ("WordChainModel", "cutMany", "I", false)
  | 13 => ("WordChainModel", "cutWords", "I", false)
  | 14 => ("WordChainModel", "word", "[I", true)
  | _ => ("WordChainModel", "wordMany", "I", false)
def t_M : Nat → FieldType := fun k => match k with
  | 0 => .array (.object "java/lang/String")
  | 1 => .array (.object "java/lang/String")
  | 2 => .array (.object "java/lang/String")
  | 3 => .array (.object "java/lang/String")
  | 4 => .array .byte
  | 5 => .int
  | 6 => .int
  | 7 => .array .int
  | 8 => .int
  | 9 => .array .int
  | 10 => .array .int
  | 11 => .array .int
  | 12 => .int
  | 13 => .int
  | 14 => .array .int
  | _ => .int
theorem n_M : ∀ a, a < 16 → ∀ b, b < 16 → a ≠ b → (F_M a).2.1 ≠ (F_M b).2.1 := by decide +kernel
theorem t_M_ok : ∀ k, k < 16 → parseFieldDescriptor (F_M k).2.2.1 = some (t_M k) := by decide +kernel
abbrev classes : List vw_C := [(R_En, F_En, 2), (R_Si, F_Si, 1), (R_Sm, F_Sm, 7), (R_Te, F_Te, 2), (R_To, F_To, 4), (R_Wo, F_Wo, 2), (R_X, F_X, 7), (R_M, F_M, 16)]
abbrev b_X_init : ByteArray := prog_1_method_1_code
def y_X_init : MethodName := ⟨"WordChain", "<init>", "()V"⟩
abbrev b_Te_init : ByteArray := prog_6_method_1_code
def y_Te_init : MethodName := ⟨"WordChain$Text", "<init>", "(I)V"⟩
abbrev b_Si_init : ByteArray := prog_3_method_1_code
def y_Si_init : MethodName := ⟨"WordChain$SilentWords", "<init>", "()V"⟩
abbrev b_Str_length : ByteArray := prog_17_method_54_code
def y_Str_length : MethodName := ⟨"java/lang/String", "length", "()I"⟩
abbrev b_Str_coder : ByteArray := prog_17_method_152_code
def y_Str_coder : MethodName := ⟨"java/lang/String", "coder", "()B"⟩
abbrev b_Str_charAt : ByteArray := prog_17_method_56_code
def y_Str_charAt : MethodName := ⟨"java/lang/String", "charAt", "(I)C"⟩
abbrev b_Str_isLatin1 : ByteArray := prog_17_method_154_code
def y_Str_isLatin1 : MethodName := ⟨"java/lang/String", "isLatin1", "()Z"⟩
abbrev b_Lat_charAt : ByteArray := prog_18_method_2_code
def y_Lat_charAt : MethodName := ⟨"java/lang/StringLatin1", "charAt", "([BI)C"⟩
abbrev b_Str_checkIndex : ByteArray := prog_17_method_155_code
def y_Str_checkIndex : MethodName := ⟨"java/lang/String", "checkIndex", "(II)V"⟩
abbrev b_Pre_checkIndex : ByteArray := prog_23_method_11_code
def y_Pre_checkIndex : MethodName := ⟨"jdk/internal/util/Preconditions", "checkIndex", "(IILjava/util/function/BiFunction;)I"⟩
abbrev b_U16_charAt : ByteArray := prog_19_method_83_code
def y_U16_charAt : MethodName := ⟨"java/lang/StringUTF16", "charAt", "([BI)C"⟩
abbrev b_U16_checkIndex : ByteArray := prog_19_method_91_code
def y_U16_checkIndex : MethodName := ⟨"java/lang/StringUTF16", "checkIndex", "(I[B)V"⟩
abbrev b_U16_length : ByteArray := prog_19_method_6_code
def y_U16_length : MethodName := ⟨"java/lang/StringUTF16", "length", "([B)I"⟩
abbrev b_U16_getChar : ByteArray := prog_19_method_5_code
def y_U16_getChar : MethodName := ⟨"java/lang/StringUTF16", "getChar", "([BI)C"⟩
abbrev b_Si_withLetter : ByteArray := prog_3_method_3_code
def y_Si_withLetter : MethodName := ⟨"WordChain$SilentWords", "withLetter", "(II)I"⟩
abbrev b_Sm_init : ByteArray := prog_5_method_1_code
def y_Sm_init : MethodName := ⟨"WordChain$Stemmer", "<init>", "(I)V"⟩
abbrev b_En_init : ByteArray := prog_2_method_1_code
def y_En_init : MethodName := ⟨"WordChain$Ending", "<init>", "(Ljava/lang/String;Ljava/lang/String;)V"⟩
abbrev b_Wo_init : ByteArray := prog_9_method_1_code
def y_Wo_init : MethodName := ⟨"WordChain$Word", "<init>", "(I)V"⟩
abbrev b_To_init : ByteArray := prog_7_method_1_code
def y_To_init : MethodName := ⟨"WordChain$Tokens", "<init>", "(I)V"⟩
abbrev b_X_cut : ByteArray := prog_1_method_4_code
def y_X_cut : MethodName := ⟨"WordChain", "cut", "()I"⟩
abbrev b_Te_read : ByteArray := prog_6_method_2_code
def y_Te_read : MethodName := ⟨"WordChain$Text", "read", "([BI)V"⟩
abbrev b_Ut_sizeAt : ByteArray := prog_8_method_2_code
def y_Ut_sizeAt : MethodName := ⟨"WordChain$Utf8", "sizeAt", "([BII)I"⟩
abbrev b_Ut_sizeByLead : ByteArray := prog_8_method_4_code
def y_Ut_sizeByLead : MethodName := ⟨"WordChain$Utf8", "sizeByLead", "(I)I"⟩
abbrev b_Ut_isSecond : ByteArray := prog_8_method_5_code
def y_Ut_isSecond : MethodName := ⟨"WordChain$Utf8", "isSecond", "(II)Z"⟩
abbrev b_Ut_valueAt : ByteArray := prog_8_method_3_code
def y_Ut_valueAt : MethodName := ⟨"WordChain$Utf8", "valueAt", "([BII)I"⟩
abbrev b_To_clear : ByteArray := prog_7_method_2_code
def y_To_clear : MethodName := ⟨"WordChain$Tokens", "clear", "()V"⟩
abbrev b_Te_spanEnd : ByteArray := prog_6_method_3_code
def y_Te_spanEnd : MethodName := ⟨"WordChain$Text", "spanEnd", "(I)I"⟩
abbrev b_Te_sortAt : ByteArray := prog_6_method_6_code
def y_Te_sortAt : MethodName := ⟨"WordChain$Text", "sortAt", "(I)I"⟩
abbrev b_So_of : ByteArray := prog_4_method_2_code
def y_So_of : MethodName := ⟨"WordChain$Sorts", "of", "(I)I"⟩
abbrev b_So_isLetter : ByteArray := prog_4_method_5_code
def y_So_isLetter : MethodName := ⟨"WordChain$Sorts", "isLetter", "(I)Z"⟩
abbrev b_So_isInner : ByteArray := prog_4_method_3_code
def y_So_isInner : MethodName := ⟨"WordChain$Sorts", "isInner", "(I)Z"⟩
abbrev b_Te_isTie : ByteArray := prog_6_method_5_code
def y_Te_isTie : MethodName := ⟨"WordChain$Text", "isTie", "(I)Z"⟩
abbrev b_So_ties : ByteArray := prog_4_method_4_code
def y_So_ties : MethodName := ⟨"WordChain$Sorts", "ties", "(II)Z"⟩
abbrev b_Te_isWord : ByteArray := prog_6_method_4_code
def y_Te_isWord : MethodName := ⟨"WordChain$Text", "isWord", "(II)Z"⟩
abbrev b_X_takeWords : ByteArray := prog_1_method_11_code
def y_X_takeWords : MethodName := ⟨"WordChain", "takeWords", "(II)V"⟩
abbrev b_Wo_take : ByteArray := prog_9_method_2_code
def y_Wo_take : MethodName := ⟨"WordChain$Word", "take", "([III)V"⟩
abbrev b_Wo_dropOwnersEnding : ByteArray := prog_9_method_3_code
def y_Wo_dropOwnersEnding : MethodName := ⟨"WordChain$Word", "dropOwnersEnding", "()V"⟩
abbrev b_Wo_lower : ByteArray := prog_9_method_4_code
def y_Wo_lower : MethodName := ⟨"WordChain$Word", "lower", "()V"⟩
abbrev b_Wo_lowered : ByteArray := prog_9_method_8_code
def y_Wo_lowered : MethodName := ⟨"WordChain$Word", "lowered", "(I)I"⟩
abbrev b_Si_have : ByteArray := prog_3_method_2_code
def y_Si_have : MethodName := ⟨"WordChain$SilentWords", "have", "(LWordChain$Word;)Z"⟩
abbrev b_Wo_isSmallLetters : ByteArray := prog_9_method_5_code
def y_Wo_isSmallLetters : MethodName := ⟨"WordChain$Word", "isSmallLetters", "()Z"⟩
abbrev b_Sm_stemIfFit : ByteArray := prog_5_method_2_code
def y_Sm_stemIfFit : MethodName := ⟨"WordChain$Stemmer", "stemIfFit", "()V"⟩
abbrev b_Sm_markVowels : ByteArray := prog_5_method_14_code
def y_Sm_markVowels : MethodName := ⟨"WordChain$Stemmer", "markVowels", "()V"⟩
abbrev b_Sm_step1a : ByteArray := prog_5_method_3_code
def y_Sm_step1a : MethodName := ⟨"WordChain$Stemmer", "step1a", "()V"⟩
abbrev b_Sm_longest : ByteArray := prog_5_method_11_code
def y_Sm_longest : MethodName := ⟨"WordChain$Stemmer", "longest", "([LWordChain$Ending;)LWordChain$Ending;"⟩
abbrev b_Wo_endsWith : ByteArray := prog_9_method_6_code
def y_Wo_endsWith : MethodName := ⟨"WordChain$Word", "endsWith", "(Ljava/lang/String;)Z"⟩
abbrev b_Sm_stemBefore : ByteArray := prog_5_method_12_code
def y_Sm_stemBefore : MethodName := ⟨"WordChain$Stemmer", "stemBefore", "(LWordChain$Ending;)I"⟩
abbrev b_Sm_become : ByteArray := prog_5_method_13_code
def y_Sm_become : MethodName := ⟨"WordChain$Stemmer", "become", "(ILjava/lang/String;)V"⟩
abbrev b_Wo_append : ByteArray := prog_9_method_7_code
def y_Wo_append : MethodName := ⟨"WordChain$Word", "append", "(Ljava/lang/String;)V"⟩
abbrev b_Sm_step1b : ByteArray := prog_5_method_4_code
def y_Sm_step1b : MethodName := ⟨"WordChain$Stemmer", "step1b", "()V"⟩
abbrev b_Str_equals : ByteArray := prog_17_method_66_code
def y_Str_equals : MethodName := ⟨"java/lang/String", "equals", "(Ljava/lang/Object;)Z"⟩
abbrev b_Lat_equals : ByteArray := prog_18_method_13_code
def y_Lat_equals : MethodName := ⟨"java/lang/StringLatin1", "equals", "([B[B)Z"⟩
abbrev b_Sm_measure : ByteArray := prog_5_method_15_code
def y_Sm_measure : MethodName := ⟨"WordChain$Stemmer", "measure", "(I)I"⟩
abbrev b_Sm_hasVowel : ByteArray := prog_5_method_16_code
def y_Sm_hasVowel : MethodName := ⟨"WordChain$Stemmer", "hasVowel", "(I)Z"⟩
abbrev b_Sm_mendAfter1b : ByteArray := prog_5_method_5_code
def y_Sm_mendAfter1b : MethodName := ⟨"WordChain$Stemmer", "mendAfter1b", "()V"⟩
abbrev b_Sm_isDouble : ByteArray := prog_5_method_17_code
def y_Sm_isDouble : MethodName := ⟨"WordChain$Stemmer", "isDouble", "()Z"⟩
abbrev b_Sm_isCvc : ByteArray := prog_5_method_18_code
def y_Sm_isCvc : MethodName := ⟨"WordChain$Stemmer", "isCvc", "(I)Z"⟩
abbrev b_Sm_step1c : ByteArray := prog_5_method_6_code
def y_Sm_step1c : MethodName := ⟨"WordChain$Stemmer", "step1c", "()V"⟩
abbrev b_Sm_replaceIfAbove : ByteArray := prog_5_method_7_code
def y_Sm_replaceIfAbove : MethodName := ⟨"WordChain$Stemmer", "replaceIfAbove", "([LWordChain$Ending;I)V"⟩
abbrev b_Sm_step4 : ByteArray := prog_5_method_8_code
def y_Sm_step4 : MethodName := ⟨"WordChain$Stemmer", "step4", "()V"⟩
abbrev b_Sm_step5a : ByteArray := prog_5_method_9_code
def y_Sm_step5a : MethodName := ⟨"WordChain$Stemmer", "step5a", "()V"⟩
abbrev b_Sm_step5b : ByteArray := prog_5_method_10_code
def y_Sm_step5b : MethodName := ⟨"WordChain$Stemmer", "step5b", "()V"⟩
abbrev b_To_add : ByteArray := prog_7_method_3_code
def y_To_add : MethodName := ⟨"WordChain$Tokens", "add", "(LWordChain$Word;I)V"⟩
abbrev b_X_count : ByteArray := prog_1_method_9_code
def y_X_count : MethodName := ⟨"WordChain", "count", "(I)I"⟩
abbrev b_X_feed : ByteArray := prog_1_method_2_code
def y_X_feed : MethodName := ⟨"WordChain", "feed", "(IIIII)I"⟩
abbrev b_X_append : ByteArray := prog_1_method_10_code
def y_X_append : MethodName := ⟨"WordChain", "append", "(I)V"⟩
abbrev b_X_end : ByteArray := prog_1_method_3_code
def y_X_end : MethodName := ⟨"WordChain", "end", "(I)I"⟩
abbrev b_X_token : ByteArray := prog_1_method_5_code
def y_X_token : MethodName := ⟨"WordChain", "token", "(II)I"⟩
abbrev b_To_has : ByteArray := prog_7_method_4_code
def y_To_has : MethodName := ⟨"WordChain$Tokens", "has", "(I)Z"⟩
abbrev b_To_lengthOf : ByteArray := prog_7_method_5_code
def y_To_lengthOf : MethodName := ⟨"WordChain$Tokens", "lengthOf", "(I)I"⟩
abbrev b_X_character : ByteArray := prog_1_method_6_code
def y_X_character : MethodName := ⟨"WordChain", "character", "(II)I"⟩
abbrev b_X_first : ByteArray := prog_1_method_7_code
def y_X_first : MethodName := ⟨"WordChain", "first", "(I)I"⟩
abbrev b_To_firstLike : ByteArray := prog_7_method_6_code
def y_To_firstLike : MethodName := ⟨"WordChain$Tokens", "firstLike", "(I)I"⟩
abbrev b_To_areAlike : ByteArray := prog_7_method_7_code
def y_To_areAlike : MethodName := ⟨"WordChain$Tokens", "areAlike", "(II)Z"⟩
abbrev b_X_sort : ByteArray := prog_1_method_8_code
def y_X_sort : MethodName := ⟨"WordChain", "sort", "(I)I"⟩
abbrev b_M_init : ByteArray := prog_11_method_1_code
def y_M_init : MethodName := ⟨"WordChainModel", "<init>", "()V"⟩
abbrev b_M_thrown : ByteArray := prog_11_method_2_code
def y_M_thrown : MethodName := ⟨"WordChainModel", "thrown", "()I"⟩
abbrev b_M_feed : ByteArray := prog_11_method_23_code
def y_M_feed : MethodName := ⟨"WordChainModel", "feed", "(IIIII)I"⟩
abbrev b_M_end : ByteArray := prog_11_method_24_code
def y_M_end : MethodName := ⟨"WordChainModel", "end", "(I)I"⟩
abbrev b_M_cut_v : ByteArray := prog_11_method_25_code
def y_M_cut_v : MethodName := ⟨"WordChainModel", "cut", "()I"⟩
abbrev b_M_decode : ByteArray := prog_11_method_6_code
def y_M_decode : MethodName := ⟨"WordChainModel", "decode", "([BII)V"⟩
abbrev b_M_formed : ByteArray := prog_11_method_5_code
def y_M_formed : MethodName := ⟨"WordChainModel", "formed", "([BII)I"⟩
abbrev b_M_tail : ByteArray := prog_11_method_4_code
def y_M_tail : MethodName := ⟨"WordChainModel", "tail", "(I)Z"⟩
abbrev b_M_cut_aIII : ByteArray := prog_11_method_10_code
def y_M_cut_aIII : MethodName := ⟨"WordChainModel", "cut", "([III)V"⟩
abbrev b_M_sortOf : ByteArray := prog_11_method_7_code
def y_M_sortOf : MethodName := ⟨"WordChainModel", "sortOf", "(I)I"⟩
abbrev b_M_inWord : ByteArray := prog_11_method_8_code
def y_M_inWord : MethodName := ⟨"WordChainModel", "inWord", "(I)Z"⟩
abbrev b_M_further : ByteArray := prog_11_method_9_code
def y_M_further : MethodName := ⟨"WordChainModel", "further", "([III)I"⟩
abbrev b_M_token_aIII : ByteArray := prog_11_method_11_code
def y_M_token_aIII : MethodName := ⟨"WordChainModel", "token", "([III)V"⟩
abbrev b_M_lowered : ByteArray := prog_11_method_12_code
def y_M_lowered : MethodName := ⟨"WordChainModel", "lowered", "(I)I"⟩
abbrev b_M_is : ByteArray := prog_11_method_13_code
def y_M_is : MethodName := ⟨"WordChainModel", "is", "(Ljava/lang/String;)Z"⟩
abbrev b_M_ends : ByteArray := prog_11_method_14_code
def y_M_ends : MethodName := ⟨"WordChainModel", "ends", "(Ljava/lang/String;)Z"⟩
abbrev b_M_stem : ByteArray := prog_11_method_21_code
def y_M_stem : MethodName := ⟨"WordChainModel", "stem", "()V"⟩
abbrev b_M_stemOneB : ByteArray := prog_11_method_22_code
def y_M_stemOneB : MethodName := ⟨"WordChainModel", "stemOneB", "()V"⟩
abbrev b_M_measure : ByteArray := prog_11_method_16_code
def y_M_measure : MethodName := ⟨"WordChainModel", "measure", "(I)I"⟩
abbrev b_M_vowel : ByteArray := prog_11_method_15_code
def y_M_vowel : MethodName := ⟨"WordChainModel", "vowel", "(I)Z"⟩
abbrev b_M_anyVowel : ByteArray := prog_11_method_17_code
def y_M_anyVowel : MethodName := ⟨"WordChainModel", "anyVowel", "(I)Z"⟩
abbrev b_M_instead : ByteArray := prog_11_method_19_code
def y_M_instead : MethodName := ⟨"WordChainModel", "instead", "(ILjava/lang/String;)V"⟩
abbrev b_M_cvc : ByteArray := prog_11_method_18_code
def y_M_cvc : MethodName := ⟨"WordChainModel", "cvc", "(I)Z"⟩
abbrev b_M_longest : ByteArray := prog_11_method_20_code
def y_M_longest : MethodName := ⟨"WordChainModel", "longest", "([Ljava/lang/String;)I"⟩
abbrev b_M_token_II : ByteArray := prog_11_method_27_code
def y_M_token_II : MethodName := ⟨"WordChainModel", "token", "(II)I"⟩
abbrev b_M_there : ByteArray := prog_11_method_26_code
def y_M_there : MethodName := ⟨"WordChainModel", "there", "(I)Z"⟩
abbrev b_M_character : ByteArray := prog_11_method_28_code
def y_M_character : MethodName := ⟨"WordChainModel", "character", "(II)I"⟩
abbrev b_M_first : ByteArray := prog_11_method_30_code
def y_M_first : MethodName := ⟨"WordChainModel", "first", "(I)I"⟩
abbrev b_M_same : ByteArray := prog_11_method_29_code
def y_M_same : MethodName := ⟨"WordChainModel", "same", "(II)Z"⟩
abbrev b_M_sort : ByteArray := prog_11_method_31_code
def y_M_sort : MethodName := ⟨"WordChainModel", "sort", "(I)I"⟩
abbrev b_M_count : ByteArray := prog_11_method_32_code
def y_M_count : MethodName := ⟨"WordChainModel", "count", "(I)I"⟩
abbrev b_L_feed : ByteArray := method_3_code
def y_L_feed : MethodName := ⟨"WordChainLaw", "feed", "(LWordChain;IIIII[J)I"⟩
abbrev b_L_end : ByteArray := method_4_code
def y_L_end : MethodName := ⟨"WordChainLaw", "end", "(LWordChain;I[J)I"⟩
abbrev b_L_token : ByteArray := method_5_code
def y_L_token : MethodName := ⟨"WordChainLaw", "token", "(LWordChain;II[J)I"⟩
abbrev b_L_character : ByteArray := method_6_code
def y_L_character : MethodName := ⟨"WordChainLaw", "character", "(LWordChain;II[J)I"⟩
abbrev b_L_first : ByteArray := method_7_code
def y_L_first : MethodName := ⟨"WordChainLaw", "first", "(LWordChain;I[J)I"⟩
abbrev b_L_sort : ByteArray := method_8_code
def y_L_sort : MethodName := ⟨"WordChainLaw", "sort", "(LWordChain;I[J)I"⟩
end
section
theorem d_X_init_0 : decode b_X_init 0 = .ok (.aload_n 0, 1) := by decide +kernel
theorem d_X_init_1 : decode b_X_init 1 = .ok (.invokespecial 1, 3) := by decide +kernel
theorem d_X_init_4 : decode b_X_init 4 = .ok (.aload_n 0, 1) := by decide +kernel
theorem d_X_init_5 : decode b_X_init 5 = .ok (.sipush 8192, 3) := by decide +kernel
theorem d_X_init_8 : decode b_X_init 8 = .ok (.newarray .byte, 2) := by decide +kernel
theorem d_X_init_10 : decode b_X_init 10 = .ok (.putfield 9, 3) := by decide +kernel
theorem d_X_init_13 : decode b_X_init 13 = .ok (.aload_n 0, 1) := by decide +kernel
theorem d_X_init_14 : decode b_X_init 14 = .ok (.iconst 0, 1) := by decide +kernel
theorem d_X_init_15 : decode b_X_init 15 = .ok (.putfield 13, 3) := by decide +kernel
theorem d_X_init_18 : decode b_X_init 18 = .ok (.aload_n 0, 1) := by decide +kernel
theorem d_X_init_19 : decode b_X_init 19 = .ok (.new 17, 3) := by decide +kernel
theorem d_X_init_22 : decode b_X_init 22 = .ok (.dup, 1) := by decide +kernel
theorem d_X_init_23 : decode b_X_init 23 = .ok (.sipush 8192, 3) := by decide +kernel
theorem d_X_init_26 : decode b_X_init 26 = .ok (.invokespecial 19, 3) := by decide +kernel
theorem d_X_init_29 : decode b_X_init 29 = .ok (.putfield 22, 3) := by decide +kernel
theorem d_X_init_32 : decode b_X_init 32 = .ok (.aload_n 0, 1) := by decide +kernel
theorem d_X_init_33 : decode b_X_init 33 = .ok (.new 26, 3) := by decide +kernel
theorem d_X_init_36 : decode b_X_init 36 = .ok (.dup, 1) := by decide +kernel
theorem d_X_init_37 : decode b_X_init 37 = .ok (.invokespecial 28, 3) := by decide +kernel
theorem d_X_init_40 : decode b_X_init 40 = .ok (.putfield 29, 3) := by decide +kernel
theorem d_X_init_43 : decode b_X_init 43 = .ok (.aload_n 0, 1) := by decide +kernel
theorem d_X_init_44 : decode b_X_init 44 = .ok (.new 33, 3) := by decide +kernel
theorem d_X_init_47 : decode b_X_init 47 = .ok (.dup, 1) := by decide +kernel
theorem d_X_init_48 : decode b_X_init 48 = .ok (.sipush 255, 3) := by decide +kernel
theorem d_X_init_51 : decode b_X_init 51 = .ok (.invokespecial 35, 3) := by decide +kernel
theorem d_X_init_54 : decode b_X_init 54 = .ok (.putfield 36, 3) := by decide +kernel
theorem d_X_init_57 : decode b_X_init 57 = .ok (.aload_n 0, 1) := by decide +kernel
theorem d_X_init_58 : decode b_X_init 58 = .ok (.new 40, 3) := by decide +kernel
theorem d_X_init_61 : decode b_X_init 61 = .ok (.dup, 1) := by decide +kernel
theorem d_X_init_62 : decode b_X_init 62 = .ok (.sipush 8192, 3) := by decide +kernel
theorem d_X_init_65 : decode b_X_init 65 = .ok (.invokespecial 42, 3) := by decide +kernel
theorem d_X_init_68 : decode b_X_init 68 = .ok (.putfield 43, 3) := by decide +kernel
theorem d_X_init_71 : decode b_X_init 71 = .ok (.aload_n 0, 1) := by decide +kernel
theorem d_X_init_72 : decode b_X_init 72 = .ok (.iconst 0, 1) := by decide +kernel
theorem d_X_init_73 : decode b_X_init 73 = .ok (.putfield 47, 3) := by decide +kernel
theorem d_X_init_76 : decode b_X_init 76 = .ok (.return_, 1) := by decide +kernel
theorem d_Te_init_0 : decode b_Te_init 0 = .ok (.aload_n 0, 1) := by decide +kernel
theorem d_Te_init_1 : decode b_Te_init 1 = .ok (.invokespecial 1, 3) := by decide +kernel
theorem d_Te_init_4 : decode b_Te_init 4 = .ok (.aload_n 0, 1) := by decide +kernel
theorem d_Te_init_5 : decode b_Te_init 5 = .ok (.iconst 0, 1) := by decide +kernel
theorem d_Te_init_6 : decode b_Te_init 6 = .ok (.putfield 7, 3) := by decide +kernel
theorem d_Te_init_9 : decode b_Te_init 9 = .ok (.aload_n 0, 1) := by decide +kernel
theorem d_Te_init_10 : decode b_Te_init 10 = .ok (.iload_n 1, 1) := by decide +kernel
theorem d_Te_init_11 : decode b_Te_init 11 = .ok (.newarray .int, 2) := by decide +kernel
theorem d_Te_init_13 : decode b_Te_init 13 = .ok (.putfield 13, 3) := by decide +kernel
theorem d_Te_init_16 : decode b_Te_init 16 = .ok (.return_, 1) := by decide +kernel
theorem d_Si_init_0 : decode b_Si_init 0 = .ok (.aload_n 0, 1) := by decide +kernel
theorem d_Si_init_1 : decode b_Si_init 1 = .ok (.invokespecial 1, 3) := by decide +kernel
theorem d_Si_init_4 : decode b_Si_init 4 = .ok (.aload_n 0, 1) := by decide +kernel
theorem d_Si_init_5 : decode b_Si_init 5 = .ok (.bipush 33, 2) := by decide +kernel
theorem d_Si_init_7 : decode b_Si_init 7 = .ok (.newarray .int, 2) := by decide +kernel
theorem d_Si_init_9 : decode b_Si_init 9 = .ok (.putfield 9, 3) := by decide +kernel
theorem d_Si_init_12 : decode b_Si_init 12 = .ok (.iconst 0, 1) := by decide +kernel
theorem d_Si_init_13 : decode b_Si_init 13 = .ok (.istore_n 1, 1) := by decide +kernel
theorem d_Si_init_14 : decode b_Si_init 14 = .ok (.iconst 0, 1) := by decide +kernel
theorem d_Si_init_15 : decode b_Si_init 15 = .ok (.istore_n 2, 1) := by decide +kernel
theorem d_Si_init_16 : decode b_Si_init 16 = .ok (.iconst 0, 1) := by decide +kernel
theorem d_Si_init_17 : decode b_Si_init 17 = .ok (.istore_n 3, 1) := by decide +kernel
theorem d_Si_init_18 : decode b_Si_init 18 = .ok (.iload_n 3, 1) := by decide +kernel
theorem d_Si_init_19 : decode b_Si_init 19 = .ok (.ldc 13, 2) := by decide +kernel
theorem d_Si_init_21 : decode b_Si_init 21 = .ok (.invokevirtual 15, 3) := by decide +kernel
theorem d_Si_init_24 : decode b_Si_init 24 = .ok (.if_icmp .ge 52, 3) := by decide +kernel
theorem d_Si_init_27 : decode b_Si_init 27 = .ok (.iload_n 1, 1) := by decide +kernel
theorem d_Si_init_28 : decode b_Si_init 28 = .ok (.bipush 33, 2) := by decide +kernel
theorem d_Si_init_30 : decode b_Si_init 30 = .ok (.if_icmp .ge 46, 3) := by decide +kernel
theorem d_Si_init_33 : decode b_Si_init 33 = .ok (.ldc 13, 2) := by decide +kernel
theorem d_Si_init_35 : decode b_Si_init 35 = .ok (.iload_n 3, 1) := by decide +kernel
theorem d_Si_init_36 : decode b_Si_init 36 = .ok (.invokevirtual 21, 3) := by decide +kernel
theorem d_Si_init_39 : decode b_Si_init 39 = .ok (.bipush 32, 2) := by decide +kernel
theorem d_Si_init_41 : decode b_Si_init 41 = .ok (.if_icmp .ne 18, 3) := by decide +kernel
theorem d_Si_init_44 : decode b_Si_init 44 = .ok (.aload_n 0, 1) := by decide +kernel
theorem d_Si_init_45 : decode b_Si_init 45 = .ok (.getfield 9, 3) := by decide +kernel
theorem d_Si_init_48 : decode b_Si_init 48 = .ok (.iload_n 1, 1) := by decide +kernel
theorem d_Si_init_49 : decode b_Si_init 49 = .ok (.iload_n 2, 1) := by decide +kernel
theorem d_Si_init_50 : decode b_Si_init 50 = .ok (.iastore, 1) := by decide +kernel
theorem d_Si_init_51 : decode b_Si_init 51 = .ok (.iinc 1 1, 3) := by decide +kernel
theorem d_Si_init_54 : decode b_Si_init 54 = .ok (.iconst 0, 1) := by decide +kernel
theorem d_Si_init_55 : decode b_Si_init 55 = .ok (.istore_n 2, 1) := by decide +kernel
theorem d_Si_init_56 : decode b_Si_init 56 = .ok (.goto 14, 3) := by decide +kernel
theorem d_Si_init_59 : decode b_Si_init 59 = .ok (.iload_n 2, 1) := by decide +kernel
theorem d_Si_init_60 : decode b_Si_init 60 = .ok (.ldc 13, 2) := by decide +kernel
theorem d_Si_init_62 : decode b_Si_init 62 = .ok (.iload_n 3, 1) := by decide +kernel
theorem d_Si_init_63 : decode b_Si_init 63 = .ok (.invokevirtual 21, 3) := by decide +kernel
theorem d_Si_init_66 : decode b_Si_init 66 = .ok (.invokestatic 25, 3) := by decide +kernel
theorem d_Si_init_69 : decode b_Si_init 69 = .ok (.istore_n 2, 1) := by decide +kernel
theorem d_Si_init_70 : decode b_Si_init 70 = .ok (.iinc 3 1, 3) := by decide +kernel
theorem d_Si_init_73 : decode b_Si_init 73 = .ok (.goto (-55), 3) := by decide +kernel
theorem d_Si_init_76 : decode b_Si_init 76 = .ok (.return_, 1) := by decide +kernel
theorem d_Str_length_0 : decode b_Str_length 0 = .ok (.aload_n 0, 1) := by decide +kernel
theorem d_Str_length_1 : decode b_Str_length 1 = .ok (.getfield 9, 3) := by decide +kernel
theorem d_Str_length_4 : decode b_Str_length 4 = .ok (.arraylength, 1) := by decide +kernel
theorem d_Str_length_5 : decode b_Str_length 5 = .ok (.aload_n 0, 1) := by decide +kernel
theorem d_Str_length_6 : decode b_Str_length 6 = .ok (.invokevirtual 335, 3) := by decide +kernel
theorem d_Str_length_9 : decode b_Str_length 9 = .ok (.ishr, 1) := by decide +kernel
theorem d_Str_length_10 : decode b_Str_length 10 = .ok (.ireturn, 1) := by decide +kernel
theorem d_Str_coder_0 : decode b_Str_coder 0 = .ok (.getstatic 38, 3) := by decide +kernel
theorem d_Str_coder_3 : decode b_Str_coder 3 = .ok (.ifCond .eq 10, 3) := by decide +kernel
theorem d_Str_coder_6 : decode b_Str_coder 6 = .ok (.aload_n 0, 1) := by decide +kernel
theorem d_Str_coder_7 : decode b_Str_coder 7 = .ok (.getfield 15, 3) := by decide +kernel
theorem d_Str_coder_10 : decode b_Str_coder 10 = .ok (.goto 4, 3) := by decide +kernel
theorem d_Str_coder_13 : decode b_Str_coder 13 = .ok (.iconst 1, 1) := by decide +kernel
theorem d_Str_coder_14 : decode b_Str_coder 14 = .ok (.ireturn, 1) := by decide +kernel
theorem d_Str_charAt_0 : decode b_Str_charAt 0 = .ok (.aload_n 0, 1) := by decide +kernel
theorem d_Str_charAt_1 : decode b_Str_charAt 1 = .ok (.invokevirtual 492, 3) := by decide +kernel
theorem d_Str_charAt_4 : decode b_Str_charAt 4 = .ok (.ifCond .eq 12, 3) := by decide +kernel
theorem d_Str_charAt_7 : decode b_Str_charAt 7 = .ok (.aload_n 0, 1) := by decide +kernel
theorem d_Str_charAt_8 : decode b_Str_charAt 8 = .ok (.getfield 9, 3) := by decide +kernel
theorem d_Str_charAt_11 : decode b_Str_charAt 11 = .ok (.iload_n 1, 1) := by decide +kernel
theorem d_Str_charAt_12 : decode b_Str_charAt 12 = .ok (.invokestatic 495, 3) := by decide +kernel
theorem d_Str_charAt_15 : decode b_Str_charAt 15 = .ok (.ireturn, 1) := by decide +kernel
theorem d_Str_charAt_16 : decode b_Str_charAt 16 = .ok (.aload_n 0, 1) := by decide +kernel
theorem d_Str_charAt_17 : decode b_Str_charAt 17 = .ok (.getfield 9, 3) := by decide +kernel
theorem d_Str_charAt_20 : decode b_Str_charAt 20 = .ok (.iload_n 1, 1) := by decide +kernel
theorem d_Str_charAt_21 : decode b_Str_charAt 21 = .ok (.invokestatic 498, 3) := by decide +kernel
theorem d_Str_charAt_24 : decode b_Str_charAt 24 = .ok (.ireturn, 1) := by decide +kernel
theorem d_Str_isLatin1_0 : decode b_Str_isLatin1 0 = .ok (.getstatic 38, 3) := by decide +kernel
theorem d_Str_isLatin1_3 : decode b_Str_isLatin1 3 = .ok (.ifCond .eq 14, 3) := by decide +kernel
theorem d_Str_isLatin1_6 : decode b_Str_isLatin1 6 = .ok (.aload_n 0, 1) := by decide +kernel
theorem d_Str_isLatin1_7 : decode b_Str_isLatin1 7 = .ok (.getfield 15, 3) := by decide +kernel
theorem d_Str_isLatin1_10 : decode b_Str_isLatin1 10 = .ok (.ifCond .ne 7, 3) := by decide +kernel
theorem d_Str_isLatin1_13 : decode b_Str_isLatin1 13 = .ok (.iconst 1, 1) := by decide +kernel
theorem d_Str_isLatin1_14 : decode b_Str_isLatin1 14 = .ok (.goto 4, 3) := by decide +kernel
theorem d_Str_isLatin1_17 : decode b_Str_isLatin1 17 = .ok (.iconst 0, 1) := by decide +kernel
theorem d_Str_isLatin1_18 : decode b_Str_isLatin1 18 = .ok (.ireturn, 1) := by decide +kernel
theorem d_Lat_charAt_0 : decode b_Lat_charAt 0 = .ok (.iload_n 1, 1) := by decide +kernel
theorem d_Lat_charAt_1 : decode b_Lat_charAt 1 = .ok (.aload_n 0, 1) := by decide +kernel
theorem d_Lat_charAt_2 : decode b_Lat_charAt 2 = .ok (.arraylength, 1) := by decide +kernel
theorem d_Lat_charAt_3 : decode b_Lat_charAt 3 = .ok (.invokestatic 9, 3) := by decide +kernel
theorem d_Lat_charAt_6 : decode b_Lat_charAt 6 = .ok (.aload_n 0, 1) := by decide +kernel
theorem d_Lat_charAt_7 : decode b_Lat_charAt 7 = .ok (.iload_n 1, 1) := by decide +kernel
theorem d_Lat_charAt_8 : decode b_Lat_charAt 8 = .ok (.baload, 1) := by decide +kernel
theorem d_Lat_charAt_9 : decode b_Lat_charAt 9 = .ok (.sipush 255, 3) := by decide +kernel
theorem d_Lat_charAt_12 : decode b_Lat_charAt 12 = .ok (.iand, 1) := by decide +kernel
theorem d_Lat_charAt_13 : decode b_Lat_charAt 13 = .ok (.i2c, 1) := by decide +kernel
theorem d_Lat_charAt_14 : decode b_Lat_charAt 14 = .ok (.ireturn, 1) := by decide +kernel
theorem d_Str_checkIndex_0 : decode b_Str_checkIndex 0 = .ok (.iload_n 0, 1) := by decide +kernel
theorem d_Str_checkIndex_1 : decode b_Str_checkIndex 1 = .ok (.iload_n 1, 1) := by decide +kernel
theorem d_Str_checkIndex_2 : decode b_Str_checkIndex 2 = .ok (.getstatic 1053, 3) := by decide +kernel
theorem d_Str_checkIndex_5 : decode b_Str_checkIndex 5 = .ok (.invokestatic 1059, 3) := by decide +kernel
theorem d_Str_checkIndex_8 : decode b_Str_checkIndex 8 = .ok (.pop, 1) := by decide +kernel
theorem d_Str_checkIndex_9 : decode b_Str_checkIndex 9 = .ok (.return_, 1) := by decide +kernel
theorem d_Pre_checkIndex_0 : decode b_Pre_checkIndex 0 = .ok (.iload_n 0, 1) := by decide +kernel
theorem d_Pre_checkIndex_1 : decode b_Pre_checkIndex 1 = .ok (.ifCond .lt 8, 3) := by decide +kernel
theorem d_Pre_checkIndex_4 : decode b_Pre_checkIndex 4 = .ok (.iload_n 0, 1) := by decide +kernel
theorem d_Pre_checkIndex_5 : decode b_Pre_checkIndex 5 = .ok (.iload_n 1, 1) := by decide +kernel
theorem d_Pre_checkIndex_6 : decode b_Pre_checkIndex 6 = .ok (.if_icmp .lt 10, 3) := by decide +kernel
theorem d_Pre_checkIndex_9 : decode b_Pre_checkIndex 9 = .ok (.aload_n 2, 1) := by decide +kernel
theorem d_Pre_checkIndex_10 : decode b_Pre_checkIndex 10 = .ok (.iload_n 0, 1) := by decide +kernel
theorem d_Pre_checkIndex_11 : decode b_Pre_checkIndex 11 = .ok (.iload_n 1, 1) := by decide +kernel
theorem d_Pre_checkIndex_12 : decode b_Pre_checkIndex 12 = .ok (.invokestatic 95, 3) := by decide +kernel
theorem d_Pre_checkIndex_15 : decode b_Pre_checkIndex 15 = .ok (.athrow, 1) := by decide +kernel
theorem d_Pre_checkIndex_16 : decode b_Pre_checkIndex 16 = .ok (.iload_n 0, 1) := by decide +kernel
theorem d_Pre_checkIndex_17 : decode b_Pre_checkIndex 17 = .ok (.ireturn, 1) := by decide +kernel
theorem d_U16_charAt_0 : decode b_U16_charAt 0 = .ok (.iload_n 1, 1) := by decide +kernel
theorem d_U16_charAt_1 : decode b_U16_charAt 1 = .ok (.aload_n 0, 1) := by decide +kernel
theorem d_U16_charAt_2 : decode b_U16_charAt 2 = .ok (.invokestatic 67, 3) := by decide +kernel
theorem d_U16_charAt_5 : decode b_U16_charAt 5 = .ok (.aload_n 0, 1) := by decide +kernel
theorem d_U16_charAt_6 : decode b_U16_charAt 6 = .ok (.iload_n 1, 1) := by decide +kernel
theorem d_U16_charAt_7 : decode b_U16_charAt 7 = .ok (.invokestatic 71, 3) := by decide +kernel
theorem d_U16_charAt_10 : decode b_U16_charAt 10 = .ok (.ireturn, 1) := by decide +kernel
theorem d_U16_checkIndex_0 : decode b_U16_checkIndex 0 = .ok (.iload_n 0, 1) := by decide +kernel
theorem d_U16_checkIndex_1 : decode b_U16_checkIndex 1 = .ok (.aload_n 1, 1) := by decide +kernel
theorem d_U16_checkIndex_2 : decode b_U16_checkIndex 2 = .ok (.invokestatic 48, 3) := by decide +kernel
theorem d_U16_checkIndex_5 : decode b_U16_checkIndex 5 = .ok (.invokestatic 414, 3) := by decide +kernel
theorem d_U16_checkIndex_8 : decode b_U16_checkIndex 8 = .ok (.return_, 1) := by decide +kernel
theorem d_U16_length_0 : decode b_U16_length 0 = .ok (.aload_n 0, 1) := by decide +kernel
theorem d_U16_length_1 : decode b_U16_length 1 = .ok (.arraylength, 1) := by decide +kernel
theorem d_U16_length_2 : decode b_U16_length 2 = .ok (.iconst 1, 1) := by decide +kernel
theorem d_U16_length_3 : decode b_U16_length 3 = .ok (.ishr, 1) := by decide +kernel
theorem d_U16_length_4 : decode b_U16_length 4 = .ok (.ireturn, 1) := by decide +kernel
theorem d_U16_getChar_0 : decode b_U16_getChar 0 = .ok (.getstatic 44, 3) := by decide +kernel
theorem d_U16_getChar_3 : decode b_U16_getChar 3 = .ok (.ifCond .ne 25, 3) := by decide +kernel
theorem d_U16_getChar_6 : decode b_U16_getChar 6 = .ok (.iload_n 1, 1) := by decide +kernel
theorem d_U16_getChar_7 : decode b_U16_getChar 7 = .ok (.ifCond .lt 11, 3) := by decide +kernel
theorem d_U16_getChar_10 : decode b_U16_getChar 10 = .ok (.iload_n 1, 1) := by decide +kernel
theorem d_U16_getChar_11 : decode b_U16_getChar 11 = .ok (.aload_n 0, 1) := by decide +kernel
theorem d_U16_getChar_12 : decode b_U16_getChar 12 = .ok (.invokestatic 48, 3) := by decide +kernel
theorem d_U16_getChar_15 : decode b_U16_getChar 15 = .ok (.if_icmp .lt 13, 3) := by decide +kernel
theorem d_U16_getChar_18 : decode b_U16_getChar 18 = .ok (.new 52, 3) := by decide +kernel
theorem d_U16_getChar_21 : decode b_U16_getChar 21 = .ok (.dup, 1) := by decide +kernel
theorem d_U16_getChar_22 : decode b_U16_getChar 22 = .ok (.ldc 54, 2) := by decide +kernel
theorem d_U16_getChar_24 : decode b_U16_getChar 24 = .ok (.invokespecial 56, 3) := by decide +kernel
theorem d_U16_getChar_27 : decode b_U16_getChar 27 = .ok (.athrow, 1) := by decide +kernel
theorem d_U16_getChar_28 : decode b_U16_getChar 28 = .ok (.iload_n 1, 1) := by decide +kernel
theorem d_U16_getChar_29 : decode b_U16_getChar 29 = .ok (.iconst 1, 1) := by decide +kernel
theorem d_U16_getChar_30 : decode b_U16_getChar 30 = .ok (.ishl, 1) := by decide +kernel
theorem d_U16_getChar_31 : decode b_U16_getChar 31 = .ok (.istore_n 1, 1) := by decide +kernel
theorem d_U16_getChar_32 : decode b_U16_getChar 32 = .ok (.aload_n 0, 1) := by decide +kernel
theorem d_U16_getChar_33 : decode b_U16_getChar 33 = .ok (.iload_n 1, 1) := by decide +kernel
theorem d_U16_getChar_34 : decode b_U16_getChar 34 = .ok (.iinc 1 1, 3) := by decide +kernel
theorem d_U16_getChar_37 : decode b_U16_getChar 37 = .ok (.baload, 1) := by decide +kernel
theorem d_U16_getChar_38 : decode b_U16_getChar 38 = .ok (.sipush 255, 3) := by decide +kernel
theorem d_U16_getChar_41 : decode b_U16_getChar 41 = .ok (.iand, 1) := by decide +kernel
theorem d_U16_getChar_42 : decode b_U16_getChar 42 = .ok (.getstatic 59, 3) := by decide +kernel
theorem d_U16_getChar_45 : decode b_U16_getChar 45 = .ok (.ishl, 1) := by decide +kernel
theorem d_U16_getChar_46 : decode b_U16_getChar 46 = .ok (.aload_n 0, 1) := by decide +kernel
theorem d_U16_getChar_47 : decode b_U16_getChar 47 = .ok (.iload_n 1, 1) := by decide +kernel
theorem d_U16_getChar_48 : decode b_U16_getChar 48 = .ok (.baload, 1) := by decide +kernel
theorem d_U16_getChar_49 : decode b_U16_getChar 49 = .ok (.sipush 255, 3) := by decide +kernel
theorem d_U16_getChar_52 : decode b_U16_getChar 52 = .ok (.iand, 1) := by decide +kernel
theorem d_U16_getChar_53 : decode b_U16_getChar 53 = .ok (.getstatic 63, 3) := by decide +kernel
theorem d_U16_getChar_56 : decode b_U16_getChar 56 = .ok (.ishl, 1) := by decide +kernel
theorem d_U16_getChar_57 : decode b_U16_getChar 57 = .ok (.ior, 1) := by decide +kernel
theorem d_U16_getChar_58 : decode b_U16_getChar 58 = .ok (.i2c, 1) := by decide +kernel
theorem d_U16_getChar_59 : decode b_U16_getChar 59 = .ok (.ireturn, 1) := by decide +kernel
theorem d_Si_withLetter_0 : decode b_Si_withLetter 0 = .ok (.iload_n 0, 1) := by decide +kernel
theorem d_Si_withLetter_1 : decode b_Si_withLetter 1 = .ok (.bipush 32, 2) := by decide +kernel
theorem d_Si_withLetter_3 : decode b_Si_withLetter 3 = .ok (.imul, 1) := by decide +kernel
theorem d_Si_withLetter_4 : decode b_Si_withLetter 4 = .ok (.iload_n 1, 1) := by decide +kernel
theorem d_Si_withLetter_5 : decode b_Si_withLetter 5 = .ok (.iadd, 1) := by decide +kernel
theorem d_Si_withLetter_6 : decode b_Si_withLetter 6 = .ok (.bipush 97, 2) := by decide +kernel
theorem d_Si_withLetter_8 : decode b_Si_withLetter 8 = .ok (.isub, 1) := by decide +kernel
theorem d_Si_withLetter_9 : decode b_Si_withLetter 9 = .ok (.iconst 1, 1) := by decide +kernel
theorem d_Si_withLetter_10 : decode b_Si_withLetter 10 = .ok (.iadd, 1) := by decide +kernel
theorem d_Si_withLetter_11 : decode b_Si_withLetter 11 = .ok (.ireturn, 1) := by decide +kernel
theorem d_Sm_init_0 : decode b_Sm_init 0 = .ok (.aload_n 0, 1) := by decide +kernel
theorem d_Sm_init_1 : decode b_Sm_init 1 = .ok (.invokespecial 1, 3) := by decide +kernel
theorem d_Sm_init_4 : decode b_Sm_init 4 = .ok (.aload_n 0, 1) := by decide +kernel
theorem d_Sm_init_5 : decode b_Sm_init 5 = .ok (.iconst 4, 1) := by decide +kernel
theorem d_Sm_init_6 : decode b_Sm_init 6 = .ok (.anewarray 7, 3) := by decide +kernel
theorem d_Sm_init_9 : decode b_Sm_init 9 = .ok (.dup, 1) := by decide +kernel
theorem d_Sm_init_10 : decode b_Sm_init 10 = .ok (.iconst 0, 1) := by decide +kernel
theorem d_Sm_init_11 : decode b_Sm_init 11 = .ok (.new 7, 3) := by decide +kernel
theorem d_Sm_init_14 : decode b_Sm_init 14 = .ok (.dup, 1) := by decide +kernel
theorem d_Sm_init_15 : decode b_Sm_init 15 = .ok (.ldc 9, 2) := by decide +kernel
theorem d_Sm_init_17 : decode b_Sm_init 17 = .ok (.ldc 11, 2) := by decide +kernel
theorem d_Sm_init_19 : decode b_Sm_init 19 = .ok (.invokespecial 13, 3) := by decide +kernel
theorem d_Sm_init_22 : decode b_Sm_init 22 = .ok (.aastore, 1) := by decide +kernel
theorem d_Sm_init_23 : decode b_Sm_init 23 = .ok (.dup, 1) := by decide +kernel
theorem d_Sm_init_24 : decode b_Sm_init 24 = .ok (.iconst 1, 1) := by decide +kernel
theorem d_Sm_init_25 : decode b_Sm_init 25 = .ok (.new 7, 3) := by decide +kernel
theorem d_Sm_init_28 : decode b_Sm_init 28 = .ok (.dup, 1) := by decide +kernel
theorem d_Sm_init_29 : decode b_Sm_init 29 = .ok (.ldc 16, 2) := by decide +kernel
theorem d_Sm_init_31 : decode b_Sm_init 31 = .ok (.ldc 18, 2) := by decide +kernel
theorem d_Sm_init_33 : decode b_Sm_init 33 = .ok (.invokespecial 13, 3) := by decide +kernel
theorem d_Sm_init_36 : decode b_Sm_init 36 = .ok (.aastore, 1) := by decide +kernel
theorem d_Sm_init_37 : decode b_Sm_init 37 = .ok (.dup, 1) := by decide +kernel
theorem d_Sm_init_38 : decode b_Sm_init 38 = .ok (.iconst 2, 1) := by decide +kernel
theorem d_Sm_init_39 : decode b_Sm_init 39 = .ok (.new 7, 3) := by decide +kernel
theorem d_Sm_init_42 : decode b_Sm_init 42 = .ok (.dup, 1) := by decide +kernel
theorem d_Sm_init_43 : decode b_Sm_init 43 = .ok (.ldc 11, 2) := by decide +kernel
theorem d_Sm_init_45 : decode b_Sm_init 45 = .ok (.ldc 11, 2) := by decide +kernel
theorem d_Sm_init_47 : decode b_Sm_init 47 = .ok (.invokespecial 13, 3) := by decide +kernel
theorem d_Sm_init_50 : decode b_Sm_init 50 = .ok (.aastore, 1) := by decide +kernel
theorem d_Sm_init_51 : decode b_Sm_init 51 = .ok (.dup, 1) := by decide +kernel
theorem d_Sm_init_52 : decode b_Sm_init 52 = .ok (.iconst 3, 1) := by decide +kernel
theorem d_Sm_init_53 : decode b_Sm_init 53 = .ok (.new 7, 3) := by decide +kernel
theorem d_Sm_init_56 : decode b_Sm_init 56 = .ok (.dup, 1) := by decide +kernel
theorem d_Sm_init_57 : decode b_Sm_init 57 = .ok (.ldc 20, 2) := by decide +kernel
theorem d_Sm_init_59 : decode b_Sm_init 59 = .ok (.ldc 22, 2) := by decide +kernel
theorem d_Sm_init_61 : decode b_Sm_init 61 = .ok (.invokespecial 13, 3) := by decide +kernel
theorem d_Sm_init_64 : decode b_Sm_init 64 = .ok (.aastore, 1) := by decide +kernel
theorem d_Sm_init_65 : decode b_Sm_init 65 = .ok (.putfield 24, 3) := by decide +kernel
theorem d_Sm_init_68 : decode b_Sm_init 68 = .ok (.aload_n 0, 1) := by decide +kernel
theorem d_Sm_init_69 : decode b_Sm_init 69 = .ok (.iconst 3, 1) := by decide +kernel
theorem d_Sm_init_70 : decode b_Sm_init 70 = .ok (.anewarray 7, 3) := by decide +kernel
theorem d_Sm_init_73 : decode b_Sm_init 73 = .ok (.dup, 1) := by decide +kernel
theorem d_Sm_init_74 : decode b_Sm_init 74 = .ok (.iconst 0, 1) := by decide +kernel
theorem d_Sm_init_75 : decode b_Sm_init 75 = .ok (.new 7, 3) := by decide +kernel
theorem d_Sm_init_78 : decode b_Sm_init 78 = .ok (.dup, 1) := by decide +kernel
theorem d_Sm_init_79 : decode b_Sm_init 79 = .ok (.ldc 30, 2) := by decide +kernel
theorem d_Sm_init_81 : decode b_Sm_init 81 = .ok (.ldc 32, 2) := by decide +kernel
theorem d_Sm_init_83 : decode b_Sm_init 83 = .ok (.invokespecial 13, 3) := by decide +kernel
theorem d_Sm_init_86 : decode b_Sm_init 86 = .ok (.aastore, 1) := by decide +kernel
theorem d_Sm_init_87 : decode b_Sm_init 87 = .ok (.dup, 1) := by decide +kernel
theorem d_Sm_init_88 : decode b_Sm_init 88 = .ok (.iconst 1, 1) := by decide +kernel
theorem d_Sm_init_89 : decode b_Sm_init 89 = .ok (.new 7, 3) := by decide +kernel
theorem d_Sm_init_92 : decode b_Sm_init 92 = .ok (.dup, 1) := by decide +kernel
theorem d_Sm_init_93 : decode b_Sm_init 93 = .ok (.ldc 34, 2) := by decide +kernel
theorem d_Sm_init_95 : decode b_Sm_init 95 = .ok (.ldc 22, 2) := by decide +kernel
theorem d_Sm_init_97 : decode b_Sm_init 97 = .ok (.invokespecial 13, 3) := by decide +kernel
theorem d_Sm_init_100 : decode b_Sm_init 100 = .ok (.aastore, 1) := by decide +kernel
theorem d_Sm_init_101 : decode b_Sm_init 101 = .ok (.dup, 1) := by decide +kernel
theorem d_Sm_init_102 : decode b_Sm_init 102 = .ok (.iconst 2, 1) := by decide +kernel
theorem d_Sm_init_103 : decode b_Sm_init 103 = .ok (.new 7, 3) := by decide +kernel
theorem d_Sm_init_106 : decode b_Sm_init 106 = .ok (.dup, 1) := by decide +kernel
theorem d_Sm_init_107 : decode b_Sm_init 107 = .ok (.ldc 36, 2) := by decide +kernel
theorem d_Sm_init_109 : decode b_Sm_init 109 = .ok (.ldc 22, 2) := by decide +kernel
theorem d_Sm_init_111 : decode b_Sm_init 111 = .ok (.invokespecial 13, 3) := by decide +kernel
theorem d_Sm_init_114 : decode b_Sm_init 114 = .ok (.aastore, 1) := by decide +kernel
theorem d_Sm_init_115 : decode b_Sm_init 115 = .ok (.putfield 38, 3) := by decide +kernel
theorem d_Sm_init_118 : decode b_Sm_init 118 = .ok (.aload_n 0, 1) := by decide +kernel
theorem d_Sm_init_119 : decode b_Sm_init 119 = .ok (.bipush 20, 2) := by decide +kernel
theorem d_Sm_init_121 : decode b_Sm_init 121 = .ok (.anewarray 7, 3) := by decide +kernel
theorem d_Sm_init_124 : decode b_Sm_init 124 = .ok (.dup, 1) := by decide +kernel
theorem d_Sm_init_125 : decode b_Sm_init 125 = .ok (.iconst 0, 1) := by decide +kernel
theorem d_Sm_init_126 : decode b_Sm_init 126 = .ok (.new 7, 3) := by decide +kernel
theorem d_Sm_init_129 : decode b_Sm_init 129 = .ok (.dup, 1) := by decide +kernel
theorem d_Sm_init_130 : decode b_Sm_init 130 = .ok (.ldc 41, 2) := by decide +kernel
theorem d_Sm_init_132 : decode b_Sm_init 132 = .ok (.ldc 43, 2) := by decide +kernel
theorem d_Sm_init_134 : decode b_Sm_init 134 = .ok (.invokespecial 13, 3) := by decide +kernel
theorem d_Sm_init_137 : decode b_Sm_init 137 = .ok (.aastore, 1) := by decide +kernel
theorem d_Sm_init_138 : decode b_Sm_init 138 = .ok (.dup, 1) := by decide +kernel
theorem d_Sm_init_139 : decode b_Sm_init 139 = .ok (.iconst 1, 1) := by decide +kernel
theorem d_Sm_init_140 : decode b_Sm_init 140 = .ok (.new 7, 3) := by decide +kernel
theorem d_Sm_init_143 : decode b_Sm_init 143 = .ok (.dup, 1) := by decide +kernel
theorem d_Sm_init_144 : decode b_Sm_init 144 = .ok (.ldc 45, 2) := by decide +kernel
theorem d_Sm_init_146 : decode b_Sm_init 146 = .ok (.ldc 47, 2) := by decide +kernel
theorem d_Sm_init_148 : decode b_Sm_init 148 = .ok (.invokespecial 13, 3) := by decide +kernel
theorem d_Sm_init_151 : decode b_Sm_init 151 = .ok (.aastore, 1) := by decide +kernel
theorem d_Sm_init_152 : decode b_Sm_init 152 = .ok (.dup, 1) := by decide +kernel
theorem d_Sm_init_153 : decode b_Sm_init 153 = .ok (.iconst 2, 1) := by decide +kernel
theorem d_Sm_init_154 : decode b_Sm_init 154 = .ok (.new 7, 3) := by decide +kernel
theorem d_Sm_init_157 : decode b_Sm_init 157 = .ok (.dup, 1) := by decide +kernel
theorem d_Sm_init_158 : decode b_Sm_init 158 = .ok (.ldc 49, 2) := by decide +kernel
theorem d_Sm_init_160 : decode b_Sm_init 160 = .ok (.ldc 51, 2) := by decide +kernel
theorem d_Sm_init_162 : decode b_Sm_init 162 = .ok (.invokespecial 13, 3) := by decide +kernel
theorem d_Sm_init_165 : decode b_Sm_init 165 = .ok (.aastore, 1) := by decide +kernel
theorem d_Sm_init_166 : decode b_Sm_init 166 = .ok (.dup, 1) := by decide +kernel
theorem d_Sm_init_167 : decode b_Sm_init 167 = .ok (.iconst 3, 1) := by decide +kernel
theorem d_Sm_init_168 : decode b_Sm_init 168 = .ok (.new 7, 3) := by decide +kernel
theorem d_Sm_init_171 : decode b_Sm_init 171 = .ok (.dup, 1) := by decide +kernel
theorem d_Sm_init_172 : decode b_Sm_init 172 = .ok (.ldc 53, 2) := by decide +kernel
theorem d_Sm_init_174 : decode b_Sm_init 174 = .ok (.ldc 55, 2) := by decide +kernel
theorem d_Sm_init_176 : decode b_Sm_init 176 = .ok (.invokespecial 13, 3) := by decide +kernel
theorem d_Sm_init_179 : decode b_Sm_init 179 = .ok (.aastore, 1) := by decide +kernel
theorem d_Sm_init_180 : decode b_Sm_init 180 = .ok (.dup, 1) := by decide +kernel
theorem d_Sm_init_181 : decode b_Sm_init 181 = .ok (.iconst 4, 1) := by decide +kernel
theorem d_Sm_init_182 : decode b_Sm_init 182 = .ok (.new 7, 3) := by decide +kernel
theorem d_Sm_init_185 : decode b_Sm_init 185 = .ok (.dup, 1) := by decide +kernel
theorem d_Sm_init_186 : decode b_Sm_init 186 = .ok (.ldc 57, 2) := by decide +kernel
theorem d_Sm_init_188 : decode b_Sm_init 188 = .ok (.ldc 59, 2) := by decide +kernel
theorem d_Sm_init_190 : decode b_Sm_init 190 = .ok (.invokespecial 13, 3) := by decide +kernel
theorem d_Sm_init_193 : decode b_Sm_init 193 = .ok (.aastore, 1) := by decide +kernel
theorem d_Sm_init_194 : decode b_Sm_init 194 = .ok (.dup, 1) := by decide +kernel
theorem d_Sm_init_195 : decode b_Sm_init 195 = .ok (.iconst 5, 1) := by decide +kernel
theorem d_Sm_init_196 : decode b_Sm_init 196 = .ok (.new 7, 3) := by decide +kernel
theorem d_Sm_init_199 : decode b_Sm_init 199 = .ok (.dup, 1) := by decide +kernel
theorem d_Sm_init_200 : decode b_Sm_init 200 = .ok (.ldc 61, 2) := by decide +kernel
theorem d_Sm_init_202 : decode b_Sm_init 202 = .ok (.ldc 63, 2) := by decide +kernel
theorem d_Sm_init_204 : decode b_Sm_init 204 = .ok (.invokespecial 13, 3) := by decide +kernel
theorem d_Sm_init_207 : decode b_Sm_init 207 = .ok (.aastore, 1) := by decide +kernel
theorem d_Sm_init_208 : decode b_Sm_init 208 = .ok (.dup, 1) := by decide +kernel
theorem d_Sm_init_209 : decode b_Sm_init 209 = .ok (.bipush 6, 2) := by decide +kernel
theorem d_Sm_init_211 : decode b_Sm_init 211 = .ok (.new 7, 3) := by decide +kernel
theorem d_Sm_init_214 : decode b_Sm_init 214 = .ok (.dup, 1) := by decide +kernel
theorem d_Sm_init_215 : decode b_Sm_init 215 = .ok (.ldc 65, 2) := by decide +kernel
theorem d_Sm_init_217 : decode b_Sm_init 217 = .ok (.ldc 67, 2) := by decide +kernel
theorem d_Sm_init_219 : decode b_Sm_init 219 = .ok (.invokespecial 13, 3) := by decide +kernel
theorem d_Sm_init_222 : decode b_Sm_init 222 = .ok (.aastore, 1) := by decide +kernel
theorem d_Sm_init_223 : decode b_Sm_init 223 = .ok (.dup, 1) := by decide +kernel
theorem d_Sm_init_224 : decode b_Sm_init 224 = .ok (.bipush 7, 2) := by decide +kernel
theorem d_Sm_init_226 : decode b_Sm_init 226 = .ok (.new 7, 3) := by decide +kernel
theorem d_Sm_init_229 : decode b_Sm_init 229 = .ok (.dup, 1) := by decide +kernel
theorem d_Sm_init_230 : decode b_Sm_init 230 = .ok (.ldc 69, 2) := by decide +kernel
theorem d_Sm_init_232 : decode b_Sm_init 232 = .ok (.ldc 71, 2) := by decide +kernel
theorem d_Sm_init_234 : decode b_Sm_init 234 = .ok (.invokespecial 13, 3) := by decide +kernel
theorem d_Sm_init_237 : decode b_Sm_init 237 = .ok (.aastore, 1) := by decide +kernel
theorem d_Sm_init_238 : decode b_Sm_init 238 = .ok (.dup, 1) := by decide +kernel
theorem d_Sm_init_239 : decode b_Sm_init 239 = .ok (.bipush 8, 2) := by decide +kernel
theorem d_Sm_init_241 : decode b_Sm_init 241 = .ok (.new 7, 3) := by decide +kernel
theorem d_Sm_init_244 : decode b_Sm_init 244 = .ok (.dup, 1) := by decide +kernel
theorem d_Sm_init_245 : decode b_Sm_init 245 = .ok (.ldc 73, 2) := by decide +kernel
theorem d_Sm_init_247 : decode b_Sm_init 247 = .ok (.ldc 75, 2) := by decide +kernel
theorem d_Sm_init_249 : decode b_Sm_init 249 = .ok (.invokespecial 13, 3) := by decide +kernel
theorem d_Sm_init_252 : decode b_Sm_init 252 = .ok (.aastore, 1) := by decide +kernel
theorem d_Sm_init_253 : decode b_Sm_init 253 = .ok (.dup, 1) := by decide +kernel
theorem d_Sm_init_254 : decode b_Sm_init 254 = .ok (.bipush 9, 2) := by decide +kernel
theorem d_Sm_init_256 : decode b_Sm_init 256 = .ok (.new 7, 3) := by decide +kernel
theorem d_Sm_init_259 : decode b_Sm_init 259 = .ok (.dup, 1) := by decide +kernel
theorem d_Sm_init_260 : decode b_Sm_init 260 = .ok (.ldc 77, 2) := by decide +kernel
theorem d_Sm_init_262 : decode b_Sm_init 262 = .ok (.ldc 79, 2) := by decide +kernel
theorem d_Sm_init_264 : decode b_Sm_init 264 = .ok (.invokespecial 13, 3) := by decide +kernel
theorem d_Sm_init_267 : decode b_Sm_init 267 = .ok (.aastore, 1) := by decide +kernel
theorem d_Sm_init_268 : decode b_Sm_init 268 = .ok (.dup, 1) := by decide +kernel
theorem d_Sm_init_269 : decode b_Sm_init 269 = .ok (.bipush 10, 2) := by decide +kernel
theorem d_Sm_init_271 : decode b_Sm_init 271 = .ok (.new 7, 3) := by decide +kernel
theorem d_Sm_init_274 : decode b_Sm_init 274 = .ok (.dup, 1) := by decide +kernel
theorem d_Sm_init_275 : decode b_Sm_init 275 = .ok (.ldc 81, 2) := by decide +kernel
theorem d_Sm_init_277 : decode b_Sm_init 277 = .ok (.ldc 59, 2) := by decide +kernel
theorem d_Sm_init_279 : decode b_Sm_init 279 = .ok (.invokespecial 13, 3) := by decide +kernel
theorem d_Sm_init_282 : decode b_Sm_init 282 = .ok (.aastore, 1) := by decide +kernel
theorem d_Sm_init_283 : decode b_Sm_init 283 = .ok (.dup, 1) := by decide +kernel
theorem d_Sm_init_284 : decode b_Sm_init 284 = .ok (.bipush 11, 2) := by decide +kernel
theorem d_Sm_init_286 : decode b_Sm_init 286 = .ok (.new 7, 3) := by decide +kernel
theorem d_Sm_init_289 : decode b_Sm_init 289 = .ok (.dup, 1) := by decide +kernel
theorem d_Sm_init_290 : decode b_Sm_init 290 = .ok (.ldc 83, 2) := by decide +kernel
theorem d_Sm_init_292 : decode b_Sm_init 292 = .ok (.ldc 43, 2) := by decide +kernel
theorem d_Sm_init_294 : decode b_Sm_init 294 = .ok (.invokespecial 13, 3) := by decide +kernel
theorem d_Sm_init_297 : decode b_Sm_init 297 = .ok (.aastore, 1) := by decide +kernel
theorem d_Sm_init_298 : decode b_Sm_init 298 = .ok (.dup, 1) := by decide +kernel
theorem d_Sm_init_299 : decode b_Sm_init 299 = .ok (.bipush 12, 2) := by decide +kernel
theorem d_Sm_init_301 : decode b_Sm_init 301 = .ok (.new 7, 3) := by decide +kernel
theorem d_Sm_init_304 : decode b_Sm_init 304 = .ok (.dup, 1) := by decide +kernel
theorem d_Sm_init_305 : decode b_Sm_init 305 = .ok (.ldc 85, 2) := by decide +kernel
theorem d_Sm_init_307 : decode b_Sm_init 307 = .ok (.ldc 43, 2) := by decide +kernel
theorem d_Sm_init_309 : decode b_Sm_init 309 = .ok (.invokespecial 13, 3) := by decide +kernel
theorem d_Sm_init_312 : decode b_Sm_init 312 = .ok (.aastore, 1) := by decide +kernel
theorem d_Sm_init_313 : decode b_Sm_init 313 = .ok (.dup, 1) := by decide +kernel
theorem d_Sm_init_314 : decode b_Sm_init 314 = .ok (.bipush 13, 2) := by decide +kernel
theorem d_Sm_init_316 : decode b_Sm_init 316 = .ok (.new 7, 3) := by decide +kernel
theorem d_Sm_init_319 : decode b_Sm_init 319 = .ok (.dup, 1) := by decide +kernel
theorem d_Sm_init_320 : decode b_Sm_init 320 = .ok (.ldc 87, 2) := by decide +kernel
theorem d_Sm_init_322 : decode b_Sm_init 322 = .ok (.ldc 67, 2) := by decide +kernel
theorem d_Sm_init_324 : decode b_Sm_init 324 = .ok (.invokespecial 13, 3) := by decide +kernel
theorem d_Sm_init_327 : decode b_Sm_init 327 = .ok (.aastore, 1) := by decide +kernel
theorem d_Sm_init_328 : decode b_Sm_init 328 = .ok (.dup, 1) := by decide +kernel
theorem d_Sm_init_329 : decode b_Sm_init 329 = .ok (.bipush 14, 2) := by decide +kernel
theorem d_Sm_init_331 : decode b_Sm_init 331 = .ok (.new 7, 3) := by decide +kernel
theorem d_Sm_init_334 : decode b_Sm_init 334 = .ok (.dup, 1) := by decide +kernel
theorem d_Sm_init_335 : decode b_Sm_init 335 = .ok (.ldc 89, 2) := by decide +kernel
theorem d_Sm_init_337 : decode b_Sm_init 337 = .ok (.ldc 91, 2) := by decide +kernel
theorem d_Sm_init_339 : decode b_Sm_init 339 = .ok (.invokespecial 13, 3) := by decide +kernel
theorem d_Sm_init_342 : decode b_Sm_init 342 = .ok (.aastore, 1) := by decide +kernel
theorem d_Sm_init_343 : decode b_Sm_init 343 = .ok (.dup, 1) := by decide +kernel
theorem d_Sm_init_344 : decode b_Sm_init 344 = .ok (.bipush 15, 2) := by decide +kernel
theorem d_Sm_init_346 : decode b_Sm_init 346 = .ok (.new 7, 3) := by decide +kernel
theorem d_Sm_init_349 : decode b_Sm_init 349 = .ok (.dup, 1) := by decide +kernel
theorem d_Sm_init_350 : decode b_Sm_init 350 = .ok (.ldc 93, 2) := by decide +kernel
theorem d_Sm_init_352 : decode b_Sm_init 352 = .ok (.ldc 95, 2) := by decide +kernel
theorem d_Sm_init_354 : decode b_Sm_init 354 = .ok (.invokespecial 13, 3) := by decide +kernel
theorem d_Sm_init_357 : decode b_Sm_init 357 = .ok (.aastore, 1) := by decide +kernel
theorem d_Sm_init_358 : decode b_Sm_init 358 = .ok (.dup, 1) := by decide +kernel
theorem d_Sm_init_359 : decode b_Sm_init 359 = .ok (.bipush 16, 2) := by decide +kernel
theorem d_Sm_init_361 : decode b_Sm_init 361 = .ok (.new 7, 3) := by decide +kernel
theorem d_Sm_init_364 : decode b_Sm_init 364 = .ok (.dup, 1) := by decide +kernel
theorem d_Sm_init_365 : decode b_Sm_init 365 = .ok (.ldc 97, 2) := by decide +kernel
theorem d_Sm_init_367 : decode b_Sm_init 367 = .ok (.ldc 79, 2) := by decide +kernel
theorem d_Sm_init_369 : decode b_Sm_init 369 = .ok (.invokespecial 13, 3) := by decide +kernel
theorem d_Sm_init_372 : decode b_Sm_init 372 = .ok (.aastore, 1) := by decide +kernel
theorem d_Sm_init_373 : decode b_Sm_init 373 = .ok (.dup, 1) := by decide +kernel
theorem d_Sm_init_374 : decode b_Sm_init 374 = .ok (.bipush 17, 2) := by decide +kernel
theorem d_Sm_init_376 : decode b_Sm_init 376 = .ok (.new 7, 3) := by decide +kernel
theorem d_Sm_init_379 : decode b_Sm_init 379 = .ok (.dup, 1) := by decide +kernel
theorem d_Sm_init_380 : decode b_Sm_init 380 = .ok (.ldc 99, 2) := by decide +kernel
theorem d_Sm_init_382 : decode b_Sm_init 382 = .ok (.ldc 67, 2) := by decide +kernel
theorem d_Sm_init_384 : decode b_Sm_init 384 = .ok (.invokespecial 13, 3) := by decide +kernel
theorem d_Sm_init_387 : decode b_Sm_init 387 = .ok (.aastore, 1) := by decide +kernel
theorem d_Sm_init_388 : decode b_Sm_init 388 = .ok (.dup, 1) := by decide +kernel
theorem d_Sm_init_389 : decode b_Sm_init 389 = .ok (.bipush 18, 2) := by decide +kernel
theorem d_Sm_init_391 : decode b_Sm_init 391 = .ok (.new 7, 3) := by decide +kernel
theorem d_Sm_init_394 : decode b_Sm_init 394 = .ok (.dup, 1) := by decide +kernel
theorem d_Sm_init_395 : decode b_Sm_init 395 = .ok (.ldc 101, 2) := by decide +kernel
theorem d_Sm_init_397 : decode b_Sm_init 397 = .ok (.ldc 91, 2) := by decide +kernel
theorem d_Sm_init_399 : decode b_Sm_init 399 = .ok (.invokespecial 13, 3) := by decide +kernel
theorem d_Sm_init_402 : decode b_Sm_init 402 = .ok (.aastore, 1) := by decide +kernel
theorem d_Sm_init_403 : decode b_Sm_init 403 = .ok (.dup, 1) := by decide +kernel
theorem d_Sm_init_404 : decode b_Sm_init 404 = .ok (.bipush 19, 2) := by decide +kernel
theorem d_Sm_init_406 : decode b_Sm_init 406 = .ok (.new 7, 3) := by decide +kernel
theorem d_Sm_init_409 : decode b_Sm_init 409 = .ok (.dup, 1) := by decide +kernel
theorem d_Sm_init_410 : decode b_Sm_init 410 = .ok (.ldc 103, 2) := by decide +kernel
theorem d_Sm_init_412 : decode b_Sm_init 412 = .ok (.ldc 105, 2) := by decide +kernel
theorem d_Sm_init_414 : decode b_Sm_init 414 = .ok (.invokespecial 13, 3) := by decide +kernel
theorem d_Sm_init_417 : decode b_Sm_init 417 = .ok (.aastore, 1) := by decide +kernel
theorem d_Sm_init_418 : decode b_Sm_init 418 = .ok (.putfield 107, 3) := by decide +kernel
theorem d_Sm_init_421 : decode b_Sm_init 421 = .ok (.aload_n 0, 1) := by decide +kernel
theorem d_Sm_init_422 : decode b_Sm_init 422 = .ok (.bipush 7, 2) := by decide +kernel
theorem d_Sm_init_424 : decode b_Sm_init 424 = .ok (.anewarray 7, 3) := by decide +kernel
theorem d_Sm_init_427 : decode b_Sm_init 427 = .ok (.dup, 1) := by decide +kernel
theorem d_Sm_init_428 : decode b_Sm_init 428 = .ok (.iconst 0, 1) := by decide +kernel
theorem d_Sm_init_429 : decode b_Sm_init 429 = .ok (.new 7, 3) := by decide +kernel
theorem d_Sm_init_432 : decode b_Sm_init 432 = .ok (.dup, 1) := by decide +kernel
theorem d_Sm_init_433 : decode b_Sm_init 433 = .ok (.ldc 110, 2) := by decide +kernel
theorem d_Sm_init_435 : decode b_Sm_init 435 = .ok (.ldc 112, 2) := by decide +kernel
theorem d_Sm_init_437 : decode b_Sm_init 437 = .ok (.invokespecial 13, 3) := by decide +kernel
theorem d_Sm_init_440 : decode b_Sm_init 440 = .ok (.aastore, 1) := by decide +kernel
theorem d_Sm_init_441 : decode b_Sm_init 441 = .ok (.dup, 1) := by decide +kernel
theorem d_Sm_init_442 : decode b_Sm_init 442 = .ok (.iconst 1, 1) := by decide +kernel
theorem d_Sm_init_443 : decode b_Sm_init 443 = .ok (.new 7, 3) := by decide +kernel
theorem d_Sm_init_446 : decode b_Sm_init 446 = .ok (.dup, 1) := by decide +kernel
theorem d_Sm_init_447 : decode b_Sm_init 447 = .ok (.ldc 114, 2) := by decide +kernel
theorem d_Sm_init_449 : decode b_Sm_init 449 = .ok (.ldc 22, 2) := by decide +kernel
theorem d_Sm_init_451 : decode b_Sm_init 451 = .ok (.invokespecial 13, 3) := by decide +kernel
theorem d_Sm_init_454 : decode b_Sm_init 454 = .ok (.aastore, 1) := by decide +kernel
theorem d_Sm_init_455 : decode b_Sm_init 455 = .ok (.dup, 1) := by decide +kernel
theorem d_Sm_init_456 : decode b_Sm_init 456 = .ok (.iconst 2, 1) := by decide +kernel
theorem d_Sm_init_457 : decode b_Sm_init 457 = .ok (.new 7, 3) := by decide +kernel
theorem d_Sm_init_460 : decode b_Sm_init 460 = .ok (.dup, 1) := by decide +kernel
theorem d_Sm_init_461 : decode b_Sm_init 461 = .ok (.ldc 116, 2) := by decide +kernel
theorem d_Sm_init_463 : decode b_Sm_init 463 = .ok (.ldc 67, 2) := by decide +kernel
theorem d_Sm_init_465 : decode b_Sm_init 465 = .ok (.invokespecial 13, 3) := by decide +kernel
theorem d_Sm_init_468 : decode b_Sm_init 468 = .ok (.aastore, 1) := by decide +kernel
theorem d_Sm_init_469 : decode b_Sm_init 469 = .ok (.dup, 1) := by decide +kernel
theorem d_Sm_init_470 : decode b_Sm_init 470 = .ok (.iconst 3, 1) := by decide +kernel
theorem d_Sm_init_471 : decode b_Sm_init 471 = .ok (.new 7, 3) := by decide +kernel
theorem d_Sm_init_474 : decode b_Sm_init 474 = .ok (.dup, 1) := by decide +kernel
theorem d_Sm_init_475 : decode b_Sm_init 475 = .ok (.ldc 118, 2) := by decide +kernel
theorem d_Sm_init_477 : decode b_Sm_init 477 = .ok (.ldc 112, 2) := by decide +kernel
theorem d_Sm_init_479 : decode b_Sm_init 479 = .ok (.invokespecial 13, 3) := by decide +kernel
theorem d_Sm_init_482 : decode b_Sm_init 482 = .ok (.aastore, 1) := by decide +kernel
theorem d_Sm_init_483 : decode b_Sm_init 483 = .ok (.dup, 1) := by decide +kernel
theorem d_Sm_init_484 : decode b_Sm_init 484 = .ok (.iconst 4, 1) := by decide +kernel
theorem d_Sm_init_485 : decode b_Sm_init 485 = .ok (.new 7, 3) := by decide +kernel
theorem d_Sm_init_488 : decode b_Sm_init 488 = .ok (.dup, 1) := by decide +kernel
theorem d_Sm_init_489 : decode b_Sm_init 489 = .ok (.ldc 120, 2) := by decide +kernel
theorem d_Sm_init_491 : decode b_Sm_init 491 = .ok (.ldc 112, 2) := by decide +kernel
theorem d_Sm_init_493 : decode b_Sm_init 493 = .ok (.invokespecial 13, 3) := by decide +kernel
theorem d_Sm_init_496 : decode b_Sm_init 496 = .ok (.aastore, 1) := by decide +kernel
theorem d_Sm_init_497 : decode b_Sm_init 497 = .ok (.dup, 1) := by decide +kernel
theorem d_Sm_init_498 : decode b_Sm_init 498 = .ok (.iconst 5, 1) := by decide +kernel
theorem d_Sm_init_499 : decode b_Sm_init 499 = .ok (.new 7, 3) := by decide +kernel
theorem d_Sm_init_502 : decode b_Sm_init 502 = .ok (.dup, 1) := by decide +kernel
theorem d_Sm_init_503 : decode b_Sm_init 503 = .ok (.ldc 95, 2) := by decide +kernel
theorem d_Sm_init_505 : decode b_Sm_init 505 = .ok (.ldc 22, 2) := by decide +kernel
theorem d_Sm_init_507 : decode b_Sm_init 507 = .ok (.invokespecial 13, 3) := by decide +kernel
theorem d_Sm_init_510 : decode b_Sm_init 510 = .ok (.aastore, 1) := by decide +kernel
theorem d_Sm_init_511 : decode b_Sm_init 511 = .ok (.dup, 1) := by decide +kernel
theorem d_Sm_init_512 : decode b_Sm_init 512 = .ok (.bipush 6, 2) := by decide +kernel
theorem d_Sm_init_514 : decode b_Sm_init 514 = .ok (.new 7, 3) := by decide +kernel
theorem d_Sm_init_517 : decode b_Sm_init 517 = .ok (.dup, 1) := by decide +kernel
theorem d_Sm_init_518 : decode b_Sm_init 518 = .ok (.ldc 122, 2) := by decide +kernel
theorem d_Sm_init_520 : decode b_Sm_init 520 = .ok (.ldc 22, 2) := by decide +kernel
theorem d_Sm_init_522 : decode b_Sm_init 522 = .ok (.invokespecial 13, 3) := by decide +kernel
theorem d_Sm_init_525 : decode b_Sm_init 525 = .ok (.aastore, 1) := by decide +kernel
theorem d_Sm_init_526 : decode b_Sm_init 526 = .ok (.putfield 124, 3) := by decide +kernel
theorem d_Sm_init_529 : decode b_Sm_init 529 = .ok (.aload_n 0, 1) := by decide +kernel
theorem d_Sm_init_530 : decode b_Sm_init 530 = .ok (.bipush 19, 2) := by decide +kernel
theorem d_Sm_init_532 : decode b_Sm_init 532 = .ok (.anewarray 7, 3) := by decide +kernel
theorem d_Sm_init_535 : decode b_Sm_init 535 = .ok (.dup, 1) := by decide +kernel
theorem d_Sm_init_536 : decode b_Sm_init 536 = .ok (.iconst 0, 1) := by decide +kernel
theorem d_Sm_init_537 : decode b_Sm_init 537 = .ok (.new 7, 3) := by decide +kernel
theorem d_Sm_init_540 : decode b_Sm_init 540 = .ok (.dup, 1) := by decide +kernel
theorem d_Sm_init_541 : decode b_Sm_init 541 = .ok (.ldc 67, 2) := by decide +kernel
theorem d_Sm_init_543 : decode b_Sm_init 543 = .ok (.ldc 22, 2) := by decide +kernel
theorem d_Sm_init_545 : decode b_Sm_init 545 = .ok (.invokespecial 13, 3) := by decide +kernel
theorem d_Sm_init_548 : decode b_Sm_init 548 = .ok (.aastore, 1) := by decide +kernel
theorem d_Sm_init_549 : decode b_Sm_init 549 = .ok (.dup, 1) := by decide +kernel
theorem d_Sm_init_550 : decode b_Sm_init 550 = .ok (.iconst 1, 1) := by decide +kernel
theorem d_Sm_init_551 : decode b_Sm_init 551 = .ok (.new 7, 3) := by decide +kernel
theorem d_Sm_init_554 : decode b_Sm_init 554 = .ok (.dup, 1) := by decide +kernel
theorem d_Sm_init_555 : decode b_Sm_init 555 = .ok (.ldc 55, 2) := by decide +kernel
theorem d_Sm_init_557 : decode b_Sm_init 557 = .ok (.ldc 22, 2) := by decide +kernel
theorem d_Sm_init_559 : decode b_Sm_init 559 = .ok (.invokespecial 13, 3) := by decide +kernel
theorem d_Sm_init_562 : decode b_Sm_init 562 = .ok (.aastore, 1) := by decide +kernel
theorem d_Sm_init_563 : decode b_Sm_init 563 = .ok (.dup, 1) := by decide +kernel
theorem d_Sm_init_564 : decode b_Sm_init 564 = .ok (.iconst 2, 1) := by decide +kernel
theorem d_Sm_init_565 : decode b_Sm_init 565 = .ok (.new 7, 3) := by decide +kernel
theorem d_Sm_init_568 : decode b_Sm_init 568 = .ok (.dup, 1) := by decide +kernel
theorem d_Sm_init_569 : decode b_Sm_init 569 = .ok (.ldc 51, 2) := by decide +kernel
theorem d_Sm_init_571 : decode b_Sm_init 571 = .ok (.ldc 22, 2) := by decide +kernel
theorem d_Sm_init_573 : decode b_Sm_init 573 = .ok (.invokespecial 13, 3) := by decide +kernel
theorem d_Sm_init_576 : decode b_Sm_init 576 = .ok (.aastore, 1) := by decide +kernel
theorem d_Sm_init_577 : decode b_Sm_init 577 = .ok (.dup, 1) := by decide +kernel
theorem d_Sm_init_578 : decode b_Sm_init 578 = .ok (.iconst 3, 1) := by decide +kernel
theorem d_Sm_init_579 : decode b_Sm_init 579 = .ok (.new 7, 3) := by decide +kernel
theorem d_Sm_init_582 : decode b_Sm_init 582 = .ok (.dup, 1) := by decide +kernel
theorem d_Sm_init_583 : decode b_Sm_init 583 = .ok (.ldc 127, 2) := by decide +kernel
theorem d_Sm_init_585 : decode b_Sm_init 585 = .ok (.ldc 22, 2) := by decide +kernel
theorem d_Sm_init_587 : decode b_Sm_init 587 = .ok (.invokespecial 13, 3) := by decide +kernel
theorem d_Sm_init_590 : decode b_Sm_init 590 = .ok (.aastore, 1) := by decide +kernel
theorem d_Sm_init_591 : decode b_Sm_init 591 = .ok (.dup, 1) := by decide +kernel
theorem d_Sm_init_592 : decode b_Sm_init 592 = .ok (.iconst 4, 1) := by decide +kernel
theorem d_Sm_init_593 : decode b_Sm_init 593 = .ok (.new 7, 3) := by decide +kernel
theorem d_Sm_init_596 : decode b_Sm_init 596 = .ok (.dup, 1) := by decide +kernel
theorem d_Sm_init_597 : decode b_Sm_init 597 = .ok (.ldc 112, 2) := by decide +kernel
theorem d_Sm_init_599 : decode b_Sm_init 599 = .ok (.ldc 22, 2) := by decide +kernel
theorem d_Sm_init_601 : decode b_Sm_init 601 = .ok (.invokespecial 13, 3) := by decide +kernel
theorem d_Sm_init_604 : decode b_Sm_init 604 = .ok (.aastore, 1) := by decide +kernel
theorem d_Sm_init_605 : decode b_Sm_init 605 = .ok (.dup, 1) := by decide +kernel
theorem d_Sm_init_606 : decode b_Sm_init 606 = .ok (.iconst 5, 1) := by decide +kernel
theorem d_Sm_init_607 : decode b_Sm_init 607 = .ok (.new 7, 3) := by decide +kernel
theorem d_Sm_init_610 : decode b_Sm_init 610 = .ok (.dup, 1) := by decide +kernel
theorem d_Sm_init_611 : decode b_Sm_init 611 = .ok (.ldc 63, 2) := by decide +kernel
theorem d_Sm_init_613 : decode b_Sm_init 613 = .ok (.ldc 22, 2) := by decide +kernel
theorem d_Sm_init_615 : decode b_Sm_init 615 = .ok (.invokespecial 13, 3) := by decide +kernel
theorem d_Sm_init_618 : decode b_Sm_init 618 = .ok (.aastore, 1) := by decide +kernel
theorem d_Sm_init_619 : decode b_Sm_init 619 = .ok (.dup, 1) := by decide +kernel
theorem d_Sm_init_620 : decode b_Sm_init 620 = .ok (.bipush 6, 2) := by decide +kernel
theorem d_Sm_init_622 : decode b_Sm_init 622 = .ok (.new 7, 3) := by decide +kernel
theorem d_Sm_init_625 : decode b_Sm_init 625 = .ok (.dup, 1) := by decide +kernel
theorem d_Sm_init_626 : decode b_Sm_init 626 = .ok (.ldc 129, 2) := by decide +kernel
theorem d_Sm_init_628 : decode b_Sm_init 628 = .ok (.ldc 22, 2) := by decide +kernel
theorem d_Sm_init_630 : decode b_Sm_init 630 = .ok (.invokespecial 13, 3) := by decide +kernel
theorem d_Sm_init_633 : decode b_Sm_init 633 = .ok (.aastore, 1) := by decide +kernel
theorem d_Sm_init_634 : decode b_Sm_init 634 = .ok (.dup, 1) := by decide +kernel
theorem d_Sm_init_635 : decode b_Sm_init 635 = .ok (.bipush 7, 2) := by decide +kernel
theorem d_Sm_init_637 : decode b_Sm_init 637 = .ok (.new 7, 3) := by decide +kernel
theorem d_Sm_init_640 : decode b_Sm_init 640 = .ok (.dup, 1) := by decide +kernel
theorem d_Sm_init_641 : decode b_Sm_init 641 = .ok (.ldc 131, 2) := by decide +kernel
theorem d_Sm_init_643 : decode b_Sm_init 643 = .ok (.ldc 22, 2) := by decide +kernel
theorem d_Sm_init_645 : decode b_Sm_init 645 = .ok (.invokespecial 13, 3) := by decide +kernel
theorem d_Sm_init_648 : decode b_Sm_init 648 = .ok (.aastore, 1) := by decide +kernel
theorem d_Sm_init_649 : decode b_Sm_init 649 = .ok (.dup, 1) := by decide +kernel
theorem d_Sm_init_650 : decode b_Sm_init 650 = .ok (.bipush 8, 2) := by decide +kernel
theorem d_Sm_init_652 : decode b_Sm_init 652 = .ok (.new 7, 3) := by decide +kernel
theorem d_Sm_init_655 : decode b_Sm_init 655 = .ok (.dup, 1) := by decide +kernel
theorem d_Sm_init_656 : decode b_Sm_init 656 = .ok (.ldc 133, 2) := by decide +kernel
theorem d_Sm_init_658 : decode b_Sm_init 658 = .ok (.ldc 22, 2) := by decide +kernel
theorem d_Sm_init_660 : decode b_Sm_init 660 = .ok (.invokespecial 13, 3) := by decide +kernel
theorem d_Sm_init_663 : decode b_Sm_init 663 = .ok (.aastore, 1) := by decide +kernel
theorem d_Sm_init_664 : decode b_Sm_init 664 = .ok (.dup, 1) := by decide +kernel
theorem d_Sm_init_665 : decode b_Sm_init 665 = .ok (.bipush 9, 2) := by decide +kernel
theorem d_Sm_init_667 : decode b_Sm_init 667 = .ok (.new 7, 3) := by decide +kernel
theorem d_Sm_init_670 : decode b_Sm_init 670 = .ok (.dup, 1) := by decide +kernel
theorem d_Sm_init_671 : decode b_Sm_init 671 = .ok (.ldc 135, 2) := by decide +kernel
theorem d_Sm_init_673 : decode b_Sm_init 673 = .ok (.ldc 22, 2) := by decide +kernel
theorem d_Sm_init_675 : decode b_Sm_init 675 = .ok (.invokespecial 13, 3) := by decide +kernel
theorem d_Sm_init_678 : decode b_Sm_init 678 = .ok (.aastore, 1) := by decide +kernel
theorem d_Sm_init_679 : decode b_Sm_init 679 = .ok (.dup, 1) := by decide +kernel
theorem d_Sm_init_680 : decode b_Sm_init 680 = .ok (.bipush 10, 2) := by decide +kernel
theorem d_Sm_init_682 : decode b_Sm_init 682 = .ok (.new 7, 3) := by decide +kernel
theorem d_Sm_init_685 : decode b_Sm_init 685 = .ok (.dup, 1) := by decide +kernel
theorem d_Sm_init_686 : decode b_Sm_init 686 = .ok (.ldc 71, 2) := by decide +kernel
theorem d_Sm_init_688 : decode b_Sm_init 688 = .ok (.ldc 22, 2) := by decide +kernel
theorem d_Sm_init_690 : decode b_Sm_init 690 = .ok (.invokespecial 13, 3) := by decide +kernel
theorem d_Sm_init_693 : decode b_Sm_init 693 = .ok (.aastore, 1) := by decide +kernel
theorem d_Sm_init_694 : decode b_Sm_init 694 = .ok (.dup, 1) := by decide +kernel
theorem d_Sm_init_695 : decode b_Sm_init 695 = .ok (.bipush 11, 2) := by decide +kernel
theorem d_Sm_init_697 : decode b_Sm_init 697 = .ok (.new 7, 3) := by decide +kernel
theorem d_Sm_init_700 : decode b_Sm_init 700 = .ok (.dup, 1) := by decide +kernel
theorem d_Sm_init_701 : decode b_Sm_init 701 = .ok (.ldc 137, 2) := by decide +kernel
theorem d_Sm_init_703 : decode b_Sm_init 703 = .ok (.ldc 22, 2) := by decide +kernel
theorem d_Sm_init_705 : decode b_Sm_init 705 = .ok (.invokespecial 13, 3) := by decide +kernel
theorem d_Sm_init_708 : decode b_Sm_init 708 = .ok (.aastore, 1) := by decide +kernel
theorem d_Sm_init_709 : decode b_Sm_init 709 = .ok (.dup, 1) := by decide +kernel
theorem d_Sm_init_710 : decode b_Sm_init 710 = .ok (.bipush 12, 2) := by decide +kernel
theorem d_Sm_init_712 : decode b_Sm_init 712 = .ok (.new 7, 3) := by decide +kernel
theorem d_Sm_init_715 : decode b_Sm_init 715 = .ok (.dup, 1) := by decide +kernel
theorem d_Sm_init_716 : decode b_Sm_init 716 = .ok (.ldc 139, 2) := by decide +kernel
theorem d_Sm_init_718 : decode b_Sm_init 718 = .ok (.ldc 22, 2) := by decide +kernel
theorem d_Sm_init_720 : decode b_Sm_init 720 = .ok (.invokespecial 13, 3) := by decide +kernel
theorem d_Sm_init_723 : decode b_Sm_init 723 = .ok (.aastore, 1) := by decide +kernel
theorem d_Sm_init_724 : decode b_Sm_init 724 = .ok (.dup, 1) := by decide +kernel
theorem d_Sm_init_725 : decode b_Sm_init 725 = .ok (.bipush 13, 2) := by decide +kernel
theorem d_Sm_init_727 : decode b_Sm_init 727 = .ok (.new 7, 3) := by decide +kernel
theorem d_Sm_init_730 : decode b_Sm_init 730 = .ok (.dup, 1) := by decide +kernel
theorem d_Sm_init_731 : decode b_Sm_init 731 = .ok (.ldc 141, 2) := by decide +kernel
theorem d_Sm_init_733 : decode b_Sm_init 733 = .ok (.ldc 22, 2) := by decide +kernel
theorem d_Sm_init_735 : decode b_Sm_init 735 = .ok (.invokespecial 13, 3) := by decide +kernel
theorem d_Sm_init_738 : decode b_Sm_init 738 = .ok (.aastore, 1) := by decide +kernel
theorem d_Sm_init_739 : decode b_Sm_init 739 = .ok (.dup, 1) := by decide +kernel
theorem d_Sm_init_740 : decode b_Sm_init 740 = .ok (.bipush 14, 2) := by decide +kernel
theorem d_Sm_init_742 : decode b_Sm_init 742 = .ok (.new 7, 3) := by decide +kernel
theorem d_Sm_init_745 : decode b_Sm_init 745 = .ok (.dup, 1) := by decide +kernel
theorem d_Sm_init_746 : decode b_Sm_init 746 = .ok (.ldc 43, 2) := by decide +kernel
theorem d_Sm_init_748 : decode b_Sm_init 748 = .ok (.ldc 22, 2) := by decide +kernel
theorem d_Sm_init_750 : decode b_Sm_init 750 = .ok (.invokespecial 13, 3) := by decide +kernel
theorem d_Sm_init_753 : decode b_Sm_init 753 = .ok (.aastore, 1) := by decide +kernel
theorem d_Sm_init_754 : decode b_Sm_init 754 = .ok (.dup, 1) := by decide +kernel
theorem d_Sm_init_755 : decode b_Sm_init 755 = .ok (.bipush 15, 2) := by decide +kernel
theorem d_Sm_init_757 : decode b_Sm_init 757 = .ok (.new 7, 3) := by decide +kernel
theorem d_Sm_init_760 : decode b_Sm_init 760 = .ok (.dup, 1) := by decide +kernel
theorem d_Sm_init_761 : decode b_Sm_init 761 = .ok (.ldc 143, 2) := by decide +kernel
theorem d_Sm_init_763 : decode b_Sm_init 763 = .ok (.ldc 22, 2) := by decide +kernel
theorem d_Sm_init_765 : decode b_Sm_init 765 = .ok (.invokespecial 13, 3) := by decide +kernel
theorem d_Sm_init_768 : decode b_Sm_init 768 = .ok (.aastore, 1) := by decide +kernel
theorem d_Sm_init_769 : decode b_Sm_init 769 = .ok (.dup, 1) := by decide +kernel
theorem d_Sm_init_770 : decode b_Sm_init 770 = .ok (.bipush 16, 2) := by decide +kernel
theorem d_Sm_init_772 : decode b_Sm_init 772 = .ok (.new 7, 3) := by decide +kernel
theorem d_Sm_init_775 : decode b_Sm_init 775 = .ok (.dup, 1) := by decide +kernel
theorem d_Sm_init_776 : decode b_Sm_init 776 = .ok (.ldc 79, 2) := by decide +kernel
theorem d_Sm_init_778 : decode b_Sm_init 778 = .ok (.ldc 22, 2) := by decide +kernel
theorem d_Sm_init_780 : decode b_Sm_init 780 = .ok (.invokespecial 13, 3) := by decide +kernel
theorem d_Sm_init_783 : decode b_Sm_init 783 = .ok (.aastore, 1) := by decide +kernel
theorem d_Sm_init_784 : decode b_Sm_init 784 = .ok (.dup, 1) := by decide +kernel
theorem d_Sm_init_785 : decode b_Sm_init 785 = .ok (.bipush 17, 2) := by decide +kernel
theorem d_Sm_init_787 : decode b_Sm_init 787 = .ok (.new 7, 3) := by decide +kernel
theorem d_Sm_init_790 : decode b_Sm_init 790 = .ok (.dup, 1) := by decide +kernel
theorem d_Sm_init_791 : decode b_Sm_init 791 = .ok (.ldc 91, 2) := by decide +kernel
theorem d_Sm_init_793 : decode b_Sm_init 793 = .ok (.ldc 22, 2) := by decide +kernel
theorem d_Sm_init_795 : decode b_Sm_init 795 = .ok (.invokespecial 13, 3) := by decide +kernel
theorem d_Sm_init_798 : decode b_Sm_init 798 = .ok (.aastore, 1) := by decide +kernel
theorem d_Sm_init_799 : decode b_Sm_init 799 = .ok (.dup, 1) := by decide +kernel
theorem d_Sm_init_800 : decode b_Sm_init 800 = .ok (.bipush 18, 2) := by decide +kernel
theorem d_Sm_init_802 : decode b_Sm_init 802 = .ok (.new 7, 3) := by decide +kernel
theorem d_Sm_init_805 : decode b_Sm_init 805 = .ok (.dup, 1) := by decide +kernel
theorem d_Sm_init_806 : decode b_Sm_init 806 = .ok (.ldc 59, 2) := by decide +kernel
theorem d_Sm_init_808 : decode b_Sm_init 808 = .ok (.ldc 22, 2) := by decide +kernel
theorem d_Sm_init_810 : decode b_Sm_init 810 = .ok (.invokespecial 13, 3) := by decide +kernel
theorem d_Sm_init_813 : decode b_Sm_init 813 = .ok (.aastore, 1) := by decide +kernel
theorem d_Sm_init_814 : decode b_Sm_init 814 = .ok (.putfield 145, 3) := by decide +kernel
theorem d_Sm_init_817 : decode b_Sm_init 817 = .ok (.aload_n 0, 1) := by decide +kernel
theorem d_Sm_init_818 : decode b_Sm_init 818 = .ok (.new 148, 3) := by decide +kernel
theorem d_Sm_init_821 : decode b_Sm_init 821 = .ok (.dup, 1) := by decide +kernel
theorem d_Sm_init_822 : decode b_Sm_init 822 = .ok (.iload_n 1, 1) := by decide +kernel
theorem d_Sm_init_823 : decode b_Sm_init 823 = .ok (.invokespecial 150, 3) := by decide +kernel
theorem d_Sm_init_826 : decode b_Sm_init 826 = .ok (.putfield 153, 3) := by decide +kernel
theorem d_Sm_init_829 : decode b_Sm_init 829 = .ok (.aload_n 0, 1) := by decide +kernel
theorem d_Sm_init_830 : decode b_Sm_init 830 = .ok (.iload_n 1, 1) := by decide +kernel
theorem d_Sm_init_831 : decode b_Sm_init 831 = .ok (.newarray .boolean, 2) := by decide +kernel
theorem d_Sm_init_833 : decode b_Sm_init 833 = .ok (.putfield 157, 3) := by decide +kernel
theorem d_Sm_init_836 : decode b_Sm_init 836 = .ok (.return_, 1) := by decide +kernel
theorem d_En_init_0 : decode b_En_init 0 = .ok (.aload_n 0, 1) := by decide +kernel
theorem d_En_init_1 : decode b_En_init 1 = .ok (.invokespecial 1, 3) := by decide +kernel
theorem d_En_init_4 : decode b_En_init 4 = .ok (.aload_n 0, 1) := by decide +kernel
theorem d_En_init_5 : decode b_En_init 5 = .ok (.aload_n 1, 1) := by decide +kernel
theorem d_En_init_6 : decode b_En_init 6 = .ok (.putfield 7, 3) := by decide +kernel
theorem d_En_init_9 : decode b_En_init 9 = .ok (.aload_n 0, 1) := by decide +kernel
theorem d_En_init_10 : decode b_En_init 10 = .ok (.aload_n 2, 1) := by decide +kernel
theorem d_En_init_11 : decode b_En_init 11 = .ok (.putfield 13, 3) := by decide +kernel
theorem d_En_init_14 : decode b_En_init 14 = .ok (.return_, 1) := by decide +kernel
theorem d_Wo_init_0 : decode b_Wo_init 0 = .ok (.aload_n 0, 1) := by decide +kernel
theorem d_Wo_init_1 : decode b_Wo_init 1 = .ok (.invokespecial 1, 3) := by decide +kernel
theorem d_Wo_init_4 : decode b_Wo_init 4 = .ok (.aload_n 0, 1) := by decide +kernel
theorem d_Wo_init_5 : decode b_Wo_init 5 = .ok (.iconst 0, 1) := by decide +kernel
theorem d_Wo_init_6 : decode b_Wo_init 6 = .ok (.putfield 7, 3) := by decide +kernel
theorem d_Wo_init_9 : decode b_Wo_init 9 = .ok (.aload_n 0, 1) := by decide +kernel
theorem d_Wo_init_10 : decode b_Wo_init 10 = .ok (.iload_n 1, 1) := by decide +kernel
theorem d_Wo_init_11 : decode b_Wo_init 11 = .ok (.newarray .int, 2) := by decide +kernel
theorem d_Wo_init_13 : decode b_Wo_init 13 = .ok (.putfield 13, 3) := by decide +kernel
theorem d_Wo_init_16 : decode b_Wo_init 16 = .ok (.return_, 1) := by decide +kernel
theorem d_To_init_0 : decode b_To_init 0 = .ok (.aload_n 0, 1) := by decide +kernel
theorem d_To_init_1 : decode b_To_init 1 = .ok (.invokespecial 1, 3) := by decide +kernel
theorem d_To_init_4 : decode b_To_init 4 = .ok (.aload_n 0, 1) := by decide +kernel
theorem d_To_init_5 : decode b_To_init 5 = .ok (.iconst 0, 1) := by decide +kernel
theorem d_To_init_6 : decode b_To_init 6 = .ok (.putfield 7, 3) := by decide +kernel
theorem d_To_init_9 : decode b_To_init 9 = .ok (.aload_n 0, 1) := by decide +kernel
theorem d_To_init_10 : decode b_To_init 10 = .ok (.iload_n 1, 1) := by decide +kernel
theorem d_To_init_11 : decode b_To_init 11 = .ok (.newarray .int, 2) := by decide +kernel
theorem d_To_init_13 : decode b_To_init 13 = .ok (.putfield 13, 3) := by decide +kernel
end
section
theorem d_To_init_16 : decode b_To_init 16 = .ok (.aload_n 0, 1) := by decide +kernel
theorem d_To_init_17 : decode b_To_init 17 = .ok (.iload_n 1, 1) := by decide +kernel
theorem d_To_init_18 : decode b_To_init 18 = .ok (.newarray .int, 2) := by decide +kernel
theorem d_To_init_20 : decode b_To_init 20 = .ok (.putfield 17, 3) := by decide +kernel
theorem d_To_init_23 : decode b_To_init 23 = .ok (.aload_n 0, 1) := by decide +kernel
theorem d_To_init_24 : decode b_To_init 24 = .ok (.iload_n 1, 1) := by decide +kernel
theorem d_To_init_25 : decode b_To_init 25 = .ok (.iconst 1, 1) := by decide +kernel
theorem d_To_init_26 : decode b_To_init 26 = .ok (.iadd, 1) := by decide +kernel
theorem d_To_init_27 : decode b_To_init 27 = .ok (.newarray .int, 2) := by decide +kernel
theorem d_To_init_29 : decode b_To_init 29 = .ok (.putfield 20, 3) := by decide +kernel
theorem d_To_init_32 : decode b_To_init 32 = .ok (.return_, 1) := by decide +kernel
theorem d_X_cut_0 : decode b_X_cut 0 = .ok (.aload_n 0, 1) := by decide +kernel
theorem d_X_cut_1 : decode b_X_cut 1 = .ok (.getfield 22, 3) := by decide +kernel
theorem d_X_cut_4 : decode b_X_cut 4 = .ok (.aload_n 0, 1) := by decide +kernel
theorem d_X_cut_5 : decode b_X_cut 5 = .ok (.getfield 9, 3) := by decide +kernel
theorem d_X_cut_8 : decode b_X_cut 8 = .ok (.aload_n 0, 1) := by decide +kernel
theorem d_X_cut_9 : decode b_X_cut 9 = .ok (.getfield 13, 3) := by decide +kernel
theorem d_X_cut_12 : decode b_X_cut 12 = .ok (.invokevirtual 65, 3) := by decide +kernel
theorem d_X_cut_15 : decode b_X_cut 15 = .ok (.aload_n 0, 1) := by decide +kernel
theorem d_X_cut_16 : decode b_X_cut 16 = .ok (.iconst 0, 1) := by decide +kernel
theorem d_X_cut_17 : decode b_X_cut 17 = .ok (.putfield 13, 3) := by decide +kernel
theorem d_X_cut_20 : decode b_X_cut 20 = .ok (.aload_n 0, 1) := by decide +kernel
theorem d_X_cut_21 : decode b_X_cut 21 = .ok (.getfield 43, 3) := by decide +kernel
theorem d_X_cut_24 : decode b_X_cut 24 = .ok (.invokevirtual 69, 3) := by decide +kernel
theorem d_X_cut_27 : decode b_X_cut 27 = .ok (.aload_n 0, 1) := by decide +kernel
theorem d_X_cut_28 : decode b_X_cut 28 = .ok (.iconst 0, 1) := by decide +kernel
theorem d_X_cut_29 : decode b_X_cut 29 = .ok (.putfield 47, 3) := by decide +kernel
theorem d_X_cut_32 : decode b_X_cut 32 = .ok (.iconst 0, 1) := by decide +kernel
theorem d_X_cut_33 : decode b_X_cut 33 = .ok (.istore_n 1, 1) := by decide +kernel
theorem d_X_cut_34 : decode b_X_cut 34 = .ok (.iload_n 1, 1) := by decide +kernel
theorem d_X_cut_35 : decode b_X_cut 35 = .ok (.aload_n 0, 1) := by decide +kernel
theorem d_X_cut_36 : decode b_X_cut 36 = .ok (.getfield 22, 3) := by decide +kernel
theorem d_X_cut_39 : decode b_X_cut 39 = .ok (.getfield 72, 3) := by decide +kernel
theorem d_X_cut_42 : decode b_X_cut 42 = .ok (.if_icmp .ge 41, 3) := by decide +kernel
theorem d_X_cut_45 : decode b_X_cut 45 = .ok (.aload_n 0, 1) := by decide +kernel
theorem d_X_cut_46 : decode b_X_cut 46 = .ok (.getfield 22, 3) := by decide +kernel
theorem d_X_cut_49 : decode b_X_cut 49 = .ok (.iload_n 1, 1) := by decide +kernel
theorem d_X_cut_50 : decode b_X_cut 50 = .ok (.invokevirtual 75, 3) := by decide +kernel
theorem d_X_cut_53 : decode b_X_cut 53 = .ok (.istore_n 2, 1) := by decide +kernel
theorem d_X_cut_54 : decode b_X_cut 54 = .ok (.aload_n 0, 1) := by decide +kernel
theorem d_X_cut_55 : decode b_X_cut 55 = .ok (.getfield 22, 3) := by decide +kernel
theorem d_X_cut_58 : decode b_X_cut 58 = .ok (.iload_n 1, 1) := by decide +kernel
theorem d_X_cut_59 : decode b_X_cut 59 = .ok (.iload_n 2, 1) := by decide +kernel
theorem d_X_cut_60 : decode b_X_cut 60 = .ok (.invokevirtual 79, 3) := by decide +kernel
theorem d_X_cut_63 : decode b_X_cut 63 = .ok (.ifCond .eq 9, 3) := by decide +kernel
theorem d_X_cut_66 : decode b_X_cut 66 = .ok (.aload_n 0, 1) := by decide +kernel
theorem d_X_cut_67 : decode b_X_cut 67 = .ok (.iload_n 1, 1) := by decide +kernel
theorem d_X_cut_68 : decode b_X_cut 68 = .ok (.iload_n 2, 1) := by decide +kernel
theorem d_X_cut_69 : decode b_X_cut 69 = .ok (.invokevirtual 83, 3) := by decide +kernel
theorem d_X_cut_72 : decode b_X_cut 72 = .ok (.iload_n 1, 1) := by decide +kernel
theorem d_X_cut_73 : decode b_X_cut 73 = .ok (.iconst 1, 1) := by decide +kernel
theorem d_X_cut_74 : decode b_X_cut 74 = .ok (.iadd, 1) := by decide +kernel
theorem d_X_cut_75 : decode b_X_cut 75 = .ok (.iload_n 2, 1) := by decide +kernel
theorem d_X_cut_76 : decode b_X_cut 76 = .ok (.invokestatic 87, 3) := by decide +kernel
theorem d_X_cut_79 : decode b_X_cut 79 = .ok (.istore_n 1, 1) := by decide +kernel
theorem d_X_cut_80 : decode b_X_cut 80 = .ok (.goto (-46), 3) := by decide +kernel
theorem d_X_cut_83 : decode b_X_cut 83 = .ok (.aload_n 0, 1) := by decide +kernel
theorem d_X_cut_84 : decode b_X_cut 84 = .ok (.getfield 43, 3) := by decide +kernel
theorem d_X_cut_87 : decode b_X_cut 87 = .ok (.getfield 93, 3) := by decide +kernel
theorem d_X_cut_90 : decode b_X_cut 90 = .ok (.ireturn, 1) := by decide +kernel
theorem d_Te_read_0 : decode b_Te_read 0 = .ok (.aload_n 0, 1) := by decide +kernel
theorem d_Te_read_1 : decode b_Te_read 1 = .ok (.iconst 0, 1) := by decide +kernel
theorem d_Te_read_2 : decode b_Te_read 2 = .ok (.putfield 7, 3) := by decide +kernel
theorem d_Te_read_5 : decode b_Te_read 5 = .ok (.iconst 0, 1) := by decide +kernel
theorem d_Te_read_6 : decode b_Te_read 6 = .ok (.istore_n 3, 1) := by decide +kernel
theorem d_Te_read_7 : decode b_Te_read 7 = .ok (.iload_n 3, 1) := by decide +kernel
theorem d_Te_read_8 : decode b_Te_read 8 = .ok (.iload_n 2, 1) := by decide +kernel
theorem d_Te_read_9 : decode b_Te_read 9 = .ok (.if_icmp .ge 59, 3) := by decide +kernel
theorem d_Te_read_12 : decode b_Te_read 12 = .ok (.aload_n 1, 1) := by decide +kernel
theorem d_Te_read_13 : decode b_Te_read 13 = .ok (.iload_n 3, 1) := by decide +kernel
theorem d_Te_read_14 : decode b_Te_read 14 = .ok (.iload_n 2, 1) := by decide +kernel
theorem d_Te_read_15 : decode b_Te_read 15 = .ok (.invokestatic 17, 3) := by decide +kernel
theorem d_Te_read_18 : decode b_Te_read 18 = .ok (.istore 4, 2) := by decide +kernel
theorem d_Te_read_20 : decode b_Te_read 20 = .ok (.aload_n 0, 1) := by decide +kernel
theorem d_Te_read_21 : decode b_Te_read 21 = .ok (.getfield 13, 3) := by decide +kernel
theorem d_Te_read_24 : decode b_Te_read 24 = .ok (.aload_n 0, 1) := by decide +kernel
theorem d_Te_read_25 : decode b_Te_read 25 = .ok (.getfield 7, 3) := by decide +kernel
theorem d_Te_read_28 : decode b_Te_read 28 = .ok (.iload 4, 2) := by decide +kernel
theorem d_Te_read_30 : decode b_Te_read 30 = .ok (.ifCond .ne 8, 3) := by decide +kernel
theorem d_Te_read_33 : decode b_Te_read 33 = .ok (.ldc 23, 2) := by decide +kernel
theorem d_Te_read_35 : decode b_Te_read 35 = .ok (.goto 10, 3) := by decide +kernel
theorem d_Te_read_38 : decode b_Te_read 38 = .ok (.aload_n 1, 1) := by decide +kernel
theorem d_Te_read_39 : decode b_Te_read 39 = .ok (.iload_n 3, 1) := by decide +kernel
theorem d_Te_read_40 : decode b_Te_read 40 = .ok (.iload 4, 2) := by decide +kernel
theorem d_Te_read_42 : decode b_Te_read 42 = .ok (.invokestatic 24, 3) := by decide +kernel
theorem d_Te_read_45 : decode b_Te_read 45 = .ok (.iastore, 1) := by decide +kernel
theorem d_Te_read_46 : decode b_Te_read 46 = .ok (.aload_n 0, 1) := by decide +kernel
theorem d_Te_read_47 : decode b_Te_read 47 = .ok (.dup, 1) := by decide +kernel
theorem d_Te_read_48 : decode b_Te_read 48 = .ok (.getfield 7, 3) := by decide +kernel
theorem d_Te_read_51 : decode b_Te_read 51 = .ok (.iconst 1, 1) := by decide +kernel
theorem d_Te_read_52 : decode b_Te_read 52 = .ok (.iadd, 1) := by decide +kernel
theorem d_Te_read_53 : decode b_Te_read 53 = .ok (.putfield 7, 3) := by decide +kernel
theorem d_Te_read_56 : decode b_Te_read 56 = .ok (.iload_n 3, 1) := by decide +kernel
theorem d_Te_read_57 : decode b_Te_read 57 = .ok (.iconst 1, 1) := by decide +kernel
theorem d_Te_read_58 : decode b_Te_read 58 = .ok (.iload 4, 2) := by decide +kernel
theorem d_Te_read_60 : decode b_Te_read 60 = .ok (.invokestatic 27, 3) := by decide +kernel
theorem d_Te_read_63 : decode b_Te_read 63 = .ok (.iadd, 1) := by decide +kernel
theorem d_Te_read_64 : decode b_Te_read 64 = .ok (.istore_n 3, 1) := by decide +kernel
theorem d_Te_read_65 : decode b_Te_read 65 = .ok (.goto (-58), 3) := by decide +kernel
theorem d_Te_read_68 : decode b_Te_read 68 = .ok (.return_, 1) := by decide +kernel
theorem d_Ut_sizeAt_0 : decode b_Ut_sizeAt 0 = .ok (.aload_n 0, 1) := by decide +kernel
theorem d_Ut_sizeAt_1 : decode b_Ut_sizeAt 1 = .ok (.iload_n 1, 1) := by decide +kernel
theorem d_Ut_sizeAt_2 : decode b_Ut_sizeAt 2 = .ok (.baload, 1) := by decide +kernel
theorem d_Ut_sizeAt_3 : decode b_Ut_sizeAt 3 = .ok (.sipush 255, 3) := by decide +kernel
theorem d_Ut_sizeAt_6 : decode b_Ut_sizeAt 6 = .ok (.iand, 1) := by decide +kernel
theorem d_Ut_sizeAt_7 : decode b_Ut_sizeAt 7 = .ok (.istore_n 3, 1) := by decide +kernel
theorem d_Ut_sizeAt_8 : decode b_Ut_sizeAt 8 = .ok (.iload_n 3, 1) := by decide +kernel
theorem d_Ut_sizeAt_9 : decode b_Ut_sizeAt 9 = .ok (.invokestatic 7, 3) := by decide +kernel
theorem d_Ut_sizeAt_12 : decode b_Ut_sizeAt 12 = .ok (.istore 4, 2) := by decide +kernel
theorem d_Ut_sizeAt_14 : decode b_Ut_sizeAt 14 = .ok (.iload 4, 2) := by decide +kernel
theorem d_Ut_sizeAt_16 : decode b_Ut_sizeAt 16 = .ok (.iload_n 2, 1) := by decide +kernel
theorem d_Ut_sizeAt_17 : decode b_Ut_sizeAt 17 = .ok (.iload_n 1, 1) := by decide +kernel
theorem d_Ut_sizeAt_18 : decode b_Ut_sizeAt 18 = .ok (.isub, 1) := by decide +kernel
theorem d_Ut_sizeAt_19 : decode b_Ut_sizeAt 19 = .ok (.if_icmp .le 5, 3) := by decide +kernel
theorem d_Ut_sizeAt_22 : decode b_Ut_sizeAt 22 = .ok (.iconst 0, 1) := by decide +kernel
theorem d_Ut_sizeAt_23 : decode b_Ut_sizeAt 23 = .ok (.ireturn, 1) := by decide +kernel
theorem d_Ut_sizeAt_24 : decode b_Ut_sizeAt 24 = .ok (.iload 4, 2) := by decide +kernel
theorem d_Ut_sizeAt_26 : decode b_Ut_sizeAt 26 = .ok (.iconst 1, 1) := by decide +kernel
theorem d_Ut_sizeAt_27 : decode b_Ut_sizeAt 27 = .ok (.if_icmp .le 21, 3) := by decide +kernel
theorem d_Ut_sizeAt_30 : decode b_Ut_sizeAt 30 = .ok (.iload_n 3, 1) := by decide +kernel
theorem d_Ut_sizeAt_31 : decode b_Ut_sizeAt 31 = .ok (.aload_n 0, 1) := by decide +kernel
theorem d_Ut_sizeAt_32 : decode b_Ut_sizeAt 32 = .ok (.iload_n 1, 1) := by decide +kernel
theorem d_Ut_sizeAt_33 : decode b_Ut_sizeAt 33 = .ok (.iconst 1, 1) := by decide +kernel
theorem d_Ut_sizeAt_34 : decode b_Ut_sizeAt 34 = .ok (.iadd, 1) := by decide +kernel
theorem d_Ut_sizeAt_35 : decode b_Ut_sizeAt 35 = .ok (.baload, 1) := by decide +kernel
theorem d_Ut_sizeAt_36 : decode b_Ut_sizeAt 36 = .ok (.sipush 255, 3) := by decide +kernel
theorem d_Ut_sizeAt_39 : decode b_Ut_sizeAt 39 = .ok (.iand, 1) := by decide +kernel
theorem d_Ut_sizeAt_40 : decode b_Ut_sizeAt 40 = .ok (.invokestatic 13, 3) := by decide +kernel
theorem d_Ut_sizeAt_43 : decode b_Ut_sizeAt 43 = .ok (.ifCond .ne 5, 3) := by decide +kernel
theorem d_Ut_sizeAt_46 : decode b_Ut_sizeAt 46 = .ok (.iconst 0, 1) := by decide +kernel
theorem d_Ut_sizeAt_47 : decode b_Ut_sizeAt 47 = .ok (.ireturn, 1) := by decide +kernel
theorem d_Ut_sizeAt_48 : decode b_Ut_sizeAt 48 = .ok (.iconst 2, 1) := by decide +kernel
theorem d_Ut_sizeAt_49 : decode b_Ut_sizeAt 49 = .ok (.istore 5, 2) := by decide +kernel
theorem d_Ut_sizeAt_51 : decode b_Ut_sizeAt 51 = .ok (.iload 5, 2) := by decide +kernel
theorem d_Ut_sizeAt_53 : decode b_Ut_sizeAt 53 = .ok (.iload 4, 2) := by decide +kernel
theorem d_Ut_sizeAt_55 : decode b_Ut_sizeAt 55 = .ok (.if_icmp .ge 27, 3) := by decide +kernel
theorem d_Ut_sizeAt_58 : decode b_Ut_sizeAt 58 = .ok (.aload_n 0, 1) := by decide +kernel
theorem d_Ut_sizeAt_59 : decode b_Ut_sizeAt 59 = .ok (.iload_n 1, 1) := by decide +kernel
theorem d_Ut_sizeAt_60 : decode b_Ut_sizeAt 60 = .ok (.iload 5, 2) := by decide +kernel
theorem d_Ut_sizeAt_62 : decode b_Ut_sizeAt 62 = .ok (.iadd, 1) := by decide +kernel
theorem d_Ut_sizeAt_63 : decode b_Ut_sizeAt 63 = .ok (.baload, 1) := by decide +kernel
theorem d_Ut_sizeAt_64 : decode b_Ut_sizeAt 64 = .ok (.sipush 192, 3) := by decide +kernel
theorem d_Ut_sizeAt_67 : decode b_Ut_sizeAt 67 = .ok (.iand, 1) := by decide +kernel
theorem d_Ut_sizeAt_68 : decode b_Ut_sizeAt 68 = .ok (.sipush 128, 3) := by decide +kernel
theorem d_Ut_sizeAt_71 : decode b_Ut_sizeAt 71 = .ok (.if_icmp .eq 5, 3) := by decide +kernel
theorem d_Ut_sizeAt_74 : decode b_Ut_sizeAt 74 = .ok (.iconst 0, 1) := by decide +kernel
theorem d_Ut_sizeAt_75 : decode b_Ut_sizeAt 75 = .ok (.ireturn, 1) := by decide +kernel
theorem d_Ut_sizeAt_76 : decode b_Ut_sizeAt 76 = .ok (.iinc 5 1, 3) := by decide +kernel
theorem d_Ut_sizeAt_79 : decode b_Ut_sizeAt 79 = .ok (.goto (-28), 3) := by decide +kernel
theorem d_Ut_sizeAt_82 : decode b_Ut_sizeAt 82 = .ok (.iload 4, 2) := by decide +kernel
theorem d_Ut_sizeAt_84 : decode b_Ut_sizeAt 84 = .ok (.ireturn, 1) := by decide +kernel
theorem d_Ut_sizeByLead_0 : decode b_Ut_sizeByLead 0 = .ok (.iload_n 0, 1) := by decide +kernel
theorem d_Ut_sizeByLead_1 : decode b_Ut_sizeByLead 1 = .ok (.sipush 128, 3) := by decide +kernel
theorem d_Ut_sizeByLead_4 : decode b_Ut_sizeByLead 4 = .ok (.if_icmp .ge 5, 3) := by decide +kernel
theorem d_Ut_sizeByLead_7 : decode b_Ut_sizeByLead 7 = .ok (.iconst 1, 1) := by decide +kernel
theorem d_Ut_sizeByLead_8 : decode b_Ut_sizeByLead 8 = .ok (.ireturn, 1) := by decide +kernel
theorem d_Ut_sizeByLead_9 : decode b_Ut_sizeByLead 9 = .ok (.iload_n 0, 1) := by decide +kernel
theorem d_Ut_sizeByLead_10 : decode b_Ut_sizeByLead 10 = .ok (.sipush 194, 3) := by decide +kernel
theorem d_Ut_sizeByLead_13 : decode b_Ut_sizeByLead 13 = .ok (.if_icmp .lt 10, 3) := by decide +kernel
theorem d_Ut_sizeByLead_16 : decode b_Ut_sizeByLead 16 = .ok (.iload_n 0, 1) := by decide +kernel
theorem d_Ut_sizeByLead_17 : decode b_Ut_sizeByLead 17 = .ok (.sipush 244, 3) := by decide +kernel
theorem d_Ut_sizeByLead_20 : decode b_Ut_sizeByLead 20 = .ok (.if_icmp .le 5, 3) := by decide +kernel
theorem d_Ut_sizeByLead_23 : decode b_Ut_sizeByLead 23 = .ok (.iconst 0, 1) := by decide +kernel
theorem d_Ut_sizeByLead_24 : decode b_Ut_sizeByLead 24 = .ok (.ireturn, 1) := by decide +kernel
theorem d_Ut_sizeByLead_25 : decode b_Ut_sizeByLead 25 = .ok (.iload_n 0, 1) := by decide +kernel
theorem d_Ut_sizeByLead_26 : decode b_Ut_sizeByLead 26 = .ok (.sipush 224, 3) := by decide +kernel
theorem d_Ut_sizeByLead_29 : decode b_Ut_sizeByLead 29 = .ok (.if_icmp .ge 7, 3) := by decide +kernel
theorem d_Ut_sizeByLead_32 : decode b_Ut_sizeByLead 32 = .ok (.iconst 2, 1) := by decide +kernel
theorem d_Ut_sizeByLead_33 : decode b_Ut_sizeByLead 33 = .ok (.goto 15, 3) := by decide +kernel
theorem d_Ut_sizeByLead_36 : decode b_Ut_sizeByLead 36 = .ok (.iload_n 0, 1) := by decide +kernel
theorem d_Ut_sizeByLead_37 : decode b_Ut_sizeByLead 37 = .ok (.sipush 240, 3) := by decide +kernel
theorem d_Ut_sizeByLead_40 : decode b_Ut_sizeByLead 40 = .ok (.if_icmp .ge 7, 3) := by decide +kernel
theorem d_Ut_sizeByLead_43 : decode b_Ut_sizeByLead 43 = .ok (.iconst 3, 1) := by decide +kernel
theorem d_Ut_sizeByLead_44 : decode b_Ut_sizeByLead 44 = .ok (.goto 4, 3) := by decide +kernel
theorem d_Ut_sizeByLead_47 : decode b_Ut_sizeByLead 47 = .ok (.iconst 4, 1) := by decide +kernel
theorem d_Ut_sizeByLead_48 : decode b_Ut_sizeByLead 48 = .ok (.ireturn, 1) := by decide +kernel
theorem d_Ut_isSecond_0 : decode b_Ut_isSecond 0 = .ok (.iload_n 0, 1) := by decide +kernel
theorem d_Ut_isSecond_1 : decode b_Ut_isSecond 1 = .ok (.sipush 224, 3) := by decide +kernel
theorem d_Ut_isSecond_4 : decode b_Ut_isSecond 4 = .ok (.if_icmp .ne 9, 3) := by decide +kernel
theorem d_Ut_isSecond_7 : decode b_Ut_isSecond 7 = .ok (.sipush 160, 3) := by decide +kernel
theorem d_Ut_isSecond_10 : decode b_Ut_isSecond 10 = .ok (.goto 19, 3) := by decide +kernel
theorem d_Ut_isSecond_13 : decode b_Ut_isSecond 13 = .ok (.iload_n 0, 1) := by decide +kernel
theorem d_Ut_isSecond_14 : decode b_Ut_isSecond 14 = .ok (.sipush 240, 3) := by decide +kernel
theorem d_Ut_isSecond_17 : decode b_Ut_isSecond 17 = .ok (.if_icmp .ne 9, 3) := by decide +kernel
theorem d_Ut_isSecond_20 : decode b_Ut_isSecond 20 = .ok (.sipush 144, 3) := by decide +kernel
theorem d_Ut_isSecond_23 : decode b_Ut_isSecond 23 = .ok (.goto 6, 3) := by decide +kernel
theorem d_Ut_isSecond_26 : decode b_Ut_isSecond 26 = .ok (.sipush 128, 3) := by decide +kernel
theorem d_Ut_isSecond_29 : decode b_Ut_isSecond 29 = .ok (.istore_n 2, 1) := by decide +kernel
theorem d_Ut_isSecond_30 : decode b_Ut_isSecond 30 = .ok (.iload_n 0, 1) := by decide +kernel
theorem d_Ut_isSecond_31 : decode b_Ut_isSecond 31 = .ok (.sipush 237, 3) := by decide +kernel
theorem d_Ut_isSecond_34 : decode b_Ut_isSecond 34 = .ok (.if_icmp .ne 9, 3) := by decide +kernel
theorem d_Ut_isSecond_37 : decode b_Ut_isSecond 37 = .ok (.sipush 159, 3) := by decide +kernel
theorem d_Ut_isSecond_40 : decode b_Ut_isSecond 40 = .ok (.goto 19, 3) := by decide +kernel
theorem d_Ut_isSecond_43 : decode b_Ut_isSecond 43 = .ok (.iload_n 0, 1) := by decide +kernel
theorem d_Ut_isSecond_44 : decode b_Ut_isSecond 44 = .ok (.sipush 244, 3) := by decide +kernel
theorem d_Ut_isSecond_47 : decode b_Ut_isSecond 47 = .ok (.if_icmp .ne 9, 3) := by decide +kernel
theorem d_Ut_isSecond_50 : decode b_Ut_isSecond 50 = .ok (.sipush 143, 3) := by decide +kernel
theorem d_Ut_isSecond_53 : decode b_Ut_isSecond 53 = .ok (.goto 6, 3) := by decide +kernel
theorem d_Ut_isSecond_56 : decode b_Ut_isSecond 56 = .ok (.sipush 191, 3) := by decide +kernel
theorem d_Ut_isSecond_59 : decode b_Ut_isSecond 59 = .ok (.istore_n 3, 1) := by decide +kernel
theorem d_Ut_isSecond_60 : decode b_Ut_isSecond 60 = .ok (.iload_n 1, 1) := by decide +kernel
theorem d_Ut_isSecond_61 : decode b_Ut_isSecond 61 = .ok (.iload_n 2, 1) := by decide +kernel
theorem d_Ut_isSecond_62 : decode b_Ut_isSecond 62 = .ok (.if_icmp .lt 12, 3) := by decide +kernel
theorem d_Ut_isSecond_65 : decode b_Ut_isSecond 65 = .ok (.iload_n 1, 1) := by decide +kernel
theorem d_Ut_isSecond_66 : decode b_Ut_isSecond 66 = .ok (.iload_n 3, 1) := by decide +kernel
theorem d_Ut_isSecond_67 : decode b_Ut_isSecond 67 = .ok (.if_icmp .gt 7, 3) := by decide +kernel
theorem d_Ut_isSecond_70 : decode b_Ut_isSecond 70 = .ok (.iconst 1, 1) := by decide +kernel
theorem d_Ut_isSecond_71 : decode b_Ut_isSecond 71 = .ok (.goto 4, 3) := by decide +kernel
theorem d_Ut_isSecond_74 : decode b_Ut_isSecond 74 = .ok (.iconst 0, 1) := by decide +kernel
theorem d_Ut_isSecond_75 : decode b_Ut_isSecond 75 = .ok (.ireturn, 1) := by decide +kernel
theorem d_Ut_valueAt_0 : decode b_Ut_valueAt 0 = .ok (.iload_n 2, 1) := by decide +kernel
theorem d_Ut_valueAt_1 : decode b_Ut_valueAt 1 = .ok (.iconst 1, 1) := by decide +kernel
theorem d_Ut_valueAt_2 : decode b_Ut_valueAt 2 = .ok (.if_icmp .ne 7, 3) := by decide +kernel
theorem d_Ut_valueAt_5 : decode b_Ut_valueAt 5 = .ok (.aload_n 0, 1) := by decide +kernel
theorem d_Ut_valueAt_6 : decode b_Ut_valueAt 6 = .ok (.iload_n 1, 1) := by decide +kernel
theorem d_Ut_valueAt_7 : decode b_Ut_valueAt 7 = .ok (.baload, 1) := by decide +kernel
theorem d_Ut_valueAt_8 : decode b_Ut_valueAt 8 = .ok (.ireturn, 1) := by decide +kernel
theorem d_Ut_valueAt_9 : decode b_Ut_valueAt 9 = .ok (.aload_n 0, 1) := by decide +kernel
theorem d_Ut_valueAt_10 : decode b_Ut_valueAt 10 = .ok (.iload_n 1, 1) := by decide +kernel
theorem d_Ut_valueAt_11 : decode b_Ut_valueAt 11 = .ok (.baload, 1) := by decide +kernel
theorem d_Ut_valueAt_12 : decode b_Ut_valueAt 12 = .ok (.sipush 255, 3) := by decide +kernel
theorem d_Ut_valueAt_15 : decode b_Ut_valueAt 15 = .ok (.iload_n 2, 1) := by decide +kernel
theorem d_Ut_valueAt_16 : decode b_Ut_valueAt 16 = .ok (.iconst 1, 1) := by decide +kernel
theorem d_Ut_valueAt_17 : decode b_Ut_valueAt 17 = .ok (.iadd, 1) := by decide +kernel
theorem d_Ut_valueAt_18 : decode b_Ut_valueAt 18 = .ok (.ishr, 1) := by decide +kernel
theorem d_Ut_valueAt_19 : decode b_Ut_valueAt 19 = .ok (.iand, 1) := by decide +kernel
theorem d_Ut_valueAt_20 : decode b_Ut_valueAt 20 = .ok (.istore_n 3, 1) := by decide +kernel
theorem d_Ut_valueAt_21 : decode b_Ut_valueAt 21 = .ok (.iconst 1, 1) := by decide +kernel
theorem d_Ut_valueAt_22 : decode b_Ut_valueAt 22 = .ok (.istore 4, 2) := by decide +kernel
theorem d_Ut_valueAt_24 : decode b_Ut_valueAt 24 = .ok (.iload 4, 2) := by decide +kernel
theorem d_Ut_valueAt_26 : decode b_Ut_valueAt 26 = .ok (.iload_n 2, 1) := by decide +kernel
theorem d_Ut_valueAt_27 : decode b_Ut_valueAt 27 = .ok (.if_icmp .ge 24, 3) := by decide +kernel
theorem d_Ut_valueAt_30 : decode b_Ut_valueAt 30 = .ok (.iload_n 3, 1) := by decide +kernel
theorem d_Ut_valueAt_31 : decode b_Ut_valueAt 31 = .ok (.bipush 6, 2) := by decide +kernel
theorem d_Ut_valueAt_33 : decode b_Ut_valueAt 33 = .ok (.ishl, 1) := by decide +kernel
theorem d_Ut_valueAt_34 : decode b_Ut_valueAt 34 = .ok (.aload_n 0, 1) := by decide +kernel
theorem d_Ut_valueAt_35 : decode b_Ut_valueAt 35 = .ok (.iload_n 1, 1) := by decide +kernel
theorem d_Ut_valueAt_36 : decode b_Ut_valueAt 36 = .ok (.iload 4, 2) := by decide +kernel
theorem d_Ut_valueAt_38 : decode b_Ut_valueAt 38 = .ok (.iadd, 1) := by decide +kernel
theorem d_Ut_valueAt_39 : decode b_Ut_valueAt 39 = .ok (.baload, 1) := by decide +kernel
theorem d_Ut_valueAt_40 : decode b_Ut_valueAt 40 = .ok (.bipush 63, 2) := by decide +kernel
theorem d_Ut_valueAt_42 : decode b_Ut_valueAt 42 = .ok (.iand, 1) := by decide +kernel
theorem d_Ut_valueAt_43 : decode b_Ut_valueAt 43 = .ok (.ior, 1) := by decide +kernel
theorem d_Ut_valueAt_44 : decode b_Ut_valueAt 44 = .ok (.istore_n 3, 1) := by decide +kernel
theorem d_Ut_valueAt_45 : decode b_Ut_valueAt 45 = .ok (.iinc 4 1, 3) := by decide +kernel
theorem d_Ut_valueAt_48 : decode b_Ut_valueAt 48 = .ok (.goto (-24), 3) := by decide +kernel
theorem d_Ut_valueAt_51 : decode b_Ut_valueAt 51 = .ok (.iload_n 3, 1) := by decide +kernel
theorem d_Ut_valueAt_52 : decode b_Ut_valueAt 52 = .ok (.ireturn, 1) := by decide +kernel
theorem d_To_clear_0 : decode b_To_clear 0 = .ok (.aload_n 0, 1) := by decide +kernel
theorem d_To_clear_1 : decode b_To_clear 1 = .ok (.iconst 0, 1) := by decide +kernel
theorem d_To_clear_2 : decode b_To_clear 2 = .ok (.putfield 7, 3) := by decide +kernel
theorem d_To_clear_5 : decode b_To_clear 5 = .ok (.return_, 1) := by decide +kernel
theorem d_Te_spanEnd_0 : decode b_Te_spanEnd 0 = .ok (.iload_n 1, 1) := by decide +kernel
theorem d_Te_spanEnd_1 : decode b_Te_spanEnd 1 = .ok (.iconst 1, 1) := by decide +kernel
theorem d_Te_spanEnd_2 : decode b_Te_spanEnd 2 = .ok (.iadd, 1) := by decide +kernel
theorem d_Te_spanEnd_3 : decode b_Te_spanEnd 3 = .ok (.istore_n 2, 1) := by decide +kernel
theorem d_Te_spanEnd_4 : decode b_Te_spanEnd 4 = .ok (.aload_n 0, 1) := by decide +kernel
theorem d_Te_spanEnd_5 : decode b_Te_spanEnd 5 = .ok (.iload_n 1, 1) := by decide +kernel
theorem d_Te_spanEnd_6 : decode b_Te_spanEnd 6 = .ok (.invokevirtual 33, 3) := by decide +kernel
theorem d_Te_spanEnd_9 : decode b_Te_spanEnd 9 = .ok (.invokestatic 37, 3) := by decide +kernel
theorem d_Te_spanEnd_12 : decode b_Te_spanEnd 12 = .ok (.ifCond .ne 5, 3) := by decide +kernel
theorem d_Te_spanEnd_15 : decode b_Te_spanEnd 15 = .ok (.iload_n 2, 1) := by decide +kernel
theorem d_Te_spanEnd_16 : decode b_Te_spanEnd 16 = .ok (.ireturn, 1) := by decide +kernel
theorem d_Te_spanEnd_17 : decode b_Te_spanEnd 17 = .ok (.iload_n 2, 1) := by decide +kernel
theorem d_Te_spanEnd_18 : decode b_Te_spanEnd 18 = .ok (.aload_n 0, 1) := by decide +kernel
theorem d_Te_spanEnd_19 : decode b_Te_spanEnd 19 = .ok (.getfield 7, 3) := by decide +kernel
theorem d_Te_spanEnd_22 : decode b_Te_spanEnd 22 = .ok (.if_icmp .ge 36, 3) := by decide +kernel
theorem d_Te_spanEnd_25 : decode b_Te_spanEnd 25 = .ok (.aload_n 0, 1) := by decide +kernel
theorem d_Te_spanEnd_26 : decode b_Te_spanEnd 26 = .ok (.iload_n 2, 1) := by decide +kernel
theorem d_Te_spanEnd_27 : decode b_Te_spanEnd 27 = .ok (.invokevirtual 33, 3) := by decide +kernel
theorem d_Te_spanEnd_30 : decode b_Te_spanEnd 30 = .ok (.invokestatic 37, 3) := by decide +kernel
theorem d_Te_spanEnd_33 : decode b_Te_spanEnd 33 = .ok (.ifCond .eq 9, 3) := by decide +kernel
theorem d_Te_spanEnd_36 : decode b_Te_spanEnd 36 = .ok (.iinc 2 1, 3) := by decide +kernel
theorem d_Te_spanEnd_39 : decode b_Te_spanEnd 39 = .ok (.goto (-22), 3) := by decide +kernel
theorem d_Te_spanEnd_42 : decode b_Te_spanEnd 42 = .ok (.aload_n 0, 1) := by decide +kernel
theorem d_Te_spanEnd_43 : decode b_Te_spanEnd 43 = .ok (.iload_n 2, 1) := by decide +kernel
theorem d_Te_spanEnd_44 : decode b_Te_spanEnd 44 = .ok (.invokevirtual 43, 3) := by decide +kernel
theorem d_Te_spanEnd_47 : decode b_Te_spanEnd 47 = .ok (.ifCond .eq 9, 3) := by decide +kernel
theorem d_Te_spanEnd_50 : decode b_Te_spanEnd 50 = .ok (.iinc 2 2, 3) := by decide +kernel
theorem d_Te_spanEnd_53 : decode b_Te_spanEnd 53 = .ok (.goto (-36), 3) := by decide +kernel
theorem d_Te_spanEnd_56 : decode b_Te_spanEnd 56 = .ok (.iload_n 2, 1) := by decide +kernel
theorem d_Te_spanEnd_57 : decode b_Te_spanEnd 57 = .ok (.ireturn, 1) := by decide +kernel
theorem d_Te_spanEnd_58 : decode b_Te_spanEnd 58 = .ok (.iload_n 2, 1) := by decide +kernel
theorem d_Te_spanEnd_59 : decode b_Te_spanEnd 59 = .ok (.ireturn, 1) := by decide +kernel
theorem d_Te_sortAt_0 : decode b_Te_sortAt 0 = .ok (.aload_n 0, 1) := by decide +kernel
theorem d_Te_sortAt_1 : decode b_Te_sortAt 1 = .ok (.getfield 13, 3) := by decide +kernel
theorem d_Te_sortAt_4 : decode b_Te_sortAt 4 = .ok (.iload_n 1, 1) := by decide +kernel
theorem d_Te_sortAt_5 : decode b_Te_sortAt 5 = .ok (.iaload, 1) := by decide +kernel
theorem d_Te_sortAt_6 : decode b_Te_sortAt 6 = .ok (.invokestatic 50, 3) := by decide +kernel
theorem d_Te_sortAt_9 : decode b_Te_sortAt 9 = .ok (.ireturn, 1) := by decide +kernel
theorem d_So_of_0 : decode b_So_of 0 = .ok (.iload_n 0, 1) := by decide +kernel
theorem d_So_of_1 : decode b_So_of 1 = .ok (.invokestatic 7, 3) := by decide +kernel
theorem d_So_of_4 : decode b_So_of 4 = .ok (.ifCond .eq 5, 3) := by decide +kernel
theorem d_So_of_7 : decode b_So_of 7 = .ok (.iconst 1, 1) := by decide +kernel
theorem d_So_of_8 : decode b_So_of 8 = .ok (.ireturn, 1) := by decide +kernel
theorem d_So_of_9 : decode b_So_of 9 = .ok (.iload_n 0, 1) := by decide +kernel
theorem d_So_of_10 : decode b_So_of 10 = .ok (.bipush 48, 2) := by decide +kernel
theorem d_So_of_12 : decode b_So_of 12 = .ok (.if_icmp .lt 11, 3) := by decide +kernel
theorem d_So_of_15 : decode b_So_of 15 = .ok (.iload_n 0, 1) := by decide +kernel
theorem d_So_of_16 : decode b_So_of 16 = .ok (.bipush 57, 2) := by decide +kernel
theorem d_So_of_18 : decode b_So_of 18 = .ok (.if_icmp .gt 5, 3) := by decide +kernel
theorem d_So_of_21 : decode b_So_of 21 = .ok (.iconst 2, 1) := by decide +kernel
theorem d_So_of_22 : decode b_So_of 22 = .ok (.ireturn, 1) := by decide +kernel
theorem d_So_of_23 : decode b_So_of 23 = .ok (.iload_n 0, 1) := by decide +kernel
theorem d_So_of_24 : decode b_So_of 24 = .ok (.sipush 19968, 3) := by decide +kernel
theorem d_So_of_27 : decode b_So_of 27 = .ok (.if_icmp .lt 12, 3) := by decide +kernel
theorem d_So_of_30 : decode b_So_of 30 = .ok (.iload_n 0, 1) := by decide +kernel
theorem d_So_of_31 : decode b_So_of 31 = .ok (.ldc 13, 2) := by decide +kernel
theorem d_So_of_33 : decode b_So_of 33 = .ok (.if_icmp .gt 6, 3) := by decide +kernel
theorem d_So_of_36 : decode b_So_of 36 = .ok (.bipush 7, 2) := by decide +kernel
theorem d_So_of_38 : decode b_So_of 38 = .ok (.ireturn, 1) := by decide +kernel
theorem d_So_of_39 : decode b_So_of 39 = .ok (.iload_n 0, 1) := by decide +kernel
theorem d_So_of_40 : decode b_So_of 40 = .ok (.lookupswitch 77 #[(39, 74), (44, 72), (46, 74), (59, 72), (95, 68), (183, 70), (8217, 74)], 68) := by decide +kernel
theorem d_So_of_108 : decode b_So_of 108 = .ok (.iconst 3, 1) := by decide +kernel
theorem d_So_of_109 : decode b_So_of 109 = .ok (.ireturn, 1) := by decide +kernel
theorem d_So_of_110 : decode b_So_of 110 = .ok (.iconst 4, 1) := by decide +kernel
theorem d_So_of_111 : decode b_So_of 111 = .ok (.ireturn, 1) := by decide +kernel
theorem d_So_of_112 : decode b_So_of 112 = .ok (.iconst 5, 1) := by decide +kernel
theorem d_So_of_113 : decode b_So_of 113 = .ok (.ireturn, 1) := by decide +kernel
theorem d_So_of_114 : decode b_So_of 114 = .ok (.bipush 6, 2) := by decide +kernel
theorem d_So_of_116 : decode b_So_of 116 = .ok (.ireturn, 1) := by decide +kernel
theorem d_So_of_117 : decode b_So_of 117 = .ok (.iconst 0, 1) := by decide +kernel
theorem d_So_of_118 : decode b_So_of 118 = .ok (.ireturn, 1) := by decide +kernel
theorem d_So_isLetter_0 : decode b_So_isLetter 0 = .ok (.iload_n 0, 1) := by decide +kernel
theorem d_So_isLetter_1 : decode b_So_isLetter 1 = .ok (.bipush 97, 2) := by decide +kernel
theorem d_So_isLetter_3 : decode b_So_isLetter 3 = .ok (.if_icmp .lt 9, 3) := by decide +kernel
theorem d_So_isLetter_6 : decode b_So_isLetter 6 = .ok (.iload_n 0, 1) := by decide +kernel
theorem d_So_isLetter_7 : decode b_So_isLetter 7 = .ok (.bipush 122, 2) := by decide +kernel
theorem d_So_isLetter_9 : decode b_So_isLetter 9 = .ok (.if_icmp .le 71, 3) := by decide +kernel
theorem d_So_isLetter_12 : decode b_So_isLetter 12 = .ok (.iload_n 0, 1) := by decide +kernel
theorem d_So_isLetter_13 : decode b_So_isLetter 13 = .ok (.bipush 65, 2) := by decide +kernel
theorem d_So_isLetter_15 : decode b_So_isLetter 15 = .ok (.if_icmp .lt 9, 3) := by decide +kernel
theorem d_So_isLetter_18 : decode b_So_isLetter 18 = .ok (.iload_n 0, 1) := by decide +kernel
theorem d_So_isLetter_19 : decode b_So_isLetter 19 = .ok (.bipush 90, 2) := by decide +kernel
theorem d_So_isLetter_21 : decode b_So_isLetter 21 = .ok (.if_icmp .le 59, 3) := by decide +kernel
theorem d_So_isLetter_24 : decode b_So_isLetter 24 = .ok (.iload_n 0, 1) := by decide +kernel
theorem d_So_isLetter_25 : decode b_So_isLetter 25 = .ok (.sipush 192, 3) := by decide +kernel
theorem d_So_isLetter_28 : decode b_So_isLetter 28 = .ok (.if_icmp .lt 24, 3) := by decide +kernel
theorem d_So_isLetter_31 : decode b_So_isLetter 31 = .ok (.iload_n 0, 1) := by decide +kernel
theorem d_So_isLetter_32 : decode b_So_isLetter 32 = .ok (.sipush 591, 3) := by decide +kernel
theorem d_So_isLetter_35 : decode b_So_isLetter 35 = .ok (.if_icmp .gt 17, 3) := by decide +kernel
theorem d_So_isLetter_38 : decode b_So_isLetter 38 = .ok (.iload_n 0, 1) := by decide +kernel
theorem d_So_isLetter_39 : decode b_So_isLetter 39 = .ok (.sipush 215, 3) := by decide +kernel
theorem d_So_isLetter_42 : decode b_So_isLetter 42 = .ok (.if_icmp .eq 10, 3) := by decide +kernel
theorem d_So_isLetter_45 : decode b_So_isLetter 45 = .ok (.iload_n 0, 1) := by decide +kernel
theorem d_So_isLetter_46 : decode b_So_isLetter 46 = .ok (.sipush 247, 3) := by decide +kernel
theorem d_So_isLetter_49 : decode b_So_isLetter 49 = .ok (.if_icmp .ne 31, 3) := by decide +kernel
theorem d_So_isLetter_52 : decode b_So_isLetter 52 = .ok (.iload_n 0, 1) := by decide +kernel
theorem d_So_isLetter_53 : decode b_So_isLetter 53 = .ok (.sipush 913, 3) := by decide +kernel
theorem d_So_isLetter_56 : decode b_So_isLetter 56 = .ok (.if_icmp .lt 10, 3) := by decide +kernel
theorem d_So_isLetter_59 : decode b_So_isLetter 59 = .ok (.iload_n 0, 1) := by decide +kernel
theorem d_So_isLetter_60 : decode b_So_isLetter 60 = .ok (.sipush 1023, 3) := by decide +kernel
theorem d_So_isLetter_63 : decode b_So_isLetter 63 = .ok (.if_icmp .le 17, 3) := by decide +kernel
theorem d_So_isLetter_66 : decode b_So_isLetter 66 = .ok (.iload_n 0, 1) := by decide +kernel
theorem d_So_isLetter_67 : decode b_So_isLetter 67 = .ok (.sipush 1024, 3) := by decide +kernel
theorem d_So_isLetter_70 : decode b_So_isLetter 70 = .ok (.if_icmp .lt 14, 3) := by decide +kernel
theorem d_So_isLetter_73 : decode b_So_isLetter 73 = .ok (.iload_n 0, 1) := by decide +kernel
theorem d_So_isLetter_74 : decode b_So_isLetter 74 = .ok (.sipush 1279, 3) := by decide +kernel
theorem d_So_isLetter_77 : decode b_So_isLetter 77 = .ok (.if_icmp .gt 7, 3) := by decide +kernel
theorem d_So_isLetter_80 : decode b_So_isLetter 80 = .ok (.iconst 1, 1) := by decide +kernel
theorem d_So_isLetter_81 : decode b_So_isLetter 81 = .ok (.goto 4, 3) := by decide +kernel
theorem d_So_isLetter_84 : decode b_So_isLetter 84 = .ok (.iconst 0, 1) := by decide +kernel
theorem d_So_isLetter_85 : decode b_So_isLetter 85 = .ok (.ireturn, 1) := by decide +kernel
theorem d_So_isInner_0 : decode b_So_isInner 0 = .ok (.iload_n 0, 1) := by decide +kernel
theorem d_So_isInner_1 : decode b_So_isInner 1 = .ok (.iconst 1, 1) := by decide +kernel
theorem d_So_isInner_2 : decode b_So_isInner 2 = .ok (.if_icmp .eq 13, 3) := by decide +kernel
theorem d_So_isInner_5 : decode b_So_isInner 5 = .ok (.iload_n 0, 1) := by decide +kernel
theorem d_So_isInner_6 : decode b_So_isInner 6 = .ok (.iconst 2, 1) := by decide +kernel
theorem d_So_isInner_7 : decode b_So_isInner 7 = .ok (.if_icmp .eq 8, 3) := by decide +kernel
theorem d_So_isInner_10 : decode b_So_isInner 10 = .ok (.iload_n 0, 1) := by decide +kernel
theorem d_So_isInner_11 : decode b_So_isInner 11 = .ok (.iconst 3, 1) := by decide +kernel
theorem d_So_isInner_12 : decode b_So_isInner 12 = .ok (.if_icmp .ne 7, 3) := by decide +kernel
theorem d_So_isInner_15 : decode b_So_isInner 15 = .ok (.iconst 1, 1) := by decide +kernel
theorem d_So_isInner_16 : decode b_So_isInner 16 = .ok (.goto 4, 3) := by decide +kernel
theorem d_So_isInner_19 : decode b_So_isInner 19 = .ok (.iconst 0, 1) := by decide +kernel
theorem d_So_isInner_20 : decode b_So_isInner 20 = .ok (.ireturn, 1) := by decide +kernel
theorem d_Te_isTie_0 : decode b_Te_isTie 0 = .ok (.iload_n 1, 1) := by decide +kernel
theorem d_Te_isTie_1 : decode b_Te_isTie 1 = .ok (.iconst 1, 1) := by decide +kernel
theorem d_Te_isTie_2 : decode b_Te_isTie 2 = .ok (.if_icmp .lt 13, 3) := by decide +kernel
theorem d_Te_isTie_5 : decode b_Te_isTie 5 = .ok (.iload_n 1, 1) := by decide +kernel
theorem d_Te_isTie_6 : decode b_Te_isTie 6 = .ok (.iconst 1, 1) := by decide +kernel
theorem d_Te_isTie_7 : decode b_Te_isTie 7 = .ok (.iadd, 1) := by decide +kernel
theorem d_Te_isTie_8 : decode b_Te_isTie 8 = .ok (.aload_n 0, 1) := by decide +kernel
theorem d_Te_isTie_9 : decode b_Te_isTie 9 = .ok (.getfield 7, 3) := by decide +kernel
theorem d_Te_isTie_12 : decode b_Te_isTie 12 = .ok (.if_icmp .lt 5, 3) := by decide +kernel
theorem d_Te_isTie_15 : decode b_Te_isTie 15 = .ok (.iconst 0, 1) := by decide +kernel
theorem d_Te_isTie_16 : decode b_Te_isTie 16 = .ok (.ireturn, 1) := by decide +kernel
theorem d_Te_isTie_17 : decode b_Te_isTie 17 = .ok (.aload_n 0, 1) := by decide +kernel
theorem d_Te_isTie_18 : decode b_Te_isTie 18 = .ok (.iload_n 1, 1) := by decide +kernel
theorem d_Te_isTie_19 : decode b_Te_isTie 19 = .ok (.iconst 1, 1) := by decide +kernel
theorem d_Te_isTie_20 : decode b_Te_isTie 20 = .ok (.isub, 1) := by decide +kernel
theorem d_Te_isTie_21 : decode b_Te_isTie 21 = .ok (.invokevirtual 33, 3) := by decide +kernel
theorem d_Te_isTie_24 : decode b_Te_isTie 24 = .ok (.istore_n 2, 1) := by decide +kernel
theorem d_Te_isTie_25 : decode b_Te_isTie 25 = .ok (.aload_n 0, 1) := by decide +kernel
theorem d_Te_isTie_26 : decode b_Te_isTie 26 = .ok (.iload_n 1, 1) := by decide +kernel
theorem d_Te_isTie_27 : decode b_Te_isTie 27 = .ok (.iconst 1, 1) := by decide +kernel
theorem d_Te_isTie_28 : decode b_Te_isTie 28 = .ok (.iadd, 1) := by decide +kernel
theorem d_Te_isTie_29 : decode b_Te_isTie 29 = .ok (.invokevirtual 33, 3) := by decide +kernel
theorem d_Te_isTie_32 : decode b_Te_isTie 32 = .ok (.iload_n 2, 1) := by decide +kernel
theorem d_Te_isTie_33 : decode b_Te_isTie 33 = .ok (.if_icmp .ne 19, 3) := by decide +kernel
theorem d_Te_isTie_36 : decode b_Te_isTie 36 = .ok (.aload_n 0, 1) := by decide +kernel
theorem d_Te_isTie_37 : decode b_Te_isTie 37 = .ok (.iload_n 1, 1) := by decide +kernel
theorem d_Te_isTie_38 : decode b_Te_isTie 38 = .ok (.invokevirtual 33, 3) := by decide +kernel
theorem d_Te_isTie_41 : decode b_Te_isTie 41 = .ok (.iload_n 2, 1) := by decide +kernel
theorem d_Te_isTie_42 : decode b_Te_isTie 42 = .ok (.invokestatic 46, 3) := by decide +kernel
theorem d_Te_isTie_45 : decode b_Te_isTie 45 = .ok (.ifCond .eq 7, 3) := by decide +kernel
theorem d_Te_isTie_48 : decode b_Te_isTie 48 = .ok (.iconst 1, 1) := by decide +kernel
theorem d_Te_isTie_49 : decode b_Te_isTie 49 = .ok (.goto 4, 3) := by decide +kernel
theorem d_Te_isTie_52 : decode b_Te_isTie 52 = .ok (.iconst 0, 1) := by decide +kernel
theorem d_Te_isTie_53 : decode b_Te_isTie 53 = .ok (.ireturn, 1) := by decide +kernel
theorem d_So_ties_0 : decode b_So_ties 0 = .ok (.iload_n 1, 1) := by decide +kernel
theorem d_So_ties_1 : decode b_So_ties 1 = .ok (.iconst 1, 1) := by decide +kernel
theorem d_So_ties_2 : decode b_So_ties 2 = .ok (.if_icmp .ne 20, 3) := by decide +kernel
theorem d_So_ties_5 : decode b_So_ties 5 = .ok (.iload_n 0, 1) := by decide +kernel
theorem d_So_ties_6 : decode b_So_ties 6 = .ok (.iconst 4, 1) := by decide +kernel
theorem d_So_ties_7 : decode b_So_ties 7 = .ok (.if_icmp .eq 9, 3) := by decide +kernel
theorem d_So_ties_10 : decode b_So_ties 10 = .ok (.iload_n 0, 1) := by decide +kernel
theorem d_So_ties_11 : decode b_So_ties 11 = .ok (.bipush 6, 2) := by decide +kernel
theorem d_So_ties_13 : decode b_So_ties 13 = .ok (.if_icmp .ne 7, 3) := by decide +kernel
theorem d_So_ties_16 : decode b_So_ties 16 = .ok (.iconst 1, 1) := by decide +kernel
theorem d_So_ties_17 : decode b_So_ties 17 = .ok (.goto 4, 3) := by decide +kernel
theorem d_So_ties_20 : decode b_So_ties 20 = .ok (.iconst 0, 1) := by decide +kernel
theorem d_So_ties_21 : decode b_So_ties 21 = .ok (.ireturn, 1) := by decide +kernel
theorem d_So_ties_22 : decode b_So_ties 22 = .ok (.iload_n 1, 1) := by decide +kernel
theorem d_So_ties_23 : decode b_So_ties 23 = .ok (.iconst 2, 1) := by decide +kernel
theorem d_So_ties_24 : decode b_So_ties 24 = .ok (.if_icmp .ne 18, 3) := by decide +kernel
theorem d_So_ties_27 : decode b_So_ties 27 = .ok (.iload_n 0, 1) := by decide +kernel
theorem d_So_ties_28 : decode b_So_ties 28 = .ok (.iconst 5, 1) := by decide +kernel
theorem d_So_ties_29 : decode b_So_ties 29 = .ok (.if_icmp .eq 9, 3) := by decide +kernel
theorem d_So_ties_32 : decode b_So_ties 32 = .ok (.iload_n 0, 1) := by decide +kernel
theorem d_So_ties_33 : decode b_So_ties 33 = .ok (.bipush 6, 2) := by decide +kernel
theorem d_So_ties_35 : decode b_So_ties 35 = .ok (.if_icmp .ne 7, 3) := by decide +kernel
theorem d_So_ties_38 : decode b_So_ties 38 = .ok (.iconst 1, 1) := by decide +kernel
theorem d_So_ties_39 : decode b_So_ties 39 = .ok (.goto 4, 3) := by decide +kernel
theorem d_So_ties_42 : decode b_So_ties 42 = .ok (.iconst 0, 1) := by decide +kernel
theorem d_So_ties_43 : decode b_So_ties 43 = .ok (.ireturn, 1) := by decide +kernel
theorem d_Te_isWord_0 : decode b_Te_isWord 0 = .ok (.iload_n 1, 1) := by decide +kernel
theorem d_Te_isWord_1 : decode b_Te_isWord 1 = .ok (.istore_n 3, 1) := by decide +kernel
theorem d_Te_isWord_2 : decode b_Te_isWord 2 = .ok (.iload_n 3, 1) := by decide +kernel
theorem d_Te_isWord_3 : decode b_Te_isWord 3 = .ok (.iload_n 2, 1) := by decide +kernel
theorem d_Te_isWord_4 : decode b_Te_isWord 4 = .ok (.if_icmp .ge 37, 3) := by decide +kernel
theorem d_Te_isWord_7 : decode b_Te_isWord 7 = .ok (.aload_n 0, 1) := by decide +kernel
theorem d_Te_isWord_8 : decode b_Te_isWord 8 = .ok (.iload_n 3, 1) := by decide +kernel
theorem d_Te_isWord_9 : decode b_Te_isWord 9 = .ok (.invokevirtual 33, 3) := by decide +kernel
theorem d_Te_isWord_12 : decode b_Te_isWord 12 = .ok (.istore 4, 2) := by decide +kernel
theorem d_Te_isWord_14 : decode b_Te_isWord 14 = .ok (.iload 4, 2) := by decide +kernel
theorem d_Te_isWord_16 : decode b_Te_isWord 16 = .ok (.iconst 1, 1) := by decide +kernel
theorem d_Te_isWord_17 : decode b_Te_isWord 17 = .ok (.if_icmp .eq 16, 3) := by decide +kernel
theorem d_Te_isWord_20 : decode b_Te_isWord 20 = .ok (.iload 4, 2) := by decide +kernel
theorem d_Te_isWord_22 : decode b_Te_isWord 22 = .ok (.iconst 2, 1) := by decide +kernel
theorem d_Te_isWord_23 : decode b_Te_isWord 23 = .ok (.if_icmp .eq 10, 3) := by decide +kernel
theorem d_Te_isWord_26 : decode b_Te_isWord 26 = .ok (.iload 4, 2) := by decide +kernel
theorem d_Te_isWord_28 : decode b_Te_isWord 28 = .ok (.bipush 7, 2) := by decide +kernel
theorem d_Te_isWord_30 : decode b_Te_isWord 30 = .ok (.if_icmp .ne 5, 3) := by decide +kernel
theorem d_Te_isWord_33 : decode b_Te_isWord 33 = .ok (.iconst 1, 1) := by decide +kernel
theorem d_Te_isWord_34 : decode b_Te_isWord 34 = .ok (.ireturn, 1) := by decide +kernel
theorem d_Te_isWord_35 : decode b_Te_isWord 35 = .ok (.iinc 3 1, 3) := by decide +kernel
theorem d_Te_isWord_38 : decode b_Te_isWord 38 = .ok (.goto (-36), 3) := by decide +kernel
theorem d_Te_isWord_41 : decode b_Te_isWord 41 = .ok (.iconst 0, 1) := by decide +kernel
theorem d_Te_isWord_42 : decode b_Te_isWord 42 = .ok (.ireturn, 1) := by decide +kernel
theorem d_X_takeWords_0 : decode b_X_takeWords 0 = .ok (.aload_n 0, 1) := by decide +kernel
theorem d_X_takeWords_1 : decode b_X_takeWords 1 = .ok (.getfield 36, 3) := by decide +kernel
theorem d_X_takeWords_4 : decode b_X_takeWords 4 = .ok (.getfield 133, 3) := by decide +kernel
theorem d_X_takeWords_7 : decode b_X_takeWords 7 = .ok (.astore_n 3, 1) := by decide +kernel
theorem d_X_takeWords_8 : decode b_X_takeWords 8 = .ok (.iload_n 1, 1) := by decide +kernel
theorem d_X_takeWords_9 : decode b_X_takeWords 9 = .ok (.istore 4, 2) := by decide +kernel
theorem d_X_takeWords_11 : decode b_X_takeWords 11 = .ok (.iload 4, 2) := by decide +kernel
theorem d_X_takeWords_13 : decode b_X_takeWords 13 = .ok (.iload_n 2, 1) := by decide +kernel
theorem d_X_takeWords_14 : decode b_X_takeWords 14 = .ok (.if_icmp .ge 83, 3) := by decide +kernel
theorem d_X_takeWords_17 : decode b_X_takeWords 17 = .ok (.aload_n 3, 1) := by decide +kernel
theorem d_X_takeWords_18 : decode b_X_takeWords 18 = .ok (.aload_n 0, 1) := by decide +kernel
theorem d_X_takeWords_19 : decode b_X_takeWords 19 = .ok (.getfield 22, 3) := by decide +kernel
theorem d_X_takeWords_22 : decode b_X_takeWords 22 = .ok (.getfield 137, 3) := by decide +kernel
theorem d_X_takeWords_25 : decode b_X_takeWords 25 = .ok (.iload 4, 2) := by decide +kernel
theorem d_X_takeWords_27 : decode b_X_takeWords 27 = .ok (.sipush 255, 3) := by decide +kernel
theorem d_X_takeWords_30 : decode b_X_takeWords 30 = .ok (.iload_n 2, 1) := by decide +kernel
theorem d_X_takeWords_31 : decode b_X_takeWords 31 = .ok (.iload 4, 2) := by decide +kernel
theorem d_X_takeWords_33 : decode b_X_takeWords 33 = .ok (.isub, 1) := by decide +kernel
theorem d_X_takeWords_34 : decode b_X_takeWords 34 = .ok (.invokestatic 138, 3) := by decide +kernel
theorem d_X_takeWords_37 : decode b_X_takeWords 37 = .ok (.invokevirtual 141, 3) := by decide +kernel
theorem d_X_takeWords_40 : decode b_X_takeWords 40 = .ok (.aload_n 3, 1) := by decide +kernel
theorem d_X_takeWords_41 : decode b_X_takeWords 41 = .ok (.invokevirtual 147, 3) := by decide +kernel
theorem d_X_takeWords_44 : decode b_X_takeWords 44 = .ok (.aload_n 3, 1) := by decide +kernel
theorem d_X_takeWords_45 : decode b_X_takeWords 45 = .ok (.invokevirtual 150, 3) := by decide +kernel
theorem d_X_takeWords_48 : decode b_X_takeWords 48 = .ok (.aload_n 0, 1) := by decide +kernel
theorem d_X_takeWords_49 : decode b_X_takeWords 49 = .ok (.getfield 29, 3) := by decide +kernel
theorem d_X_takeWords_52 : decode b_X_takeWords 52 = .ok (.aload_n 3, 1) := by decide +kernel
theorem d_X_takeWords_53 : decode b_X_takeWords 53 = .ok (.invokevirtual 153, 3) := by decide +kernel
theorem d_X_takeWords_56 : decode b_X_takeWords 56 = .ok (.ifCond .ne 22, 3) := by decide +kernel
theorem d_X_takeWords_59 : decode b_X_takeWords 59 = .ok (.aload_n 0, 1) := by decide +kernel
theorem d_X_takeWords_60 : decode b_X_takeWords 60 = .ok (.getfield 36, 3) := by decide +kernel
theorem d_X_takeWords_63 : decode b_X_takeWords 63 = .ok (.invokevirtual 157, 3) := by decide +kernel
theorem d_X_takeWords_66 : decode b_X_takeWords 66 = .ok (.aload_n 0, 1) := by decide +kernel
theorem d_X_takeWords_67 : decode b_X_takeWords 67 = .ok (.getfield 43, 3) := by decide +kernel
theorem d_X_takeWords_70 : decode b_X_takeWords 70 = .ok (.aload_n 3, 1) := by decide +kernel
theorem d_X_takeWords_71 : decode b_X_takeWords 71 = .ok (.aload_n 0, 1) := by decide +kernel
theorem d_X_takeWords_72 : decode b_X_takeWords 72 = .ok (.getfield 47, 3) := by decide +kernel
theorem d_X_takeWords_75 : decode b_X_takeWords 75 = .ok (.invokevirtual 160, 3) := by decide +kernel
theorem d_X_takeWords_78 : decode b_X_takeWords 78 = .ok (.aload_n 0, 1) := by decide +kernel
theorem d_X_takeWords_79 : decode b_X_takeWords 79 = .ok (.dup, 1) := by decide +kernel
theorem d_X_takeWords_80 : decode b_X_takeWords 80 = .ok (.getfield 47, 3) := by decide +kernel
theorem d_X_takeWords_83 : decode b_X_takeWords 83 = .ok (.iconst 1, 1) := by decide +kernel
theorem d_X_takeWords_84 : decode b_X_takeWords 84 = .ok (.iadd, 1) := by decide +kernel
theorem d_X_takeWords_85 : decode b_X_takeWords 85 = .ok (.putfield 47, 3) := by decide +kernel
theorem d_X_takeWords_88 : decode b_X_takeWords 88 = .ok (.iinc 4 255, 6) := by decide +kernel
theorem d_X_takeWords_94 : decode b_X_takeWords 94 = .ok (.goto (-83), 3) := by decide +kernel
theorem d_X_takeWords_97 : decode b_X_takeWords 97 = .ok (.return_, 1) := by decide +kernel
theorem d_Wo_take_0 : decode b_Wo_take 0 = .ok (.aload_n 1, 1) := by decide +kernel
theorem d_Wo_take_1 : decode b_Wo_take 1 = .ok (.iload_n 2, 1) := by decide +kernel
theorem d_Wo_take_2 : decode b_Wo_take 2 = .ok (.aload_n 0, 1) := by decide +kernel
theorem d_Wo_take_3 : decode b_Wo_take 3 = .ok (.getfield 13, 3) := by decide +kernel
theorem d_Wo_take_6 : decode b_Wo_take 6 = .ok (.iconst 0, 1) := by decide +kernel
theorem d_Wo_take_7 : decode b_Wo_take 7 = .ok (.iload_n 3, 1) := by decide +kernel
theorem d_Wo_take_8 : decode b_Wo_take 8 = .ok (.invokestatic 17, 3) := by decide +kernel
theorem d_Wo_take_11 : decode b_Wo_take 11 = .ok (.aload_n 0, 1) := by decide +kernel
theorem d_Wo_take_12 : decode b_Wo_take 12 = .ok (.iload_n 3, 1) := by decide +kernel
theorem d_Wo_take_13 : decode b_Wo_take 13 = .ok (.putfield 7, 3) := by decide +kernel
theorem d_Wo_take_16 : decode b_Wo_take 16 = .ok (.return_, 1) := by decide +kernel
theorem d_Wo_dropOwnersEnding_0 : decode b_Wo_dropOwnersEnding 0 = .ok (.aload_n 0, 1) := by decide +kernel
theorem d_Wo_dropOwnersEnding_1 : decode b_Wo_dropOwnersEnding 1 = .ok (.getfield 7, 3) := by decide +kernel
theorem d_Wo_dropOwnersEnding_4 : decode b_Wo_dropOwnersEnding 4 = .ok (.iconst 2, 1) := by decide +kernel
theorem d_Wo_dropOwnersEnding_5 : decode b_Wo_dropOwnersEnding 5 = .ok (.if_icmp .gt 4, 3) := by decide +kernel
theorem d_Wo_dropOwnersEnding_8 : decode b_Wo_dropOwnersEnding 8 = .ok (.return_, 1) := by decide +kernel
theorem d_Wo_dropOwnersEnding_9 : decode b_Wo_dropOwnersEnding 9 = .ok (.aload_n 0, 1) := by decide +kernel
theorem d_Wo_dropOwnersEnding_10 : decode b_Wo_dropOwnersEnding 10 = .ok (.getfield 13, 3) := by decide +kernel
theorem d_Wo_dropOwnersEnding_13 : decode b_Wo_dropOwnersEnding 13 = .ok (.aload_n 0, 1) := by decide +kernel
theorem d_Wo_dropOwnersEnding_14 : decode b_Wo_dropOwnersEnding 14 = .ok (.getfield 7, 3) := by decide +kernel
theorem d_Wo_dropOwnersEnding_17 : decode b_Wo_dropOwnersEnding 17 = .ok (.iconst 2, 1) := by decide +kernel
theorem d_Wo_dropOwnersEnding_18 : decode b_Wo_dropOwnersEnding 18 = .ok (.isub, 1) := by decide +kernel
theorem d_Wo_dropOwnersEnding_19 : decode b_Wo_dropOwnersEnding 19 = .ok (.iaload, 1) := by decide +kernel
theorem d_Wo_dropOwnersEnding_20 : decode b_Wo_dropOwnersEnding 20 = .ok (.istore_n 1, 1) := by decide +kernel
theorem d_Wo_dropOwnersEnding_21 : decode b_Wo_dropOwnersEnding 21 = .ok (.aload_n 0, 1) := by decide +kernel
theorem d_Wo_dropOwnersEnding_22 : decode b_Wo_dropOwnersEnding 22 = .ok (.getfield 13, 3) := by decide +kernel
theorem d_Wo_dropOwnersEnding_25 : decode b_Wo_dropOwnersEnding 25 = .ok (.aload_n 0, 1) := by decide +kernel
theorem d_Wo_dropOwnersEnding_26 : decode b_Wo_dropOwnersEnding 26 = .ok (.getfield 7, 3) := by decide +kernel
theorem d_Wo_dropOwnersEnding_29 : decode b_Wo_dropOwnersEnding 29 = .ok (.iconst 1, 1) := by decide +kernel
theorem d_Wo_dropOwnersEnding_30 : decode b_Wo_dropOwnersEnding 30 = .ok (.isub, 1) := by decide +kernel
theorem d_Wo_dropOwnersEnding_31 : decode b_Wo_dropOwnersEnding 31 = .ok (.iaload, 1) := by decide +kernel
theorem d_Wo_dropOwnersEnding_32 : decode b_Wo_dropOwnersEnding 32 = .ok (.istore_n 2, 1) := by decide +kernel
theorem d_Wo_dropOwnersEnding_33 : decode b_Wo_dropOwnersEnding 33 = .ok (.iload_n 1, 1) := by decide +kernel
theorem d_Wo_dropOwnersEnding_34 : decode b_Wo_dropOwnersEnding 34 = .ok (.bipush 39, 2) := by decide +kernel
theorem d_Wo_dropOwnersEnding_36 : decode b_Wo_dropOwnersEnding 36 = .ok (.if_icmp .eq 10, 3) := by decide +kernel
theorem d_Wo_dropOwnersEnding_39 : decode b_Wo_dropOwnersEnding 39 = .ok (.iload_n 1, 1) := by decide +kernel
theorem d_Wo_dropOwnersEnding_40 : decode b_Wo_dropOwnersEnding 40 = .ok (.sipush 8217, 3) := by decide +kernel
theorem d_Wo_dropOwnersEnding_43 : decode b_Wo_dropOwnersEnding 43 = .ok (.if_icmp .ne 25, 3) := by decide +kernel
theorem d_Wo_dropOwnersEnding_46 : decode b_Wo_dropOwnersEnding 46 = .ok (.iload_n 2, 1) := by decide +kernel
theorem d_Wo_dropOwnersEnding_47 : decode b_Wo_dropOwnersEnding 47 = .ok (.bipush 115, 2) := by decide +kernel
theorem d_Wo_dropOwnersEnding_49 : decode b_Wo_dropOwnersEnding 49 = .ok (.if_icmp .eq 9, 3) := by decide +kernel
theorem d_Wo_dropOwnersEnding_52 : decode b_Wo_dropOwnersEnding 52 = .ok (.iload_n 2, 1) := by decide +kernel
theorem d_Wo_dropOwnersEnding_53 : decode b_Wo_dropOwnersEnding 53 = .ok (.bipush 83, 2) := by decide +kernel
theorem d_Wo_dropOwnersEnding_55 : decode b_Wo_dropOwnersEnding 55 = .ok (.if_icmp .ne 13, 3) := by decide +kernel
theorem d_Wo_dropOwnersEnding_58 : decode b_Wo_dropOwnersEnding 58 = .ok (.aload_n 0, 1) := by decide +kernel
theorem d_Wo_dropOwnersEnding_59 : decode b_Wo_dropOwnersEnding 59 = .ok (.dup, 1) := by decide +kernel
theorem d_Wo_dropOwnersEnding_60 : decode b_Wo_dropOwnersEnding 60 = .ok (.getfield 7, 3) := by decide +kernel
theorem d_Wo_dropOwnersEnding_63 : decode b_Wo_dropOwnersEnding 63 = .ok (.iconst 2, 1) := by decide +kernel
theorem d_Wo_dropOwnersEnding_64 : decode b_Wo_dropOwnersEnding 64 = .ok (.isub, 1) := by decide +kernel
theorem d_Wo_dropOwnersEnding_65 : decode b_Wo_dropOwnersEnding 65 = .ok (.putfield 7, 3) := by decide +kernel
theorem d_Wo_dropOwnersEnding_68 : decode b_Wo_dropOwnersEnding 68 = .ok (.return_, 1) := by decide +kernel
theorem d_Wo_lower_0 : decode b_Wo_lower 0 = .ok (.iconst 0, 1) := by decide +kernel
theorem d_Wo_lower_1 : decode b_Wo_lower 1 = .ok (.istore_n 1, 1) := by decide +kernel
theorem d_Wo_lower_2 : decode b_Wo_lower 2 = .ok (.iload_n 1, 1) := by decide +kernel
theorem d_Wo_lower_3 : decode b_Wo_lower 3 = .ok (.aload_n 0, 1) := by decide +kernel
theorem d_Wo_lower_4 : decode b_Wo_lower 4 = .ok (.getfield 7, 3) := by decide +kernel
theorem d_Wo_lower_7 : decode b_Wo_lower 7 = .ok (.if_icmp .ge 24, 3) := by decide +kernel
theorem d_Wo_lower_10 : decode b_Wo_lower 10 = .ok (.aload_n 0, 1) := by decide +kernel
theorem d_Wo_lower_11 : decode b_Wo_lower 11 = .ok (.getfield 13, 3) := by decide +kernel
theorem d_Wo_lower_14 : decode b_Wo_lower 14 = .ok (.iload_n 1, 1) := by decide +kernel
theorem d_Wo_lower_15 : decode b_Wo_lower 15 = .ok (.aload_n 0, 1) := by decide +kernel
theorem d_Wo_lower_16 : decode b_Wo_lower 16 = .ok (.getfield 13, 3) := by decide +kernel
theorem d_Wo_lower_19 : decode b_Wo_lower 19 = .ok (.iload_n 1, 1) := by decide +kernel
theorem d_Wo_lower_20 : decode b_Wo_lower 20 = .ok (.iaload, 1) := by decide +kernel
theorem d_Wo_lower_21 : decode b_Wo_lower 21 = .ok (.invokestatic 23, 3) := by decide +kernel
theorem d_Wo_lower_24 : decode b_Wo_lower 24 = .ok (.iastore, 1) := by decide +kernel
theorem d_Wo_lower_25 : decode b_Wo_lower 25 = .ok (.iinc 1 1, 3) := by decide +kernel
theorem d_Wo_lower_28 : decode b_Wo_lower 28 = .ok (.goto (-26), 3) := by decide +kernel
theorem d_Wo_lower_31 : decode b_Wo_lower 31 = .ok (.return_, 1) := by decide +kernel
theorem d_Wo_lowered_0 : decode b_Wo_lowered 0 = .ok (.iload_n 0, 1) := by decide +kernel
theorem d_Wo_lowered_1 : decode b_Wo_lowered 1 = .ok (.bipush 65, 2) := by decide +kernel
theorem d_Wo_lowered_3 : decode b_Wo_lowered 3 = .ok (.if_icmp .lt 9, 3) := by decide +kernel
theorem d_Wo_lowered_6 : decode b_Wo_lowered 6 = .ok (.iload_n 0, 1) := by decide +kernel
theorem d_Wo_lowered_7 : decode b_Wo_lowered 7 = .ok (.bipush 90, 2) := by decide +kernel
theorem d_Wo_lowered_9 : decode b_Wo_lowered 9 = .ok (.if_icmp .le 59, 3) := by decide +kernel
theorem d_Wo_lowered_12 : decode b_Wo_lowered 12 = .ok (.iload_n 0, 1) := by decide +kernel
theorem d_Wo_lowered_13 : decode b_Wo_lowered 13 = .ok (.sipush 192, 3) := by decide +kernel
theorem d_Wo_lowered_16 : decode b_Wo_lowered 16 = .ok (.if_icmp .lt 17, 3) := by decide +kernel
theorem d_Wo_lowered_19 : decode b_Wo_lowered 19 = .ok (.iload_n 0, 1) := by decide +kernel
theorem d_Wo_lowered_20 : decode b_Wo_lowered 20 = .ok (.sipush 222, 3) := by decide +kernel
theorem d_Wo_lowered_23 : decode b_Wo_lowered 23 = .ok (.if_icmp .gt 10, 3) := by decide +kernel
theorem d_Wo_lowered_26 : decode b_Wo_lowered 26 = .ok (.iload_n 0, 1) := by decide +kernel
theorem d_Wo_lowered_27 : decode b_Wo_lowered 27 = .ok (.sipush 215, 3) := by decide +kernel
theorem d_Wo_lowered_30 : decode b_Wo_lowered 30 = .ok (.if_icmp .ne 38, 3) := by decide +kernel
theorem d_Wo_lowered_33 : decode b_Wo_lowered 33 = .ok (.iload_n 0, 1) := by decide +kernel
theorem d_Wo_lowered_34 : decode b_Wo_lowered 34 = .ok (.sipush 913, 3) := by decide +kernel
theorem d_Wo_lowered_37 : decode b_Wo_lowered 37 = .ok (.if_icmp .lt 17, 3) := by decide +kernel
theorem d_Wo_lowered_40 : decode b_Wo_lowered 40 = .ok (.iload_n 0, 1) := by decide +kernel
theorem d_Wo_lowered_41 : decode b_Wo_lowered 41 = .ok (.sipush 939, 3) := by decide +kernel
theorem d_Wo_lowered_44 : decode b_Wo_lowered 44 = .ok (.if_icmp .gt 10, 3) := by decide +kernel
theorem d_Wo_lowered_47 : decode b_Wo_lowered 47 = .ok (.iload_n 0, 1) := by decide +kernel
theorem d_Wo_lowered_48 : decode b_Wo_lowered 48 = .ok (.sipush 930, 3) := by decide +kernel
theorem d_Wo_lowered_51 : decode b_Wo_lowered 51 = .ok (.if_icmp .ne 17, 3) := by decide +kernel
theorem d_Wo_lowered_54 : decode b_Wo_lowered 54 = .ok (.iload_n 0, 1) := by decide +kernel
theorem d_Wo_lowered_55 : decode b_Wo_lowered 55 = .ok (.sipush 1040, 3) := by decide +kernel
theorem d_Wo_lowered_58 : decode b_Wo_lowered 58 = .ok (.if_icmp .lt 15, 3) := by decide +kernel
theorem d_Wo_lowered_61 : decode b_Wo_lowered 61 = .ok (.iload_n 0, 1) := by decide +kernel
theorem d_Wo_lowered_62 : decode b_Wo_lowered 62 = .ok (.sipush 1071, 3) := by decide +kernel
theorem d_Wo_lowered_65 : decode b_Wo_lowered 65 = .ok (.if_icmp .gt 8, 3) := by decide +kernel
theorem d_Wo_lowered_68 : decode b_Wo_lowered 68 = .ok (.iload_n 0, 1) := by decide +kernel
theorem d_Wo_lowered_69 : decode b_Wo_lowered 69 = .ok (.bipush 32, 2) := by decide +kernel
theorem d_Wo_lowered_71 : decode b_Wo_lowered 71 = .ok (.iadd, 1) := by decide +kernel
theorem d_Wo_lowered_72 : decode b_Wo_lowered 72 = .ok (.ireturn, 1) := by decide +kernel
theorem d_Wo_lowered_73 : decode b_Wo_lowered 73 = .ok (.iload_n 0, 1) := by decide +kernel
theorem d_Wo_lowered_74 : decode b_Wo_lowered 74 = .ok (.sipush 1024, 3) := by decide +kernel
theorem d_Wo_lowered_77 : decode b_Wo_lowered 77 = .ok (.if_icmp .lt 17, 3) := by decide +kernel
theorem d_Wo_lowered_80 : decode b_Wo_lowered 80 = .ok (.iload_n 0, 1) := by decide +kernel
theorem d_Wo_lowered_81 : decode b_Wo_lowered 81 = .ok (.sipush 1039, 3) := by decide +kernel
theorem d_Wo_lowered_84 : decode b_Wo_lowered 84 = .ok (.if_icmp .gt 10, 3) := by decide +kernel
theorem d_Wo_lowered_87 : decode b_Wo_lowered 87 = .ok (.iload_n 0, 1) := by decide +kernel
theorem d_Wo_lowered_88 : decode b_Wo_lowered 88 = .ok (.bipush 80, 2) := by decide +kernel
theorem d_Wo_lowered_90 : decode b_Wo_lowered 90 = .ok (.iadd, 1) := by decide +kernel
theorem d_Wo_lowered_91 : decode b_Wo_lowered 91 = .ok (.goto 4, 3) := by decide +kernel
theorem d_Wo_lowered_94 : decode b_Wo_lowered 94 = .ok (.iload_n 0, 1) := by decide +kernel
theorem d_Wo_lowered_95 : decode b_Wo_lowered 95 = .ok (.ireturn, 1) := by decide +kernel
theorem d_Si_have_0 : decode b_Si_have 0 = .ok (.aload_n 1, 1) := by decide +kernel
theorem d_Si_have_1 : decode b_Si_have 1 = .ok (.getfield 29, 3) := by decide +kernel
theorem d_Si_have_4 : decode b_Si_have 4 = .ok (.iconst 5, 1) := by decide +kernel
theorem d_Si_have_5 : decode b_Si_have 5 = .ok (.if_icmp .gt 10, 3) := by decide +kernel
theorem d_Si_have_8 : decode b_Si_have 8 = .ok (.aload_n 1, 1) := by decide +kernel
theorem d_Si_have_9 : decode b_Si_have 9 = .ok (.invokevirtual 34, 3) := by decide +kernel
theorem d_Si_have_12 : decode b_Si_have 12 = .ok (.ifCond .ne 5, 3) := by decide +kernel
theorem d_Si_have_15 : decode b_Si_have 15 = .ok (.iconst 0, 1) := by decide +kernel
theorem d_Si_have_16 : decode b_Si_have 16 = .ok (.ireturn, 1) := by decide +kernel
theorem d_Si_have_17 : decode b_Si_have 17 = .ok (.iconst 0, 1) := by decide +kernel
theorem d_Si_have_18 : decode b_Si_have 18 = .ok (.istore_n 2, 1) := by decide +kernel
theorem d_Si_have_19 : decode b_Si_have 19 = .ok (.iconst 0, 1) := by decide +kernel
theorem d_Si_have_20 : decode b_Si_have 20 = .ok (.istore_n 3, 1) := by decide +kernel
theorem d_Si_have_21 : decode b_Si_have 21 = .ok (.iload_n 3, 1) := by decide +kernel
theorem d_Si_have_22 : decode b_Si_have 22 = .ok (.aload_n 1, 1) := by decide +kernel
theorem d_Si_have_23 : decode b_Si_have 23 = .ok (.getfield 29, 3) := by decide +kernel
theorem d_Si_have_26 : decode b_Si_have 26 = .ok (.if_icmp .ge 20, 3) := by decide +kernel
theorem d_Si_have_29 : decode b_Si_have 29 = .ok (.iload_n 2, 1) := by decide +kernel
theorem d_Si_have_30 : decode b_Si_have 30 = .ok (.aload_n 1, 1) := by decide +kernel
theorem d_Si_have_31 : decode b_Si_have 31 = .ok (.getfield 38, 3) := by decide +kernel
theorem d_Si_have_34 : decode b_Si_have 34 = .ok (.iload_n 3, 1) := by decide +kernel
theorem d_Si_have_35 : decode b_Si_have 35 = .ok (.iaload, 1) := by decide +kernel
theorem d_Si_have_36 : decode b_Si_have 36 = .ok (.invokestatic 25, 3) := by decide +kernel
theorem d_Si_have_39 : decode b_Si_have 39 = .ok (.istore_n 2, 1) := by decide +kernel
theorem d_Si_have_40 : decode b_Si_have 40 = .ok (.iinc 3 1, 3) := by decide +kernel
theorem d_Si_have_43 : decode b_Si_have 43 = .ok (.goto (-22), 3) := by decide +kernel
theorem d_Si_have_46 : decode b_Si_have 46 = .ok (.iconst 0, 1) := by decide +kernel
theorem d_Si_have_47 : decode b_Si_have 47 = .ok (.istore_n 3, 1) := by decide +kernel
theorem d_Si_have_48 : decode b_Si_have 48 = .ok (.iload_n 3, 1) := by decide +kernel
theorem d_Si_have_49 : decode b_Si_have 49 = .ok (.bipush 33, 2) := by decide +kernel
theorem d_Si_have_51 : decode b_Si_have 51 = .ok (.if_icmp .ge 21, 3) := by decide +kernel
theorem d_Si_have_54 : decode b_Si_have 54 = .ok (.aload_n 0, 1) := by decide +kernel
theorem d_Si_have_55 : decode b_Si_have 55 = .ok (.getfield 9, 3) := by decide +kernel
theorem d_Si_have_58 : decode b_Si_have 58 = .ok (.iload_n 3, 1) := by decide +kernel
theorem d_Si_have_59 : decode b_Si_have 59 = .ok (.iaload, 1) := by decide +kernel
theorem d_Si_have_60 : decode b_Si_have 60 = .ok (.iload_n 2, 1) := by decide +kernel
theorem d_Si_have_61 : decode b_Si_have 61 = .ok (.if_icmp .ne 5, 3) := by decide +kernel
theorem d_Si_have_64 : decode b_Si_have 64 = .ok (.iconst 1, 1) := by decide +kernel
theorem d_Si_have_65 : decode b_Si_have 65 = .ok (.ireturn, 1) := by decide +kernel
theorem d_Si_have_66 : decode b_Si_have 66 = .ok (.iinc 3 1, 3) := by decide +kernel
theorem d_Si_have_69 : decode b_Si_have 69 = .ok (.goto (-21), 3) := by decide +kernel
theorem d_Si_have_72 : decode b_Si_have 72 = .ok (.iconst 0, 1) := by decide +kernel
theorem d_Si_have_73 : decode b_Si_have 73 = .ok (.ireturn, 1) := by decide +kernel
theorem d_Wo_isSmallLetters_0 : decode b_Wo_isSmallLetters 0 = .ok (.iconst 0, 1) := by decide +kernel
theorem d_Wo_isSmallLetters_1 : decode b_Wo_isSmallLetters 1 = .ok (.istore_n 1, 1) := by decide +kernel
theorem d_Wo_isSmallLetters_2 : decode b_Wo_isSmallLetters 2 = .ok (.iload_n 1, 1) := by decide +kernel
theorem d_Wo_isSmallLetters_3 : decode b_Wo_isSmallLetters 3 = .ok (.aload_n 0, 1) := by decide +kernel
theorem d_Wo_isSmallLetters_4 : decode b_Wo_isSmallLetters 4 = .ok (.getfield 7, 3) := by decide +kernel
theorem d_Wo_isSmallLetters_7 : decode b_Wo_isSmallLetters 7 = .ok (.if_icmp .ge 33, 3) := by decide +kernel
theorem d_Wo_isSmallLetters_10 : decode b_Wo_isSmallLetters 10 = .ok (.aload_n 0, 1) := by decide +kernel
theorem d_Wo_isSmallLetters_11 : decode b_Wo_isSmallLetters 11 = .ok (.getfield 13, 3) := by decide +kernel
theorem d_Wo_isSmallLetters_14 : decode b_Wo_isSmallLetters 14 = .ok (.iload_n 1, 1) := by decide +kernel
theorem d_Wo_isSmallLetters_15 : decode b_Wo_isSmallLetters 15 = .ok (.iaload, 1) := by decide +kernel
theorem d_Wo_isSmallLetters_16 : decode b_Wo_isSmallLetters 16 = .ok (.bipush 97, 2) := by decide +kernel
theorem d_Wo_isSmallLetters_18 : decode b_Wo_isSmallLetters 18 = .ok (.if_icmp .lt 14, 3) := by decide +kernel
theorem d_Wo_isSmallLetters_21 : decode b_Wo_isSmallLetters 21 = .ok (.aload_n 0, 1) := by decide +kernel
theorem d_Wo_isSmallLetters_22 : decode b_Wo_isSmallLetters 22 = .ok (.getfield 13, 3) := by decide +kernel
theorem d_Wo_isSmallLetters_25 : decode b_Wo_isSmallLetters 25 = .ok (.iload_n 1, 1) := by decide +kernel
theorem d_Wo_isSmallLetters_26 : decode b_Wo_isSmallLetters 26 = .ok (.iaload, 1) := by decide +kernel
theorem d_Wo_isSmallLetters_27 : decode b_Wo_isSmallLetters 27 = .ok (.bipush 122, 2) := by decide +kernel
theorem d_Wo_isSmallLetters_29 : decode b_Wo_isSmallLetters 29 = .ok (.if_icmp .le 5, 3) := by decide +kernel
theorem d_Wo_isSmallLetters_32 : decode b_Wo_isSmallLetters 32 = .ok (.iconst 0, 1) := by decide +kernel
theorem d_Wo_isSmallLetters_33 : decode b_Wo_isSmallLetters 33 = .ok (.ireturn, 1) := by decide +kernel
theorem d_Wo_isSmallLetters_34 : decode b_Wo_isSmallLetters 34 = .ok (.iinc 1 1, 3) := by decide +kernel
theorem d_Wo_isSmallLetters_37 : decode b_Wo_isSmallLetters 37 = .ok (.goto (-35), 3) := by decide +kernel
theorem d_Wo_isSmallLetters_40 : decode b_Wo_isSmallLetters 40 = .ok (.iconst 1, 1) := by decide +kernel
theorem d_Wo_isSmallLetters_41 : decode b_Wo_isSmallLetters 41 = .ok (.ireturn, 1) := by decide +kernel
theorem d_Sm_stemIfFit_0 : decode b_Sm_stemIfFit 0 = .ok (.aload_n 0, 1) := by decide +kernel
theorem d_Sm_stemIfFit_1 : decode b_Sm_stemIfFit 1 = .ok (.getfield 153, 3) := by decide +kernel
theorem d_Sm_stemIfFit_4 : decode b_Sm_stemIfFit 4 = .ok (.getfield 161, 3) := by decide +kernel
theorem d_Sm_stemIfFit_7 : decode b_Sm_stemIfFit 7 = .ok (.iconst 2, 1) := by decide +kernel
theorem d_Sm_stemIfFit_8 : decode b_Sm_stemIfFit 8 = .ok (.if_icmp .le 13, 3) := by decide +kernel
theorem d_Sm_stemIfFit_11 : decode b_Sm_stemIfFit 11 = .ok (.aload_n 0, 1) := by decide +kernel
theorem d_Sm_stemIfFit_12 : decode b_Sm_stemIfFit 12 = .ok (.getfield 153, 3) := by decide +kernel
theorem d_Sm_stemIfFit_15 : decode b_Sm_stemIfFit 15 = .ok (.invokevirtual 165, 3) := by decide +kernel
theorem d_Sm_stemIfFit_18 : decode b_Sm_stemIfFit 18 = .ok (.ifCond .ne 4, 3) := by decide +kernel
theorem d_Sm_stemIfFit_21 : decode b_Sm_stemIfFit 21 = .ok (.return_, 1) := by decide +kernel
theorem d_Sm_stemIfFit_22 : decode b_Sm_stemIfFit 22 = .ok (.aload_n 0, 1) := by decide +kernel
end
section
theorem d_Sm_stemIfFit_23 : decode b_Sm_stemIfFit 23 = .ok (.invokevirtual 169, 3) := by decide +kernel
theorem d_Sm_stemIfFit_26 : decode b_Sm_stemIfFit 26 = .ok (.aload_n 0, 1) := by decide +kernel
theorem d_Sm_stemIfFit_27 : decode b_Sm_stemIfFit 27 = .ok (.invokevirtual 172, 3) := by decide +kernel
theorem d_Sm_stemIfFit_30 : decode b_Sm_stemIfFit 30 = .ok (.aload_n 0, 1) := by decide +kernel
theorem d_Sm_stemIfFit_31 : decode b_Sm_stemIfFit 31 = .ok (.invokevirtual 175, 3) := by decide +kernel
theorem d_Sm_stemIfFit_34 : decode b_Sm_stemIfFit 34 = .ok (.aload_n 0, 1) := by decide +kernel
theorem d_Sm_stemIfFit_35 : decode b_Sm_stemIfFit 35 = .ok (.invokevirtual 178, 3) := by decide +kernel
theorem d_Sm_stemIfFit_38 : decode b_Sm_stemIfFit 38 = .ok (.aload_n 0, 1) := by decide +kernel
theorem d_Sm_stemIfFit_39 : decode b_Sm_stemIfFit 39 = .ok (.aload_n 0, 1) := by decide +kernel
theorem d_Sm_stemIfFit_40 : decode b_Sm_stemIfFit 40 = .ok (.getfield 107, 3) := by decide +kernel
theorem d_Sm_stemIfFit_43 : decode b_Sm_stemIfFit 43 = .ok (.iconst 0, 1) := by decide +kernel
theorem d_Sm_stemIfFit_44 : decode b_Sm_stemIfFit 44 = .ok (.invokevirtual 181, 3) := by decide +kernel
theorem d_Sm_stemIfFit_47 : decode b_Sm_stemIfFit 47 = .ok (.aload_n 0, 1) := by decide +kernel
theorem d_Sm_stemIfFit_48 : decode b_Sm_stemIfFit 48 = .ok (.aload_n 0, 1) := by decide +kernel
theorem d_Sm_stemIfFit_49 : decode b_Sm_stemIfFit 49 = .ok (.getfield 124, 3) := by decide +kernel
theorem d_Sm_stemIfFit_52 : decode b_Sm_stemIfFit 52 = .ok (.iconst 0, 1) := by decide +kernel
theorem d_Sm_stemIfFit_53 : decode b_Sm_stemIfFit 53 = .ok (.invokevirtual 181, 3) := by decide +kernel
theorem d_Sm_stemIfFit_56 : decode b_Sm_stemIfFit 56 = .ok (.aload_n 0, 1) := by decide +kernel
theorem d_Sm_stemIfFit_57 : decode b_Sm_stemIfFit 57 = .ok (.invokevirtual 185, 3) := by decide +kernel
theorem d_Sm_stemIfFit_60 : decode b_Sm_stemIfFit 60 = .ok (.aload_n 0, 1) := by decide +kernel
theorem d_Sm_stemIfFit_61 : decode b_Sm_stemIfFit 61 = .ok (.invokevirtual 188, 3) := by decide +kernel
theorem d_Sm_stemIfFit_64 : decode b_Sm_stemIfFit 64 = .ok (.aload_n 0, 1) := by decide +kernel
theorem d_Sm_stemIfFit_65 : decode b_Sm_stemIfFit 65 = .ok (.invokevirtual 191, 3) := by decide +kernel
theorem d_Sm_stemIfFit_68 : decode b_Sm_stemIfFit 68 = .ok (.return_, 1) := by decide +kernel
theorem d_Sm_markVowels_0 : decode b_Sm_markVowels 0 = .ok (.iconst 0, 1) := by decide +kernel
theorem d_Sm_markVowels_1 : decode b_Sm_markVowels 1 = .ok (.istore_n 1, 1) := by decide +kernel
theorem d_Sm_markVowels_2 : decode b_Sm_markVowels 2 = .ok (.iload_n 1, 1) := by decide +kernel
theorem d_Sm_markVowels_3 : decode b_Sm_markVowels 3 = .ok (.aload_n 0, 1) := by decide +kernel
theorem d_Sm_markVowels_4 : decode b_Sm_markVowels 4 = .ok (.getfield 153, 3) := by decide +kernel
theorem d_Sm_markVowels_7 : decode b_Sm_markVowels 7 = .ok (.getfield 161, 3) := by decide +kernel
theorem d_Sm_markVowels_10 : decode b_Sm_markVowels 10 = .ok (.if_icmp .ge 91, 3) := by decide +kernel
theorem d_Sm_markVowels_13 : decode b_Sm_markVowels 13 = .ok (.aload_n 0, 1) := by decide +kernel
theorem d_Sm_markVowels_14 : decode b_Sm_markVowels 14 = .ok (.getfield 153, 3) := by decide +kernel
theorem d_Sm_markVowels_17 : decode b_Sm_markVowels 17 = .ok (.getfield 263, 3) := by decide +kernel
theorem d_Sm_markVowels_20 : decode b_Sm_markVowels 20 = .ok (.iload_n 1, 1) := by decide +kernel
theorem d_Sm_markVowels_21 : decode b_Sm_markVowels 21 = .ok (.iaload, 1) := by decide +kernel
theorem d_Sm_markVowels_22 : decode b_Sm_markVowels 22 = .ok (.istore_n 2, 1) := by decide +kernel
theorem d_Sm_markVowels_23 : decode b_Sm_markVowels 23 = .ok (.iload_n 1, 1) := by decide +kernel
theorem d_Sm_markVowels_24 : decode b_Sm_markVowels 24 = .ok (.ifCond .le 18, 3) := by decide +kernel
theorem d_Sm_markVowels_27 : decode b_Sm_markVowels 27 = .ok (.aload_n 0, 1) := by decide +kernel
theorem d_Sm_markVowels_28 : decode b_Sm_markVowels 28 = .ok (.getfield 157, 3) := by decide +kernel
theorem d_Sm_markVowels_31 : decode b_Sm_markVowels 31 = .ok (.iload_n 1, 1) := by decide +kernel
theorem d_Sm_markVowels_32 : decode b_Sm_markVowels 32 = .ok (.iconst 1, 1) := by decide +kernel
theorem d_Sm_markVowels_33 : decode b_Sm_markVowels 33 = .ok (.isub, 1) := by decide +kernel
theorem d_Sm_markVowels_34 : decode b_Sm_markVowels 34 = .ok (.baload, 1) := by decide +kernel
theorem d_Sm_markVowels_35 : decode b_Sm_markVowels 35 = .ok (.ifCond .ne 7, 3) := by decide +kernel
theorem d_Sm_markVowels_38 : decode b_Sm_markVowels 38 = .ok (.iconst 1, 1) := by decide +kernel
theorem d_Sm_markVowels_39 : decode b_Sm_markVowels 39 = .ok (.goto 4, 3) := by decide +kernel
theorem d_Sm_markVowels_42 : decode b_Sm_markVowels 42 = .ok (.iconst 0, 1) := by decide +kernel
theorem d_Sm_markVowels_43 : decode b_Sm_markVowels 43 = .ok (.istore_n 3, 1) := by decide +kernel
theorem d_Sm_markVowels_44 : decode b_Sm_markVowels 44 = .ok (.aload_n 0, 1) := by decide +kernel
theorem d_Sm_markVowels_45 : decode b_Sm_markVowels 45 = .ok (.getfield 157, 3) := by decide +kernel
theorem d_Sm_markVowels_48 : decode b_Sm_markVowels 48 = .ok (.iload_n 1, 1) := by decide +kernel
theorem d_Sm_markVowels_49 : decode b_Sm_markVowels 49 = .ok (.iload_n 2, 1) := by decide +kernel
theorem d_Sm_markVowels_50 : decode b_Sm_markVowels 50 = .ok (.bipush 97, 2) := by decide +kernel
theorem d_Sm_markVowels_52 : decode b_Sm_markVowels 52 = .ok (.if_icmp .eq 37, 3) := by decide +kernel
theorem d_Sm_markVowels_55 : decode b_Sm_markVowels 55 = .ok (.iload_n 2, 1) := by decide +kernel
theorem d_Sm_markVowels_56 : decode b_Sm_markVowels 56 = .ok (.bipush 101, 2) := by decide +kernel
theorem d_Sm_markVowels_58 : decode b_Sm_markVowels 58 = .ok (.if_icmp .eq 31, 3) := by decide +kernel
theorem d_Sm_markVowels_61 : decode b_Sm_markVowels 61 = .ok (.iload_n 2, 1) := by decide +kernel
theorem d_Sm_markVowels_62 : decode b_Sm_markVowels 62 = .ok (.bipush 105, 2) := by decide +kernel
theorem d_Sm_markVowels_64 : decode b_Sm_markVowels 64 = .ok (.if_icmp .eq 25, 3) := by decide +kernel
theorem d_Sm_markVowels_67 : decode b_Sm_markVowels 67 = .ok (.iload_n 2, 1) := by decide +kernel
theorem d_Sm_markVowels_68 : decode b_Sm_markVowels 68 = .ok (.bipush 111, 2) := by decide +kernel
theorem d_Sm_markVowels_70 : decode b_Sm_markVowels 70 = .ok (.if_icmp .eq 19, 3) := by decide +kernel
theorem d_Sm_markVowels_73 : decode b_Sm_markVowels 73 = .ok (.iload_n 2, 1) := by decide +kernel
theorem d_Sm_markVowels_74 : decode b_Sm_markVowels 74 = .ok (.bipush 117, 2) := by decide +kernel
theorem d_Sm_markVowels_76 : decode b_Sm_markVowels 76 = .ok (.if_icmp .eq 13, 3) := by decide +kernel
theorem d_Sm_markVowels_79 : decode b_Sm_markVowels 79 = .ok (.iload_n 2, 1) := by decide +kernel
theorem d_Sm_markVowels_80 : decode b_Sm_markVowels 80 = .ok (.bipush 121, 2) := by decide +kernel
theorem d_Sm_markVowels_82 : decode b_Sm_markVowels 82 = .ok (.if_icmp .ne 11, 3) := by decide +kernel
theorem d_Sm_markVowels_85 : decode b_Sm_markVowels 85 = .ok (.iload_n 3, 1) := by decide +kernel
theorem d_Sm_markVowels_86 : decode b_Sm_markVowels 86 = .ok (.ifCond .eq 7, 3) := by decide +kernel
theorem d_Sm_markVowels_89 : decode b_Sm_markVowels 89 = .ok (.iconst 1, 1) := by decide +kernel
theorem d_Sm_markVowels_90 : decode b_Sm_markVowels 90 = .ok (.goto 4, 3) := by decide +kernel
theorem d_Sm_markVowels_93 : decode b_Sm_markVowels 93 = .ok (.iconst 0, 1) := by decide +kernel
theorem d_Sm_markVowels_94 : decode b_Sm_markVowels 94 = .ok (.bastore, 1) := by decide +kernel
theorem d_Sm_markVowels_95 : decode b_Sm_markVowels 95 = .ok (.iinc 1 1, 3) := by decide +kernel
theorem d_Sm_markVowels_98 : decode b_Sm_markVowels 98 = .ok (.goto (-96), 3) := by decide +kernel
theorem d_Sm_markVowels_101 : decode b_Sm_markVowels 101 = .ok (.return_, 1) := by decide +kernel
theorem d_Sm_step1a_0 : decode b_Sm_step1a 0 = .ok (.aload_n 0, 1) := by decide +kernel
theorem d_Sm_step1a_1 : decode b_Sm_step1a 1 = .ok (.aload_n 0, 1) := by decide +kernel
theorem d_Sm_step1a_2 : decode b_Sm_step1a 2 = .ok (.getfield 24, 3) := by decide +kernel
theorem d_Sm_step1a_5 : decode b_Sm_step1a 5 = .ok (.invokevirtual 194, 3) := by decide +kernel
theorem d_Sm_step1a_8 : decode b_Sm_step1a 8 = .ok (.astore_n 1, 1) := by decide +kernel
theorem d_Sm_step1a_9 : decode b_Sm_step1a 9 = .ok (.aload_n 1, 1) := by decide +kernel
theorem d_Sm_step1a_10 : decode b_Sm_step1a 10 = .ok (.ifnull 16, 3) := by decide +kernel
theorem d_Sm_step1a_13 : decode b_Sm_step1a 13 = .ok (.aload_n 0, 1) := by decide +kernel
theorem d_Sm_step1a_14 : decode b_Sm_step1a 14 = .ok (.aload_n 0, 1) := by decide +kernel
theorem d_Sm_step1a_15 : decode b_Sm_step1a 15 = .ok (.aload_n 1, 1) := by decide +kernel
theorem d_Sm_step1a_16 : decode b_Sm_step1a 16 = .ok (.invokevirtual 198, 3) := by decide +kernel
theorem d_Sm_step1a_19 : decode b_Sm_step1a 19 = .ok (.aload_n 1, 1) := by decide +kernel
theorem d_Sm_step1a_20 : decode b_Sm_step1a 20 = .ok (.getfield 202, 3) := by decide +kernel
theorem d_Sm_step1a_23 : decode b_Sm_step1a 23 = .ok (.invokevirtual 206, 3) := by decide +kernel
theorem d_Sm_step1a_26 : decode b_Sm_step1a 26 = .ok (.return_, 1) := by decide +kernel
theorem d_Sm_longest_0 : decode b_Sm_longest 0 = .ok (.aconst_null, 1) := by decide +kernel
theorem d_Sm_longest_1 : decode b_Sm_longest 1 = .ok (.astore_n 2, 1) := by decide +kernel
theorem d_Sm_longest_2 : decode b_Sm_longest 2 = .ok (.iconst 0, 1) := by decide +kernel
theorem d_Sm_longest_3 : decode b_Sm_longest 3 = .ok (.istore_n 3, 1) := by decide +kernel
theorem d_Sm_longest_4 : decode b_Sm_longest 4 = .ok (.iload_n 3, 1) := by decide +kernel
theorem d_Sm_longest_5 : decode b_Sm_longest 5 = .ok (.aload_n 1, 1) := by decide +kernel
theorem d_Sm_longest_6 : decode b_Sm_longest 6 = .ok (.arraylength, 1) := by decide +kernel
theorem d_Sm_longest_7 : decode b_Sm_longest 7 = .ok (.if_icmp .ge 66, 3) := by decide +kernel
theorem d_Sm_longest_10 : decode b_Sm_longest 10 = .ok (.aload_n 1, 1) := by decide +kernel
theorem d_Sm_longest_11 : decode b_Sm_longest 11 = .ok (.iload_n 3, 1) := by decide +kernel
theorem d_Sm_longest_12 : decode b_Sm_longest 12 = .ok (.aaload, 1) := by decide +kernel
theorem d_Sm_longest_13 : decode b_Sm_longest 13 = .ok (.astore 4, 2) := by decide +kernel
theorem d_Sm_longest_15 : decode b_Sm_longest 15 = .ok (.aload_n 2, 1) := by decide +kernel
theorem d_Sm_longest_16 : decode b_Sm_longest 16 = .ok (.ifnull 21, 3) := by decide +kernel
theorem d_Sm_longest_19 : decode b_Sm_longest 19 = .ok (.aload 4, 2) := by decide +kernel
theorem d_Sm_longest_21 : decode b_Sm_longest 21 = .ok (.getfield 210, 3) := by decide +kernel
theorem d_Sm_longest_24 : decode b_Sm_longest 24 = .ok (.invokevirtual 256, 3) := by decide +kernel
theorem d_Sm_longest_27 : decode b_Sm_longest 27 = .ok (.aload_n 2, 1) := by decide +kernel
theorem d_Sm_longest_28 : decode b_Sm_longest 28 = .ok (.getfield 210, 3) := by decide +kernel
theorem d_Sm_longest_31 : decode b_Sm_longest 31 = .ok (.invokevirtual 256, 3) := by decide +kernel
theorem d_Sm_longest_34 : decode b_Sm_longest 34 = .ok (.if_icmp .le 7, 3) := by decide +kernel
theorem d_Sm_longest_37 : decode b_Sm_longest 37 = .ok (.iconst 1, 1) := by decide +kernel
theorem d_Sm_longest_38 : decode b_Sm_longest 38 = .ok (.goto 4, 3) := by decide +kernel
theorem d_Sm_longest_41 : decode b_Sm_longest 41 = .ok (.iconst 0, 1) := by decide +kernel
theorem d_Sm_longest_42 : decode b_Sm_longest 42 = .ok (.istore 5, 2) := by decide +kernel
theorem d_Sm_longest_44 : decode b_Sm_longest 44 = .ok (.iload 5, 2) := by decide +kernel
theorem d_Sm_longest_46 : decode b_Sm_longest 46 = .ok (.ifCond .eq 21, 3) := by decide +kernel
theorem d_Sm_longest_49 : decode b_Sm_longest 49 = .ok (.aload_n 0, 1) := by decide +kernel
theorem d_Sm_longest_50 : decode b_Sm_longest 50 = .ok (.getfield 153, 3) := by decide +kernel
theorem d_Sm_longest_53 : decode b_Sm_longest 53 = .ok (.aload 4, 2) := by decide +kernel
theorem d_Sm_longest_55 : decode b_Sm_longest 55 = .ok (.getfield 210, 3) := by decide +kernel
theorem d_Sm_longest_58 : decode b_Sm_longest 58 = .ok (.invokevirtual 232, 3) := by decide +kernel
theorem d_Sm_longest_61 : decode b_Sm_longest 61 = .ok (.ifCond .eq 6, 3) := by decide +kernel
theorem d_Sm_longest_64 : decode b_Sm_longest 64 = .ok (.aload 4, 2) := by decide +kernel
theorem d_Sm_longest_66 : decode b_Sm_longest 66 = .ok (.astore_n 2, 1) := by decide +kernel
theorem d_Sm_longest_67 : decode b_Sm_longest 67 = .ok (.iinc 3 1, 3) := by decide +kernel
theorem d_Sm_longest_70 : decode b_Sm_longest 70 = .ok (.goto (-66), 3) := by decide +kernel
theorem d_Sm_longest_73 : decode b_Sm_longest 73 = .ok (.aload_n 2, 1) := by decide +kernel
theorem d_Sm_longest_74 : decode b_Sm_longest 74 = .ok (.areturn, 1) := by decide +kernel
theorem d_Wo_endsWith_0 : decode b_Wo_endsWith 0 = .ok (.aload_n 0, 1) := by decide +kernel
theorem d_Wo_endsWith_1 : decode b_Wo_endsWith 1 = .ok (.getfield 7, 3) := by decide +kernel
theorem d_Wo_endsWith_4 : decode b_Wo_endsWith 4 = .ok (.aload_n 1, 1) := by decide +kernel
theorem d_Wo_endsWith_5 : decode b_Wo_endsWith 5 = .ok (.invokevirtual 27, 3) := by decide +kernel
theorem d_Wo_endsWith_8 : decode b_Wo_endsWith 8 = .ok (.isub, 1) := by decide +kernel
theorem d_Wo_endsWith_9 : decode b_Wo_endsWith 9 = .ok (.istore_n 2, 1) := by decide +kernel
theorem d_Wo_endsWith_10 : decode b_Wo_endsWith 10 = .ok (.iload_n 2, 1) := by decide +kernel
theorem d_Wo_endsWith_11 : decode b_Wo_endsWith 11 = .ok (.ifCond .ge 5, 3) := by decide +kernel
theorem d_Wo_endsWith_14 : decode b_Wo_endsWith 14 = .ok (.iconst 0, 1) := by decide +kernel
theorem d_Wo_endsWith_15 : decode b_Wo_endsWith 15 = .ok (.ireturn, 1) := by decide +kernel
theorem d_Wo_endsWith_16 : decode b_Wo_endsWith 16 = .ok (.aload_n 1, 1) := by decide +kernel
theorem d_Wo_endsWith_17 : decode b_Wo_endsWith 17 = .ok (.invokevirtual 27, 3) := by decide +kernel
theorem d_Wo_endsWith_20 : decode b_Wo_endsWith 20 = .ok (.iconst 1, 1) := by decide +kernel
theorem d_Wo_endsWith_21 : decode b_Wo_endsWith 21 = .ok (.isub, 1) := by decide +kernel
theorem d_Wo_endsWith_22 : decode b_Wo_endsWith 22 = .ok (.istore_n 3, 1) := by decide +kernel
theorem d_Wo_endsWith_23 : decode b_Wo_endsWith 23 = .ok (.iload_n 3, 1) := by decide +kernel
theorem d_Wo_endsWith_24 : decode b_Wo_endsWith 24 = .ok (.ifCond .lt 27, 3) := by decide +kernel
theorem d_Wo_endsWith_27 : decode b_Wo_endsWith 27 = .ok (.aload_n 0, 1) := by decide +kernel
theorem d_Wo_endsWith_28 : decode b_Wo_endsWith 28 = .ok (.getfield 13, 3) := by decide +kernel
theorem d_Wo_endsWith_31 : decode b_Wo_endsWith 31 = .ok (.iload_n 2, 1) := by decide +kernel
theorem d_Wo_endsWith_32 : decode b_Wo_endsWith 32 = .ok (.iload_n 3, 1) := by decide +kernel
theorem d_Wo_endsWith_33 : decode b_Wo_endsWith 33 = .ok (.iadd, 1) := by decide +kernel
theorem d_Wo_endsWith_34 : decode b_Wo_endsWith 34 = .ok (.iaload, 1) := by decide +kernel
theorem d_Wo_endsWith_35 : decode b_Wo_endsWith 35 = .ok (.aload_n 1, 1) := by decide +kernel
theorem d_Wo_endsWith_36 : decode b_Wo_endsWith 36 = .ok (.iload_n 3, 1) := by decide +kernel
theorem d_Wo_endsWith_37 : decode b_Wo_endsWith 37 = .ok (.invokevirtual 32, 3) := by decide +kernel
theorem d_Wo_endsWith_40 : decode b_Wo_endsWith 40 = .ok (.if_icmp .eq 5, 3) := by decide +kernel
theorem d_Wo_endsWith_43 : decode b_Wo_endsWith 43 = .ok (.iconst 0, 1) := by decide +kernel
theorem d_Wo_endsWith_44 : decode b_Wo_endsWith 44 = .ok (.ireturn, 1) := by decide +kernel
theorem d_Wo_endsWith_45 : decode b_Wo_endsWith 45 = .ok (.iinc 3 (-1), 3) := by decide +kernel
theorem d_Wo_endsWith_48 : decode b_Wo_endsWith 48 = .ok (.goto (-25), 3) := by decide +kernel
theorem d_Wo_endsWith_51 : decode b_Wo_endsWith 51 = .ok (.iconst 1, 1) := by decide +kernel
theorem d_Wo_endsWith_52 : decode b_Wo_endsWith 52 = .ok (.ireturn, 1) := by decide +kernel
theorem d_Sm_stemBefore_0 : decode b_Sm_stemBefore 0 = .ok (.aload_n 0, 1) := by decide +kernel
theorem d_Sm_stemBefore_1 : decode b_Sm_stemBefore 1 = .ok (.getfield 153, 3) := by decide +kernel
theorem d_Sm_stemBefore_4 : decode b_Sm_stemBefore 4 = .ok (.getfield 161, 3) := by decide +kernel
theorem d_Sm_stemBefore_7 : decode b_Sm_stemBefore 7 = .ok (.aload_n 1, 1) := by decide +kernel
theorem d_Sm_stemBefore_8 : decode b_Sm_stemBefore 8 = .ok (.getfield 210, 3) := by decide +kernel
theorem d_Sm_stemBefore_11 : decode b_Sm_stemBefore 11 = .ok (.invokevirtual 256, 3) := by decide +kernel
theorem d_Sm_stemBefore_14 : decode b_Sm_stemBefore 14 = .ok (.isub, 1) := by decide +kernel
theorem d_Sm_stemBefore_15 : decode b_Sm_stemBefore 15 = .ok (.ireturn, 1) := by decide +kernel
theorem d_Sm_become_0 : decode b_Sm_become 0 = .ok (.aload_n 0, 1) := by decide +kernel
theorem d_Sm_become_1 : decode b_Sm_become 1 = .ok (.getfield 153, 3) := by decide +kernel
theorem d_Sm_become_4 : decode b_Sm_become 4 = .ok (.iload_n 1, 1) := by decide +kernel
theorem d_Sm_become_5 : decode b_Sm_become 5 = .ok (.putfield 161, 3) := by decide +kernel
theorem d_Sm_become_8 : decode b_Sm_become 8 = .ok (.aload_n 0, 1) := by decide +kernel
theorem d_Sm_become_9 : decode b_Sm_become 9 = .ok (.getfield 153, 3) := by decide +kernel
theorem d_Sm_become_12 : decode b_Sm_become 12 = .ok (.aload_n 2, 1) := by decide +kernel
theorem d_Sm_become_13 : decode b_Sm_become 13 = .ok (.invokevirtual 259, 3) := by decide +kernel
theorem d_Sm_become_16 : decode b_Sm_become 16 = .ok (.aload_n 0, 1) := by decide +kernel
theorem d_Sm_become_17 : decode b_Sm_become 17 = .ok (.invokevirtual 169, 3) := by decide +kernel
theorem d_Sm_become_20 : decode b_Sm_become 20 = .ok (.return_, 1) := by decide +kernel
theorem d_Wo_append_0 : decode b_Wo_append 0 = .ok (.iconst 0, 1) := by decide +kernel
theorem d_Wo_append_1 : decode b_Wo_append 1 = .ok (.istore_n 2, 1) := by decide +kernel
theorem d_Wo_append_2 : decode b_Wo_append 2 = .ok (.iload_n 2, 1) := by decide +kernel
theorem d_Wo_append_3 : decode b_Wo_append 3 = .ok (.aload_n 1, 1) := by decide +kernel
theorem d_Wo_append_4 : decode b_Wo_append 4 = .ok (.invokevirtual 27, 3) := by decide +kernel
theorem d_Wo_append_7 : decode b_Wo_append 7 = .ok (.if_icmp .ge 45, 3) := by decide +kernel
theorem d_Wo_append_10 : decode b_Wo_append 10 = .ok (.aload_n 0, 1) := by decide +kernel
theorem d_Wo_append_11 : decode b_Wo_append 11 = .ok (.getfield 7, 3) := by decide +kernel
theorem d_Wo_append_14 : decode b_Wo_append 14 = .ok (.aload_n 0, 1) := by decide +kernel
theorem d_Wo_append_15 : decode b_Wo_append 15 = .ok (.getfield 13, 3) := by decide +kernel
theorem d_Wo_append_18 : decode b_Wo_append 18 = .ok (.arraylength, 1) := by decide +kernel
theorem d_Wo_append_19 : decode b_Wo_append 19 = .ok (.if_icmp .ge 33, 3) := by decide +kernel
theorem d_Wo_append_22 : decode b_Wo_append 22 = .ok (.aload_n 0, 1) := by decide +kernel
theorem d_Wo_append_23 : decode b_Wo_append 23 = .ok (.getfield 13, 3) := by decide +kernel
theorem d_Wo_append_26 : decode b_Wo_append 26 = .ok (.aload_n 0, 1) := by decide +kernel
theorem d_Wo_append_27 : decode b_Wo_append 27 = .ok (.getfield 7, 3) := by decide +kernel
theorem d_Wo_append_30 : decode b_Wo_append 30 = .ok (.aload_n 1, 1) := by decide +kernel
theorem d_Wo_append_31 : decode b_Wo_append 31 = .ok (.iload_n 2, 1) := by decide +kernel
theorem d_Wo_append_32 : decode b_Wo_append 32 = .ok (.invokevirtual 32, 3) := by decide +kernel
theorem d_Wo_append_35 : decode b_Wo_append 35 = .ok (.iastore, 1) := by decide +kernel
theorem d_Wo_append_36 : decode b_Wo_append 36 = .ok (.aload_n 0, 1) := by decide +kernel
theorem d_Wo_append_37 : decode b_Wo_append 37 = .ok (.dup, 1) := by decide +kernel
theorem d_Wo_append_38 : decode b_Wo_append 38 = .ok (.getfield 7, 3) := by decide +kernel
theorem d_Wo_append_41 : decode b_Wo_append 41 = .ok (.iconst 1, 1) := by decide +kernel
theorem d_Wo_append_42 : decode b_Wo_append 42 = .ok (.iadd, 1) := by decide +kernel
theorem d_Wo_append_43 : decode b_Wo_append 43 = .ok (.putfield 7, 3) := by decide +kernel
theorem d_Wo_append_46 : decode b_Wo_append 46 = .ok (.iinc 2 1, 3) := by decide +kernel
theorem d_Wo_append_49 : decode b_Wo_append 49 = .ok (.goto (-47), 3) := by decide +kernel
theorem d_Wo_append_52 : decode b_Wo_append 52 = .ok (.return_, 1) := by decide +kernel
theorem d_Sm_step1b_0 : decode b_Sm_step1b 0 = .ok (.aload_n 0, 1) := by decide +kernel
theorem d_Sm_step1b_1 : decode b_Sm_step1b 1 = .ok (.aload_n 0, 1) := by decide +kernel
theorem d_Sm_step1b_2 : decode b_Sm_step1b 2 = .ok (.getfield 38, 3) := by decide +kernel
theorem d_Sm_step1b_5 : decode b_Sm_step1b 5 = .ok (.invokevirtual 194, 3) := by decide +kernel
theorem d_Sm_step1b_8 : decode b_Sm_step1b 8 = .ok (.astore_n 1, 1) := by decide +kernel
theorem d_Sm_step1b_9 : decode b_Sm_step1b 9 = .ok (.aload_n 1, 1) := by decide +kernel
theorem d_Sm_step1b_10 : decode b_Sm_step1b 10 = .ok (.ifnonnull 4, 3) := by decide +kernel
theorem d_Sm_step1b_13 : decode b_Sm_step1b 13 = .ok (.return_, 1) := by decide +kernel
theorem d_Sm_step1b_14 : decode b_Sm_step1b 14 = .ok (.aload_n 0, 1) := by decide +kernel
theorem d_Sm_step1b_15 : decode b_Sm_step1b 15 = .ok (.aload_n 1, 1) := by decide +kernel
theorem d_Sm_step1b_16 : decode b_Sm_step1b 16 = .ok (.invokevirtual 198, 3) := by decide +kernel
theorem d_Sm_step1b_19 : decode b_Sm_step1b 19 = .ok (.istore_n 2, 1) := by decide +kernel
theorem d_Sm_step1b_20 : decode b_Sm_step1b 20 = .ok (.aload_n 1, 1) := by decide +kernel
theorem d_Sm_step1b_21 : decode b_Sm_step1b 21 = .ok (.getfield 210, 3) := by decide +kernel
theorem d_Sm_step1b_24 : decode b_Sm_step1b 24 = .ok (.ldc 30, 2) := by decide +kernel
theorem d_Sm_step1b_26 : decode b_Sm_step1b 26 = .ok (.invokevirtual 213, 3) := by decide +kernel
theorem d_Sm_step1b_29 : decode b_Sm_step1b 29 = .ok (.ifCond .eq 23, 3) := by decide +kernel
theorem d_Sm_step1b_32 : decode b_Sm_step1b 32 = .ok (.aload_n 0, 1) := by decide +kernel
theorem d_Sm_step1b_33 : decode b_Sm_step1b 33 = .ok (.iload_n 2, 1) := by decide +kernel
theorem d_Sm_step1b_34 : decode b_Sm_step1b 34 = .ok (.invokevirtual 219, 3) := by decide +kernel
theorem d_Sm_step1b_37 : decode b_Sm_step1b 37 = .ok (.ifCond .le 36, 3) := by decide +kernel
theorem d_Sm_step1b_40 : decode b_Sm_step1b 40 = .ok (.aload_n 0, 1) := by decide +kernel
theorem d_Sm_step1b_41 : decode b_Sm_step1b 41 = .ok (.iload_n 2, 1) := by decide +kernel
theorem d_Sm_step1b_42 : decode b_Sm_step1b 42 = .ok (.aload_n 1, 1) := by decide +kernel
theorem d_Sm_step1b_43 : decode b_Sm_step1b 43 = .ok (.getfield 202, 3) := by decide +kernel
theorem d_Sm_step1b_46 : decode b_Sm_step1b 46 = .ok (.invokevirtual 206, 3) := by decide +kernel
theorem d_Sm_step1b_49 : decode b_Sm_step1b 49 = .ok (.goto 24, 3) := by decide +kernel
theorem d_Sm_step1b_52 : decode b_Sm_step1b 52 = .ok (.aload_n 0, 1) := by decide +kernel
theorem d_Sm_step1b_53 : decode b_Sm_step1b 53 = .ok (.iload_n 2, 1) := by decide +kernel
theorem d_Sm_step1b_54 : decode b_Sm_step1b 54 = .ok (.invokevirtual 223, 3) := by decide +kernel
theorem d_Sm_step1b_57 : decode b_Sm_step1b 57 = .ok (.ifCond .eq 16, 3) := by decide +kernel
theorem d_Sm_step1b_60 : decode b_Sm_step1b 60 = .ok (.aload_n 0, 1) := by decide +kernel
theorem d_Sm_step1b_61 : decode b_Sm_step1b 61 = .ok (.iload_n 2, 1) := by decide +kernel
theorem d_Sm_step1b_62 : decode b_Sm_step1b 62 = .ok (.aload_n 1, 1) := by decide +kernel
theorem d_Sm_step1b_63 : decode b_Sm_step1b 63 = .ok (.getfield 202, 3) := by decide +kernel
theorem d_Sm_step1b_66 : decode b_Sm_step1b 66 = .ok (.invokevirtual 206, 3) := by decide +kernel
theorem d_Sm_step1b_69 : decode b_Sm_step1b 69 = .ok (.aload_n 0, 1) := by decide +kernel
theorem d_Sm_step1b_70 : decode b_Sm_step1b 70 = .ok (.invokevirtual 227, 3) := by decide +kernel
theorem d_Sm_step1b_73 : decode b_Sm_step1b 73 = .ok (.return_, 1) := by decide +kernel
theorem d_Str_equals_0 : decode b_Str_equals 0 = .ok (.aload_n 0, 1) := by decide +kernel
theorem d_Str_equals_1 : decode b_Str_equals 1 = .ok (.aload_n 1, 1) := by decide +kernel
theorem d_Str_equals_2 : decode b_Str_equals 2 = .ok (.if_acmp .ne 5, 3) := by decide +kernel
theorem d_Str_equals_5 : decode b_Str_equals 5 = .ok (.iconst 1, 1) := by decide +kernel
theorem d_Str_equals_6 : decode b_Str_equals 6 = .ok (.ireturn, 1) := by decide +kernel
theorem d_Str_equals_7 : decode b_Str_equals 7 = .ok (.aload_n 1, 1) := by decide +kernel
theorem d_Str_equals_8 : decode b_Str_equals 8 = .ok (.instanceof 10, 3) := by decide +kernel
theorem d_Str_equals_11 : decode b_Str_equals 11 = .ok (.ifCond .eq 43, 3) := by decide +kernel
theorem d_Str_equals_14 : decode b_Str_equals 14 = .ok (.aload_n 1, 1) := by decide +kernel
theorem d_Str_equals_15 : decode b_Str_equals 15 = .ok (.checkcast 10, 3) := by decide +kernel
theorem d_Str_equals_18 : decode b_Str_equals 18 = .ok (.astore_n 2, 1) := by decide +kernel
theorem d_Str_equals_19 : decode b_Str_equals 19 = .ok (.getstatic 38, 3) := by decide +kernel
theorem d_Str_equals_22 : decode b_Str_equals 22 = .ok (.ifCond .eq 14, 3) := by decide +kernel
theorem d_Str_equals_25 : decode b_Str_equals 25 = .ok (.aload_n 0, 1) := by decide +kernel
theorem d_Str_equals_26 : decode b_Str_equals 26 = .ok (.getfield 15, 3) := by decide +kernel
theorem d_Str_equals_29 : decode b_Str_equals 29 = .ok (.aload_n 2, 1) := by decide +kernel
theorem d_Str_equals_30 : decode b_Str_equals 30 = .ok (.getfield 15, 3) := by decide +kernel
theorem d_Str_equals_33 : decode b_Str_equals 33 = .ok (.if_icmp .ne 21, 3) := by decide +kernel
theorem d_Str_equals_36 : decode b_Str_equals 36 = .ok (.aload_n 0, 1) := by decide +kernel
theorem d_Str_equals_37 : decode b_Str_equals 37 = .ok (.getfield 9, 3) := by decide +kernel
theorem d_Str_equals_40 : decode b_Str_equals 40 = .ok (.aload_n 2, 1) := by decide +kernel
theorem d_Str_equals_41 : decode b_Str_equals 41 = .ok (.getfield 9, 3) := by decide +kernel
theorem d_Str_equals_44 : decode b_Str_equals 44 = .ok (.invokestatic 541, 3) := by decide +kernel
theorem d_Str_equals_47 : decode b_Str_equals 47 = .ok (.ifCond .eq 7, 3) := by decide +kernel
theorem d_Str_equals_50 : decode b_Str_equals 50 = .ok (.iconst 1, 1) := by decide +kernel
theorem d_Str_equals_51 : decode b_Str_equals 51 = .ok (.goto 4, 3) := by decide +kernel
theorem d_Str_equals_54 : decode b_Str_equals 54 = .ok (.iconst 0, 1) := by decide +kernel
theorem d_Str_equals_55 : decode b_Str_equals 55 = .ok (.ireturn, 1) := by decide +kernel
theorem d_Lat_equals_0 : decode b_Lat_equals 0 = .ok (.aload_n 0, 1) := by decide +kernel
theorem d_Lat_equals_1 : decode b_Lat_equals 1 = .ok (.arraylength, 1) := by decide +kernel
theorem d_Lat_equals_2 : decode b_Lat_equals 2 = .ok (.aload_n 1, 1) := by decide +kernel
theorem d_Lat_equals_3 : decode b_Lat_equals 3 = .ok (.arraylength, 1) := by decide +kernel
theorem d_Lat_equals_4 : decode b_Lat_equals 4 = .ok (.if_icmp .ne 30, 3) := by decide +kernel
theorem d_Lat_equals_7 : decode b_Lat_equals 7 = .ok (.iconst 0, 1) := by decide +kernel
theorem d_Lat_equals_8 : decode b_Lat_equals 8 = .ok (.istore_n 2, 1) := by decide +kernel
theorem d_Lat_equals_9 : decode b_Lat_equals 9 = .ok (.iload_n 2, 1) := by decide +kernel
theorem d_Lat_equals_10 : decode b_Lat_equals 10 = .ok (.aload_n 0, 1) := by decide +kernel
theorem d_Lat_equals_11 : decode b_Lat_equals 11 = .ok (.arraylength, 1) := by decide +kernel
theorem d_Lat_equals_12 : decode b_Lat_equals 12 = .ok (.if_icmp .ge 20, 3) := by decide +kernel
theorem d_Lat_equals_15 : decode b_Lat_equals 15 = .ok (.aload_n 0, 1) := by decide +kernel
theorem d_Lat_equals_16 : decode b_Lat_equals 16 = .ok (.iload_n 2, 1) := by decide +kernel
theorem d_Lat_equals_17 : decode b_Lat_equals 17 = .ok (.baload, 1) := by decide +kernel
theorem d_Lat_equals_18 : decode b_Lat_equals 18 = .ok (.aload_n 1, 1) := by decide +kernel
theorem d_Lat_equals_19 : decode b_Lat_equals 19 = .ok (.iload_n 2, 1) := by decide +kernel
theorem d_Lat_equals_20 : decode b_Lat_equals 20 = .ok (.baload, 1) := by decide +kernel
theorem d_Lat_equals_21 : decode b_Lat_equals 21 = .ok (.if_icmp .eq 5, 3) := by decide +kernel
theorem d_Lat_equals_24 : decode b_Lat_equals 24 = .ok (.iconst 0, 1) := by decide +kernel
theorem d_Lat_equals_25 : decode b_Lat_equals 25 = .ok (.ireturn, 1) := by decide +kernel
theorem d_Lat_equals_26 : decode b_Lat_equals 26 = .ok (.iinc 2 1, 3) := by decide +kernel
theorem d_Lat_equals_29 : decode b_Lat_equals 29 = .ok (.goto (-20), 3) := by decide +kernel
theorem d_Lat_equals_32 : decode b_Lat_equals 32 = .ok (.iconst 1, 1) := by decide +kernel
theorem d_Lat_equals_33 : decode b_Lat_equals 33 = .ok (.ireturn, 1) := by decide +kernel
theorem d_Lat_equals_34 : decode b_Lat_equals 34 = .ok (.iconst 0, 1) := by decide +kernel
theorem d_Lat_equals_35 : decode b_Lat_equals 35 = .ok (.ireturn, 1) := by decide +kernel
theorem d_Sm_measure_0 : decode b_Sm_measure 0 = .ok (.iconst 0, 1) := by decide +kernel
theorem d_Sm_measure_1 : decode b_Sm_measure 1 = .ok (.istore_n 2, 1) := by decide +kernel
theorem d_Sm_measure_2 : decode b_Sm_measure 2 = .ok (.iconst 1, 1) := by decide +kernel
theorem d_Sm_measure_3 : decode b_Sm_measure 3 = .ok (.istore_n 3, 1) := by decide +kernel
theorem d_Sm_measure_4 : decode b_Sm_measure 4 = .ok (.iload_n 3, 1) := by decide +kernel
theorem d_Sm_measure_5 : decode b_Sm_measure 5 = .ok (.iload_n 1, 1) := by decide +kernel
theorem d_Sm_measure_6 : decode b_Sm_measure 6 = .ok (.if_icmp .ge 32, 3) := by decide +kernel
theorem d_Sm_measure_9 : decode b_Sm_measure 9 = .ok (.aload_n 0, 1) := by decide +kernel
theorem d_Sm_measure_10 : decode b_Sm_measure 10 = .ok (.getfield 157, 3) := by decide +kernel
theorem d_Sm_measure_13 : decode b_Sm_measure 13 = .ok (.iload_n 3, 1) := by decide +kernel
theorem d_Sm_measure_14 : decode b_Sm_measure 14 = .ok (.iconst 1, 1) := by decide +kernel
theorem d_Sm_measure_15 : decode b_Sm_measure 15 = .ok (.isub, 1) := by decide +kernel
theorem d_Sm_measure_16 : decode b_Sm_measure 16 = .ok (.baload, 1) := by decide +kernel
theorem d_Sm_measure_17 : decode b_Sm_measure 17 = .ok (.ifCond .eq 15, 3) := by decide +kernel
theorem d_Sm_measure_20 : decode b_Sm_measure 20 = .ok (.aload_n 0, 1) := by decide +kernel
theorem d_Sm_measure_21 : decode b_Sm_measure 21 = .ok (.getfield 157, 3) := by decide +kernel
theorem d_Sm_measure_24 : decode b_Sm_measure 24 = .ok (.iload_n 3, 1) := by decide +kernel
theorem d_Sm_measure_25 : decode b_Sm_measure 25 = .ok (.baload, 1) := by decide +kernel
theorem d_Sm_measure_26 : decode b_Sm_measure 26 = .ok (.ifCond .ne 6, 3) := by decide +kernel
theorem d_Sm_measure_29 : decode b_Sm_measure 29 = .ok (.iinc 2 1, 3) := by decide +kernel
theorem d_Sm_measure_32 : decode b_Sm_measure 32 = .ok (.iinc 3 1, 3) := by decide +kernel
theorem d_Sm_measure_35 : decode b_Sm_measure 35 = .ok (.goto (-31), 3) := by decide +kernel
theorem d_Sm_measure_38 : decode b_Sm_measure 38 = .ok (.iload_n 2, 1) := by decide +kernel
theorem d_Sm_measure_39 : decode b_Sm_measure 39 = .ok (.ireturn, 1) := by decide +kernel
theorem d_Sm_hasVowel_0 : decode b_Sm_hasVowel 0 = .ok (.iconst 0, 1) := by decide +kernel
theorem d_Sm_hasVowel_1 : decode b_Sm_hasVowel 1 = .ok (.istore_n 2, 1) := by decide +kernel
theorem d_Sm_hasVowel_2 : decode b_Sm_hasVowel 2 = .ok (.iload_n 2, 1) := by decide +kernel
theorem d_Sm_hasVowel_3 : decode b_Sm_hasVowel 3 = .ok (.iload_n 1, 1) := by decide +kernel
theorem d_Sm_hasVowel_4 : decode b_Sm_hasVowel 4 = .ok (.if_icmp .ge 20, 3) := by decide +kernel
theorem d_Sm_hasVowel_7 : decode b_Sm_hasVowel 7 = .ok (.aload_n 0, 1) := by decide +kernel
theorem d_Sm_hasVowel_8 : decode b_Sm_hasVowel 8 = .ok (.getfield 157, 3) := by decide +kernel
theorem d_Sm_hasVowel_11 : decode b_Sm_hasVowel 11 = .ok (.iload_n 2, 1) := by decide +kernel
theorem d_Sm_hasVowel_12 : decode b_Sm_hasVowel 12 = .ok (.baload, 1) := by decide +kernel
theorem d_Sm_hasVowel_13 : decode b_Sm_hasVowel 13 = .ok (.ifCond .eq 5, 3) := by decide +kernel
theorem d_Sm_hasVowel_16 : decode b_Sm_hasVowel 16 = .ok (.iconst 1, 1) := by decide +kernel
theorem d_Sm_hasVowel_17 : decode b_Sm_hasVowel 17 = .ok (.ireturn, 1) := by decide +kernel
theorem d_Sm_hasVowel_18 : decode b_Sm_hasVowel 18 = .ok (.iinc 2 1, 3) := by decide +kernel
theorem d_Sm_hasVowel_21 : decode b_Sm_hasVowel 21 = .ok (.goto (-19), 3) := by decide +kernel
theorem d_Sm_hasVowel_24 : decode b_Sm_hasVowel 24 = .ok (.iconst 0, 1) := by decide +kernel
theorem d_Sm_hasVowel_25 : decode b_Sm_hasVowel 25 = .ok (.ireturn, 1) := by decide +kernel
theorem d_Sm_mendAfter1b_0 : decode b_Sm_mendAfter1b 0 = .ok (.aload_n 0, 1) := by decide +kernel
theorem d_Sm_mendAfter1b_1 : decode b_Sm_mendAfter1b 1 = .ok (.getfield 153, 3) := by decide +kernel
theorem d_Sm_mendAfter1b_4 : decode b_Sm_mendAfter1b 4 = .ok (.ldc 230, 2) := by decide +kernel
theorem d_Sm_mendAfter1b_6 : decode b_Sm_mendAfter1b 6 = .ok (.invokevirtual 232, 3) := by decide +kernel
theorem d_Sm_mendAfter1b_9 : decode b_Sm_mendAfter1b 9 = .ok (.ifCond .ne 27, 3) := by decide +kernel
theorem d_Sm_mendAfter1b_12 : decode b_Sm_mendAfter1b 12 = .ok (.aload_n 0, 1) := by decide +kernel
theorem d_Sm_mendAfter1b_13 : decode b_Sm_mendAfter1b 13 = .ok (.getfield 153, 3) := by decide +kernel
theorem d_Sm_mendAfter1b_16 : decode b_Sm_mendAfter1b 16 = .ok (.ldc 236, 2) := by decide +kernel
theorem d_Sm_mendAfter1b_18 : decode b_Sm_mendAfter1b 18 = .ok (.invokevirtual 232, 3) := by decide +kernel
theorem d_Sm_mendAfter1b_21 : decode b_Sm_mendAfter1b 21 = .ok (.ifCond .ne 15, 3) := by decide +kernel
theorem d_Sm_mendAfter1b_24 : decode b_Sm_mendAfter1b 24 = .ok (.aload_n 0, 1) := by decide +kernel
theorem d_Sm_mendAfter1b_25 : decode b_Sm_mendAfter1b 25 = .ok (.getfield 153, 3) := by decide +kernel
theorem d_Sm_mendAfter1b_28 : decode b_Sm_mendAfter1b 28 = .ok (.ldc 238, 2) := by decide +kernel
theorem d_Sm_mendAfter1b_30 : decode b_Sm_mendAfter1b 30 = .ok (.invokevirtual 232, 3) := by decide +kernel
theorem d_Sm_mendAfter1b_33 : decode b_Sm_mendAfter1b 33 = .ok (.ifCond .eq 19, 3) := by decide +kernel
theorem d_Sm_mendAfter1b_36 : decode b_Sm_mendAfter1b 36 = .ok (.aload_n 0, 1) := by decide +kernel
theorem d_Sm_mendAfter1b_37 : decode b_Sm_mendAfter1b 37 = .ok (.aload_n 0, 1) := by decide +kernel
theorem d_Sm_mendAfter1b_38 : decode b_Sm_mendAfter1b 38 = .ok (.getfield 153, 3) := by decide +kernel
theorem d_Sm_mendAfter1b_41 : decode b_Sm_mendAfter1b 41 = .ok (.getfield 161, 3) := by decide +kernel
theorem d_Sm_mendAfter1b_44 : decode b_Sm_mendAfter1b 44 = .ok (.ldc 75, 2) := by decide +kernel
theorem d_Sm_mendAfter1b_46 : decode b_Sm_mendAfter1b 46 = .ok (.invokevirtual 206, 3) := by decide +kernel
theorem d_Sm_mendAfter1b_49 : decode b_Sm_mendAfter1b 49 = .ok (.goto 106, 3) := by decide +kernel
theorem d_Sm_mendAfter1b_52 : decode b_Sm_mendAfter1b 52 = .ok (.aload_n 0, 1) := by decide +kernel
theorem d_Sm_mendAfter1b_53 : decode b_Sm_mendAfter1b 53 = .ok (.invokevirtual 240, 3) := by decide +kernel
theorem d_Sm_mendAfter1b_56 : decode b_Sm_mendAfter1b 56 = .ok (.ifCond .eq 57, 3) := by decide +kernel
theorem d_Sm_mendAfter1b_59 : decode b_Sm_mendAfter1b 59 = .ok (.aload_n 0, 1) := by decide +kernel
theorem d_Sm_mendAfter1b_60 : decode b_Sm_mendAfter1b 60 = .ok (.getfield 153, 3) := by decide +kernel
theorem d_Sm_mendAfter1b_63 : decode b_Sm_mendAfter1b 63 = .ok (.ldc 243, 2) := by decide +kernel
theorem d_Sm_mendAfter1b_65 : decode b_Sm_mendAfter1b 65 = .ok (.invokevirtual 232, 3) := by decide +kernel
theorem d_Sm_mendAfter1b_68 : decode b_Sm_mendAfter1b 68 = .ok (.ifCond .ne 45, 3) := by decide +kernel
theorem d_Sm_mendAfter1b_71 : decode b_Sm_mendAfter1b 71 = .ok (.aload_n 0, 1) := by decide +kernel
theorem d_Sm_mendAfter1b_72 : decode b_Sm_mendAfter1b 72 = .ok (.getfield 153, 3) := by decide +kernel
theorem d_Sm_mendAfter1b_75 : decode b_Sm_mendAfter1b 75 = .ok (.ldc 20, 2) := by decide +kernel
theorem d_Sm_mendAfter1b_77 : decode b_Sm_mendAfter1b 77 = .ok (.invokevirtual 232, 3) := by decide +kernel
theorem d_Sm_mendAfter1b_80 : decode b_Sm_mendAfter1b 80 = .ok (.ifCond .ne 33, 3) := by decide +kernel
theorem d_Sm_mendAfter1b_83 : decode b_Sm_mendAfter1b 83 = .ok (.aload_n 0, 1) := by decide +kernel
theorem d_Sm_mendAfter1b_84 : decode b_Sm_mendAfter1b 84 = .ok (.getfield 153, 3) := by decide +kernel
theorem d_Sm_mendAfter1b_87 : decode b_Sm_mendAfter1b 87 = .ok (.ldc 245, 2) := by decide +kernel
theorem d_Sm_mendAfter1b_89 : decode b_Sm_mendAfter1b 89 = .ok (.invokevirtual 232, 3) := by decide +kernel
theorem d_Sm_mendAfter1b_92 : decode b_Sm_mendAfter1b 92 = .ok (.ifCond .ne 21, 3) := by decide +kernel
theorem d_Sm_mendAfter1b_95 : decode b_Sm_mendAfter1b 95 = .ok (.aload_n 0, 1) := by decide +kernel
theorem d_Sm_mendAfter1b_96 : decode b_Sm_mendAfter1b 96 = .ok (.aload_n 0, 1) := by decide +kernel
theorem d_Sm_mendAfter1b_97 : decode b_Sm_mendAfter1b 97 = .ok (.getfield 153, 3) := by decide +kernel
theorem d_Sm_mendAfter1b_100 : decode b_Sm_mendAfter1b 100 = .ok (.getfield 161, 3) := by decide +kernel
theorem d_Sm_mendAfter1b_103 : decode b_Sm_mendAfter1b 103 = .ok (.iconst 1, 1) := by decide +kernel
theorem d_Sm_mendAfter1b_104 : decode b_Sm_mendAfter1b 104 = .ok (.isub, 1) := by decide +kernel
theorem d_Sm_mendAfter1b_105 : decode b_Sm_mendAfter1b 105 = .ok (.ldc 22, 2) := by decide +kernel
theorem d_Sm_mendAfter1b_107 : decode b_Sm_mendAfter1b 107 = .ok (.invokevirtual 206, 3) := by decide +kernel
theorem d_Sm_mendAfter1b_110 : decode b_Sm_mendAfter1b 110 = .ok (.goto 45, 3) := by decide +kernel
theorem d_Sm_mendAfter1b_113 : decode b_Sm_mendAfter1b 113 = .ok (.aload_n 0, 1) := by decide +kernel
theorem d_Sm_mendAfter1b_114 : decode b_Sm_mendAfter1b 114 = .ok (.aload_n 0, 1) := by decide +kernel
theorem d_Sm_mendAfter1b_115 : decode b_Sm_mendAfter1b 115 = .ok (.getfield 153, 3) := by decide +kernel
theorem d_Sm_mendAfter1b_118 : decode b_Sm_mendAfter1b 118 = .ok (.getfield 161, 3) := by decide +kernel
theorem d_Sm_mendAfter1b_121 : decode b_Sm_mendAfter1b 121 = .ok (.invokevirtual 219, 3) := by decide +kernel
theorem d_Sm_mendAfter1b_124 : decode b_Sm_mendAfter1b 124 = .ok (.iconst 1, 1) := by decide +kernel
theorem d_Sm_mendAfter1b_125 : decode b_Sm_mendAfter1b 125 = .ok (.if_icmp .ne 30, 3) := by decide +kernel
theorem d_Sm_mendAfter1b_128 : decode b_Sm_mendAfter1b 128 = .ok (.aload_n 0, 1) := by decide +kernel
theorem d_Sm_mendAfter1b_129 : decode b_Sm_mendAfter1b 129 = .ok (.aload_n 0, 1) := by decide +kernel
theorem d_Sm_mendAfter1b_130 : decode b_Sm_mendAfter1b 130 = .ok (.getfield 153, 3) := by decide +kernel
theorem d_Sm_mendAfter1b_133 : decode b_Sm_mendAfter1b 133 = .ok (.getfield 161, 3) := by decide +kernel
theorem d_Sm_mendAfter1b_136 : decode b_Sm_mendAfter1b 136 = .ok (.invokevirtual 247, 3) := by decide +kernel
theorem d_Sm_mendAfter1b_139 : decode b_Sm_mendAfter1b 139 = .ok (.ifCond .eq 16, 3) := by decide +kernel
theorem d_Sm_mendAfter1b_142 : decode b_Sm_mendAfter1b 142 = .ok (.aload_n 0, 1) := by decide +kernel
theorem d_Sm_mendAfter1b_143 : decode b_Sm_mendAfter1b 143 = .ok (.aload_n 0, 1) := by decide +kernel
theorem d_Sm_mendAfter1b_144 : decode b_Sm_mendAfter1b 144 = .ok (.getfield 153, 3) := by decide +kernel
theorem d_Sm_mendAfter1b_147 : decode b_Sm_mendAfter1b 147 = .ok (.getfield 161, 3) := by decide +kernel
theorem d_Sm_mendAfter1b_150 : decode b_Sm_mendAfter1b 150 = .ok (.ldc 75, 2) := by decide +kernel
theorem d_Sm_mendAfter1b_152 : decode b_Sm_mendAfter1b 152 = .ok (.invokevirtual 206, 3) := by decide +kernel
theorem d_Sm_mendAfter1b_155 : decode b_Sm_mendAfter1b 155 = .ok (.return_, 1) := by decide +kernel
theorem d_Sm_isDouble_0 : decode b_Sm_isDouble 0 = .ok (.aload_n 0, 1) := by decide +kernel
theorem d_Sm_isDouble_1 : decode b_Sm_isDouble 1 = .ok (.getfield 153, 3) := by decide +kernel
theorem d_Sm_isDouble_4 : decode b_Sm_isDouble 4 = .ok (.getfield 161, 3) := by decide +kernel
theorem d_Sm_isDouble_7 : decode b_Sm_isDouble 7 = .ok (.iconst 1, 1) := by decide +kernel
theorem d_Sm_isDouble_8 : decode b_Sm_isDouble 8 = .ok (.isub, 1) := by decide +kernel
theorem d_Sm_isDouble_9 : decode b_Sm_isDouble 9 = .ok (.istore_n 1, 1) := by decide +kernel
theorem d_Sm_isDouble_10 : decode b_Sm_isDouble 10 = .ok (.iload_n 1, 1) := by decide +kernel
theorem d_Sm_isDouble_11 : decode b_Sm_isDouble 11 = .ok (.ifCond .le 39, 3) := by decide +kernel
theorem d_Sm_isDouble_14 : decode b_Sm_isDouble 14 = .ok (.aload_n 0, 1) := by decide +kernel
theorem d_Sm_isDouble_15 : decode b_Sm_isDouble 15 = .ok (.getfield 153, 3) := by decide +kernel
theorem d_Sm_isDouble_18 : decode b_Sm_isDouble 18 = .ok (.getfield 263, 3) := by decide +kernel
theorem d_Sm_isDouble_21 : decode b_Sm_isDouble 21 = .ok (.iload_n 1, 1) := by decide +kernel
theorem d_Sm_isDouble_22 : decode b_Sm_isDouble 22 = .ok (.iaload, 1) := by decide +kernel
theorem d_Sm_isDouble_23 : decode b_Sm_isDouble 23 = .ok (.aload_n 0, 1) := by decide +kernel
theorem d_Sm_isDouble_24 : decode b_Sm_isDouble 24 = .ok (.getfield 153, 3) := by decide +kernel
theorem d_Sm_isDouble_27 : decode b_Sm_isDouble 27 = .ok (.getfield 263, 3) := by decide +kernel
theorem d_Sm_isDouble_30 : decode b_Sm_isDouble 30 = .ok (.iload_n 1, 1) := by decide +kernel
theorem d_Sm_isDouble_31 : decode b_Sm_isDouble 31 = .ok (.iconst 1, 1) := by decide +kernel
theorem d_Sm_isDouble_32 : decode b_Sm_isDouble 32 = .ok (.isub, 1) := by decide +kernel
theorem d_Sm_isDouble_33 : decode b_Sm_isDouble 33 = .ok (.iaload, 1) := by decide +kernel
theorem d_Sm_isDouble_34 : decode b_Sm_isDouble 34 = .ok (.if_icmp .ne 16, 3) := by decide +kernel
theorem d_Sm_isDouble_37 : decode b_Sm_isDouble 37 = .ok (.aload_n 0, 1) := by decide +kernel
theorem d_Sm_isDouble_38 : decode b_Sm_isDouble 38 = .ok (.getfield 157, 3) := by decide +kernel
theorem d_Sm_isDouble_41 : decode b_Sm_isDouble 41 = .ok (.iload_n 1, 1) := by decide +kernel
theorem d_Sm_isDouble_42 : decode b_Sm_isDouble 42 = .ok (.baload, 1) := by decide +kernel
theorem d_Sm_isDouble_43 : decode b_Sm_isDouble 43 = .ok (.ifCond .ne 7, 3) := by decide +kernel
theorem d_Sm_isDouble_46 : decode b_Sm_isDouble 46 = .ok (.iconst 1, 1) := by decide +kernel
theorem d_Sm_isDouble_47 : decode b_Sm_isDouble 47 = .ok (.goto 4, 3) := by decide +kernel
theorem d_Sm_isDouble_50 : decode b_Sm_isDouble 50 = .ok (.iconst 0, 1) := by decide +kernel
theorem d_Sm_isDouble_51 : decode b_Sm_isDouble 51 = .ok (.ireturn, 1) := by decide +kernel
theorem d_Sm_isCvc_0 : decode b_Sm_isCvc 0 = .ok (.iload_n 1, 1) := by decide +kernel
theorem d_Sm_isCvc_1 : decode b_Sm_isCvc 1 = .ok (.iconst 3, 1) := by decide +kernel
theorem d_Sm_isCvc_2 : decode b_Sm_isCvc 2 = .ok (.if_icmp .lt 36, 3) := by decide +kernel
theorem d_Sm_isCvc_5 : decode b_Sm_isCvc 5 = .ok (.aload_n 0, 1) := by decide +kernel
theorem d_Sm_isCvc_6 : decode b_Sm_isCvc 6 = .ok (.getfield 157, 3) := by decide +kernel
theorem d_Sm_isCvc_9 : decode b_Sm_isCvc 9 = .ok (.iload_n 1, 1) := by decide +kernel
theorem d_Sm_isCvc_10 : decode b_Sm_isCvc 10 = .ok (.iconst 3, 1) := by decide +kernel
theorem d_Sm_isCvc_11 : decode b_Sm_isCvc 11 = .ok (.isub, 1) := by decide +kernel
theorem d_Sm_isCvc_12 : decode b_Sm_isCvc 12 = .ok (.baload, 1) := by decide +kernel
theorem d_Sm_isCvc_13 : decode b_Sm_isCvc 13 = .ok (.ifCond .ne 25, 3) := by decide +kernel
theorem d_Sm_isCvc_16 : decode b_Sm_isCvc 16 = .ok (.aload_n 0, 1) := by decide +kernel
theorem d_Sm_isCvc_17 : decode b_Sm_isCvc 17 = .ok (.getfield 157, 3) := by decide +kernel
theorem d_Sm_isCvc_20 : decode b_Sm_isCvc 20 = .ok (.iload_n 1, 1) := by decide +kernel
theorem d_Sm_isCvc_21 : decode b_Sm_isCvc 21 = .ok (.iconst 2, 1) := by decide +kernel
theorem d_Sm_isCvc_22 : decode b_Sm_isCvc 22 = .ok (.isub, 1) := by decide +kernel
theorem d_Sm_isCvc_23 : decode b_Sm_isCvc 23 = .ok (.baload, 1) := by decide +kernel
theorem d_Sm_isCvc_24 : decode b_Sm_isCvc 24 = .ok (.ifCond .eq 14, 3) := by decide +kernel
theorem d_Sm_isCvc_27 : decode b_Sm_isCvc 27 = .ok (.aload_n 0, 1) := by decide +kernel
theorem d_Sm_isCvc_28 : decode b_Sm_isCvc 28 = .ok (.getfield 157, 3) := by decide +kernel
theorem d_Sm_isCvc_31 : decode b_Sm_isCvc 31 = .ok (.iload_n 1, 1) := by decide +kernel
theorem d_Sm_isCvc_32 : decode b_Sm_isCvc 32 = .ok (.iconst 1, 1) := by decide +kernel
theorem d_Sm_isCvc_33 : decode b_Sm_isCvc 33 = .ok (.isub, 1) := by decide +kernel
theorem d_Sm_isCvc_34 : decode b_Sm_isCvc 34 = .ok (.baload, 1) := by decide +kernel
theorem d_Sm_isCvc_35 : decode b_Sm_isCvc 35 = .ok (.ifCond .eq 5, 3) := by decide +kernel
theorem d_Sm_isCvc_38 : decode b_Sm_isCvc 38 = .ok (.iconst 0, 1) := by decide +kernel
theorem d_Sm_isCvc_39 : decode b_Sm_isCvc 39 = .ok (.ireturn, 1) := by decide +kernel
theorem d_Sm_isCvc_40 : decode b_Sm_isCvc 40 = .ok (.aload_n 0, 1) := by decide +kernel
theorem d_Sm_isCvc_41 : decode b_Sm_isCvc 41 = .ok (.getfield 153, 3) := by decide +kernel
theorem d_Sm_isCvc_44 : decode b_Sm_isCvc 44 = .ok (.getfield 263, 3) := by decide +kernel
theorem d_Sm_isCvc_47 : decode b_Sm_isCvc 47 = .ok (.iload_n 1, 1) := by decide +kernel
theorem d_Sm_isCvc_48 : decode b_Sm_isCvc 48 = .ok (.iconst 1, 1) := by decide +kernel
theorem d_Sm_isCvc_49 : decode b_Sm_isCvc 49 = .ok (.isub, 1) := by decide +kernel
theorem d_Sm_isCvc_50 : decode b_Sm_isCvc 50 = .ok (.iaload, 1) := by decide +kernel
theorem d_Sm_isCvc_51 : decode b_Sm_isCvc 51 = .ok (.istore_n 2, 1) := by decide +kernel
theorem d_Sm_isCvc_52 : decode b_Sm_isCvc 52 = .ok (.iload_n 2, 1) := by decide +kernel
theorem d_Sm_isCvc_53 : decode b_Sm_isCvc 53 = .ok (.bipush 119, 2) := by decide +kernel
theorem d_Sm_isCvc_55 : decode b_Sm_isCvc 55 = .ok (.if_icmp .eq 19, 3) := by decide +kernel
theorem d_Sm_isCvc_58 : decode b_Sm_isCvc 58 = .ok (.iload_n 2, 1) := by decide +kernel
theorem d_Sm_isCvc_59 : decode b_Sm_isCvc 59 = .ok (.bipush 120, 2) := by decide +kernel
theorem d_Sm_isCvc_61 : decode b_Sm_isCvc 61 = .ok (.if_icmp .eq 13, 3) := by decide +kernel
theorem d_Sm_isCvc_64 : decode b_Sm_isCvc 64 = .ok (.iload_n 2, 1) := by decide +kernel
theorem d_Sm_isCvc_65 : decode b_Sm_isCvc 65 = .ok (.bipush 121, 2) := by decide +kernel
theorem d_Sm_isCvc_67 : decode b_Sm_isCvc 67 = .ok (.if_icmp .eq 7, 3) := by decide +kernel
theorem d_Sm_isCvc_70 : decode b_Sm_isCvc 70 = .ok (.iconst 1, 1) := by decide +kernel
theorem d_Sm_isCvc_71 : decode b_Sm_isCvc 71 = .ok (.goto 4, 3) := by decide +kernel
theorem d_Sm_isCvc_74 : decode b_Sm_isCvc 74 = .ok (.iconst 0, 1) := by decide +kernel
theorem d_Sm_isCvc_75 : decode b_Sm_isCvc 75 = .ok (.ireturn, 1) := by decide +kernel
theorem d_Sm_step1c_0 : decode b_Sm_step1c 0 = .ok (.aload_n 0, 1) := by decide +kernel
theorem d_Sm_step1c_1 : decode b_Sm_step1c 1 = .ok (.getfield 153, 3) := by decide +kernel
theorem d_Sm_step1c_4 : decode b_Sm_step1c 4 = .ok (.getfield 161, 3) := by decide +kernel
theorem d_Sm_step1c_7 : decode b_Sm_step1c 7 = .ok (.iconst 1, 1) := by decide +kernel
theorem d_Sm_step1c_8 : decode b_Sm_step1c 8 = .ok (.isub, 1) := by decide +kernel
theorem d_Sm_step1c_9 : decode b_Sm_step1c 9 = .ok (.istore_n 1, 1) := by decide +kernel
theorem d_Sm_step1c_10 : decode b_Sm_step1c 10 = .ok (.aload_n 0, 1) := by decide +kernel
theorem d_Sm_step1c_11 : decode b_Sm_step1c 11 = .ok (.getfield 153, 3) := by decide +kernel
theorem d_Sm_step1c_14 : decode b_Sm_step1c 14 = .ok (.ldc 250, 2) := by decide +kernel
theorem d_Sm_step1c_16 : decode b_Sm_step1c 16 = .ok (.invokevirtual 232, 3) := by decide +kernel
theorem d_Sm_step1c_19 : decode b_Sm_step1c 19 = .ok (.ifCond .eq 18, 3) := by decide +kernel
theorem d_Sm_step1c_22 : decode b_Sm_step1c 22 = .ok (.aload_n 0, 1) := by decide +kernel
theorem d_Sm_step1c_23 : decode b_Sm_step1c 23 = .ok (.iload_n 1, 1) := by decide +kernel
theorem d_Sm_step1c_24 : decode b_Sm_step1c 24 = .ok (.invokevirtual 223, 3) := by decide +kernel
theorem d_Sm_step1c_27 : decode b_Sm_step1c 27 = .ok (.ifCond .eq 10, 3) := by decide +kernel
theorem d_Sm_step1c_30 : decode b_Sm_step1c 30 = .ok (.aload_n 0, 1) := by decide +kernel
theorem d_Sm_step1c_31 : decode b_Sm_step1c 31 = .ok (.iload_n 1, 1) := by decide +kernel
theorem d_Sm_step1c_32 : decode b_Sm_step1c 32 = .ok (.ldc 18, 2) := by decide +kernel
theorem d_Sm_step1c_34 : decode b_Sm_step1c 34 = .ok (.invokevirtual 206, 3) := by decide +kernel
theorem d_Sm_step1c_37 : decode b_Sm_step1c 37 = .ok (.return_, 1) := by decide +kernel
theorem d_Sm_replaceIfAbove_0 : decode b_Sm_replaceIfAbove 0 = .ok (.aload_n 0, 1) := by decide +kernel
theorem d_Sm_replaceIfAbove_1 : decode b_Sm_replaceIfAbove 1 = .ok (.aload_n 1, 1) := by decide +kernel
theorem d_Sm_replaceIfAbove_2 : decode b_Sm_replaceIfAbove 2 = .ok (.invokevirtual 194, 3) := by decide +kernel
theorem d_Sm_replaceIfAbove_5 : decode b_Sm_replaceIfAbove 5 = .ok (.astore_n 3, 1) := by decide +kernel
theorem d_Sm_replaceIfAbove_6 : decode b_Sm_replaceIfAbove 6 = .ok (.aload_n 3, 1) := by decide +kernel
theorem d_Sm_replaceIfAbove_7 : decode b_Sm_replaceIfAbove 7 = .ok (.ifnull 29, 3) := by decide +kernel
theorem d_Sm_replaceIfAbove_10 : decode b_Sm_replaceIfAbove 10 = .ok (.aload_n 0, 1) := by decide +kernel
theorem d_Sm_replaceIfAbove_11 : decode b_Sm_replaceIfAbove 11 = .ok (.aload_n 0, 1) := by decide +kernel
theorem d_Sm_replaceIfAbove_12 : decode b_Sm_replaceIfAbove 12 = .ok (.aload_n 3, 1) := by decide +kernel
theorem d_Sm_replaceIfAbove_13 : decode b_Sm_replaceIfAbove 13 = .ok (.invokevirtual 198, 3) := by decide +kernel
theorem d_Sm_replaceIfAbove_16 : decode b_Sm_replaceIfAbove 16 = .ok (.invokevirtual 219, 3) := by decide +kernel
theorem d_Sm_replaceIfAbove_19 : decode b_Sm_replaceIfAbove 19 = .ok (.iload_n 2, 1) := by decide +kernel
theorem d_Sm_replaceIfAbove_20 : decode b_Sm_replaceIfAbove 20 = .ok (.if_icmp .le 16, 3) := by decide +kernel
theorem d_Sm_replaceIfAbove_23 : decode b_Sm_replaceIfAbove 23 = .ok (.aload_n 0, 1) := by decide +kernel
theorem d_Sm_replaceIfAbove_24 : decode b_Sm_replaceIfAbove 24 = .ok (.aload_n 0, 1) := by decide +kernel
theorem d_Sm_replaceIfAbove_25 : decode b_Sm_replaceIfAbove 25 = .ok (.aload_n 3, 1) := by decide +kernel
theorem d_Sm_replaceIfAbove_26 : decode b_Sm_replaceIfAbove 26 = .ok (.invokevirtual 198, 3) := by decide +kernel
theorem d_Sm_replaceIfAbove_29 : decode b_Sm_replaceIfAbove 29 = .ok (.aload_n 3, 1) := by decide +kernel
theorem d_Sm_replaceIfAbove_30 : decode b_Sm_replaceIfAbove 30 = .ok (.getfield 202, 3) := by decide +kernel
theorem d_Sm_replaceIfAbove_33 : decode b_Sm_replaceIfAbove 33 = .ok (.invokevirtual 206, 3) := by decide +kernel
theorem d_Sm_replaceIfAbove_36 : decode b_Sm_replaceIfAbove 36 = .ok (.return_, 1) := by decide +kernel
theorem d_Sm_step4_0 : decode b_Sm_step4 0 = .ok (.aload_n 0, 1) := by decide +kernel
theorem d_Sm_step4_1 : decode b_Sm_step4 1 = .ok (.getfield 153, 3) := by decide +kernel
theorem d_Sm_step4_4 : decode b_Sm_step4 4 = .ok (.ldc 137, 2) := by decide +kernel
theorem d_Sm_step4_6 : decode b_Sm_step4 6 = .ok (.invokevirtual 232, 3) := by decide +kernel
theorem d_Sm_step4_9 : decode b_Sm_step4 9 = .ok (.ifCond .eq 31, 3) := by decide +kernel
theorem d_Sm_step4_12 : decode b_Sm_step4 12 = .ok (.aload_n 0, 1) := by decide +kernel
theorem d_Sm_step4_13 : decode b_Sm_step4 13 = .ok (.getfield 153, 3) := by decide +kernel
theorem d_Sm_step4_16 : decode b_Sm_step4 16 = .ok (.ldc 252, 2) := by decide +kernel
theorem d_Sm_step4_18 : decode b_Sm_step4 18 = .ok (.invokevirtual 232, 3) := by decide +kernel
theorem d_Sm_step4_21 : decode b_Sm_step4 21 = .ok (.ifCond .ne 19, 3) := by decide +kernel
theorem d_Sm_step4_24 : decode b_Sm_step4 24 = .ok (.aload_n 0, 1) := by decide +kernel
theorem d_Sm_step4_25 : decode b_Sm_step4 25 = .ok (.getfield 153, 3) := by decide +kernel
theorem d_Sm_step4_28 : decode b_Sm_step4 28 = .ok (.ldc 47, 2) := by decide +kernel
theorem d_Sm_step4_30 : decode b_Sm_step4 30 = .ok (.invokevirtual 232, 3) := by decide +kernel
theorem d_Sm_step4_33 : decode b_Sm_step4 33 = .ok (.ifCond .ne 7, 3) := by decide +kernel
theorem d_Sm_step4_36 : decode b_Sm_step4 36 = .ok (.iconst 1, 1) := by decide +kernel
theorem d_Sm_step4_37 : decode b_Sm_step4 37 = .ok (.goto 4, 3) := by decide +kernel
theorem d_Sm_step4_40 : decode b_Sm_step4 40 = .ok (.iconst 0, 1) := by decide +kernel
theorem d_Sm_step4_41 : decode b_Sm_step4 41 = .ok (.istore_n 1, 1) := by decide +kernel
theorem d_Sm_step4_42 : decode b_Sm_step4 42 = .ok (.iload_n 1, 1) := by decide +kernel
theorem d_Sm_step4_43 : decode b_Sm_step4 43 = .ok (.ifCond .ne 12, 3) := by decide +kernel
theorem d_Sm_step4_46 : decode b_Sm_step4 46 = .ok (.aload_n 0, 1) := by decide +kernel
theorem d_Sm_step4_47 : decode b_Sm_step4 47 = .ok (.aload_n 0, 1) := by decide +kernel
theorem d_Sm_step4_48 : decode b_Sm_step4 48 = .ok (.getfield 145, 3) := by decide +kernel
theorem d_Sm_step4_51 : decode b_Sm_step4 51 = .ok (.iconst 1, 1) := by decide +kernel
theorem d_Sm_step4_52 : decode b_Sm_step4 52 = .ok (.invokevirtual 181, 3) := by decide +kernel
theorem d_Sm_step4_55 : decode b_Sm_step4 55 = .ok (.return_, 1) := by decide +kernel
theorem d_Sm_step5a_0 : decode b_Sm_step5a 0 = .ok (.aload_n 0, 1) := by decide +kernel
theorem d_Sm_step5a_1 : decode b_Sm_step5a 1 = .ok (.getfield 153, 3) := by decide +kernel
theorem d_Sm_step5a_4 : decode b_Sm_step5a 4 = .ok (.ldc 75, 2) := by decide +kernel
theorem d_Sm_step5a_6 : decode b_Sm_step5a 6 = .ok (.invokevirtual 232, 3) := by decide +kernel
theorem d_Sm_step5a_9 : decode b_Sm_step5a 9 = .ok (.ifCond .ne 4, 3) := by decide +kernel
theorem d_Sm_step5a_12 : decode b_Sm_step5a 12 = .ok (.return_, 1) := by decide +kernel
theorem d_Sm_step5a_13 : decode b_Sm_step5a 13 = .ok (.aload_n 0, 1) := by decide +kernel
theorem d_Sm_step5a_14 : decode b_Sm_step5a 14 = .ok (.getfield 153, 3) := by decide +kernel
theorem d_Sm_step5a_17 : decode b_Sm_step5a 17 = .ok (.getfield 161, 3) := by decide +kernel
theorem d_Sm_step5a_20 : decode b_Sm_step5a 20 = .ok (.iconst 1, 1) := by decide +kernel
theorem d_Sm_step5a_21 : decode b_Sm_step5a 21 = .ok (.isub, 1) := by decide +kernel
theorem d_Sm_step5a_22 : decode b_Sm_step5a 22 = .ok (.istore_n 1, 1) := by decide +kernel
theorem d_Sm_step5a_23 : decode b_Sm_step5a 23 = .ok (.aload_n 0, 1) := by decide +kernel
theorem d_Sm_step5a_24 : decode b_Sm_step5a 24 = .ok (.iload_n 1, 1) := by decide +kernel
theorem d_Sm_step5a_25 : decode b_Sm_step5a 25 = .ok (.invokevirtual 219, 3) := by decide +kernel
theorem d_Sm_step5a_28 : decode b_Sm_step5a 28 = .ok (.istore_n 2, 1) := by decide +kernel
theorem d_Sm_step5a_29 : decode b_Sm_step5a 29 = .ok (.iload_n 2, 1) := by decide +kernel
theorem d_Sm_step5a_30 : decode b_Sm_step5a 30 = .ok (.iconst 1, 1) := by decide +kernel
theorem d_Sm_step5a_31 : decode b_Sm_step5a 31 = .ok (.if_icmp .gt 16, 3) := by decide +kernel
theorem d_Sm_step5a_34 : decode b_Sm_step5a 34 = .ok (.iload_n 2, 1) := by decide +kernel
theorem d_Sm_step5a_35 : decode b_Sm_step5a 35 = .ok (.iconst 1, 1) := by decide +kernel
theorem d_Sm_step5a_36 : decode b_Sm_step5a 36 = .ok (.if_icmp .ne 18, 3) := by decide +kernel
theorem d_Sm_step5a_39 : decode b_Sm_step5a 39 = .ok (.aload_n 0, 1) := by decide +kernel
theorem d_Sm_step5a_40 : decode b_Sm_step5a 40 = .ok (.iload_n 1, 1) := by decide +kernel
theorem d_Sm_step5a_41 : decode b_Sm_step5a 41 = .ok (.invokevirtual 247, 3) := by decide +kernel
theorem d_Sm_step5a_44 : decode b_Sm_step5a 44 = .ok (.ifCond .ne 10, 3) := by decide +kernel
theorem d_Sm_step5a_47 : decode b_Sm_step5a 47 = .ok (.aload_n 0, 1) := by decide +kernel
theorem d_Sm_step5a_48 : decode b_Sm_step5a 48 = .ok (.iload_n 1, 1) := by decide +kernel
theorem d_Sm_step5a_49 : decode b_Sm_step5a 49 = .ok (.ldc 22, 2) := by decide +kernel
theorem d_Sm_step5a_51 : decode b_Sm_step5a 51 = .ok (.invokevirtual 206, 3) := by decide +kernel
theorem d_Sm_step5a_54 : decode b_Sm_step5a 54 = .ok (.return_, 1) := by decide +kernel
theorem d_Sm_step5b_0 : decode b_Sm_step5b 0 = .ok (.aload_n 0, 1) := by decide +kernel
theorem d_Sm_step5b_1 : decode b_Sm_step5b 1 = .ok (.getfield 153, 3) := by decide +kernel
theorem d_Sm_step5b_4 : decode b_Sm_step5b 4 = .ok (.ldc 254, 2) := by decide +kernel
theorem d_Sm_step5b_6 : decode b_Sm_step5b 6 = .ok (.invokevirtual 232, 3) := by decide +kernel
theorem d_Sm_step5b_9 : decode b_Sm_step5b 9 = .ok (.ifCond .eq 33, 3) := by decide +kernel
theorem d_Sm_step5b_12 : decode b_Sm_step5b 12 = .ok (.aload_n 0, 1) := by decide +kernel
theorem d_Sm_step5b_13 : decode b_Sm_step5b 13 = .ok (.aload_n 0, 1) := by decide +kernel
theorem d_Sm_step5b_14 : decode b_Sm_step5b 14 = .ok (.getfield 153, 3) := by decide +kernel
theorem d_Sm_step5b_17 : decode b_Sm_step5b 17 = .ok (.getfield 161, 3) := by decide +kernel
theorem d_Sm_step5b_20 : decode b_Sm_step5b 20 = .ok (.invokevirtual 219, 3) := by decide +kernel
theorem d_Sm_step5b_23 : decode b_Sm_step5b 23 = .ok (.iconst 1, 1) := by decide +kernel
theorem d_Sm_step5b_24 : decode b_Sm_step5b 24 = .ok (.if_icmp .le 18, 3) := by decide +kernel
theorem d_Sm_step5b_27 : decode b_Sm_step5b 27 = .ok (.aload_n 0, 1) := by decide +kernel
theorem d_Sm_step5b_28 : decode b_Sm_step5b 28 = .ok (.aload_n 0, 1) := by decide +kernel
theorem d_Sm_step5b_29 : decode b_Sm_step5b 29 = .ok (.getfield 153, 3) := by decide +kernel
theorem d_Sm_step5b_32 : decode b_Sm_step5b 32 = .ok (.getfield 161, 3) := by decide +kernel
theorem d_Sm_step5b_35 : decode b_Sm_step5b 35 = .ok (.iconst 1, 1) := by decide +kernel
theorem d_Sm_step5b_36 : decode b_Sm_step5b 36 = .ok (.isub, 1) := by decide +kernel
theorem d_Sm_step5b_37 : decode b_Sm_step5b 37 = .ok (.ldc 22, 2) := by decide +kernel
theorem d_Sm_step5b_39 : decode b_Sm_step5b 39 = .ok (.invokevirtual 206, 3) := by decide +kernel
theorem d_Sm_step5b_42 : decode b_Sm_step5b 42 = .ok (.return_, 1) := by decide +kernel
theorem d_To_add_0 : decode b_To_add 0 = .ok (.aload_n 0, 1) := by decide +kernel
theorem d_To_add_1 : decode b_To_add 1 = .ok (.getfield 20, 3) := by decide +kernel
theorem d_To_add_4 : decode b_To_add 4 = .ok (.aload_n 0, 1) := by decide +kernel
theorem d_To_add_5 : decode b_To_add 5 = .ok (.getfield 7, 3) := by decide +kernel
theorem d_To_add_8 : decode b_To_add 8 = .ok (.iaload, 1) := by decide +kernel
theorem d_To_add_9 : decode b_To_add 9 = .ok (.istore_n 3, 1) := by decide +kernel
theorem d_To_add_10 : decode b_To_add 10 = .ok (.aload_n 1, 1) := by decide +kernel
theorem d_To_add_11 : decode b_To_add 11 = .ok (.getfield 23, 3) := by decide +kernel
theorem d_To_add_14 : decode b_To_add 14 = .ok (.iconst 0, 1) := by decide +kernel
theorem d_To_add_15 : decode b_To_add 15 = .ok (.aload_n 0, 1) := by decide +kernel
theorem d_To_add_16 : decode b_To_add 16 = .ok (.getfield 13, 3) := by decide +kernel
theorem d_To_add_19 : decode b_To_add 19 = .ok (.iload_n 3, 1) := by decide +kernel
theorem d_To_add_20 : decode b_To_add 20 = .ok (.aload_n 1, 1) := by decide +kernel
theorem d_To_add_21 : decode b_To_add 21 = .ok (.getfield 26, 3) := by decide +kernel
theorem d_To_add_24 : decode b_To_add 24 = .ok (.invokestatic 29, 3) := by decide +kernel
theorem d_To_add_27 : decode b_To_add 27 = .ok (.aload_n 0, 1) := by decide +kernel
theorem d_To_add_28 : decode b_To_add 28 = .ok (.getfield 17, 3) := by decide +kernel
theorem d_To_add_31 : decode b_To_add 31 = .ok (.aload_n 0, 1) := by decide +kernel
theorem d_To_add_32 : decode b_To_add 32 = .ok (.getfield 7, 3) := by decide +kernel
theorem d_To_add_35 : decode b_To_add 35 = .ok (.iload_n 2, 1) := by decide +kernel
theorem d_To_add_36 : decode b_To_add 36 = .ok (.iastore, 1) := by decide +kernel
theorem d_To_add_37 : decode b_To_add 37 = .ok (.aload_n 0, 1) := by decide +kernel
theorem d_To_add_38 : decode b_To_add 38 = .ok (.dup, 1) := by decide +kernel
theorem d_To_add_39 : decode b_To_add 39 = .ok (.getfield 7, 3) := by decide +kernel
theorem d_To_add_42 : decode b_To_add 42 = .ok (.iconst 1, 1) := by decide +kernel
theorem d_To_add_43 : decode b_To_add 43 = .ok (.iadd, 1) := by decide +kernel
theorem d_To_add_44 : decode b_To_add 44 = .ok (.putfield 7, 3) := by decide +kernel
theorem d_To_add_47 : decode b_To_add 47 = .ok (.aload_n 0, 1) := by decide +kernel
theorem d_To_add_48 : decode b_To_add 48 = .ok (.getfield 20, 3) := by decide +kernel
theorem d_To_add_51 : decode b_To_add 51 = .ok (.aload_n 0, 1) := by decide +kernel
theorem d_To_add_52 : decode b_To_add 52 = .ok (.getfield 7, 3) := by decide +kernel
theorem d_To_add_55 : decode b_To_add 55 = .ok (.iload_n 3, 1) := by decide +kernel
theorem d_To_add_56 : decode b_To_add 56 = .ok (.aload_n 1, 1) := by decide +kernel
theorem d_To_add_57 : decode b_To_add 57 = .ok (.getfield 26, 3) := by decide +kernel
theorem d_To_add_60 : decode b_To_add 60 = .ok (.iadd, 1) := by decide +kernel
theorem d_To_add_61 : decode b_To_add 61 = .ok (.iastore, 1) := by decide +kernel
theorem d_To_add_62 : decode b_To_add 62 = .ok (.return_, 1) := by decide +kernel
theorem d_X_count_0 : decode b_X_count 0 = .ok (.iload_n 1, 1) := by decide +kernel
theorem d_X_count_1 : decode b_X_count 1 = .ok (.tableswitch 77 0 4 #[35, 40, 48, 53, 61], 35) := by decide +kernel
theorem d_X_count_36 : decode b_X_count 36 = .ok (.aload_n 0, 1) := by decide +kernel
theorem d_X_count_37 : decode b_X_count 37 = .ok (.getfield 13, 3) := by decide +kernel
theorem d_X_count_40 : decode b_X_count 40 = .ok (.ireturn, 1) := by decide +kernel
theorem d_X_count_41 : decode b_X_count 41 = .ok (.aload_n 0, 1) := by decide +kernel
theorem d_X_count_42 : decode b_X_count 42 = .ok (.getfield 43, 3) := by decide +kernel
theorem d_X_count_45 : decode b_X_count 45 = .ok (.getfield 93, 3) := by decide +kernel
theorem d_X_count_48 : decode b_X_count 48 = .ok (.ireturn, 1) := by decide +kernel
theorem d_X_count_49 : decode b_X_count 49 = .ok (.aload_n 0, 1) := by decide +kernel
theorem d_X_count_50 : decode b_X_count 50 = .ok (.getfield 47, 3) := by decide +kernel
theorem d_X_count_53 : decode b_X_count 53 = .ok (.ireturn, 1) := by decide +kernel
theorem d_X_count_54 : decode b_X_count 54 = .ok (.aload_n 0, 1) := by decide +kernel
theorem d_X_count_55 : decode b_X_count 55 = .ok (.getfield 22, 3) := by decide +kernel
theorem d_X_count_58 : decode b_X_count 58 = .ok (.getfield 72, 3) := by decide +kernel
theorem d_X_count_61 : decode b_X_count 61 = .ok (.ireturn, 1) := by decide +kernel
theorem d_X_count_62 : decode b_X_count 62 = .ok (.aload_n 0, 1) := by decide +kernel
theorem d_X_count_63 : decode b_X_count 63 = .ok (.getfield 43, 3) := by decide +kernel
theorem d_X_count_66 : decode b_X_count 66 = .ok (.getfield 119, 3) := by decide +kernel
theorem d_X_count_69 : decode b_X_count 69 = .ok (.aload_n 0, 1) := by decide +kernel
theorem d_X_count_70 : decode b_X_count 70 = .ok (.getfield 43, 3) := by decide +kernel
theorem d_X_count_73 : decode b_X_count 73 = .ok (.getfield 93, 3) := by decide +kernel
theorem d_X_count_76 : decode b_X_count 76 = .ok (.iaload, 1) := by decide +kernel
theorem d_X_count_77 : decode b_X_count 77 = .ok (.ireturn, 1) := by decide +kernel
theorem d_X_count_78 : decode b_X_count 78 = .ok (.iconst (-1), 1) := by decide +kernel
theorem d_X_count_79 : decode b_X_count 79 = .ok (.ireturn, 1) := by decide +kernel
theorem d_X_feed_0 : decode b_X_feed 0 = .ok (.aload_n 0, 1) := by decide +kernel
theorem d_X_feed_1 : decode b_X_feed 1 = .ok (.getfield 13, 3) := by decide +kernel
theorem d_X_feed_4 : decode b_X_feed 4 = .ok (.bipush 20, 2) := by decide +kernel
theorem d_X_feed_6 : decode b_X_feed 6 = .ok (.iadd, 1) := by decide +kernel
theorem d_X_feed_7 : decode b_X_feed 7 = .ok (.sipush 8192, 3) := by decide +kernel
theorem d_X_feed_10 : decode b_X_feed 10 = .ok (.if_icmp .le 13, 3) := by decide +kernel
theorem d_X_feed_13 : decode b_X_feed 13 = .ok (.new 50, 3) := by decide +kernel
theorem d_X_feed_16 : decode b_X_feed 16 = .ok (.dup, 1) := by decide +kernel
theorem d_X_feed_17 : decode b_X_feed 17 = .ok (.ldc 52, 2) := by decide +kernel
theorem d_X_feed_19 : decode b_X_feed 19 = .ok (.invokespecial 54, 3) := by decide +kernel
theorem d_X_feed_22 : decode b_X_feed 22 = .ok (.athrow, 1) := by decide +kernel
theorem d_X_feed_23 : decode b_X_feed 23 = .ok (.aload_n 0, 1) := by decide +kernel
theorem d_X_feed_24 : decode b_X_feed 24 = .ok (.iload_n 1, 1) := by decide +kernel
theorem d_X_feed_25 : decode b_X_feed 25 = .ok (.invokevirtual 57, 3) := by decide +kernel
theorem d_X_feed_28 : decode b_X_feed 28 = .ok (.aload_n 0, 1) := by decide +kernel
theorem d_X_feed_29 : decode b_X_feed 29 = .ok (.iload_n 2, 1) := by decide +kernel
theorem d_X_feed_30 : decode b_X_feed 30 = .ok (.invokevirtual 57, 3) := by decide +kernel
theorem d_X_feed_33 : decode b_X_feed 33 = .ok (.aload_n 0, 1) := by decide +kernel
theorem d_X_feed_34 : decode b_X_feed 34 = .ok (.iload_n 3, 1) := by decide +kernel
theorem d_X_feed_35 : decode b_X_feed 35 = .ok (.invokevirtual 57, 3) := by decide +kernel
theorem d_X_feed_38 : decode b_X_feed 38 = .ok (.aload_n 0, 1) := by decide +kernel
theorem d_X_feed_39 : decode b_X_feed 39 = .ok (.iload 4, 2) := by decide +kernel
theorem d_X_feed_41 : decode b_X_feed 41 = .ok (.invokevirtual 57, 3) := by decide +kernel
end
section
theorem d_X_feed_44 : decode b_X_feed 44 = .ok (.aload_n 0, 1) := by decide +kernel
theorem d_X_feed_45 : decode b_X_feed 45 = .ok (.iload 5, 2) := by decide +kernel
theorem d_X_feed_47 : decode b_X_feed 47 = .ok (.invokevirtual 57, 3) := by decide +kernel
theorem d_X_feed_50 : decode b_X_feed 50 = .ok (.aload_n 0, 1) := by decide +kernel
theorem d_X_feed_51 : decode b_X_feed 51 = .ok (.getfield 13, 3) := by decide +kernel
theorem d_X_feed_54 : decode b_X_feed 54 = .ok (.ireturn, 1) := by decide +kernel
theorem d_X_append_0 : decode b_X_append 0 = .ok (.bipush 24, 2) := by decide +kernel
theorem d_X_append_2 : decode b_X_append 2 = .ok (.istore_n 2, 1) := by decide +kernel
theorem d_X_append_3 : decode b_X_append 3 = .ok (.iload_n 2, 1) := by decide +kernel
theorem d_X_append_4 : decode b_X_append 4 = .ok (.ifCond .lt 32, 3) := by decide +kernel
theorem d_X_append_7 : decode b_X_append 7 = .ok (.aload_n 0, 1) := by decide +kernel
theorem d_X_append_8 : decode b_X_append 8 = .ok (.getfield 9, 3) := by decide +kernel
theorem d_X_append_11 : decode b_X_append 11 = .ok (.aload_n 0, 1) := by decide +kernel
theorem d_X_append_12 : decode b_X_append 12 = .ok (.getfield 13, 3) := by decide +kernel
theorem d_X_append_15 : decode b_X_append 15 = .ok (.iload_n 1, 1) := by decide +kernel
theorem d_X_append_16 : decode b_X_append 16 = .ok (.iload_n 2, 1) := by decide +kernel
theorem d_X_append_17 : decode b_X_append 17 = .ok (.iushr, 1) := by decide +kernel
theorem d_X_append_18 : decode b_X_append 18 = .ok (.i2b, 1) := by decide +kernel
theorem d_X_append_19 : decode b_X_append 19 = .ok (.bastore, 1) := by decide +kernel
theorem d_X_append_20 : decode b_X_append 20 = .ok (.aload_n 0, 1) := by decide +kernel
theorem d_X_append_21 : decode b_X_append 21 = .ok (.dup, 1) := by decide +kernel
theorem d_X_append_22 : decode b_X_append 22 = .ok (.getfield 13, 3) := by decide +kernel
theorem d_X_append_25 : decode b_X_append 25 = .ok (.iconst 1, 1) := by decide +kernel
theorem d_X_append_26 : decode b_X_append 26 = .ok (.iadd, 1) := by decide +kernel
theorem d_X_append_27 : decode b_X_append 27 = .ok (.putfield 13, 3) := by decide +kernel
theorem d_X_append_30 : decode b_X_append 30 = .ok (.iinc 2 (-8), 3) := by decide +kernel
theorem d_X_append_33 : decode b_X_append 33 = .ok (.goto (-30), 3) := by decide +kernel
theorem d_X_append_36 : decode b_X_append 36 = .ok (.return_, 1) := by decide +kernel
theorem d_X_end_0 : decode b_X_end 0 = .ok (.iload_n 1, 1) := by decide +kernel
theorem d_X_end_1 : decode b_X_end 1 = .ok (.ifCond .lt 20, 3) := by decide +kernel
theorem d_X_end_4 : decode b_X_end 4 = .ok (.iload_n 1, 1) := by decide +kernel
theorem d_X_end_5 : decode b_X_end 5 = .ok (.bipush 20, 2) := by decide +kernel
theorem d_X_end_7 : decode b_X_end 7 = .ok (.if_icmp .ge 14, 3) := by decide +kernel
theorem d_X_end_10 : decode b_X_end 10 = .ok (.bipush 20, 2) := by decide +kernel
theorem d_X_end_12 : decode b_X_end 12 = .ok (.iload_n 1, 1) := by decide +kernel
theorem d_X_end_13 : decode b_X_end 13 = .ok (.isub, 1) := by decide +kernel
theorem d_X_end_14 : decode b_X_end 14 = .ok (.aload_n 0, 1) := by decide +kernel
theorem d_X_end_15 : decode b_X_end 15 = .ok (.getfield 13, 3) := by decide +kernel
theorem d_X_end_18 : decode b_X_end 18 = .ok (.if_icmp .le 13, 3) := by decide +kernel
theorem d_X_end_21 : decode b_X_end 21 = .ok (.new 60, 3) := by decide +kernel
theorem d_X_end_24 : decode b_X_end 24 = .ok (.dup, 1) := by decide +kernel
theorem d_X_end_25 : decode b_X_end 25 = .ok (.ldc 62, 2) := by decide +kernel
theorem d_X_end_27 : decode b_X_end 27 = .ok (.invokespecial 64, 3) := by decide +kernel
theorem d_X_end_30 : decode b_X_end 30 = .ok (.athrow, 1) := by decide +kernel
theorem d_X_end_31 : decode b_X_end 31 = .ok (.aload_n 0, 1) := by decide +kernel
theorem d_X_end_32 : decode b_X_end 32 = .ok (.dup, 1) := by decide +kernel
theorem d_X_end_33 : decode b_X_end 33 = .ok (.getfield 13, 3) := by decide +kernel
theorem d_X_end_36 : decode b_X_end 36 = .ok (.bipush 20, 2) := by decide +kernel
theorem d_X_end_38 : decode b_X_end 38 = .ok (.iload_n 1, 1) := by decide +kernel
theorem d_X_end_39 : decode b_X_end 39 = .ok (.isub, 1) := by decide +kernel
theorem d_X_end_40 : decode b_X_end 40 = .ok (.isub, 1) := by decide +kernel
theorem d_X_end_41 : decode b_X_end 41 = .ok (.putfield 13, 3) := by decide +kernel
theorem d_X_end_44 : decode b_X_end 44 = .ok (.aload_n 0, 1) := by decide +kernel
theorem d_X_end_45 : decode b_X_end 45 = .ok (.getfield 13, 3) := by decide +kernel
theorem d_X_end_48 : decode b_X_end 48 = .ok (.ireturn, 1) := by decide +kernel
theorem d_X_token_0 : decode b_X_token 0 = .ok (.iload_n 2, 1) := by decide +kernel
theorem d_X_token_1 : decode b_X_token 1 = .ok (.ifCond .eq 18, 3) := by decide +kernel
theorem d_X_token_4 : decode b_X_token 4 = .ok (.iload_n 2, 1) := by decide +kernel
theorem d_X_token_5 : decode b_X_token 5 = .ok (.iconst 1, 1) := by decide +kernel
theorem d_X_token_6 : decode b_X_token 6 = .ok (.if_icmp .eq 13, 3) := by decide +kernel
theorem d_X_token_9 : decode b_X_token 9 = .ok (.new 60, 3) := by decide +kernel
theorem d_X_token_12 : decode b_X_token 12 = .ok (.dup, 1) := by decide +kernel
theorem d_X_token_13 : decode b_X_token 13 = .ok (.ldc 96, 2) := by decide +kernel
theorem d_X_token_15 : decode b_X_token 15 = .ok (.invokespecial 64, 3) := by decide +kernel
theorem d_X_token_18 : decode b_X_token 18 = .ok (.athrow, 1) := by decide +kernel
theorem d_X_token_19 : decode b_X_token 19 = .ok (.aload_n 0, 1) := by decide +kernel
theorem d_X_token_20 : decode b_X_token 20 = .ok (.getfield 43, 3) := by decide +kernel
theorem d_X_token_23 : decode b_X_token 23 = .ok (.iload_n 1, 1) := by decide +kernel
theorem d_X_token_24 : decode b_X_token 24 = .ok (.invokevirtual 98, 3) := by decide +kernel
theorem d_X_token_27 : decode b_X_token 27 = .ok (.ifCond .ne 13, 3) := by decide +kernel
theorem d_X_token_30 : decode b_X_token 30 = .ok (.new 102, 3) := by decide +kernel
theorem d_X_token_33 : decode b_X_token 33 = .ok (.dup, 1) := by decide +kernel
theorem d_X_token_34 : decode b_X_token 34 = .ok (.ldc 104, 2) := by decide +kernel
theorem d_X_token_36 : decode b_X_token 36 = .ok (.invokespecial 106, 3) := by decide +kernel
theorem d_X_token_39 : decode b_X_token 39 = .ok (.athrow, 1) := by decide +kernel
theorem d_X_token_40 : decode b_X_token 40 = .ok (.iload_n 2, 1) := by decide +kernel
theorem d_X_token_41 : decode b_X_token 41 = .ok (.ifCond .ne 15, 3) := by decide +kernel
theorem d_X_token_44 : decode b_X_token 44 = .ok (.aload_n 0, 1) := by decide +kernel
theorem d_X_token_45 : decode b_X_token 45 = .ok (.getfield 43, 3) := by decide +kernel
theorem d_X_token_48 : decode b_X_token 48 = .ok (.getfield 107, 3) := by decide +kernel
theorem d_X_token_51 : decode b_X_token 51 = .ok (.iload_n 1, 1) := by decide +kernel
theorem d_X_token_52 : decode b_X_token 52 = .ok (.iaload, 1) := by decide +kernel
theorem d_X_token_53 : decode b_X_token 53 = .ok (.goto 11, 3) := by decide +kernel
theorem d_X_token_56 : decode b_X_token 56 = .ok (.aload_n 0, 1) := by decide +kernel
theorem d_X_token_57 : decode b_X_token 57 = .ok (.getfield 43, 3) := by decide +kernel
theorem d_X_token_60 : decode b_X_token 60 = .ok (.iload_n 1, 1) := by decide +kernel
theorem d_X_token_61 : decode b_X_token 61 = .ok (.invokevirtual 111, 3) := by decide +kernel
theorem d_X_token_64 : decode b_X_token 64 = .ok (.ireturn, 1) := by decide +kernel
theorem d_To_has_0 : decode b_To_has 0 = .ok (.iload_n 1, 1) := by decide +kernel
theorem d_To_has_1 : decode b_To_has 1 = .ok (.ifCond .lt 15, 3) := by decide +kernel
theorem d_To_has_4 : decode b_To_has 4 = .ok (.iload_n 1, 1) := by decide +kernel
theorem d_To_has_5 : decode b_To_has 5 = .ok (.aload_n 0, 1) := by decide +kernel
theorem d_To_has_6 : decode b_To_has 6 = .ok (.getfield 7, 3) := by decide +kernel
theorem d_To_has_9 : decode b_To_has 9 = .ok (.if_icmp .ge 7, 3) := by decide +kernel
theorem d_To_has_12 : decode b_To_has 12 = .ok (.iconst 1, 1) := by decide +kernel
theorem d_To_has_13 : decode b_To_has 13 = .ok (.goto 4, 3) := by decide +kernel
theorem d_To_has_16 : decode b_To_has 16 = .ok (.iconst 0, 1) := by decide +kernel
theorem d_To_has_17 : decode b_To_has 17 = .ok (.ireturn, 1) := by decide +kernel
theorem d_To_lengthOf_0 : decode b_To_lengthOf 0 = .ok (.aload_n 0, 1) := by decide +kernel
theorem d_To_lengthOf_1 : decode b_To_lengthOf 1 = .ok (.getfield 20, 3) := by decide +kernel
theorem d_To_lengthOf_4 : decode b_To_lengthOf 4 = .ok (.iload_n 1, 1) := by decide +kernel
theorem d_To_lengthOf_5 : decode b_To_lengthOf 5 = .ok (.iconst 1, 1) := by decide +kernel
theorem d_To_lengthOf_6 : decode b_To_lengthOf 6 = .ok (.iadd, 1) := by decide +kernel
theorem d_To_lengthOf_7 : decode b_To_lengthOf 7 = .ok (.iaload, 1) := by decide +kernel
theorem d_To_lengthOf_8 : decode b_To_lengthOf 8 = .ok (.aload_n 0, 1) := by decide +kernel
theorem d_To_lengthOf_9 : decode b_To_lengthOf 9 = .ok (.getfield 20, 3) := by decide +kernel
theorem d_To_lengthOf_12 : decode b_To_lengthOf 12 = .ok (.iload_n 1, 1) := by decide +kernel
theorem d_To_lengthOf_13 : decode b_To_lengthOf 13 = .ok (.iaload, 1) := by decide +kernel
theorem d_To_lengthOf_14 : decode b_To_lengthOf 14 = .ok (.isub, 1) := by decide +kernel
theorem d_To_lengthOf_15 : decode b_To_lengthOf 15 = .ok (.ireturn, 1) := by decide +kernel
theorem d_X_character_0 : decode b_X_character 0 = .ok (.aload_n 0, 1) := by decide +kernel
theorem d_X_character_1 : decode b_X_character 1 = .ok (.getfield 43, 3) := by decide +kernel
theorem d_X_character_4 : decode b_X_character 4 = .ok (.iload_n 1, 1) := by decide +kernel
theorem d_X_character_5 : decode b_X_character 5 = .ok (.invokevirtual 98, 3) := by decide +kernel
theorem d_X_character_8 : decode b_X_character 8 = .ok (.ifCond .eq 19, 3) := by decide +kernel
theorem d_X_character_11 : decode b_X_character 11 = .ok (.iload_n 2, 1) := by decide +kernel
theorem d_X_character_12 : decode b_X_character 12 = .ok (.ifCond .lt 15, 3) := by decide +kernel
theorem d_X_character_15 : decode b_X_character 15 = .ok (.iload_n 2, 1) := by decide +kernel
theorem d_X_character_16 : decode b_X_character 16 = .ok (.aload_n 0, 1) := by decide +kernel
theorem d_X_character_17 : decode b_X_character 17 = .ok (.getfield 43, 3) := by decide +kernel
theorem d_X_character_20 : decode b_X_character 20 = .ok (.iload_n 1, 1) := by decide +kernel
theorem d_X_character_21 : decode b_X_character 21 = .ok (.invokevirtual 111, 3) := by decide +kernel
theorem d_X_character_24 : decode b_X_character 24 = .ok (.if_icmp .lt 13, 3) := by decide +kernel
theorem d_X_character_27 : decode b_X_character 27 = .ok (.new 102, 3) := by decide +kernel
theorem d_X_character_30 : decode b_X_character 30 = .ok (.dup, 1) := by decide +kernel
theorem d_X_character_31 : decode b_X_character 31 = .ok (.ldc 114, 2) := by decide +kernel
theorem d_X_character_33 : decode b_X_character 33 = .ok (.invokespecial 106, 3) := by decide +kernel
theorem d_X_character_36 : decode b_X_character 36 = .ok (.athrow, 1) := by decide +kernel
theorem d_X_character_37 : decode b_X_character 37 = .ok (.aload_n 0, 1) := by decide +kernel
theorem d_X_character_38 : decode b_X_character 38 = .ok (.getfield 43, 3) := by decide +kernel
theorem d_X_character_41 : decode b_X_character 41 = .ok (.getfield 116, 3) := by decide +kernel
theorem d_X_character_44 : decode b_X_character 44 = .ok (.aload_n 0, 1) := by decide +kernel
theorem d_X_character_45 : decode b_X_character 45 = .ok (.getfield 43, 3) := by decide +kernel
theorem d_X_character_48 : decode b_X_character 48 = .ok (.getfield 119, 3) := by decide +kernel
theorem d_X_character_51 : decode b_X_character 51 = .ok (.iload_n 1, 1) := by decide +kernel
theorem d_X_character_52 : decode b_X_character 52 = .ok (.iaload, 1) := by decide +kernel
theorem d_X_character_53 : decode b_X_character 53 = .ok (.iload_n 2, 1) := by decide +kernel
theorem d_X_character_54 : decode b_X_character 54 = .ok (.iadd, 1) := by decide +kernel
theorem d_X_character_55 : decode b_X_character 55 = .ok (.iaload, 1) := by decide +kernel
theorem d_X_character_56 : decode b_X_character 56 = .ok (.ireturn, 1) := by decide +kernel
theorem d_X_first_0 : decode b_X_first 0 = .ok (.aload_n 0, 1) := by decide +kernel
theorem d_X_first_1 : decode b_X_first 1 = .ok (.getfield 43, 3) := by decide +kernel
theorem d_X_first_4 : decode b_X_first 4 = .ok (.iload_n 1, 1) := by decide +kernel
theorem d_X_first_5 : decode b_X_first 5 = .ok (.invokevirtual 98, 3) := by decide +kernel
theorem d_X_first_8 : decode b_X_first 8 = .ok (.ifCond .ne 13, 3) := by decide +kernel
theorem d_X_first_11 : decode b_X_first 11 = .ok (.new 102, 3) := by decide +kernel
theorem d_X_first_14 : decode b_X_first 14 = .ok (.dup, 1) := by decide +kernel
theorem d_X_first_15 : decode b_X_first 15 = .ok (.ldc 104, 2) := by decide +kernel
theorem d_X_first_17 : decode b_X_first 17 = .ok (.invokespecial 106, 3) := by decide +kernel
theorem d_X_first_20 : decode b_X_first 20 = .ok (.athrow, 1) := by decide +kernel
theorem d_X_first_21 : decode b_X_first 21 = .ok (.aload_n 0, 1) := by decide +kernel
theorem d_X_first_22 : decode b_X_first 22 = .ok (.getfield 43, 3) := by decide +kernel
theorem d_X_first_25 : decode b_X_first 25 = .ok (.iload_n 1, 1) := by decide +kernel
theorem d_X_first_26 : decode b_X_first 26 = .ok (.invokevirtual 122, 3) := by decide +kernel
theorem d_X_first_29 : decode b_X_first 29 = .ok (.ireturn, 1) := by decide +kernel
theorem d_To_firstLike_0 : decode b_To_firstLike 0 = .ok (.iconst 0, 1) := by decide +kernel
theorem d_To_firstLike_1 : decode b_To_firstLike 1 = .ok (.istore_n 2, 1) := by decide +kernel
theorem d_To_firstLike_2 : decode b_To_firstLike 2 = .ok (.iload_n 2, 1) := by decide +kernel
theorem d_To_firstLike_3 : decode b_To_firstLike 3 = .ok (.iload_n 1, 1) := by decide +kernel
theorem d_To_firstLike_4 : decode b_To_firstLike 4 = .ok (.if_icmp .ge 20, 3) := by decide +kernel
theorem d_To_firstLike_7 : decode b_To_firstLike 7 = .ok (.aload_n 0, 1) := by decide +kernel
theorem d_To_firstLike_8 : decode b_To_firstLike 8 = .ok (.iload_n 2, 1) := by decide +kernel
theorem d_To_firstLike_9 : decode b_To_firstLike 9 = .ok (.iload_n 1, 1) := by decide +kernel
theorem d_To_firstLike_10 : decode b_To_firstLike 10 = .ok (.invokevirtual 35, 3) := by decide +kernel
theorem d_To_firstLike_13 : decode b_To_firstLike 13 = .ok (.ifCond .eq 5, 3) := by decide +kernel
theorem d_To_firstLike_16 : decode b_To_firstLike 16 = .ok (.iload_n 2, 1) := by decide +kernel
theorem d_To_firstLike_17 : decode b_To_firstLike 17 = .ok (.ireturn, 1) := by decide +kernel
theorem d_To_firstLike_18 : decode b_To_firstLike 18 = .ok (.iinc 2 1, 3) := by decide +kernel
theorem d_To_firstLike_21 : decode b_To_firstLike 21 = .ok (.goto (-19), 3) := by decide +kernel
theorem d_To_firstLike_24 : decode b_To_firstLike 24 = .ok (.iload_n 1, 1) := by decide +kernel
theorem d_To_firstLike_25 : decode b_To_firstLike 25 = .ok (.ireturn, 1) := by decide +kernel
theorem d_To_areAlike_0 : decode b_To_areAlike 0 = .ok (.aload_n 0, 1) := by decide +kernel
theorem d_To_areAlike_1 : decode b_To_areAlike 1 = .ok (.iload_n 1, 1) := by decide +kernel
theorem d_To_areAlike_2 : decode b_To_areAlike 2 = .ok (.invokevirtual 39, 3) := by decide +kernel
theorem d_To_areAlike_5 : decode b_To_areAlike 5 = .ok (.istore_n 3, 1) := by decide +kernel
theorem d_To_areAlike_6 : decode b_To_areAlike 6 = .ok (.iload_n 3, 1) := by decide +kernel
theorem d_To_areAlike_7 : decode b_To_areAlike 7 = .ok (.aload_n 0, 1) := by decide +kernel
theorem d_To_areAlike_8 : decode b_To_areAlike 8 = .ok (.iload_n 2, 1) := by decide +kernel
theorem d_To_areAlike_9 : decode b_To_areAlike 9 = .ok (.invokevirtual 39, 3) := by decide +kernel
theorem d_To_areAlike_12 : decode b_To_areAlike 12 = .ok (.if_icmp .eq 5, 3) := by decide +kernel
theorem d_To_areAlike_15 : decode b_To_areAlike 15 = .ok (.iconst 0, 1) := by decide +kernel
theorem d_To_areAlike_16 : decode b_To_areAlike 16 = .ok (.ireturn, 1) := by decide +kernel
theorem d_To_areAlike_17 : decode b_To_areAlike 17 = .ok (.iconst 0, 1) := by decide +kernel
theorem d_To_areAlike_18 : decode b_To_areAlike 18 = .ok (.istore 4, 2) := by decide +kernel
theorem d_To_areAlike_20 : decode b_To_areAlike 20 = .ok (.iload 4, 2) := by decide +kernel
theorem d_To_areAlike_22 : decode b_To_areAlike 22 = .ok (.iload_n 3, 1) := by decide +kernel
theorem d_To_areAlike_23 : decode b_To_areAlike 23 = .ok (.if_icmp .ge 42, 3) := by decide +kernel
theorem d_To_areAlike_26 : decode b_To_areAlike 26 = .ok (.aload_n 0, 1) := by decide +kernel
theorem d_To_areAlike_27 : decode b_To_areAlike 27 = .ok (.getfield 13, 3) := by decide +kernel
theorem d_To_areAlike_30 : decode b_To_areAlike 30 = .ok (.aload_n 0, 1) := by decide +kernel
theorem d_To_areAlike_31 : decode b_To_areAlike 31 = .ok (.getfield 20, 3) := by decide +kernel
theorem d_To_areAlike_34 : decode b_To_areAlike 34 = .ok (.iload_n 1, 1) := by decide +kernel
theorem d_To_areAlike_35 : decode b_To_areAlike 35 = .ok (.iaload, 1) := by decide +kernel
theorem d_To_areAlike_36 : decode b_To_areAlike 36 = .ok (.iload 4, 2) := by decide +kernel
theorem d_To_areAlike_38 : decode b_To_areAlike 38 = .ok (.iadd, 1) := by decide +kernel
theorem d_To_areAlike_39 : decode b_To_areAlike 39 = .ok (.iaload, 1) := by decide +kernel
theorem d_To_areAlike_40 : decode b_To_areAlike 40 = .ok (.aload_n 0, 1) := by decide +kernel
theorem d_To_areAlike_41 : decode b_To_areAlike 41 = .ok (.getfield 13, 3) := by decide +kernel
theorem d_To_areAlike_44 : decode b_To_areAlike 44 = .ok (.aload_n 0, 1) := by decide +kernel
theorem d_To_areAlike_45 : decode b_To_areAlike 45 = .ok (.getfield 20, 3) := by decide +kernel
theorem d_To_areAlike_48 : decode b_To_areAlike 48 = .ok (.iload_n 2, 1) := by decide +kernel
theorem d_To_areAlike_49 : decode b_To_areAlike 49 = .ok (.iaload, 1) := by decide +kernel
theorem d_To_areAlike_50 : decode b_To_areAlike 50 = .ok (.iload 4, 2) := by decide +kernel
theorem d_To_areAlike_52 : decode b_To_areAlike 52 = .ok (.iadd, 1) := by decide +kernel
theorem d_To_areAlike_53 : decode b_To_areAlike 53 = .ok (.iaload, 1) := by decide +kernel
theorem d_To_areAlike_54 : decode b_To_areAlike 54 = .ok (.if_icmp .eq 5, 3) := by decide +kernel
theorem d_To_areAlike_57 : decode b_To_areAlike 57 = .ok (.iconst 0, 1) := by decide +kernel
theorem d_To_areAlike_58 : decode b_To_areAlike 58 = .ok (.ireturn, 1) := by decide +kernel
theorem d_To_areAlike_59 : decode b_To_areAlike 59 = .ok (.iinc 4 1, 3) := by decide +kernel
theorem d_To_areAlike_62 : decode b_To_areAlike 62 = .ok (.goto (-42), 3) := by decide +kernel
theorem d_To_areAlike_65 : decode b_To_areAlike 65 = .ok (.iconst 1, 1) := by decide +kernel
theorem d_To_areAlike_66 : decode b_To_areAlike 66 = .ok (.ireturn, 1) := by decide +kernel
theorem d_X_sort_0 : decode b_X_sort 0 = .ok (.iload_n 1, 1) := by decide +kernel
theorem d_X_sort_1 : decode b_X_sort 1 = .ok (.ifCond .lt 9, 3) := by decide +kernel
theorem d_X_sort_4 : decode b_X_sort 4 = .ok (.iload_n 1, 1) := by decide +kernel
theorem d_X_sort_5 : decode b_X_sort 5 = .ok (.ldc 125, 2) := by decide +kernel
theorem d_X_sort_7 : decode b_X_sort 7 = .ok (.if_icmp .le 13, 3) := by decide +kernel
theorem d_X_sort_10 : decode b_X_sort 10 = .ok (.new 60, 3) := by decide +kernel
theorem d_X_sort_13 : decode b_X_sort 13 = .ok (.dup, 1) := by decide +kernel
theorem d_X_sort_14 : decode b_X_sort 14 = .ok (.ldc 126, 2) := by decide +kernel
theorem d_X_sort_16 : decode b_X_sort 16 = .ok (.invokespecial 64, 3) := by decide +kernel
theorem d_X_sort_19 : decode b_X_sort 19 = .ok (.athrow, 1) := by decide +kernel
theorem d_X_sort_20 : decode b_X_sort 20 = .ok (.iload_n 1, 1) := by decide +kernel
theorem d_X_sort_21 : decode b_X_sort 21 = .ok (.invokestatic 128, 3) := by decide +kernel
theorem d_X_sort_24 : decode b_X_sort 24 = .ok (.ireturn, 1) := by decide +kernel
theorem d_M_init_0 : decode b_M_init 0 = .ok (.aload_n 0, 1) := by decide +kernel
theorem d_M_init_1 : decode b_M_init 1 = .ok (.invokespecial 1, 3) := by decide +kernel
theorem d_M_init_4 : decode b_M_init 4 = .ok (.aload_n 0, 1) := by decide +kernel
theorem d_M_init_5 : decode b_M_init 5 = .ok (.bipush 33, 2) := by decide +kernel
theorem d_M_init_7 : decode b_M_init 7 = .ok (.anewarray 7, 3) := by decide +kernel
theorem d_M_init_10 : decode b_M_init 10 = .ok (.dup, 1) := by decide +kernel
theorem d_M_init_11 : decode b_M_init 11 = .ok (.iconst 0, 1) := by decide +kernel
theorem d_M_init_12 : decode b_M_init 12 = .ok (.ldc 9, 2) := by decide +kernel
theorem d_M_init_14 : decode b_M_init 14 = .ok (.aastore, 1) := by decide +kernel
theorem d_M_init_15 : decode b_M_init 15 = .ok (.dup, 1) := by decide +kernel
theorem d_M_init_16 : decode b_M_init 16 = .ok (.iconst 1, 1) := by decide +kernel
theorem d_M_init_17 : decode b_M_init 17 = .ok (.ldc 11, 2) := by decide +kernel
theorem d_M_init_19 : decode b_M_init 19 = .ok (.aastore, 1) := by decide +kernel
theorem d_M_init_20 : decode b_M_init 20 = .ok (.dup, 1) := by decide +kernel
theorem d_M_init_21 : decode b_M_init 21 = .ok (.iconst 2, 1) := by decide +kernel
theorem d_M_init_22 : decode b_M_init 22 = .ok (.ldc 13, 2) := by decide +kernel
theorem d_M_init_24 : decode b_M_init 24 = .ok (.aastore, 1) := by decide +kernel
theorem d_M_init_25 : decode b_M_init 25 = .ok (.dup, 1) := by decide +kernel
theorem d_M_init_26 : decode b_M_init 26 = .ok (.iconst 3, 1) := by decide +kernel
theorem d_M_init_27 : decode b_M_init 27 = .ok (.ldc 15, 2) := by decide +kernel
theorem d_M_init_29 : decode b_M_init 29 = .ok (.aastore, 1) := by decide +kernel
theorem d_M_init_30 : decode b_M_init 30 = .ok (.dup, 1) := by decide +kernel
theorem d_M_init_31 : decode b_M_init 31 = .ok (.iconst 4, 1) := by decide +kernel
theorem d_M_init_32 : decode b_M_init 32 = .ok (.ldc 17, 2) := by decide +kernel
theorem d_M_init_34 : decode b_M_init 34 = .ok (.aastore, 1) := by decide +kernel
theorem d_M_init_35 : decode b_M_init 35 = .ok (.dup, 1) := by decide +kernel
theorem d_M_init_36 : decode b_M_init 36 = .ok (.iconst 5, 1) := by decide +kernel
theorem d_M_init_37 : decode b_M_init 37 = .ok (.ldc 19, 2) := by decide +kernel
theorem d_M_init_39 : decode b_M_init 39 = .ok (.aastore, 1) := by decide +kernel
theorem d_M_init_40 : decode b_M_init 40 = .ok (.dup, 1) := by decide +kernel
theorem d_M_init_41 : decode b_M_init 41 = .ok (.bipush 6, 2) := by decide +kernel
theorem d_M_init_43 : decode b_M_init 43 = .ok (.ldc 21, 2) := by decide +kernel
theorem d_M_init_45 : decode b_M_init 45 = .ok (.aastore, 1) := by decide +kernel
theorem d_M_init_46 : decode b_M_init 46 = .ok (.dup, 1) := by decide +kernel
theorem d_M_init_47 : decode b_M_init 47 = .ok (.bipush 7, 2) := by decide +kernel
theorem d_M_init_49 : decode b_M_init 49 = .ok (.ldc 23, 2) := by decide +kernel
theorem d_M_init_51 : decode b_M_init 51 = .ok (.aastore, 1) := by decide +kernel
theorem d_M_init_52 : decode b_M_init 52 = .ok (.dup, 1) := by decide +kernel
theorem d_M_init_53 : decode b_M_init 53 = .ok (.bipush 8, 2) := by decide +kernel
theorem d_M_init_55 : decode b_M_init 55 = .ok (.ldc 25, 2) := by decide +kernel
theorem d_M_init_57 : decode b_M_init 57 = .ok (.aastore, 1) := by decide +kernel
theorem d_M_init_58 : decode b_M_init 58 = .ok (.dup, 1) := by decide +kernel
theorem d_M_init_59 : decode b_M_init 59 = .ok (.bipush 9, 2) := by decide +kernel
theorem d_M_init_61 : decode b_M_init 61 = .ok (.ldc 27, 2) := by decide +kernel
theorem d_M_init_63 : decode b_M_init 63 = .ok (.aastore, 1) := by decide +kernel
theorem d_M_init_64 : decode b_M_init 64 = .ok (.dup, 1) := by decide +kernel
theorem d_M_init_65 : decode b_M_init 65 = .ok (.bipush 10, 2) := by decide +kernel
theorem d_M_init_67 : decode b_M_init 67 = .ok (.ldc 29, 2) := by decide +kernel
theorem d_M_init_69 : decode b_M_init 69 = .ok (.aastore, 1) := by decide +kernel
theorem d_M_init_70 : decode b_M_init 70 = .ok (.dup, 1) := by decide +kernel
theorem d_M_init_71 : decode b_M_init 71 = .ok (.bipush 11, 2) := by decide +kernel
theorem d_M_init_73 : decode b_M_init 73 = .ok (.ldc 31, 2) := by decide +kernel
theorem d_M_init_75 : decode b_M_init 75 = .ok (.aastore, 1) := by decide +kernel
theorem d_M_init_76 : decode b_M_init 76 = .ok (.dup, 1) := by decide +kernel
theorem d_M_init_77 : decode b_M_init 77 = .ok (.bipush 12, 2) := by decide +kernel
theorem d_M_init_79 : decode b_M_init 79 = .ok (.ldc 33, 2) := by decide +kernel
theorem d_M_init_81 : decode b_M_init 81 = .ok (.aastore, 1) := by decide +kernel
theorem d_M_init_82 : decode b_M_init 82 = .ok (.dup, 1) := by decide +kernel
theorem d_M_init_83 : decode b_M_init 83 = .ok (.bipush 13, 2) := by decide +kernel
theorem d_M_init_85 : decode b_M_init 85 = .ok (.ldc 35, 2) := by decide +kernel
theorem d_M_init_87 : decode b_M_init 87 = .ok (.aastore, 1) := by decide +kernel
theorem d_M_init_88 : decode b_M_init 88 = .ok (.dup, 1) := by decide +kernel
theorem d_M_init_89 : decode b_M_init 89 = .ok (.bipush 14, 2) := by decide +kernel
theorem d_M_init_91 : decode b_M_init 91 = .ok (.ldc 37, 2) := by decide +kernel
theorem d_M_init_93 : decode b_M_init 93 = .ok (.aastore, 1) := by decide +kernel
theorem d_M_init_94 : decode b_M_init 94 = .ok (.dup, 1) := by decide +kernel
theorem d_M_init_95 : decode b_M_init 95 = .ok (.bipush 15, 2) := by decide +kernel
theorem d_M_init_97 : decode b_M_init 97 = .ok (.ldc 39, 2) := by decide +kernel
theorem d_M_init_99 : decode b_M_init 99 = .ok (.aastore, 1) := by decide +kernel
theorem d_M_init_100 : decode b_M_init 100 = .ok (.dup, 1) := by decide +kernel
theorem d_M_init_101 : decode b_M_init 101 = .ok (.bipush 16, 2) := by decide +kernel
theorem d_M_init_103 : decode b_M_init 103 = .ok (.ldc 41, 2) := by decide +kernel
theorem d_M_init_105 : decode b_M_init 105 = .ok (.aastore, 1) := by decide +kernel
theorem d_M_init_106 : decode b_M_init 106 = .ok (.dup, 1) := by decide +kernel
theorem d_M_init_107 : decode b_M_init 107 = .ok (.bipush 17, 2) := by decide +kernel
theorem d_M_init_109 : decode b_M_init 109 = .ok (.ldc 43, 2) := by decide +kernel
theorem d_M_init_111 : decode b_M_init 111 = .ok (.aastore, 1) := by decide +kernel
theorem d_M_init_112 : decode b_M_init 112 = .ok (.dup, 1) := by decide +kernel
theorem d_M_init_113 : decode b_M_init 113 = .ok (.bipush 18, 2) := by decide +kernel
theorem d_M_init_115 : decode b_M_init 115 = .ok (.ldc 45, 2) := by decide +kernel
theorem d_M_init_117 : decode b_M_init 117 = .ok (.aastore, 1) := by decide +kernel
theorem d_M_init_118 : decode b_M_init 118 = .ok (.dup, 1) := by decide +kernel
theorem d_M_init_119 : decode b_M_init 119 = .ok (.bipush 19, 2) := by decide +kernel
theorem d_M_init_121 : decode b_M_init 121 = .ok (.ldc 47, 2) := by decide +kernel
theorem d_M_init_123 : decode b_M_init 123 = .ok (.aastore, 1) := by decide +kernel
theorem d_M_init_124 : decode b_M_init 124 = .ok (.dup, 1) := by decide +kernel
theorem d_M_init_125 : decode b_M_init 125 = .ok (.bipush 20, 2) := by decide +kernel
theorem d_M_init_127 : decode b_M_init 127 = .ok (.ldc 49, 2) := by decide +kernel
theorem d_M_init_129 : decode b_M_init 129 = .ok (.aastore, 1) := by decide +kernel
theorem d_M_init_130 : decode b_M_init 130 = .ok (.dup, 1) := by decide +kernel
theorem d_M_init_131 : decode b_M_init 131 = .ok (.bipush 21, 2) := by decide +kernel
theorem d_M_init_133 : decode b_M_init 133 = .ok (.ldc 51, 2) := by decide +kernel
theorem d_M_init_135 : decode b_M_init 135 = .ok (.aastore, 1) := by decide +kernel
theorem d_M_init_136 : decode b_M_init 136 = .ok (.dup, 1) := by decide +kernel
theorem d_M_init_137 : decode b_M_init 137 = .ok (.bipush 22, 2) := by decide +kernel
theorem d_M_init_139 : decode b_M_init 139 = .ok (.ldc 53, 2) := by decide +kernel
theorem d_M_init_141 : decode b_M_init 141 = .ok (.aastore, 1) := by decide +kernel
theorem d_M_init_142 : decode b_M_init 142 = .ok (.dup, 1) := by decide +kernel
theorem d_M_init_143 : decode b_M_init 143 = .ok (.bipush 23, 2) := by decide +kernel
theorem d_M_init_145 : decode b_M_init 145 = .ok (.ldc 55, 2) := by decide +kernel
theorem d_M_init_147 : decode b_M_init 147 = .ok (.aastore, 1) := by decide +kernel
theorem d_M_init_148 : decode b_M_init 148 = .ok (.dup, 1) := by decide +kernel
theorem d_M_init_149 : decode b_M_init 149 = .ok (.bipush 24, 2) := by decide +kernel
theorem d_M_init_151 : decode b_M_init 151 = .ok (.ldc 57, 2) := by decide +kernel
theorem d_M_init_153 : decode b_M_init 153 = .ok (.aastore, 1) := by decide +kernel
theorem d_M_init_154 : decode b_M_init 154 = .ok (.dup, 1) := by decide +kernel
theorem d_M_init_155 : decode b_M_init 155 = .ok (.bipush 25, 2) := by decide +kernel
theorem d_M_init_157 : decode b_M_init 157 = .ok (.ldc 59, 2) := by decide +kernel
theorem d_M_init_159 : decode b_M_init 159 = .ok (.aastore, 1) := by decide +kernel
theorem d_M_init_160 : decode b_M_init 160 = .ok (.dup, 1) := by decide +kernel
theorem d_M_init_161 : decode b_M_init 161 = .ok (.bipush 26, 2) := by decide +kernel
theorem d_M_init_163 : decode b_M_init 163 = .ok (.ldc 61, 2) := by decide +kernel
theorem d_M_init_165 : decode b_M_init 165 = .ok (.aastore, 1) := by decide +kernel
theorem d_M_init_166 : decode b_M_init 166 = .ok (.dup, 1) := by decide +kernel
theorem d_M_init_167 : decode b_M_init 167 = .ok (.bipush 27, 2) := by decide +kernel
theorem d_M_init_169 : decode b_M_init 169 = .ok (.ldc 63, 2) := by decide +kernel
theorem d_M_init_171 : decode b_M_init 171 = .ok (.aastore, 1) := by decide +kernel
theorem d_M_init_172 : decode b_M_init 172 = .ok (.dup, 1) := by decide +kernel
theorem d_M_init_173 : decode b_M_init 173 = .ok (.bipush 28, 2) := by decide +kernel
theorem d_M_init_175 : decode b_M_init 175 = .ok (.ldc 65, 2) := by decide +kernel
theorem d_M_init_177 : decode b_M_init 177 = .ok (.aastore, 1) := by decide +kernel
theorem d_M_init_178 : decode b_M_init 178 = .ok (.dup, 1) := by decide +kernel
theorem d_M_init_179 : decode b_M_init 179 = .ok (.bipush 29, 2) := by decide +kernel
theorem d_M_init_181 : decode b_M_init 181 = .ok (.ldc 67, 2) := by decide +kernel
theorem d_M_init_183 : decode b_M_init 183 = .ok (.aastore, 1) := by decide +kernel
theorem d_M_init_184 : decode b_M_init 184 = .ok (.dup, 1) := by decide +kernel
theorem d_M_init_185 : decode b_M_init 185 = .ok (.bipush 30, 2) := by decide +kernel
theorem d_M_init_187 : decode b_M_init 187 = .ok (.ldc 69, 2) := by decide +kernel
theorem d_M_init_189 : decode b_M_init 189 = .ok (.aastore, 1) := by decide +kernel
theorem d_M_init_190 : decode b_M_init 190 = .ok (.dup, 1) := by decide +kernel
theorem d_M_init_191 : decode b_M_init 191 = .ok (.bipush 31, 2) := by decide +kernel
theorem d_M_init_193 : decode b_M_init 193 = .ok (.ldc 71, 2) := by decide +kernel
theorem d_M_init_195 : decode b_M_init 195 = .ok (.aastore, 1) := by decide +kernel
theorem d_M_init_196 : decode b_M_init 196 = .ok (.dup, 1) := by decide +kernel
theorem d_M_init_197 : decode b_M_init 197 = .ok (.bipush 32, 2) := by decide +kernel
theorem d_M_init_199 : decode b_M_init 199 = .ok (.ldc 73, 2) := by decide +kernel
theorem d_M_init_201 : decode b_M_init 201 = .ok (.aastore, 1) := by decide +kernel
theorem d_M_init_202 : decode b_M_init 202 = .ok (.putfield 75, 3) := by decide +kernel
theorem d_M_init_205 : decode b_M_init 205 = .ok (.aload_n 0, 1) := by decide +kernel
theorem d_M_init_206 : decode b_M_init 206 = .ok (.bipush 40, 2) := by decide +kernel
theorem d_M_init_208 : decode b_M_init 208 = .ok (.anewarray 7, 3) := by decide +kernel
theorem d_M_init_211 : decode b_M_init 211 = .ok (.dup, 1) := by decide +kernel
theorem d_M_init_212 : decode b_M_init 212 = .ok (.iconst 0, 1) := by decide +kernel
theorem d_M_init_213 : decode b_M_init 213 = .ok (.ldc 81, 2) := by decide +kernel
theorem d_M_init_215 : decode b_M_init 215 = .ok (.aastore, 1) := by decide +kernel
theorem d_M_init_216 : decode b_M_init 216 = .ok (.dup, 1) := by decide +kernel
theorem d_M_init_217 : decode b_M_init 217 = .ok (.iconst 1, 1) := by decide +kernel
theorem d_M_init_218 : decode b_M_init 218 = .ok (.ldc 83, 2) := by decide +kernel
theorem d_M_init_220 : decode b_M_init 220 = .ok (.aastore, 1) := by decide +kernel
theorem d_M_init_221 : decode b_M_init 221 = .ok (.dup, 1) := by decide +kernel
theorem d_M_init_222 : decode b_M_init 222 = .ok (.iconst 2, 1) := by decide +kernel
theorem d_M_init_223 : decode b_M_init 223 = .ok (.ldc 85, 2) := by decide +kernel
theorem d_M_init_225 : decode b_M_init 225 = .ok (.aastore, 1) := by decide +kernel
theorem d_M_init_226 : decode b_M_init 226 = .ok (.dup, 1) := by decide +kernel
theorem d_M_init_227 : decode b_M_init 227 = .ok (.iconst 3, 1) := by decide +kernel
theorem d_M_init_228 : decode b_M_init 228 = .ok (.ldc 87, 2) := by decide +kernel
theorem d_M_init_230 : decode b_M_init 230 = .ok (.aastore, 1) := by decide +kernel
theorem d_M_init_231 : decode b_M_init 231 = .ok (.dup, 1) := by decide +kernel
theorem d_M_init_232 : decode b_M_init 232 = .ok (.iconst 4, 1) := by decide +kernel
theorem d_M_init_233 : decode b_M_init 233 = .ok (.ldc 89, 2) := by decide +kernel
theorem d_M_init_235 : decode b_M_init 235 = .ok (.aastore, 1) := by decide +kernel
theorem d_M_init_236 : decode b_M_init 236 = .ok (.dup, 1) := by decide +kernel
theorem d_M_init_237 : decode b_M_init 237 = .ok (.iconst 5, 1) := by decide +kernel
theorem d_M_init_238 : decode b_M_init 238 = .ok (.ldc 91, 2) := by decide +kernel
theorem d_M_init_240 : decode b_M_init 240 = .ok (.aastore, 1) := by decide +kernel
theorem d_M_init_241 : decode b_M_init 241 = .ok (.dup, 1) := by decide +kernel
theorem d_M_init_242 : decode b_M_init 242 = .ok (.bipush 6, 2) := by decide +kernel
theorem d_M_init_244 : decode b_M_init 244 = .ok (.ldc 93, 2) := by decide +kernel
theorem d_M_init_246 : decode b_M_init 246 = .ok (.aastore, 1) := by decide +kernel
theorem d_M_init_247 : decode b_M_init 247 = .ok (.dup, 1) := by decide +kernel
theorem d_M_init_248 : decode b_M_init 248 = .ok (.bipush 7, 2) := by decide +kernel
theorem d_M_init_250 : decode b_M_init 250 = .ok (.ldc 95, 2) := by decide +kernel
theorem d_M_init_252 : decode b_M_init 252 = .ok (.aastore, 1) := by decide +kernel
theorem d_M_init_253 : decode b_M_init 253 = .ok (.dup, 1) := by decide +kernel
theorem d_M_init_254 : decode b_M_init 254 = .ok (.bipush 8, 2) := by decide +kernel
theorem d_M_init_256 : decode b_M_init 256 = .ok (.ldc 97, 2) := by decide +kernel
theorem d_M_init_258 : decode b_M_init 258 = .ok (.aastore, 1) := by decide +kernel
theorem d_M_init_259 : decode b_M_init 259 = .ok (.dup, 1) := by decide +kernel
theorem d_M_init_260 : decode b_M_init 260 = .ok (.bipush 9, 2) := by decide +kernel
theorem d_M_init_262 : decode b_M_init 262 = .ok (.ldc 99, 2) := by decide +kernel
theorem d_M_init_264 : decode b_M_init 264 = .ok (.aastore, 1) := by decide +kernel
theorem d_M_init_265 : decode b_M_init 265 = .ok (.dup, 1) := by decide +kernel
theorem d_M_init_266 : decode b_M_init 266 = .ok (.bipush 10, 2) := by decide +kernel
theorem d_M_init_268 : decode b_M_init 268 = .ok (.ldc 101, 2) := by decide +kernel
theorem d_M_init_270 : decode b_M_init 270 = .ok (.aastore, 1) := by decide +kernel
theorem d_M_init_271 : decode b_M_init 271 = .ok (.dup, 1) := by decide +kernel
theorem d_M_init_272 : decode b_M_init 272 = .ok (.bipush 11, 2) := by decide +kernel
theorem d_M_init_274 : decode b_M_init 274 = .ok (.ldc 103, 2) := by decide +kernel
theorem d_M_init_276 : decode b_M_init 276 = .ok (.aastore, 1) := by decide +kernel
theorem d_M_init_277 : decode b_M_init 277 = .ok (.dup, 1) := by decide +kernel
theorem d_M_init_278 : decode b_M_init 278 = .ok (.bipush 12, 2) := by decide +kernel
theorem d_M_init_280 : decode b_M_init 280 = .ok (.ldc 105, 2) := by decide +kernel
theorem d_M_init_282 : decode b_M_init 282 = .ok (.aastore, 1) := by decide +kernel
theorem d_M_init_283 : decode b_M_init 283 = .ok (.dup, 1) := by decide +kernel
theorem d_M_init_284 : decode b_M_init 284 = .ok (.bipush 13, 2) := by decide +kernel
theorem d_M_init_286 : decode b_M_init 286 = .ok (.ldc 107, 2) := by decide +kernel
theorem d_M_init_288 : decode b_M_init 288 = .ok (.aastore, 1) := by decide +kernel
theorem d_M_init_289 : decode b_M_init 289 = .ok (.dup, 1) := by decide +kernel
theorem d_M_init_290 : decode b_M_init 290 = .ok (.bipush 14, 2) := by decide +kernel
theorem d_M_init_292 : decode b_M_init 292 = .ok (.ldc 109, 2) := by decide +kernel
theorem d_M_init_294 : decode b_M_init 294 = .ok (.aastore, 1) := by decide +kernel
theorem d_M_init_295 : decode b_M_init 295 = .ok (.dup, 1) := by decide +kernel
theorem d_M_init_296 : decode b_M_init 296 = .ok (.bipush 15, 2) := by decide +kernel
theorem d_M_init_298 : decode b_M_init 298 = .ok (.ldc 111, 2) := by decide +kernel
theorem d_M_init_300 : decode b_M_init 300 = .ok (.aastore, 1) := by decide +kernel
theorem d_M_init_301 : decode b_M_init 301 = .ok (.dup, 1) := by decide +kernel
theorem d_M_init_302 : decode b_M_init 302 = .ok (.bipush 16, 2) := by decide +kernel
theorem d_M_init_304 : decode b_M_init 304 = .ok (.ldc 113, 2) := by decide +kernel
theorem d_M_init_306 : decode b_M_init 306 = .ok (.aastore, 1) := by decide +kernel
theorem d_M_init_307 : decode b_M_init 307 = .ok (.dup, 1) := by decide +kernel
theorem d_M_init_308 : decode b_M_init 308 = .ok (.bipush 17, 2) := by decide +kernel
theorem d_M_init_310 : decode b_M_init 310 = .ok (.ldc 115, 2) := by decide +kernel
theorem d_M_init_312 : decode b_M_init 312 = .ok (.aastore, 1) := by decide +kernel
theorem d_M_init_313 : decode b_M_init 313 = .ok (.dup, 1) := by decide +kernel
theorem d_M_init_314 : decode b_M_init 314 = .ok (.bipush 18, 2) := by decide +kernel
theorem d_M_init_316 : decode b_M_init 316 = .ok (.ldc 117, 2) := by decide +kernel
theorem d_M_init_318 : decode b_M_init 318 = .ok (.aastore, 1) := by decide +kernel
theorem d_M_init_319 : decode b_M_init 319 = .ok (.dup, 1) := by decide +kernel
theorem d_M_init_320 : decode b_M_init 320 = .ok (.bipush 19, 2) := by decide +kernel
theorem d_M_init_322 : decode b_M_init 322 = .ok (.ldc 119, 2) := by decide +kernel
theorem d_M_init_324 : decode b_M_init 324 = .ok (.aastore, 1) := by decide +kernel
theorem d_M_init_325 : decode b_M_init 325 = .ok (.dup, 1) := by decide +kernel
theorem d_M_init_326 : decode b_M_init 326 = .ok (.bipush 20, 2) := by decide +kernel
theorem d_M_init_328 : decode b_M_init 328 = .ok (.ldc 121, 2) := by decide +kernel
theorem d_M_init_330 : decode b_M_init 330 = .ok (.aastore, 1) := by decide +kernel
theorem d_M_init_331 : decode b_M_init 331 = .ok (.dup, 1) := by decide +kernel
theorem d_M_init_332 : decode b_M_init 332 = .ok (.bipush 21, 2) := by decide +kernel
theorem d_M_init_334 : decode b_M_init 334 = .ok (.ldc 99, 2) := by decide +kernel
theorem d_M_init_336 : decode b_M_init 336 = .ok (.aastore, 1) := by decide +kernel
theorem d_M_init_337 : decode b_M_init 337 = .ok (.dup, 1) := by decide +kernel
theorem d_M_init_338 : decode b_M_init 338 = .ok (.bipush 22, 2) := by decide +kernel
theorem d_M_init_340 : decode b_M_init 340 = .ok (.ldc 123, 2) := by decide +kernel
theorem d_M_init_342 : decode b_M_init 342 = .ok (.aastore, 1) := by decide +kernel
theorem d_M_init_343 : decode b_M_init 343 = .ok (.dup, 1) := by decide +kernel
theorem d_M_init_344 : decode b_M_init 344 = .ok (.bipush 23, 2) := by decide +kernel
theorem d_M_init_346 : decode b_M_init 346 = .ok (.ldc 83, 2) := by decide +kernel
theorem d_M_init_348 : decode b_M_init 348 = .ok (.aastore, 1) := by decide +kernel
theorem d_M_init_349 : decode b_M_init 349 = .ok (.dup, 1) := by decide +kernel
theorem d_M_init_350 : decode b_M_init 350 = .ok (.bipush 24, 2) := by decide +kernel
theorem d_M_init_352 : decode b_M_init 352 = .ok (.ldc 125, 2) := by decide +kernel
theorem d_M_init_354 : decode b_M_init 354 = .ok (.aastore, 1) := by decide +kernel
theorem d_M_init_355 : decode b_M_init 355 = .ok (.dup, 1) := by decide +kernel
theorem d_M_init_356 : decode b_M_init 356 = .ok (.bipush 25, 2) := by decide +kernel
theorem d_M_init_358 : decode b_M_init 358 = .ok (.ldc 83, 2) := by decide +kernel
theorem d_M_init_360 : decode b_M_init 360 = .ok (.aastore, 1) := by decide +kernel
theorem d_M_init_361 : decode b_M_init 361 = .ok (.dup, 1) := by decide +kernel
theorem d_M_init_362 : decode b_M_init 362 = .ok (.bipush 26, 2) := by decide +kernel
theorem d_M_init_364 : decode b_M_init 364 = .ok (.ldc 127, 2) := by decide +kernel
theorem d_M_init_366 : decode b_M_init 366 = .ok (.aastore, 1) := by decide +kernel
theorem d_M_init_367 : decode b_M_init 367 = .ok (.dup, 1) := by decide +kernel
theorem d_M_init_368 : decode b_M_init 368 = .ok (.bipush 27, 2) := by decide +kernel
theorem d_M_init_370 : decode b_M_init 370 = .ok (.ldc 107, 2) := by decide +kernel
theorem d_M_init_372 : decode b_M_init 372 = .ok (.aastore, 1) := by decide +kernel
theorem d_M_init_373 : decode b_M_init 373 = .ok (.dup, 1) := by decide +kernel
theorem d_M_init_374 : decode b_M_init 374 = .ok (.bipush 28, 2) := by decide +kernel
theorem d_M_init_376 : decode b_M_init 376 = .ok (.ldc 129, 2) := by decide +kernel
theorem d_M_init_378 : decode b_M_init 378 = .ok (.aastore, 1) := by decide +kernel
theorem d_M_init_379 : decode b_M_init 379 = .ok (.dup, 1) := by decide +kernel
theorem d_M_init_380 : decode b_M_init 380 = .ok (.bipush 29, 2) := by decide +kernel
theorem d_M_init_382 : decode b_M_init 382 = .ok (.ldc 131, 2) := by decide +kernel
theorem d_M_init_384 : decode b_M_init 384 = .ok (.aastore, 1) := by decide +kernel
theorem d_M_init_385 : decode b_M_init 385 = .ok (.dup, 1) := by decide +kernel
theorem d_M_init_386 : decode b_M_init 386 = .ok (.bipush 30, 2) := by decide +kernel
theorem d_M_init_388 : decode b_M_init 388 = .ok (.ldc 133, 2) := by decide +kernel
theorem d_M_init_390 : decode b_M_init 390 = .ok (.aastore, 1) := by decide +kernel
theorem d_M_init_391 : decode b_M_init 391 = .ok (.dup, 1) := by decide +kernel
theorem d_M_init_392 : decode b_M_init 392 = .ok (.bipush 31, 2) := by decide +kernel
theorem d_M_init_394 : decode b_M_init 394 = .ok (.ldc 135, 2) := by decide +kernel
theorem d_M_init_396 : decode b_M_init 396 = .ok (.aastore, 1) := by decide +kernel
theorem d_M_init_397 : decode b_M_init 397 = .ok (.dup, 1) := by decide +kernel
theorem d_M_init_398 : decode b_M_init 398 = .ok (.bipush 32, 2) := by decide +kernel
theorem d_M_init_400 : decode b_M_init 400 = .ok (.ldc 137, 2) := by decide +kernel
theorem d_M_init_402 : decode b_M_init 402 = .ok (.aastore, 1) := by decide +kernel
theorem d_M_init_403 : decode b_M_init 403 = .ok (.dup, 1) := by decide +kernel
theorem d_M_init_404 : decode b_M_init 404 = .ok (.bipush 33, 2) := by decide +kernel
theorem d_M_init_406 : decode b_M_init 406 = .ok (.ldc 119, 2) := by decide +kernel
theorem d_M_init_408 : decode b_M_init 408 = .ok (.aastore, 1) := by decide +kernel
theorem d_M_init_409 : decode b_M_init 409 = .ok (.dup, 1) := by decide +kernel
theorem d_M_init_410 : decode b_M_init 410 = .ok (.bipush 34, 2) := by decide +kernel
theorem d_M_init_412 : decode b_M_init 412 = .ok (.ldc 139, 2) := by decide +kernel
theorem d_M_init_414 : decode b_M_init 414 = .ok (.aastore, 1) := by decide +kernel
theorem d_M_init_415 : decode b_M_init 415 = .ok (.dup, 1) := by decide +kernel
theorem d_M_init_416 : decode b_M_init 416 = .ok (.bipush 35, 2) := by decide +kernel
theorem d_M_init_418 : decode b_M_init 418 = .ok (.ldc 107, 2) := by decide +kernel
theorem d_M_init_420 : decode b_M_init 420 = .ok (.aastore, 1) := by decide +kernel
theorem d_M_init_421 : decode b_M_init 421 = .ok (.dup, 1) := by decide +kernel
theorem d_M_init_422 : decode b_M_init 422 = .ok (.bipush 36, 2) := by decide +kernel
theorem d_M_init_424 : decode b_M_init 424 = .ok (.ldc 141, 2) := by decide +kernel
theorem d_M_init_426 : decode b_M_init 426 = .ok (.aastore, 1) := by decide +kernel
theorem d_M_init_427 : decode b_M_init 427 = .ok (.dup, 1) := by decide +kernel
theorem d_M_init_428 : decode b_M_init 428 = .ok (.bipush 37, 2) := by decide +kernel
theorem d_M_init_430 : decode b_M_init 430 = .ok (.ldc 131, 2) := by decide +kernel
theorem d_M_init_432 : decode b_M_init 432 = .ok (.aastore, 1) := by decide +kernel
theorem d_M_init_433 : decode b_M_init 433 = .ok (.dup, 1) := by decide +kernel
theorem d_M_init_434 : decode b_M_init 434 = .ok (.bipush 38, 2) := by decide +kernel
theorem d_M_init_436 : decode b_M_init 436 = .ok (.ldc 143, 2) := by decide +kernel
theorem d_M_init_438 : decode b_M_init 438 = .ok (.aastore, 1) := by decide +kernel
theorem d_M_init_439 : decode b_M_init 439 = .ok (.dup, 1) := by decide +kernel
theorem d_M_init_440 : decode b_M_init 440 = .ok (.bipush 39, 2) := by decide +kernel
theorem d_M_init_442 : decode b_M_init 442 = .ok (.ldc 145, 2) := by decide +kernel
theorem d_M_init_444 : decode b_M_init 444 = .ok (.aastore, 1) := by decide +kernel
theorem d_M_init_445 : decode b_M_init 445 = .ok (.putfield 147, 3) := by decide +kernel
theorem d_M_init_448 : decode b_M_init 448 = .ok (.aload_n 0, 1) := by decide +kernel
theorem d_M_init_449 : decode b_M_init 449 = .ok (.bipush 14, 2) := by decide +kernel
theorem d_M_init_451 : decode b_M_init 451 = .ok (.anewarray 7, 3) := by decide +kernel
theorem d_M_init_454 : decode b_M_init 454 = .ok (.dup, 1) := by decide +kernel
theorem d_M_init_455 : decode b_M_init 455 = .ok (.iconst 0, 1) := by decide +kernel
theorem d_M_init_456 : decode b_M_init 456 = .ok (.ldc 150, 2) := by decide +kernel
theorem d_M_init_458 : decode b_M_init 458 = .ok (.aastore, 1) := by decide +kernel
theorem d_M_init_459 : decode b_M_init 459 = .ok (.dup, 1) := by decide +kernel
theorem d_M_init_460 : decode b_M_init 460 = .ok (.iconst 1, 1) := by decide +kernel
theorem d_M_init_461 : decode b_M_init 461 = .ok (.ldc 152, 2) := by decide +kernel
theorem d_M_init_463 : decode b_M_init 463 = .ok (.aastore, 1) := by decide +kernel
theorem d_M_init_464 : decode b_M_init 464 = .ok (.dup, 1) := by decide +kernel
theorem d_M_init_465 : decode b_M_init 465 = .ok (.iconst 2, 1) := by decide +kernel
theorem d_M_init_466 : decode b_M_init 466 = .ok (.ldc 154, 2) := by decide +kernel
theorem d_M_init_468 : decode b_M_init 468 = .ok (.aastore, 1) := by decide +kernel
theorem d_M_init_469 : decode b_M_init 469 = .ok (.dup, 1) := by decide +kernel
theorem d_M_init_470 : decode b_M_init 470 = .ok (.iconst 3, 1) := by decide +kernel
theorem d_M_init_471 : decode b_M_init 471 = .ok (.ldc 156, 2) := by decide +kernel
theorem d_M_init_473 : decode b_M_init 473 = .ok (.aastore, 1) := by decide +kernel
theorem d_M_init_474 : decode b_M_init 474 = .ok (.dup, 1) := by decide +kernel
theorem d_M_init_475 : decode b_M_init 475 = .ok (.iconst 4, 1) := by decide +kernel
theorem d_M_init_476 : decode b_M_init 476 = .ok (.ldc 158, 2) := by decide +kernel
theorem d_M_init_478 : decode b_M_init 478 = .ok (.aastore, 1) := by decide +kernel
theorem d_M_init_479 : decode b_M_init 479 = .ok (.dup, 1) := by decide +kernel
theorem d_M_init_480 : decode b_M_init 480 = .ok (.iconst 5, 1) := by decide +kernel
theorem d_M_init_481 : decode b_M_init 481 = .ok (.ldc 107, 2) := by decide +kernel
theorem d_M_init_483 : decode b_M_init 483 = .ok (.aastore, 1) := by decide +kernel
theorem d_M_init_484 : decode b_M_init 484 = .ok (.dup, 1) := by decide +kernel
theorem d_M_init_485 : decode b_M_init 485 = .ok (.bipush 6, 2) := by decide +kernel
theorem d_M_init_487 : decode b_M_init 487 = .ok (.ldc 160, 2) := by decide +kernel
theorem d_M_init_489 : decode b_M_init 489 = .ok (.aastore, 1) := by decide +kernel
theorem d_M_init_490 : decode b_M_init 490 = .ok (.dup, 1) := by decide +kernel
theorem d_M_init_491 : decode b_M_init 491 = .ok (.bipush 7, 2) := by decide +kernel
theorem d_M_init_493 : decode b_M_init 493 = .ok (.ldc 152, 2) := by decide +kernel
theorem d_M_init_495 : decode b_M_init 495 = .ok (.aastore, 1) := by decide +kernel
theorem d_M_init_496 : decode b_M_init 496 = .ok (.dup, 1) := by decide +kernel
theorem d_M_init_497 : decode b_M_init 497 = .ok (.bipush 8, 2) := by decide +kernel
theorem d_M_init_499 : decode b_M_init 499 = .ok (.ldc 162, 2) := by decide +kernel
theorem d_M_init_501 : decode b_M_init 501 = .ok (.aastore, 1) := by decide +kernel
theorem d_M_init_502 : decode b_M_init 502 = .ok (.dup, 1) := by decide +kernel
theorem d_M_init_503 : decode b_M_init 503 = .ok (.bipush 9, 2) := by decide +kernel
theorem d_M_init_505 : decode b_M_init 505 = .ok (.ldc 152, 2) := by decide +kernel
theorem d_M_init_507 : decode b_M_init 507 = .ok (.aastore, 1) := by decide +kernel
theorem d_M_init_508 : decode b_M_init 508 = .ok (.dup, 1) := by decide +kernel
theorem d_M_init_509 : decode b_M_init 509 = .ok (.bipush 10, 2) := by decide +kernel
theorem d_M_init_511 : decode b_M_init 511 = .ok (.ldc 135, 2) := by decide +kernel
theorem d_M_init_513 : decode b_M_init 513 = .ok (.aastore, 1) := by decide +kernel
theorem d_M_init_514 : decode b_M_init 514 = .ok (.dup, 1) := by decide +kernel
theorem d_M_init_515 : decode b_M_init 515 = .ok (.bipush 11, 2) := by decide +kernel
theorem d_M_init_517 : decode b_M_init 517 = .ok (.ldc 156, 2) := by decide +kernel
theorem d_M_init_519 : decode b_M_init 519 = .ok (.aastore, 1) := by decide +kernel
theorem d_M_init_520 : decode b_M_init 520 = .ok (.dup, 1) := by decide +kernel
theorem d_M_init_521 : decode b_M_init 521 = .ok (.bipush 12, 2) := by decide +kernel
theorem d_M_init_523 : decode b_M_init 523 = .ok (.ldc 164, 2) := by decide +kernel
theorem d_M_init_525 : decode b_M_init 525 = .ok (.aastore, 1) := by decide +kernel
theorem d_M_init_526 : decode b_M_init 526 = .ok (.dup, 1) := by decide +kernel
theorem d_M_init_527 : decode b_M_init 527 = .ok (.bipush 13, 2) := by decide +kernel
theorem d_M_init_529 : decode b_M_init 529 = .ok (.ldc 156, 2) := by decide +kernel
theorem d_M_init_531 : decode b_M_init 531 = .ok (.aastore, 1) := by decide +kernel
theorem d_M_init_532 : decode b_M_init 532 = .ok (.putfield 166, 3) := by decide +kernel
theorem d_M_init_535 : decode b_M_init 535 = .ok (.aload_n 0, 1) := by decide +kernel
theorem d_M_init_536 : decode b_M_init 536 = .ok (.bipush 38, 2) := by decide +kernel
theorem d_M_init_538 : decode b_M_init 538 = .ok (.anewarray 7, 3) := by decide +kernel
theorem d_M_init_541 : decode b_M_init 541 = .ok (.dup, 1) := by decide +kernel
theorem d_M_init_542 : decode b_M_init 542 = .ok (.iconst 0, 1) := by decide +kernel
theorem d_M_init_543 : decode b_M_init 543 = .ok (.ldc 107, 2) := by decide +kernel
theorem d_M_init_545 : decode b_M_init 545 = .ok (.aastore, 1) := by decide +kernel
theorem d_M_init_546 : decode b_M_init 546 = .ok (.dup, 1) := by decide +kernel
theorem d_M_init_547 : decode b_M_init 547 = .ok (.iconst 1, 1) := by decide +kernel
theorem d_M_init_548 : decode b_M_init 548 = .ok (.ldc 156, 2) := by decide +kernel
theorem d_M_init_550 : decode b_M_init 550 = .ok (.aastore, 1) := by decide +kernel
theorem d_M_init_551 : decode b_M_init 551 = .ok (.dup, 1) := by decide +kernel
theorem d_M_init_552 : decode b_M_init 552 = .ok (.iconst 2, 1) := by decide +kernel
theorem d_M_init_553 : decode b_M_init 553 = .ok (.ldc 95, 2) := by decide +kernel
theorem d_M_init_555 : decode b_M_init 555 = .ok (.aastore, 1) := by decide +kernel
theorem d_M_init_556 : decode b_M_init 556 = .ok (.dup, 1) := by decide +kernel
theorem d_M_init_557 : decode b_M_init 557 = .ok (.iconst 3, 1) := by decide +kernel
theorem d_M_init_558 : decode b_M_init 558 = .ok (.ldc 156, 2) := by decide +kernel
theorem d_M_init_560 : decode b_M_init 560 = .ok (.aastore, 1) := by decide +kernel
theorem d_M_init_561 : decode b_M_init 561 = .ok (.dup, 1) := by decide +kernel
theorem d_M_init_562 : decode b_M_init 562 = .ok (.iconst 4, 1) := by decide +kernel
theorem d_M_init_563 : decode b_M_init 563 = .ok (.ldc 91, 2) := by decide +kernel
theorem d_M_init_565 : decode b_M_init 565 = .ok (.aastore, 1) := by decide +kernel
theorem d_M_init_566 : decode b_M_init 566 = .ok (.dup, 1) := by decide +kernel
theorem d_M_init_567 : decode b_M_init 567 = .ok (.iconst 5, 1) := by decide +kernel
theorem d_M_init_568 : decode b_M_init 568 = .ok (.ldc 156, 2) := by decide +kernel
theorem d_M_init_570 : decode b_M_init 570 = .ok (.aastore, 1) := by decide +kernel
theorem d_M_init_571 : decode b_M_init 571 = .ok (.dup, 1) := by decide +kernel
theorem d_M_init_572 : decode b_M_init 572 = .ok (.bipush 6, 2) := by decide +kernel
theorem d_M_init_574 : decode b_M_init 574 = .ok (.ldc 169, 2) := by decide +kernel
theorem d_M_init_576 : decode b_M_init 576 = .ok (.aastore, 1) := by decide +kernel
theorem d_M_init_577 : decode b_M_init 577 = .ok (.dup, 1) := by decide +kernel
theorem d_M_init_578 : decode b_M_init 578 = .ok (.bipush 7, 2) := by decide +kernel
theorem d_M_init_580 : decode b_M_init 580 = .ok (.ldc 156, 2) := by decide +kernel
theorem d_M_init_582 : decode b_M_init 582 = .ok (.aastore, 1) := by decide +kernel
theorem d_M_init_583 : decode b_M_init 583 = .ok (.dup, 1) := by decide +kernel
theorem d_M_init_584 : decode b_M_init 584 = .ok (.bipush 8, 2) := by decide +kernel
theorem d_M_init_586 : decode b_M_init 586 = .ok (.ldc 152, 2) := by decide +kernel
theorem d_M_init_588 : decode b_M_init 588 = .ok (.aastore, 1) := by decide +kernel
theorem d_M_init_589 : decode b_M_init 589 = .ok (.dup, 1) := by decide +kernel
theorem d_M_init_590 : decode b_M_init 590 = .ok (.bipush 9, 2) := by decide +kernel
theorem d_M_init_592 : decode b_M_init 592 = .ok (.ldc 156, 2) := by decide +kernel
theorem d_M_init_594 : decode b_M_init 594 = .ok (.aastore, 1) := by decide +kernel
theorem d_M_init_595 : decode b_M_init 595 = .ok (.dup, 1) := by decide +kernel
theorem d_M_init_596 : decode b_M_init 596 = .ok (.bipush 10, 2) := by decide +kernel
theorem d_M_init_598 : decode b_M_init 598 = .ok (.ldc 103, 2) := by decide +kernel
theorem d_M_init_600 : decode b_M_init 600 = .ok (.aastore, 1) := by decide +kernel
theorem d_M_init_601 : decode b_M_init 601 = .ok (.dup, 1) := by decide +kernel
theorem d_M_init_602 : decode b_M_init 602 = .ok (.bipush 11, 2) := by decide +kernel
theorem d_M_init_604 : decode b_M_init 604 = .ok (.ldc 156, 2) := by decide +kernel
theorem d_M_init_606 : decode b_M_init 606 = .ok (.aastore, 1) := by decide +kernel
theorem d_M_init_607 : decode b_M_init 607 = .ok (.dup, 1) := by decide +kernel
theorem d_M_init_608 : decode b_M_init 608 = .ok (.bipush 12, 2) := by decide +kernel
theorem d_M_init_610 : decode b_M_init 610 = .ok (.ldc 171, 2) := by decide +kernel
theorem d_M_init_612 : decode b_M_init 612 = .ok (.aastore, 1) := by decide +kernel
theorem d_M_init_613 : decode b_M_init 613 = .ok (.dup, 1) := by decide +kernel
theorem d_M_init_614 : decode b_M_init 614 = .ok (.bipush 13, 2) := by decide +kernel
theorem d_M_init_616 : decode b_M_init 616 = .ok (.ldc 156, 2) := by decide +kernel
theorem d_M_init_618 : decode b_M_init 618 = .ok (.aastore, 1) := by decide +kernel
theorem d_M_init_619 : decode b_M_init 619 = .ok (.dup, 1) := by decide +kernel
theorem d_M_init_620 : decode b_M_init 620 = .ok (.bipush 14, 2) := by decide +kernel
theorem d_M_init_622 : decode b_M_init 622 = .ok (.ldc 173, 2) := by decide +kernel
theorem d_M_init_624 : decode b_M_init 624 = .ok (.aastore, 1) := by decide +kernel
theorem d_M_init_625 : decode b_M_init 625 = .ok (.dup, 1) := by decide +kernel
theorem d_M_init_626 : decode b_M_init 626 = .ok (.bipush 15, 2) := by decide +kernel
theorem d_M_init_628 : decode b_M_init 628 = .ok (.ldc 156, 2) := by decide +kernel
theorem d_M_init_630 : decode b_M_init 630 = .ok (.aastore, 1) := by decide +kernel
theorem d_M_init_631 : decode b_M_init 631 = .ok (.dup, 1) := by decide +kernel
theorem d_M_init_632 : decode b_M_init 632 = .ok (.bipush 16, 2) := by decide +kernel
theorem d_M_init_634 : decode b_M_init 634 = .ok (.ldc 175, 2) := by decide +kernel
theorem d_M_init_636 : decode b_M_init 636 = .ok (.aastore, 1) := by decide +kernel
theorem d_M_init_637 : decode b_M_init 637 = .ok (.dup, 1) := by decide +kernel
theorem d_M_init_638 : decode b_M_init 638 = .ok (.bipush 17, 2) := by decide +kernel
theorem d_M_init_640 : decode b_M_init 640 = .ok (.ldc 156, 2) := by decide +kernel
theorem d_M_init_642 : decode b_M_init 642 = .ok (.aastore, 1) := by decide +kernel
theorem d_M_init_643 : decode b_M_init 643 = .ok (.dup, 1) := by decide +kernel
theorem d_M_init_644 : decode b_M_init 644 = .ok (.bipush 18, 2) := by decide +kernel
theorem d_M_init_646 : decode b_M_init 646 = .ok (.ldc 177, 2) := by decide +kernel
theorem d_M_init_648 : decode b_M_init 648 = .ok (.aastore, 1) := by decide +kernel
theorem d_M_init_649 : decode b_M_init 649 = .ok (.dup, 1) := by decide +kernel
theorem d_M_init_650 : decode b_M_init 650 = .ok (.bipush 19, 2) := by decide +kernel
theorem d_M_init_652 : decode b_M_init 652 = .ok (.ldc 156, 2) := by decide +kernel
theorem d_M_init_654 : decode b_M_init 654 = .ok (.aastore, 1) := by decide +kernel
theorem d_M_init_655 : decode b_M_init 655 = .ok (.dup, 1) := by decide +kernel
theorem d_M_init_656 : decode b_M_init 656 = .ok (.bipush 20, 2) := by decide +kernel
theorem d_M_init_658 : decode b_M_init 658 = .ok (.ldc 111, 2) := by decide +kernel
theorem d_M_init_660 : decode b_M_init 660 = .ok (.aastore, 1) := by decide +kernel
theorem d_M_init_661 : decode b_M_init 661 = .ok (.dup, 1) := by decide +kernel
theorem d_M_init_662 : decode b_M_init 662 = .ok (.bipush 21, 2) := by decide +kernel
theorem d_M_init_664 : decode b_M_init 664 = .ok (.ldc 156, 2) := by decide +kernel
theorem d_M_init_666 : decode b_M_init 666 = .ok (.aastore, 1) := by decide +kernel
theorem d_M_init_667 : decode b_M_init 667 = .ok (.dup, 1) := by decide +kernel
theorem d_M_init_668 : decode b_M_init 668 = .ok (.bipush 22, 2) := by decide +kernel
theorem d_M_init_670 : decode b_M_init 670 = .ok (.ldc 179, 2) := by decide +kernel
theorem d_M_init_672 : decode b_M_init 672 = .ok (.aastore, 1) := by decide +kernel
theorem d_M_init_673 : decode b_M_init 673 = .ok (.dup, 1) := by decide +kernel
theorem d_M_init_674 : decode b_M_init 674 = .ok (.bipush 23, 2) := by decide +kernel
theorem d_M_init_676 : decode b_M_init 676 = .ok (.ldc 156, 2) := by decide +kernel
theorem d_M_init_678 : decode b_M_init 678 = .ok (.aastore, 1) := by decide +kernel
theorem d_M_init_679 : decode b_M_init 679 = .ok (.dup, 1) := by decide +kernel
theorem d_M_init_680 : decode b_M_init 680 = .ok (.bipush 24, 2) := by decide +kernel
theorem d_M_init_682 : decode b_M_init 682 = .ok (.ldc 181, 2) := by decide +kernel
theorem d_M_init_684 : decode b_M_init 684 = .ok (.aastore, 1) := by decide +kernel
theorem d_M_init_685 : decode b_M_init 685 = .ok (.dup, 1) := by decide +kernel
theorem d_M_init_686 : decode b_M_init 686 = .ok (.bipush 25, 2) := by decide +kernel
theorem d_M_init_688 : decode b_M_init 688 = .ok (.ldc 156, 2) := by decide +kernel
theorem d_M_init_690 : decode b_M_init 690 = .ok (.aastore, 1) := by decide +kernel
theorem d_M_init_691 : decode b_M_init 691 = .ok (.dup, 1) := by decide +kernel
theorem d_M_init_692 : decode b_M_init 692 = .ok (.bipush 26, 2) := by decide +kernel
theorem d_M_init_694 : decode b_M_init 694 = .ok (.ldc 83, 2) := by decide +kernel
theorem d_M_init_696 : decode b_M_init 696 = .ok (.aastore, 1) := by decide +kernel
theorem d_M_init_697 : decode b_M_init 697 = .ok (.dup, 1) := by decide +kernel
theorem d_M_init_698 : decode b_M_init 698 = .ok (.bipush 27, 2) := by decide +kernel
end
section
theorem d_M_init_700 : decode b_M_init 700 = .ok (.ldc 156, 2) := by decide +kernel
theorem d_M_init_702 : decode b_M_init 702 = .ok (.aastore, 1) := by decide +kernel
theorem d_M_init_703 : decode b_M_init 703 = .ok (.dup, 1) := by decide +kernel
theorem d_M_init_704 : decode b_M_init 704 = .ok (.bipush 28, 2) := by decide +kernel
theorem d_M_init_706 : decode b_M_init 706 = .ok (.ldc 183, 2) := by decide +kernel
theorem d_M_init_708 : decode b_M_init 708 = .ok (.aastore, 1) := by decide +kernel
theorem d_M_init_709 : decode b_M_init 709 = .ok (.dup, 1) := by decide +kernel
theorem d_M_init_710 : decode b_M_init 710 = .ok (.bipush 29, 2) := by decide +kernel
theorem d_M_init_712 : decode b_M_init 712 = .ok (.ldc 156, 2) := by decide +kernel
theorem d_M_init_714 : decode b_M_init 714 = .ok (.aastore, 1) := by decide +kernel
theorem d_M_init_715 : decode b_M_init 715 = .ok (.dup, 1) := by decide +kernel
theorem d_M_init_716 : decode b_M_init 716 = .ok (.bipush 30, 2) := by decide +kernel
theorem d_M_init_718 : decode b_M_init 718 = .ok (.ldc 119, 2) := by decide +kernel
theorem d_M_init_720 : decode b_M_init 720 = .ok (.aastore, 1) := by decide +kernel
theorem d_M_init_721 : decode b_M_init 721 = .ok (.dup, 1) := by decide +kernel
theorem d_M_init_722 : decode b_M_init 722 = .ok (.bipush 31, 2) := by decide +kernel
theorem d_M_init_724 : decode b_M_init 724 = .ok (.ldc 156, 2) := by decide +kernel
theorem d_M_init_726 : decode b_M_init 726 = .ok (.aastore, 1) := by decide +kernel
theorem d_M_init_727 : decode b_M_init 727 = .ok (.dup, 1) := by decide +kernel
theorem d_M_init_728 : decode b_M_init 728 = .ok (.bipush 32, 2) := by decide +kernel
theorem d_M_init_730 : decode b_M_init 730 = .ok (.ldc 131, 2) := by decide +kernel
theorem d_M_init_732 : decode b_M_init 732 = .ok (.aastore, 1) := by decide +kernel
theorem d_M_init_733 : decode b_M_init 733 = .ok (.dup, 1) := by decide +kernel
theorem d_M_init_734 : decode b_M_init 734 = .ok (.bipush 33, 2) := by decide +kernel
theorem d_M_init_736 : decode b_M_init 736 = .ok (.ldc 156, 2) := by decide +kernel
theorem d_M_init_738 : decode b_M_init 738 = .ok (.aastore, 1) := by decide +kernel
theorem d_M_init_739 : decode b_M_init 739 = .ok (.dup, 1) := by decide +kernel
theorem d_M_init_740 : decode b_M_init 740 = .ok (.bipush 34, 2) := by decide +kernel
theorem d_M_init_742 : decode b_M_init 742 = .ok (.ldc 99, 2) := by decide +kernel
theorem d_M_init_744 : decode b_M_init 744 = .ok (.aastore, 1) := by decide +kernel
theorem d_M_init_745 : decode b_M_init 745 = .ok (.dup, 1) := by decide +kernel
theorem d_M_init_746 : decode b_M_init 746 = .ok (.bipush 35, 2) := by decide +kernel
theorem d_M_init_748 : decode b_M_init 748 = .ok (.ldc 156, 2) := by decide +kernel
theorem d_M_init_750 : decode b_M_init 750 = .ok (.aastore, 1) := by decide +kernel
theorem d_M_init_751 : decode b_M_init 751 = .ok (.dup, 1) := by decide +kernel
theorem d_M_init_752 : decode b_M_init 752 = .ok (.bipush 36, 2) := by decide +kernel
theorem d_M_init_754 : decode b_M_init 754 = .ok (.ldc 185, 2) := by decide +kernel
theorem d_M_init_756 : decode b_M_init 756 = .ok (.aastore, 1) := by decide +kernel
theorem d_M_init_757 : decode b_M_init 757 = .ok (.dup, 1) := by decide +kernel
theorem d_M_init_758 : decode b_M_init 758 = .ok (.bipush 37, 2) := by decide +kernel
theorem d_M_init_760 : decode b_M_init 760 = .ok (.ldc 156, 2) := by decide +kernel
theorem d_M_init_762 : decode b_M_init 762 = .ok (.aastore, 1) := by decide +kernel
theorem d_M_init_763 : decode b_M_init 763 = .ok (.putfield 187, 3) := by decide +kernel
theorem d_M_init_766 : decode b_M_init 766 = .ok (.aload_n 0, 1) := by decide +kernel
theorem d_M_init_767 : decode b_M_init 767 = .ok (.sipush 8192, 3) := by decide +kernel
theorem d_M_init_770 : decode b_M_init 770 = .ok (.newarray .byte, 2) := by decide +kernel
theorem d_M_init_772 : decode b_M_init 772 = .ok (.putfield 190, 3) := by decide +kernel
theorem d_M_init_775 : decode b_M_init 775 = .ok (.aload_n 0, 1) := by decide +kernel
theorem d_M_init_776 : decode b_M_init 776 = .ok (.sipush 8192, 3) := by decide +kernel
theorem d_M_init_779 : decode b_M_init 779 = .ok (.newarray .int, 2) := by decide +kernel
theorem d_M_init_781 : decode b_M_init 781 = .ok (.putfield 194, 3) := by decide +kernel
theorem d_M_init_784 : decode b_M_init 784 = .ok (.aload_n 0, 1) := by decide +kernel
theorem d_M_init_785 : decode b_M_init 785 = .ok (.sipush 8704, 3) := by decide +kernel
theorem d_M_init_788 : decode b_M_init 788 = .ok (.newarray .int, 2) := by decide +kernel
theorem d_M_init_790 : decode b_M_init 790 = .ok (.putfield 198, 3) := by decide +kernel
theorem d_M_init_793 : decode b_M_init 793 = .ok (.aload_n 0, 1) := by decide +kernel
theorem d_M_init_794 : decode b_M_init 794 = .ok (.sipush 8193, 3) := by decide +kernel
theorem d_M_init_797 : decode b_M_init 797 = .ok (.newarray .int, 2) := by decide +kernel
theorem d_M_init_799 : decode b_M_init 799 = .ok (.putfield 201, 3) := by decide +kernel
theorem d_M_init_802 : decode b_M_init 802 = .ok (.aload_n 0, 1) := by decide +kernel
theorem d_M_init_803 : decode b_M_init 803 = .ok (.sipush 8192, 3) := by decide +kernel
theorem d_M_init_806 : decode b_M_init 806 = .ok (.newarray .int, 2) := by decide +kernel
theorem d_M_init_808 : decode b_M_init 808 = .ok (.putfield 204, 3) := by decide +kernel
theorem d_M_init_811 : decode b_M_init 811 = .ok (.aload_n 0, 1) := by decide +kernel
theorem d_M_init_812 : decode b_M_init 812 = .ok (.sipush 260, 3) := by decide +kernel
theorem d_M_init_815 : decode b_M_init 815 = .ok (.newarray .int, 2) := by decide +kernel
theorem d_M_init_817 : decode b_M_init 817 = .ok (.putfield 207, 3) := by decide +kernel
theorem d_M_init_820 : decode b_M_init 820 = .ok (.return_, 1) := by decide +kernel
theorem d_M_thrown_0 : decode b_M_thrown 0 = .ok (.aload_n 0, 1) := by decide +kernel
theorem d_M_thrown_1 : decode b_M_thrown 1 = .ok (.getfield 210, 3) := by decide +kernel
theorem d_M_thrown_4 : decode b_M_thrown 4 = .ok (.ireturn, 1) := by decide +kernel
theorem d_M_feed_0 : decode b_M_feed 0 = .ok (.aload_n 0, 1) := by decide +kernel
theorem d_M_feed_1 : decode b_M_feed 1 = .ok (.aload_n 0, 1) := by decide +kernel
theorem d_M_feed_2 : decode b_M_feed 2 = .ok (.getfield 326, 3) := by decide +kernel
theorem d_M_feed_5 : decode b_M_feed 5 = .ok (.bipush 20, 2) := by decide +kernel
theorem d_M_feed_7 : decode b_M_feed 7 = .ok (.iadd, 1) := by decide +kernel
theorem d_M_feed_8 : decode b_M_feed 8 = .ok (.sipush 8192, 3) := by decide +kernel
theorem d_M_feed_11 : decode b_M_feed 11 = .ok (.if_icmp .le 7, 3) := by decide +kernel
theorem d_M_feed_14 : decode b_M_feed 14 = .ok (.iconst 1, 1) := by decide +kernel
theorem d_M_feed_15 : decode b_M_feed 15 = .ok (.goto 4, 3) := by decide +kernel
theorem d_M_feed_18 : decode b_M_feed 18 = .ok (.iconst 0, 1) := by decide +kernel
theorem d_M_feed_19 : decode b_M_feed 19 = .ok (.putfield 210, 3) := by decide +kernel
theorem d_M_feed_22 : decode b_M_feed 22 = .ok (.aload_n 0, 1) := by decide +kernel
theorem d_M_feed_23 : decode b_M_feed 23 = .ok (.getfield 210, 3) := by decide +kernel
theorem d_M_feed_26 : decode b_M_feed 26 = .ok (.ifCond .eq 5, 3) := by decide +kernel
theorem d_M_feed_29 : decode b_M_feed 29 = .ok (.iconst 0, 1) := by decide +kernel
theorem d_M_feed_30 : decode b_M_feed 30 = .ok (.ireturn, 1) := by decide +kernel
theorem d_M_feed_31 : decode b_M_feed 31 = .ok (.iconst 0, 1) := by decide +kernel
theorem d_M_feed_32 : decode b_M_feed 32 = .ok (.istore 6, 2) := by decide +kernel
theorem d_M_feed_34 : decode b_M_feed 34 = .ok (.iload 6, 2) := by decide +kernel
theorem d_M_feed_36 : decode b_M_feed 36 = .ok (.bipush 20, 2) := by decide +kernel
theorem d_M_feed_38 : decode b_M_feed 38 = .ok (.if_icmp .ge 83, 3) := by decide +kernel
theorem d_M_feed_41 : decode b_M_feed 41 = .ok (.iload 6, 2) := by decide +kernel
theorem d_M_feed_43 : decode b_M_feed 43 = .ok (.iconst 4, 1) := by decide +kernel
theorem d_M_feed_44 : decode b_M_feed 44 = .ok (.if_icmp .ge 7, 3) := by decide +kernel
theorem d_M_feed_47 : decode b_M_feed 47 = .ok (.iload_n 1, 1) := by decide +kernel
theorem d_M_feed_48 : decode b_M_feed 48 = .ok (.goto 39, 3) := by decide +kernel
theorem d_M_feed_51 : decode b_M_feed 51 = .ok (.iload 6, 2) := by decide +kernel
theorem d_M_feed_53 : decode b_M_feed 53 = .ok (.bipush 8, 2) := by decide +kernel
theorem d_M_feed_55 : decode b_M_feed 55 = .ok (.if_icmp .ge 7, 3) := by decide +kernel
theorem d_M_feed_58 : decode b_M_feed 58 = .ok (.iload_n 2, 1) := by decide +kernel
theorem d_M_feed_59 : decode b_M_feed 59 = .ok (.goto 28, 3) := by decide +kernel
theorem d_M_feed_62 : decode b_M_feed 62 = .ok (.iload 6, 2) := by decide +kernel
theorem d_M_feed_64 : decode b_M_feed 64 = .ok (.bipush 12, 2) := by decide +kernel
theorem d_M_feed_66 : decode b_M_feed 66 = .ok (.if_icmp .ge 7, 3) := by decide +kernel
theorem d_M_feed_69 : decode b_M_feed 69 = .ok (.iload_n 3, 1) := by decide +kernel
theorem d_M_feed_70 : decode b_M_feed 70 = .ok (.goto 17, 3) := by decide +kernel
theorem d_M_feed_73 : decode b_M_feed 73 = .ok (.iload 6, 2) := by decide +kernel
theorem d_M_feed_75 : decode b_M_feed 75 = .ok (.bipush 16, 2) := by decide +kernel
theorem d_M_feed_77 : decode b_M_feed 77 = .ok (.if_icmp .ge 8, 3) := by decide +kernel
theorem d_M_feed_80 : decode b_M_feed 80 = .ok (.iload 4, 2) := by decide +kernel
theorem d_M_feed_82 : decode b_M_feed 82 = .ok (.goto 5, 3) := by decide +kernel
theorem d_M_feed_85 : decode b_M_feed 85 = .ok (.iload 5, 2) := by decide +kernel
theorem d_M_feed_87 : decode b_M_feed 87 = .ok (.istore 7, 2) := by decide +kernel
theorem d_M_feed_89 : decode b_M_feed 89 = .ok (.aload_n 0, 1) := by decide +kernel
theorem d_M_feed_90 : decode b_M_feed 90 = .ok (.getfield 190, 3) := by decide +kernel
theorem d_M_feed_93 : decode b_M_feed 93 = .ok (.aload_n 0, 1) := by decide +kernel
theorem d_M_feed_94 : decode b_M_feed 94 = .ok (.getfield 326, 3) := by decide +kernel
theorem d_M_feed_97 : decode b_M_feed 97 = .ok (.iload 6, 2) := by decide +kernel
theorem d_M_feed_99 : decode b_M_feed 99 = .ok (.iadd, 1) := by decide +kernel
theorem d_M_feed_100 : decode b_M_feed 100 = .ok (.iload 7, 2) := by decide +kernel
theorem d_M_feed_102 : decode b_M_feed 102 = .ok (.bipush 24, 2) := by decide +kernel
theorem d_M_feed_104 : decode b_M_feed 104 = .ok (.iload 6, 2) := by decide +kernel
theorem d_M_feed_106 : decode b_M_feed 106 = .ok (.iconst 4, 1) := by decide +kernel
theorem d_M_feed_107 : decode b_M_feed 107 = .ok (.irem, 1) := by decide +kernel
theorem d_M_feed_108 : decode b_M_feed 108 = .ok (.bipush 8, 2) := by decide +kernel
theorem d_M_feed_110 : decode b_M_feed 110 = .ok (.imul, 1) := by decide +kernel
theorem d_M_feed_111 : decode b_M_feed 111 = .ok (.isub, 1) := by decide +kernel
theorem d_M_feed_112 : decode b_M_feed 112 = .ok (.iushr, 1) := by decide +kernel
theorem d_M_feed_113 : decode b_M_feed 113 = .ok (.i2b, 1) := by decide +kernel
theorem d_M_feed_114 : decode b_M_feed 114 = .ok (.bastore, 1) := by decide +kernel
theorem d_M_feed_115 : decode b_M_feed 115 = .ok (.iinc 6 1, 3) := by decide +kernel
theorem d_M_feed_118 : decode b_M_feed 118 = .ok (.goto (-84), 3) := by decide +kernel
theorem d_M_feed_121 : decode b_M_feed 121 = .ok (.aload_n 0, 1) := by decide +kernel
theorem d_M_feed_122 : decode b_M_feed 122 = .ok (.dup, 1) := by decide +kernel
theorem d_M_feed_123 : decode b_M_feed 123 = .ok (.getfield 326, 3) := by decide +kernel
theorem d_M_feed_126 : decode b_M_feed 126 = .ok (.bipush 20, 2) := by decide +kernel
theorem d_M_feed_128 : decode b_M_feed 128 = .ok (.iadd, 1) := by decide +kernel
theorem d_M_feed_129 : decode b_M_feed 129 = .ok (.putfield 326, 3) := by decide +kernel
theorem d_M_feed_132 : decode b_M_feed 132 = .ok (.aload_n 0, 1) := by decide +kernel
theorem d_M_feed_133 : decode b_M_feed 133 = .ok (.getfield 326, 3) := by decide +kernel
theorem d_M_feed_136 : decode b_M_feed 136 = .ok (.ireturn, 1) := by decide +kernel
theorem d_M_end_0 : decode b_M_end 0 = .ok (.aload_n 0, 1) := by decide +kernel
theorem d_M_end_1 : decode b_M_end 1 = .ok (.iload_n 1, 1) := by decide +kernel
theorem d_M_end_2 : decode b_M_end 2 = .ok (.ifCond .lt 20, 3) := by decide +kernel
theorem d_M_end_5 : decode b_M_end 5 = .ok (.iload_n 1, 1) := by decide +kernel
theorem d_M_end_6 : decode b_M_end 6 = .ok (.bipush 19, 2) := by decide +kernel
theorem d_M_end_8 : decode b_M_end 8 = .ok (.if_icmp .gt 14, 3) := by decide +kernel
theorem d_M_end_11 : decode b_M_end 11 = .ok (.bipush 20, 2) := by decide +kernel
theorem d_M_end_13 : decode b_M_end 13 = .ok (.iload_n 1, 1) := by decide +kernel
theorem d_M_end_14 : decode b_M_end 14 = .ok (.isub, 1) := by decide +kernel
theorem d_M_end_15 : decode b_M_end 15 = .ok (.aload_n 0, 1) := by decide +kernel
theorem d_M_end_16 : decode b_M_end 16 = .ok (.getfield 326, 3) := by decide +kernel
theorem d_M_end_19 : decode b_M_end 19 = .ok (.if_icmp .le 7, 3) := by decide +kernel
theorem d_M_end_22 : decode b_M_end 22 = .ok (.iconst 1, 1) := by decide +kernel
theorem d_M_end_23 : decode b_M_end 23 = .ok (.goto 4, 3) := by decide +kernel
theorem d_M_end_26 : decode b_M_end 26 = .ok (.iconst 0, 1) := by decide +kernel
theorem d_M_end_27 : decode b_M_end 27 = .ok (.putfield 210, 3) := by decide +kernel
theorem d_M_end_30 : decode b_M_end 30 = .ok (.aload_n 0, 1) := by decide +kernel
theorem d_M_end_31 : decode b_M_end 31 = .ok (.getfield 210, 3) := by decide +kernel
theorem d_M_end_34 : decode b_M_end 34 = .ok (.ifCond .eq 5, 3) := by decide +kernel
theorem d_M_end_37 : decode b_M_end 37 = .ok (.iconst 0, 1) := by decide +kernel
theorem d_M_end_38 : decode b_M_end 38 = .ok (.ireturn, 1) := by decide +kernel
theorem d_M_end_39 : decode b_M_end 39 = .ok (.aload_n 0, 1) := by decide +kernel
theorem d_M_end_40 : decode b_M_end 40 = .ok (.dup, 1) := by decide +kernel
theorem d_M_end_41 : decode b_M_end 41 = .ok (.getfield 326, 3) := by decide +kernel
theorem d_M_end_44 : decode b_M_end 44 = .ok (.bipush 20, 2) := by decide +kernel
theorem d_M_end_46 : decode b_M_end 46 = .ok (.iload_n 1, 1) := by decide +kernel
theorem d_M_end_47 : decode b_M_end 47 = .ok (.isub, 1) := by decide +kernel
theorem d_M_end_48 : decode b_M_end 48 = .ok (.isub, 1) := by decide +kernel
theorem d_M_end_49 : decode b_M_end 49 = .ok (.putfield 326, 3) := by decide +kernel
theorem d_M_end_52 : decode b_M_end 52 = .ok (.aload_n 0, 1) := by decide +kernel
theorem d_M_end_53 : decode b_M_end 53 = .ok (.getfield 326, 3) := by decide +kernel
theorem d_M_end_56 : decode b_M_end 56 = .ok (.ireturn, 1) := by decide +kernel
theorem d_M_cut_v_0 : decode b_M_cut_v 0 = .ok (.aload_n 0, 1) := by decide +kernel
theorem d_M_cut_v_1 : decode b_M_cut_v 1 = .ok (.iconst 0, 1) := by decide +kernel
theorem d_M_cut_v_2 : decode b_M_cut_v 2 = .ok (.putfield 210, 3) := by decide +kernel
theorem d_M_cut_v_5 : decode b_M_cut_v 5 = .ok (.aload_n 0, 1) := by decide +kernel
theorem d_M_cut_v_6 : decode b_M_cut_v 6 = .ok (.aload_n 0, 1) := by decide +kernel
theorem d_M_cut_v_7 : decode b_M_cut_v 7 = .ok (.getfield 190, 3) := by decide +kernel
theorem d_M_cut_v_10 : decode b_M_cut_v 10 = .ok (.iconst 0, 1) := by decide +kernel
theorem d_M_cut_v_11 : decode b_M_cut_v 11 = .ok (.aload_n 0, 1) := by decide +kernel
theorem d_M_cut_v_12 : decode b_M_cut_v 12 = .ok (.getfield 326, 3) := by decide +kernel
theorem d_M_cut_v_15 : decode b_M_cut_v 15 = .ok (.invokevirtual 329, 3) := by decide +kernel
theorem d_M_cut_v_18 : decode b_M_cut_v 18 = .ok (.aload_n 0, 1) := by decide +kernel
theorem d_M_cut_v_19 : decode b_M_cut_v 19 = .ok (.iconst 0, 1) := by decide +kernel
theorem d_M_cut_v_20 : decode b_M_cut_v 20 = .ok (.putfield 326, 3) := by decide +kernel
theorem d_M_cut_v_23 : decode b_M_cut_v 23 = .ok (.aload_n 0, 1) := by decide +kernel
theorem d_M_cut_v_24 : decode b_M_cut_v 24 = .ok (.aload_n 0, 1) := by decide +kernel
theorem d_M_cut_v_25 : decode b_M_cut_v 25 = .ok (.getfield 194, 3) := by decide +kernel
theorem d_M_cut_v_28 : decode b_M_cut_v 28 = .ok (.iconst 0, 1) := by decide +kernel
theorem d_M_cut_v_29 : decode b_M_cut_v 29 = .ok (.aload_n 0, 1) := by decide +kernel
theorem d_M_cut_v_30 : decode b_M_cut_v 30 = .ok (.getfield 218, 3) := by decide +kernel
theorem d_M_cut_v_33 : decode b_M_cut_v 33 = .ok (.invokevirtual 333, 3) := by decide +kernel
theorem d_M_cut_v_36 : decode b_M_cut_v 36 = .ok (.aload_n 0, 1) := by decide +kernel
theorem d_M_cut_v_37 : decode b_M_cut_v 37 = .ok (.getfield 234, 3) := by decide +kernel
theorem d_M_cut_v_40 : decode b_M_cut_v 40 = .ok (.ireturn, 1) := by decide +kernel
theorem d_M_decode_0 : decode b_M_decode 0 = .ok (.aload_n 0, 1) := by decide +kernel
theorem d_M_decode_1 : decode b_M_decode 1 = .ok (.iconst 0, 1) := by decide +kernel
theorem d_M_decode_2 : decode b_M_decode 2 = .ok (.putfield 218, 3) := by decide +kernel
theorem d_M_decode_5 : decode b_M_decode 5 = .ok (.iload_n 2, 1) := by decide +kernel
theorem d_M_decode_6 : decode b_M_decode 6 = .ok (.istore 4, 2) := by decide +kernel
theorem d_M_decode_8 : decode b_M_decode 8 = .ok (.iload 4, 2) := by decide +kernel
theorem d_M_decode_10 : decode b_M_decode 10 = .ok (.iload_n 3, 1) := by decide +kernel
theorem d_M_decode_11 : decode b_M_decode 11 = .ok (.if_icmp .ge 195, 3) := by decide +kernel
theorem d_M_decode_14 : decode b_M_decode 14 = .ok (.aload_n 1, 1) := by decide +kernel
theorem d_M_decode_15 : decode b_M_decode 15 = .ok (.iload 4, 2) := by decide +kernel
theorem d_M_decode_17 : decode b_M_decode 17 = .ok (.iload_n 3, 1) := by decide +kernel
theorem d_M_decode_18 : decode b_M_decode 18 = .ok (.invokestatic 221, 3) := by decide +kernel
theorem d_M_decode_21 : decode b_M_decode 21 = .ok (.istore 5, 2) := by decide +kernel
theorem d_M_decode_23 : decode b_M_decode 23 = .ok (.ldc 225, 2) := by decide +kernel
theorem d_M_decode_25 : decode b_M_decode 25 = .ok (.istore 6, 2) := by decide +kernel
theorem d_M_decode_27 : decode b_M_decode 27 = .ok (.iload 5, 2) := by decide +kernel
theorem d_M_decode_29 : decode b_M_decode 29 = .ok (.iconst 1, 1) := by decide +kernel
theorem d_M_decode_30 : decode b_M_decode 30 = .ok (.if_icmp .ne 13, 3) := by decide +kernel
theorem d_M_decode_33 : decode b_M_decode 33 = .ok (.aload_n 1, 1) := by decide +kernel
theorem d_M_decode_34 : decode b_M_decode 34 = .ok (.iload 4, 2) := by decide +kernel
theorem d_M_decode_36 : decode b_M_decode 36 = .ok (.baload, 1) := by decide +kernel
theorem d_M_decode_37 : decode b_M_decode 37 = .ok (.sipush 255, 3) := by decide +kernel
theorem d_M_decode_40 : decode b_M_decode 40 = .ok (.iand, 1) := by decide +kernel
theorem d_M_decode_41 : decode b_M_decode 41 = .ok (.istore 6, 2) := by decide +kernel
theorem d_M_decode_43 : decode b_M_decode 43 = .ok (.iload 5, 2) := by decide +kernel
theorem d_M_decode_45 : decode b_M_decode 45 = .ok (.iconst 2, 1) := by decide +kernel
theorem d_M_decode_46 : decode b_M_decode 46 = .ok (.if_icmp .ne 25, 3) := by decide +kernel
theorem d_M_decode_49 : decode b_M_decode 49 = .ok (.aload_n 1, 1) := by decide +kernel
theorem d_M_decode_50 : decode b_M_decode 50 = .ok (.iload 4, 2) := by decide +kernel
theorem d_M_decode_52 : decode b_M_decode 52 = .ok (.baload, 1) := by decide +kernel
theorem d_M_decode_53 : decode b_M_decode 53 = .ok (.bipush 31, 2) := by decide +kernel
theorem d_M_decode_55 : decode b_M_decode 55 = .ok (.iand, 1) := by decide +kernel
theorem d_M_decode_56 : decode b_M_decode 56 = .ok (.bipush 6, 2) := by decide +kernel
theorem d_M_decode_58 : decode b_M_decode 58 = .ok (.ishl, 1) := by decide +kernel
theorem d_M_decode_59 : decode b_M_decode 59 = .ok (.aload_n 1, 1) := by decide +kernel
theorem d_M_decode_60 : decode b_M_decode 60 = .ok (.iload 4, 2) := by decide +kernel
theorem d_M_decode_62 : decode b_M_decode 62 = .ok (.iconst 1, 1) := by decide +kernel
theorem d_M_decode_63 : decode b_M_decode 63 = .ok (.iadd, 1) := by decide +kernel
theorem d_M_decode_64 : decode b_M_decode 64 = .ok (.baload, 1) := by decide +kernel
theorem d_M_decode_65 : decode b_M_decode 65 = .ok (.bipush 63, 2) := by decide +kernel
theorem d_M_decode_67 : decode b_M_decode 67 = .ok (.iand, 1) := by decide +kernel
theorem d_M_decode_68 : decode b_M_decode 68 = .ok (.ior, 1) := by decide +kernel
theorem d_M_decode_69 : decode b_M_decode 69 = .ok (.istore 6, 2) := by decide +kernel
theorem d_M_decode_71 : decode b_M_decode 71 = .ok (.iload 5, 2) := by decide +kernel
theorem d_M_decode_73 : decode b_M_decode 73 = .ok (.iconst 3, 1) := by decide +kernel
theorem d_M_decode_74 : decode b_M_decode 74 = .ok (.if_icmp .ne 38, 3) := by decide +kernel
theorem d_M_decode_77 : decode b_M_decode 77 = .ok (.aload_n 1, 1) := by decide +kernel
theorem d_M_decode_78 : decode b_M_decode 78 = .ok (.iload 4, 2) := by decide +kernel
theorem d_M_decode_80 : decode b_M_decode 80 = .ok (.baload, 1) := by decide +kernel
theorem d_M_decode_81 : decode b_M_decode 81 = .ok (.bipush 15, 2) := by decide +kernel
theorem d_M_decode_83 : decode b_M_decode 83 = .ok (.iand, 1) := by decide +kernel
theorem d_M_decode_84 : decode b_M_decode 84 = .ok (.bipush 12, 2) := by decide +kernel
theorem d_M_decode_86 : decode b_M_decode 86 = .ok (.ishl, 1) := by decide +kernel
theorem d_M_decode_87 : decode b_M_decode 87 = .ok (.aload_n 1, 1) := by decide +kernel
theorem d_M_decode_88 : decode b_M_decode 88 = .ok (.iload 4, 2) := by decide +kernel
theorem d_M_decode_90 : decode b_M_decode 90 = .ok (.iconst 1, 1) := by decide +kernel
theorem d_M_decode_91 : decode b_M_decode 91 = .ok (.iadd, 1) := by decide +kernel
theorem d_M_decode_92 : decode b_M_decode 92 = .ok (.baload, 1) := by decide +kernel
theorem d_M_decode_93 : decode b_M_decode 93 = .ok (.bipush 63, 2) := by decide +kernel
theorem d_M_decode_95 : decode b_M_decode 95 = .ok (.iand, 1) := by decide +kernel
theorem d_M_decode_96 : decode b_M_decode 96 = .ok (.bipush 6, 2) := by decide +kernel
theorem d_M_decode_98 : decode b_M_decode 98 = .ok (.ishl, 1) := by decide +kernel
theorem d_M_decode_99 : decode b_M_decode 99 = .ok (.ior, 1) := by decide +kernel
theorem d_M_decode_100 : decode b_M_decode 100 = .ok (.aload_n 1, 1) := by decide +kernel
theorem d_M_decode_101 : decode b_M_decode 101 = .ok (.iload 4, 2) := by decide +kernel
theorem d_M_decode_103 : decode b_M_decode 103 = .ok (.iconst 2, 1) := by decide +kernel
theorem d_M_decode_104 : decode b_M_decode 104 = .ok (.iadd, 1) := by decide +kernel
theorem d_M_decode_105 : decode b_M_decode 105 = .ok (.baload, 1) := by decide +kernel
theorem d_M_decode_106 : decode b_M_decode 106 = .ok (.bipush 63, 2) := by decide +kernel
theorem d_M_decode_108 : decode b_M_decode 108 = .ok (.iand, 1) := by decide +kernel
theorem d_M_decode_109 : decode b_M_decode 109 = .ok (.ior, 1) := by decide +kernel
theorem d_M_decode_110 : decode b_M_decode 110 = .ok (.istore 6, 2) := by decide +kernel
theorem d_M_decode_112 : decode b_M_decode 112 = .ok (.iload 5, 2) := by decide +kernel
theorem d_M_decode_114 : decode b_M_decode 114 = .ok (.iconst 4, 1) := by decide +kernel
theorem d_M_decode_115 : decode b_M_decode 115 = .ok (.if_icmp .ne 51, 3) := by decide +kernel
theorem d_M_decode_118 : decode b_M_decode 118 = .ok (.aload_n 1, 1) := by decide +kernel
theorem d_M_decode_119 : decode b_M_decode 119 = .ok (.iload 4, 2) := by decide +kernel
theorem d_M_decode_121 : decode b_M_decode 121 = .ok (.baload, 1) := by decide +kernel
theorem d_M_decode_122 : decode b_M_decode 122 = .ok (.bipush 7, 2) := by decide +kernel
theorem d_M_decode_124 : decode b_M_decode 124 = .ok (.iand, 1) := by decide +kernel
theorem d_M_decode_125 : decode b_M_decode 125 = .ok (.bipush 18, 2) := by decide +kernel
theorem d_M_decode_127 : decode b_M_decode 127 = .ok (.ishl, 1) := by decide +kernel
theorem d_M_decode_128 : decode b_M_decode 128 = .ok (.aload_n 1, 1) := by decide +kernel
theorem d_M_decode_129 : decode b_M_decode 129 = .ok (.iload 4, 2) := by decide +kernel
theorem d_M_decode_131 : decode b_M_decode 131 = .ok (.iconst 1, 1) := by decide +kernel
theorem d_M_decode_132 : decode b_M_decode 132 = .ok (.iadd, 1) := by decide +kernel
theorem d_M_decode_133 : decode b_M_decode 133 = .ok (.baload, 1) := by decide +kernel
theorem d_M_decode_134 : decode b_M_decode 134 = .ok (.bipush 63, 2) := by decide +kernel
theorem d_M_decode_136 : decode b_M_decode 136 = .ok (.iand, 1) := by decide +kernel
theorem d_M_decode_137 : decode b_M_decode 137 = .ok (.bipush 12, 2) := by decide +kernel
theorem d_M_decode_139 : decode b_M_decode 139 = .ok (.ishl, 1) := by decide +kernel
theorem d_M_decode_140 : decode b_M_decode 140 = .ok (.ior, 1) := by decide +kernel
theorem d_M_decode_141 : decode b_M_decode 141 = .ok (.aload_n 1, 1) := by decide +kernel
theorem d_M_decode_142 : decode b_M_decode 142 = .ok (.iload 4, 2) := by decide +kernel
theorem d_M_decode_144 : decode b_M_decode 144 = .ok (.iconst 2, 1) := by decide +kernel
theorem d_M_decode_145 : decode b_M_decode 145 = .ok (.iadd, 1) := by decide +kernel
theorem d_M_decode_146 : decode b_M_decode 146 = .ok (.baload, 1) := by decide +kernel
theorem d_M_decode_147 : decode b_M_decode 147 = .ok (.bipush 63, 2) := by decide +kernel
theorem d_M_decode_149 : decode b_M_decode 149 = .ok (.iand, 1) := by decide +kernel
theorem d_M_decode_150 : decode b_M_decode 150 = .ok (.bipush 6, 2) := by decide +kernel
theorem d_M_decode_152 : decode b_M_decode 152 = .ok (.ishl, 1) := by decide +kernel
theorem d_M_decode_153 : decode b_M_decode 153 = .ok (.ior, 1) := by decide +kernel
theorem d_M_decode_154 : decode b_M_decode 154 = .ok (.aload_n 1, 1) := by decide +kernel
theorem d_M_decode_155 : decode b_M_decode 155 = .ok (.iload 4, 2) := by decide +kernel
theorem d_M_decode_157 : decode b_M_decode 157 = .ok (.iconst 3, 1) := by decide +kernel
theorem d_M_decode_158 : decode b_M_decode 158 = .ok (.iadd, 1) := by decide +kernel
theorem d_M_decode_159 : decode b_M_decode 159 = .ok (.baload, 1) := by decide +kernel
theorem d_M_decode_160 : decode b_M_decode 160 = .ok (.bipush 63, 2) := by decide +kernel
theorem d_M_decode_162 : decode b_M_decode 162 = .ok (.iand, 1) := by decide +kernel
theorem d_M_decode_163 : decode b_M_decode 163 = .ok (.ior, 1) := by decide +kernel
theorem d_M_decode_164 : decode b_M_decode 164 = .ok (.istore 6, 2) := by decide +kernel
theorem d_M_decode_166 : decode b_M_decode 166 = .ok (.aload_n 0, 1) := by decide +kernel
theorem d_M_decode_167 : decode b_M_decode 167 = .ok (.getfield 194, 3) := by decide +kernel
theorem d_M_decode_170 : decode b_M_decode 170 = .ok (.aload_n 0, 1) := by decide +kernel
theorem d_M_decode_171 : decode b_M_decode 171 = .ok (.getfield 218, 3) := by decide +kernel
theorem d_M_decode_174 : decode b_M_decode 174 = .ok (.iload 6, 2) := by decide +kernel
theorem d_M_decode_176 : decode b_M_decode 176 = .ok (.iastore, 1) := by decide +kernel
theorem d_M_decode_177 : decode b_M_decode 177 = .ok (.aload_n 0, 1) := by decide +kernel
theorem d_M_decode_178 : decode b_M_decode 178 = .ok (.dup, 1) := by decide +kernel
theorem d_M_decode_179 : decode b_M_decode 179 = .ok (.getfield 218, 3) := by decide +kernel
theorem d_M_decode_182 : decode b_M_decode 182 = .ok (.iconst 1, 1) := by decide +kernel
theorem d_M_decode_183 : decode b_M_decode 183 = .ok (.iadd, 1) := by decide +kernel
theorem d_M_decode_184 : decode b_M_decode 184 = .ok (.putfield 218, 3) := by decide +kernel
theorem d_M_decode_187 : decode b_M_decode 187 = .ok (.iload 4, 2) := by decide +kernel
theorem d_M_decode_189 : decode b_M_decode 189 = .ok (.iload 5, 2) := by decide +kernel
theorem d_M_decode_191 : decode b_M_decode 191 = .ok (.ifCond .ne 7, 3) := by decide +kernel
theorem d_M_decode_194 : decode b_M_decode 194 = .ok (.iconst 1, 1) := by decide +kernel
theorem d_M_decode_195 : decode b_M_decode 195 = .ok (.goto 5, 3) := by decide +kernel
theorem d_M_decode_198 : decode b_M_decode 198 = .ok (.iload 5, 2) := by decide +kernel
theorem d_M_decode_200 : decode b_M_decode 200 = .ok (.iadd, 1) := by decide +kernel
theorem d_M_decode_201 : decode b_M_decode 201 = .ok (.istore 4, 2) := by decide +kernel
theorem d_M_decode_203 : decode b_M_decode 203 = .ok (.goto (-195), 3) := by decide +kernel
theorem d_M_decode_206 : decode b_M_decode 206 = .ok (.return_, 1) := by decide +kernel
theorem d_M_formed_0 : decode b_M_formed 0 = .ok (.aload_n 0, 1) := by decide +kernel
theorem d_M_formed_1 : decode b_M_formed 1 = .ok (.iload_n 1, 1) := by decide +kernel
theorem d_M_formed_2 : decode b_M_formed 2 = .ok (.baload, 1) := by decide +kernel
theorem d_M_formed_3 : decode b_M_formed 3 = .ok (.sipush 255, 3) := by decide +kernel
theorem d_M_formed_6 : decode b_M_formed 6 = .ok (.iand, 1) := by decide +kernel
theorem d_M_formed_7 : decode b_M_formed 7 = .ok (.istore_n 3, 1) := by decide +kernel
theorem d_M_formed_8 : decode b_M_formed 8 = .ok (.iload_n 3, 1) := by decide +kernel
theorem d_M_formed_9 : decode b_M_formed 9 = .ok (.sipush 128, 3) := by decide +kernel
theorem d_M_formed_12 : decode b_M_formed 12 = .ok (.if_icmp .ge 5, 3) := by decide +kernel
theorem d_M_formed_15 : decode b_M_formed 15 = .ok (.iconst 1, 1) := by decide +kernel
theorem d_M_formed_16 : decode b_M_formed 16 = .ok (.ireturn, 1) := by decide +kernel
theorem d_M_formed_17 : decode b_M_formed 17 = .ok (.iload_n 1, 1) := by decide +kernel
theorem d_M_formed_18 : decode b_M_formed 18 = .ok (.iconst 1, 1) := by decide +kernel
theorem d_M_formed_19 : decode b_M_formed 19 = .ok (.iadd, 1) := by decide +kernel
theorem d_M_formed_20 : decode b_M_formed 20 = .ok (.iload_n 2, 1) := by decide +kernel
theorem d_M_formed_21 : decode b_M_formed 21 = .ok (.if_icmp .ge 15, 3) := by decide +kernel
theorem d_M_formed_24 : decode b_M_formed 24 = .ok (.aload_n 0, 1) := by decide +kernel
theorem d_M_formed_25 : decode b_M_formed 25 = .ok (.iload_n 1, 1) := by decide +kernel
theorem d_M_formed_26 : decode b_M_formed 26 = .ok (.iconst 1, 1) := by decide +kernel
theorem d_M_formed_27 : decode b_M_formed 27 = .ok (.iadd, 1) := by decide +kernel
theorem d_M_formed_28 : decode b_M_formed 28 = .ok (.baload, 1) := by decide +kernel
theorem d_M_formed_29 : decode b_M_formed 29 = .ok (.sipush 255, 3) := by decide +kernel
theorem d_M_formed_32 : decode b_M_formed 32 = .ok (.iand, 1) := by decide +kernel
theorem d_M_formed_33 : decode b_M_formed 33 = .ok (.goto 4, 3) := by decide +kernel
theorem d_M_formed_36 : decode b_M_formed 36 = .ok (.iconst 0, 1) := by decide +kernel
theorem d_M_formed_37 : decode b_M_formed 37 = .ok (.istore 4, 2) := by decide +kernel
theorem d_M_formed_39 : decode b_M_formed 39 = .ok (.iload_n 1, 1) := by decide +kernel
theorem d_M_formed_40 : decode b_M_formed 40 = .ok (.iconst 2, 1) := by decide +kernel
theorem d_M_formed_41 : decode b_M_formed 41 = .ok (.iadd, 1) := by decide +kernel
theorem d_M_formed_42 : decode b_M_formed 42 = .ok (.iload_n 2, 1) := by decide +kernel
theorem d_M_formed_43 : decode b_M_formed 43 = .ok (.if_icmp .ge 15, 3) := by decide +kernel
theorem d_M_formed_46 : decode b_M_formed 46 = .ok (.aload_n 0, 1) := by decide +kernel
theorem d_M_formed_47 : decode b_M_formed 47 = .ok (.iload_n 1, 1) := by decide +kernel
theorem d_M_formed_48 : decode b_M_formed 48 = .ok (.iconst 2, 1) := by decide +kernel
theorem d_M_formed_49 : decode b_M_formed 49 = .ok (.iadd, 1) := by decide +kernel
theorem d_M_formed_50 : decode b_M_formed 50 = .ok (.baload, 1) := by decide +kernel
theorem d_M_formed_51 : decode b_M_formed 51 = .ok (.sipush 255, 3) := by decide +kernel
theorem d_M_formed_54 : decode b_M_formed 54 = .ok (.iand, 1) := by decide +kernel
theorem d_M_formed_55 : decode b_M_formed 55 = .ok (.goto 4, 3) := by decide +kernel
theorem d_M_formed_58 : decode b_M_formed 58 = .ok (.iconst 0, 1) := by decide +kernel
theorem d_M_formed_59 : decode b_M_formed 59 = .ok (.istore 5, 2) := by decide +kernel
theorem d_M_formed_61 : decode b_M_formed 61 = .ok (.iload_n 1, 1) := by decide +kernel
theorem d_M_formed_62 : decode b_M_formed 62 = .ok (.iconst 3, 1) := by decide +kernel
theorem d_M_formed_63 : decode b_M_formed 63 = .ok (.iadd, 1) := by decide +kernel
theorem d_M_formed_64 : decode b_M_formed 64 = .ok (.iload_n 2, 1) := by decide +kernel
theorem d_M_formed_65 : decode b_M_formed 65 = .ok (.if_icmp .ge 15, 3) := by decide +kernel
theorem d_M_formed_68 : decode b_M_formed 68 = .ok (.aload_n 0, 1) := by decide +kernel
theorem d_M_formed_69 : decode b_M_formed 69 = .ok (.iload_n 1, 1) := by decide +kernel
theorem d_M_formed_70 : decode b_M_formed 70 = .ok (.iconst 3, 1) := by decide +kernel
theorem d_M_formed_71 : decode b_M_formed 71 = .ok (.iadd, 1) := by decide +kernel
theorem d_M_formed_72 : decode b_M_formed 72 = .ok (.baload, 1) := by decide +kernel
theorem d_M_formed_73 : decode b_M_formed 73 = .ok (.sipush 255, 3) := by decide +kernel
theorem d_M_formed_76 : decode b_M_formed 76 = .ok (.iand, 1) := by decide +kernel
theorem d_M_formed_77 : decode b_M_formed 77 = .ok (.goto 4, 3) := by decide +kernel
theorem d_M_formed_80 : decode b_M_formed 80 = .ok (.iconst 0, 1) := by decide +kernel
theorem d_M_formed_81 : decode b_M_formed 81 = .ok (.istore 6, 2) := by decide +kernel
theorem d_M_formed_83 : decode b_M_formed 83 = .ok (.iload_n 3, 1) := by decide +kernel
theorem d_M_formed_84 : decode b_M_formed 84 = .ok (.sipush 194, 3) := by decide +kernel
theorem d_M_formed_87 : decode b_M_formed 87 = .ok (.if_icmp .lt 24, 3) := by decide +kernel
theorem d_M_formed_90 : decode b_M_formed 90 = .ok (.iload_n 3, 1) := by decide +kernel
theorem d_M_formed_91 : decode b_M_formed 91 = .ok (.sipush 223, 3) := by decide +kernel
theorem d_M_formed_94 : decode b_M_formed 94 = .ok (.if_icmp .gt 17, 3) := by decide +kernel
theorem d_M_formed_97 : decode b_M_formed 97 = .ok (.iload 4, 2) := by decide +kernel
theorem d_M_formed_99 : decode b_M_formed 99 = .ok (.invokestatic 214, 3) := by decide +kernel
theorem d_M_formed_102 : decode b_M_formed 102 = .ok (.ifCond .eq 7, 3) := by decide +kernel
theorem d_M_formed_105 : decode b_M_formed 105 = .ok (.iconst 2, 1) := by decide +kernel
theorem d_M_formed_106 : decode b_M_formed 106 = .ok (.goto 4, 3) := by decide +kernel
theorem d_M_formed_109 : decode b_M_formed 109 = .ok (.iconst 0, 1) := by decide +kernel
theorem d_M_formed_110 : decode b_M_formed 110 = .ok (.ireturn, 1) := by decide +kernel
theorem d_M_formed_111 : decode b_M_formed 111 = .ok (.iload_n 3, 1) := by decide +kernel
theorem d_M_formed_112 : decode b_M_formed 112 = .ok (.sipush 224, 3) := by decide +kernel
theorem d_M_formed_115 : decode b_M_formed 115 = .ok (.if_icmp .ne 33, 3) := by decide +kernel
theorem d_M_formed_118 : decode b_M_formed 118 = .ok (.iload 4, 2) := by decide +kernel
theorem d_M_formed_120 : decode b_M_formed 120 = .ok (.sipush 160, 3) := by decide +kernel
theorem d_M_formed_123 : decode b_M_formed 123 = .ok (.if_icmp .lt 23, 3) := by decide +kernel
theorem d_M_formed_126 : decode b_M_formed 126 = .ok (.iload 4, 2) := by decide +kernel
theorem d_M_formed_128 : decode b_M_formed 128 = .ok (.invokestatic 214, 3) := by decide +kernel
theorem d_M_formed_131 : decode b_M_formed 131 = .ok (.ifCond .eq 15, 3) := by decide +kernel
theorem d_M_formed_134 : decode b_M_formed 134 = .ok (.iload 5, 2) := by decide +kernel
theorem d_M_formed_136 : decode b_M_formed 136 = .ok (.invokestatic 214, 3) := by decide +kernel
theorem d_M_formed_139 : decode b_M_formed 139 = .ok (.ifCond .eq 7, 3) := by decide +kernel
theorem d_M_formed_142 : decode b_M_formed 142 = .ok (.iconst 3, 1) := by decide +kernel
theorem d_M_formed_143 : decode b_M_formed 143 = .ok (.goto 4, 3) := by decide +kernel
theorem d_M_formed_146 : decode b_M_formed 146 = .ok (.iconst 0, 1) := by decide +kernel
theorem d_M_formed_147 : decode b_M_formed 147 = .ok (.ireturn, 1) := by decide +kernel
theorem d_M_formed_148 : decode b_M_formed 148 = .ok (.iload_n 3, 1) := by decide +kernel
theorem d_M_formed_149 : decode b_M_formed 149 = .ok (.sipush 237, 3) := by decide +kernel
theorem d_M_formed_152 : decode b_M_formed 152 = .ok (.if_icmp .ne 33, 3) := by decide +kernel
theorem d_M_formed_155 : decode b_M_formed 155 = .ok (.iload 4, 2) := by decide +kernel
theorem d_M_formed_157 : decode b_M_formed 157 = .ok (.invokestatic 214, 3) := by decide +kernel
theorem d_M_formed_160 : decode b_M_formed 160 = .ok (.ifCond .eq 23, 3) := by decide +kernel
theorem d_M_formed_163 : decode b_M_formed 163 = .ok (.iload 4, 2) := by decide +kernel
theorem d_M_formed_165 : decode b_M_formed 165 = .ok (.sipush 160, 3) := by decide +kernel
theorem d_M_formed_168 : decode b_M_formed 168 = .ok (.if_icmp .ge 15, 3) := by decide +kernel
theorem d_M_formed_171 : decode b_M_formed 171 = .ok (.iload 5, 2) := by decide +kernel
theorem d_M_formed_173 : decode b_M_formed 173 = .ok (.invokestatic 214, 3) := by decide +kernel
theorem d_M_formed_176 : decode b_M_formed 176 = .ok (.ifCond .eq 7, 3) := by decide +kernel
theorem d_M_formed_179 : decode b_M_formed 179 = .ok (.iconst 3, 1) := by decide +kernel
theorem d_M_formed_180 : decode b_M_formed 180 = .ok (.goto 4, 3) := by decide +kernel
theorem d_M_formed_183 : decode b_M_formed 183 = .ok (.iconst 0, 1) := by decide +kernel
theorem d_M_formed_184 : decode b_M_formed 184 = .ok (.ireturn, 1) := by decide +kernel
theorem d_M_formed_185 : decode b_M_formed 185 = .ok (.iload_n 3, 1) := by decide +kernel
theorem d_M_formed_186 : decode b_M_formed 186 = .ok (.sipush 225, 3) := by decide +kernel
theorem d_M_formed_189 : decode b_M_formed 189 = .ok (.if_icmp .lt 32, 3) := by decide +kernel
theorem d_M_formed_192 : decode b_M_formed 192 = .ok (.iload_n 3, 1) := by decide +kernel
theorem d_M_formed_193 : decode b_M_formed 193 = .ok (.sipush 239, 3) := by decide +kernel
theorem d_M_formed_196 : decode b_M_formed 196 = .ok (.if_icmp .gt 25, 3) := by decide +kernel
theorem d_M_formed_199 : decode b_M_formed 199 = .ok (.iload 4, 2) := by decide +kernel
theorem d_M_formed_201 : decode b_M_formed 201 = .ok (.invokestatic 214, 3) := by decide +kernel
theorem d_M_formed_204 : decode b_M_formed 204 = .ok (.ifCond .eq 15, 3) := by decide +kernel
theorem d_M_formed_207 : decode b_M_formed 207 = .ok (.iload 5, 2) := by decide +kernel
theorem d_M_formed_209 : decode b_M_formed 209 = .ok (.invokestatic 214, 3) := by decide +kernel
theorem d_M_formed_212 : decode b_M_formed 212 = .ok (.ifCond .eq 7, 3) := by decide +kernel
theorem d_M_formed_215 : decode b_M_formed 215 = .ok (.iconst 3, 1) := by decide +kernel
theorem d_M_formed_216 : decode b_M_formed 216 = .ok (.goto 4, 3) := by decide +kernel
theorem d_M_formed_219 : decode b_M_formed 219 = .ok (.iconst 0, 1) := by decide +kernel
theorem d_M_formed_220 : decode b_M_formed 220 = .ok (.ireturn, 1) := by decide +kernel
theorem d_M_formed_221 : decode b_M_formed 221 = .ok (.iload_n 3, 1) := by decide +kernel
theorem d_M_formed_222 : decode b_M_formed 222 = .ok (.sipush 240, 3) := by decide +kernel
theorem d_M_formed_225 : decode b_M_formed 225 = .ok (.if_icmp .ne 41, 3) := by decide +kernel
theorem d_M_formed_228 : decode b_M_formed 228 = .ok (.iload 4, 2) := by decide +kernel
theorem d_M_formed_230 : decode b_M_formed 230 = .ok (.sipush 144, 3) := by decide +kernel
theorem d_M_formed_233 : decode b_M_formed 233 = .ok (.if_icmp .lt 31, 3) := by decide +kernel
theorem d_M_formed_236 : decode b_M_formed 236 = .ok (.iload 4, 2) := by decide +kernel
theorem d_M_formed_238 : decode b_M_formed 238 = .ok (.invokestatic 214, 3) := by decide +kernel
theorem d_M_formed_241 : decode b_M_formed 241 = .ok (.ifCond .eq 23, 3) := by decide +kernel
theorem d_M_formed_244 : decode b_M_formed 244 = .ok (.iload 5, 2) := by decide +kernel
theorem d_M_formed_246 : decode b_M_formed 246 = .ok (.invokestatic 214, 3) := by decide +kernel
theorem d_M_formed_249 : decode b_M_formed 249 = .ok (.ifCond .eq 15, 3) := by decide +kernel
theorem d_M_formed_252 : decode b_M_formed 252 = .ok (.iload 6, 2) := by decide +kernel
theorem d_M_formed_254 : decode b_M_formed 254 = .ok (.invokestatic 214, 3) := by decide +kernel
theorem d_M_formed_257 : decode b_M_formed 257 = .ok (.ifCond .eq 7, 3) := by decide +kernel
theorem d_M_formed_260 : decode b_M_formed 260 = .ok (.iconst 4, 1) := by decide +kernel
theorem d_M_formed_261 : decode b_M_formed 261 = .ok (.goto 4, 3) := by decide +kernel
theorem d_M_formed_264 : decode b_M_formed 264 = .ok (.iconst 0, 1) := by decide +kernel
theorem d_M_formed_265 : decode b_M_formed 265 = .ok (.ireturn, 1) := by decide +kernel
theorem d_M_formed_266 : decode b_M_formed 266 = .ok (.iload_n 3, 1) := by decide +kernel
theorem d_M_formed_267 : decode b_M_formed 267 = .ok (.sipush 241, 3) := by decide +kernel
theorem d_M_formed_270 : decode b_M_formed 270 = .ok (.if_icmp .lt 40, 3) := by decide +kernel
theorem d_M_formed_273 : decode b_M_formed 273 = .ok (.iload_n 3, 1) := by decide +kernel
theorem d_M_formed_274 : decode b_M_formed 274 = .ok (.sipush 243, 3) := by decide +kernel
theorem d_M_formed_277 : decode b_M_formed 277 = .ok (.if_icmp .gt 33, 3) := by decide +kernel
theorem d_M_formed_280 : decode b_M_formed 280 = .ok (.iload 4, 2) := by decide +kernel
theorem d_M_formed_282 : decode b_M_formed 282 = .ok (.invokestatic 214, 3) := by decide +kernel
theorem d_M_formed_285 : decode b_M_formed 285 = .ok (.ifCond .eq 23, 3) := by decide +kernel
theorem d_M_formed_288 : decode b_M_formed 288 = .ok (.iload 5, 2) := by decide +kernel
theorem d_M_formed_290 : decode b_M_formed 290 = .ok (.invokestatic 214, 3) := by decide +kernel
theorem d_M_formed_293 : decode b_M_formed 293 = .ok (.ifCond .eq 15, 3) := by decide +kernel
theorem d_M_formed_296 : decode b_M_formed 296 = .ok (.iload 6, 2) := by decide +kernel
theorem d_M_formed_298 : decode b_M_formed 298 = .ok (.invokestatic 214, 3) := by decide +kernel
theorem d_M_formed_301 : decode b_M_formed 301 = .ok (.ifCond .eq 7, 3) := by decide +kernel
theorem d_M_formed_304 : decode b_M_formed 304 = .ok (.iconst 4, 1) := by decide +kernel
theorem d_M_formed_305 : decode b_M_formed 305 = .ok (.goto 4, 3) := by decide +kernel
theorem d_M_formed_308 : decode b_M_formed 308 = .ok (.iconst 0, 1) := by decide +kernel
theorem d_M_formed_309 : decode b_M_formed 309 = .ok (.ireturn, 1) := by decide +kernel
theorem d_M_formed_310 : decode b_M_formed 310 = .ok (.iload_n 3, 1) := by decide +kernel
theorem d_M_formed_311 : decode b_M_formed 311 = .ok (.sipush 244, 3) := by decide +kernel
theorem d_M_formed_314 : decode b_M_formed 314 = .ok (.if_icmp .ne 41, 3) := by decide +kernel
theorem d_M_formed_317 : decode b_M_formed 317 = .ok (.iload 4, 2) := by decide +kernel
theorem d_M_formed_319 : decode b_M_formed 319 = .ok (.invokestatic 214, 3) := by decide +kernel
theorem d_M_formed_322 : decode b_M_formed 322 = .ok (.ifCond .eq 31, 3) := by decide +kernel
theorem d_M_formed_325 : decode b_M_formed 325 = .ok (.iload 4, 2) := by decide +kernel
theorem d_M_formed_327 : decode b_M_formed 327 = .ok (.sipush 144, 3) := by decide +kernel
theorem d_M_formed_330 : decode b_M_formed 330 = .ok (.if_icmp .ge 23, 3) := by decide +kernel
theorem d_M_formed_333 : decode b_M_formed 333 = .ok (.iload 5, 2) := by decide +kernel
theorem d_M_formed_335 : decode b_M_formed 335 = .ok (.invokestatic 214, 3) := by decide +kernel
theorem d_M_formed_338 : decode b_M_formed 338 = .ok (.ifCond .eq 15, 3) := by decide +kernel
theorem d_M_formed_341 : decode b_M_formed 341 = .ok (.iload 6, 2) := by decide +kernel
theorem d_M_formed_343 : decode b_M_formed 343 = .ok (.invokestatic 214, 3) := by decide +kernel
theorem d_M_formed_346 : decode b_M_formed 346 = .ok (.ifCond .eq 7, 3) := by decide +kernel
theorem d_M_formed_349 : decode b_M_formed 349 = .ok (.iconst 4, 1) := by decide +kernel
theorem d_M_formed_350 : decode b_M_formed 350 = .ok (.goto 4, 3) := by decide +kernel
theorem d_M_formed_353 : decode b_M_formed 353 = .ok (.iconst 0, 1) := by decide +kernel
theorem d_M_formed_354 : decode b_M_formed 354 = .ok (.ireturn, 1) := by decide +kernel
theorem d_M_formed_355 : decode b_M_formed 355 = .ok (.iconst 0, 1) := by decide +kernel
theorem d_M_formed_356 : decode b_M_formed 356 = .ok (.ireturn, 1) := by decide +kernel
theorem d_M_tail_0 : decode b_M_tail 0 = .ok (.iload_n 0, 1) := by decide +kernel
theorem d_M_tail_1 : decode b_M_tail 1 = .ok (.sipush 128, 3) := by decide +kernel
theorem d_M_tail_4 : decode b_M_tail 4 = .ok (.if_icmp .lt 14, 3) := by decide +kernel
theorem d_M_tail_7 : decode b_M_tail 7 = .ok (.iload_n 0, 1) := by decide +kernel
theorem d_M_tail_8 : decode b_M_tail 8 = .ok (.sipush 192, 3) := by decide +kernel
theorem d_M_tail_11 : decode b_M_tail 11 = .ok (.if_icmp .ge 7, 3) := by decide +kernel
theorem d_M_tail_14 : decode b_M_tail 14 = .ok (.iconst 1, 1) := by decide +kernel
theorem d_M_tail_15 : decode b_M_tail 15 = .ok (.goto 4, 3) := by decide +kernel
theorem d_M_tail_18 : decode b_M_tail 18 = .ok (.iconst 0, 1) := by decide +kernel
theorem d_M_tail_19 : decode b_M_tail 19 = .ok (.ireturn, 1) := by decide +kernel
theorem d_M_cut_aIII_0 : decode b_M_cut_aIII 0 = .ok (.aload_n 0, 1) := by decide +kernel
theorem d_M_cut_aIII_1 : decode b_M_cut_aIII 1 = .ok (.iconst 0, 1) := by decide +kernel
theorem d_M_cut_aIII_2 : decode b_M_cut_aIII 2 = .ok (.putfield 234, 3) := by decide +kernel
theorem d_M_cut_aIII_5 : decode b_M_cut_aIII 5 = .ok (.aload_n 0, 1) := by decide +kernel
theorem d_M_cut_aIII_6 : decode b_M_cut_aIII 6 = .ok (.iconst 0, 1) := by decide +kernel
theorem d_M_cut_aIII_7 : decode b_M_cut_aIII 7 = .ok (.putfield 237, 3) := by decide +kernel
theorem d_M_cut_aIII_10 : decode b_M_cut_aIII 10 = .ok (.aload_n 0, 1) := by decide +kernel
theorem d_M_cut_aIII_11 : decode b_M_cut_aIII 11 = .ok (.getfield 201, 3) := by decide +kernel
theorem d_M_cut_aIII_14 : decode b_M_cut_aIII 14 = .ok (.iconst 0, 1) := by decide +kernel
theorem d_M_cut_aIII_15 : decode b_M_cut_aIII 15 = .ok (.iconst 0, 1) := by decide +kernel
theorem d_M_cut_aIII_16 : decode b_M_cut_aIII 16 = .ok (.iastore, 1) := by decide +kernel
theorem d_M_cut_aIII_17 : decode b_M_cut_aIII 17 = .ok (.iload_n 2, 1) := by decide +kernel
theorem d_M_cut_aIII_18 : decode b_M_cut_aIII 18 = .ok (.istore 4, 2) := by decide +kernel
theorem d_M_cut_aIII_20 : decode b_M_cut_aIII 20 = .ok (.iload 4, 2) := by decide +kernel
theorem d_M_cut_aIII_22 : decode b_M_cut_aIII 22 = .ok (.iload_n 3, 1) := by decide +kernel
theorem d_M_cut_aIII_23 : decode b_M_cut_aIII 23 = .ok (.if_icmp .ge 174, 3) := by decide +kernel
theorem d_M_cut_aIII_26 : decode b_M_cut_aIII 26 = .ok (.aload_n 1, 1) := by decide +kernel
theorem d_M_cut_aIII_27 : decode b_M_cut_aIII 27 = .ok (.iload 4, 2) := by decide +kernel
theorem d_M_cut_aIII_29 : decode b_M_cut_aIII 29 = .ok (.iaload, 1) := by decide +kernel
theorem d_M_cut_aIII_30 : decode b_M_cut_aIII 30 = .ok (.invokestatic 227, 3) := by decide +kernel
theorem d_M_cut_aIII_33 : decode b_M_cut_aIII 33 = .ok (.istore 5, 2) := by decide +kernel
theorem d_M_cut_aIII_35 : decode b_M_cut_aIII 35 = .ok (.iload 4, 2) := by decide +kernel
theorem d_M_cut_aIII_37 : decode b_M_cut_aIII 37 = .ok (.iconst 1, 1) := by decide +kernel
theorem d_M_cut_aIII_38 : decode b_M_cut_aIII 38 = .ok (.iadd, 1) := by decide +kernel
theorem d_M_cut_aIII_39 : decode b_M_cut_aIII 39 = .ok (.istore 6, 2) := by decide +kernel
theorem d_M_cut_aIII_41 : decode b_M_cut_aIII 41 = .ok (.iload 5, 2) := by decide +kernel
theorem d_M_cut_aIII_43 : decode b_M_cut_aIII 43 = .ok (.iconst 1, 1) := by decide +kernel
theorem d_M_cut_aIII_44 : decode b_M_cut_aIII 44 = .ok (.if_icmp .eq 16, 3) := by decide +kernel
theorem d_M_cut_aIII_47 : decode b_M_cut_aIII 47 = .ok (.iload 5, 2) := by decide +kernel
theorem d_M_cut_aIII_49 : decode b_M_cut_aIII 49 = .ok (.iconst 2, 1) := by decide +kernel
theorem d_M_cut_aIII_50 : decode b_M_cut_aIII 50 = .ok (.if_icmp .eq 10, 3) := by decide +kernel
theorem d_M_cut_aIII_53 : decode b_M_cut_aIII 53 = .ok (.iload 5, 2) := by decide +kernel
theorem d_M_cut_aIII_55 : decode b_M_cut_aIII 55 = .ok (.bipush 7, 2) := by decide +kernel
theorem d_M_cut_aIII_57 : decode b_M_cut_aIII 57 = .ok (.if_icmp .ne 7, 3) := by decide +kernel
theorem d_M_cut_aIII_60 : decode b_M_cut_aIII 60 = .ok (.iconst 1, 1) := by decide +kernel
theorem d_M_cut_aIII_61 : decode b_M_cut_aIII 61 = .ok (.goto 4, 3) := by decide +kernel
theorem d_M_cut_aIII_64 : decode b_M_cut_aIII 64 = .ok (.iconst 0, 1) := by decide +kernel
theorem d_M_cut_aIII_65 : decode b_M_cut_aIII 65 = .ok (.istore 7, 2) := by decide +kernel
theorem d_M_cut_aIII_67 : decode b_M_cut_aIII 67 = .ok (.iload 5, 2) := by decide +kernel
theorem d_M_cut_aIII_69 : decode b_M_cut_aIII 69 = .ok (.invokestatic 231, 3) := by decide +kernel
theorem d_M_cut_aIII_72 : decode b_M_cut_aIII 72 = .ok (.ifCond .eq 75, 3) := by decide +kernel
theorem d_M_cut_aIII_75 : decode b_M_cut_aIII 75 = .ok (.aload_n 1, 1) := by decide +kernel
theorem d_M_cut_aIII_76 : decode b_M_cut_aIII 76 = .ok (.iload 6, 2) := by decide +kernel
theorem d_M_cut_aIII_78 : decode b_M_cut_aIII 78 = .ok (.iconst 1, 1) := by decide +kernel
theorem d_M_cut_aIII_79 : decode b_M_cut_aIII 79 = .ok (.isub, 1) := by decide +kernel
theorem d_M_cut_aIII_80 : decode b_M_cut_aIII 80 = .ok (.iload_n 3, 1) := by decide +kernel
theorem d_M_cut_aIII_81 : decode b_M_cut_aIII 81 = .ok (.invokestatic 240, 3) := by decide +kernel
theorem d_M_cut_aIII_84 : decode b_M_cut_aIII 84 = .ok (.istore 8, 2) := by decide +kernel
theorem d_M_cut_aIII_86 : decode b_M_cut_aIII 86 = .ok (.iload 8, 2) := by decide +kernel
theorem d_M_cut_aIII_88 : decode b_M_cut_aIII 88 = .ok (.ifCond .le 59, 3) := by decide +kernel
theorem d_M_cut_aIII_91 : decode b_M_cut_aIII 91 = .ok (.iload 6, 2) := by decide +kernel
theorem d_M_cut_aIII_93 : decode b_M_cut_aIII 93 = .ok (.iload 8, 2) := by decide +kernel
theorem d_M_cut_aIII_95 : decode b_M_cut_aIII 95 = .ok (.iadd, 1) := by decide +kernel
theorem d_M_cut_aIII_96 : decode b_M_cut_aIII 96 = .ok (.istore 6, 2) := by decide +kernel
theorem d_M_cut_aIII_98 : decode b_M_cut_aIII 98 = .ok (.aload_n 1, 1) := by decide +kernel
theorem d_M_cut_aIII_99 : decode b_M_cut_aIII 99 = .ok (.iload 6, 2) := by decide +kernel
theorem d_M_cut_aIII_101 : decode b_M_cut_aIII 101 = .ok (.iconst 1, 1) := by decide +kernel
theorem d_M_cut_aIII_102 : decode b_M_cut_aIII 102 = .ok (.isub, 1) := by decide +kernel
theorem d_M_cut_aIII_103 : decode b_M_cut_aIII 103 = .ok (.iaload, 1) := by decide +kernel
theorem d_M_cut_aIII_104 : decode b_M_cut_aIII 104 = .ok (.invokestatic 227, 3) := by decide +kernel
theorem d_M_cut_aIII_107 : decode b_M_cut_aIII 107 = .ok (.istore 9, 2) := by decide +kernel
theorem d_M_cut_aIII_109 : decode b_M_cut_aIII 109 = .ok (.iload 7, 2) := by decide +kernel
theorem d_M_cut_aIII_111 : decode b_M_cut_aIII 111 = .ok (.ifCond .ne 15, 3) := by decide +kernel
theorem d_M_cut_aIII_114 : decode b_M_cut_aIII 114 = .ok (.iload 9, 2) := by decide +kernel
theorem d_M_cut_aIII_116 : decode b_M_cut_aIII 116 = .ok (.iconst 1, 1) := by decide +kernel
theorem d_M_cut_aIII_117 : decode b_M_cut_aIII 117 = .ok (.if_icmp .eq 9, 3) := by decide +kernel
theorem d_M_cut_aIII_120 : decode b_M_cut_aIII 120 = .ok (.iload 9, 2) := by decide +kernel
theorem d_M_cut_aIII_122 : decode b_M_cut_aIII 122 = .ok (.iconst 2, 1) := by decide +kernel
theorem d_M_cut_aIII_123 : decode b_M_cut_aIII 123 = .ok (.if_icmp .ne 7, 3) := by decide +kernel
theorem d_M_cut_aIII_126 : decode b_M_cut_aIII 126 = .ok (.iconst 1, 1) := by decide +kernel
theorem d_M_cut_aIII_127 : decode b_M_cut_aIII 127 = .ok (.goto 4, 3) := by decide +kernel
theorem d_M_cut_aIII_130 : decode b_M_cut_aIII 130 = .ok (.iconst 0, 1) := by decide +kernel
theorem d_M_cut_aIII_131 : decode b_M_cut_aIII 131 = .ok (.istore 7, 2) := by decide +kernel
theorem d_M_cut_aIII_133 : decode b_M_cut_aIII 133 = .ok (.aload_n 1, 1) := by decide +kernel
theorem d_M_cut_aIII_134 : decode b_M_cut_aIII 134 = .ok (.iload 6, 2) := by decide +kernel
theorem d_M_cut_aIII_136 : decode b_M_cut_aIII 136 = .ok (.iconst 1, 1) := by decide +kernel
theorem d_M_cut_aIII_137 : decode b_M_cut_aIII 137 = .ok (.isub, 1) := by decide +kernel
theorem d_M_cut_aIII_138 : decode b_M_cut_aIII 138 = .ok (.iload_n 3, 1) := by decide +kernel
theorem d_M_cut_aIII_139 : decode b_M_cut_aIII 139 = .ok (.invokestatic 240, 3) := by decide +kernel
theorem d_M_cut_aIII_142 : decode b_M_cut_aIII 142 = .ok (.istore 8, 2) := by decide +kernel
theorem d_M_cut_aIII_144 : decode b_M_cut_aIII 144 = .ok (.goto (-58), 3) := by decide +kernel
theorem d_M_cut_aIII_147 : decode b_M_cut_aIII 147 = .ok (.iload 7, 2) := by decide +kernel
theorem d_M_cut_aIII_149 : decode b_M_cut_aIII 149 = .ok (.ifCond .eq 41, 3) := by decide +kernel
theorem d_M_cut_aIII_152 : decode b_M_cut_aIII 152 = .ok (.iload 4, 2) := by decide +kernel
theorem d_M_cut_aIII_154 : decode b_M_cut_aIII 154 = .ok (.istore 8, 2) := by decide +kernel
theorem d_M_cut_aIII_156 : decode b_M_cut_aIII 156 = .ok (.iload 8, 2) := by decide +kernel
theorem d_M_cut_aIII_158 : decode b_M_cut_aIII 158 = .ok (.iload 6, 2) := by decide +kernel
theorem d_M_cut_aIII_160 : decode b_M_cut_aIII 160 = .ok (.if_icmp .ge 30, 3) := by decide +kernel
theorem d_M_cut_aIII_163 : decode b_M_cut_aIII 163 = .ok (.aload_n 0, 1) := by decide +kernel
theorem d_M_cut_aIII_164 : decode b_M_cut_aIII 164 = .ok (.aload_n 1, 1) := by decide +kernel
theorem d_M_cut_aIII_165 : decode b_M_cut_aIII 165 = .ok (.iload 8, 2) := by decide +kernel
theorem d_M_cut_aIII_167 : decode b_M_cut_aIII 167 = .ok (.iload 8, 2) := by decide +kernel
theorem d_M_cut_aIII_169 : decode b_M_cut_aIII 169 = .ok (.sipush 255, 3) := by decide +kernel
theorem d_M_cut_aIII_172 : decode b_M_cut_aIII 172 = .ok (.iadd, 1) := by decide +kernel
theorem d_M_cut_aIII_173 : decode b_M_cut_aIII 173 = .ok (.iload 6, 2) := by decide +kernel
theorem d_M_cut_aIII_175 : decode b_M_cut_aIII 175 = .ok (.invokestatic 244, 3) := by decide +kernel
theorem d_M_cut_aIII_178 : decode b_M_cut_aIII 178 = .ok (.invokevirtual 250, 3) := by decide +kernel
theorem d_M_cut_aIII_181 : decode b_M_cut_aIII 181 = .ok (.iinc 8 255, 6) := by decide +kernel
theorem d_M_cut_aIII_187 : decode b_M_cut_aIII 187 = .ok (.goto (-31), 3) := by decide +kernel
theorem d_M_cut_aIII_190 : decode b_M_cut_aIII 190 = .ok (.iload 6, 2) := by decide +kernel
theorem d_M_cut_aIII_192 : decode b_M_cut_aIII 192 = .ok (.istore 4, 2) := by decide +kernel
theorem d_M_cut_aIII_194 : decode b_M_cut_aIII 194 = .ok (.goto (-174), 3) := by decide +kernel
theorem d_M_cut_aIII_197 : decode b_M_cut_aIII 197 = .ok (.return_, 1) := by decide +kernel
theorem d_M_sortOf_0 : decode b_M_sortOf 0 = .ok (.iload_n 0, 1) := by decide +kernel
theorem d_M_sortOf_1 : decode b_M_sortOf 1 = .ok (.bipush 97, 2) := by decide +kernel
theorem d_M_sortOf_3 : decode b_M_sortOf 3 = .ok (.if_icmp .lt 9, 3) := by decide +kernel
theorem d_M_sortOf_6 : decode b_M_sortOf 6 = .ok (.iload_n 0, 1) := by decide +kernel
theorem d_M_sortOf_7 : decode b_M_sortOf 7 = .ok (.bipush 122, 2) := by decide +kernel
theorem d_M_sortOf_9 : decode b_M_sortOf 9 = .ok (.if_icmp .le 21, 3) := by decide +kernel
theorem d_M_sortOf_12 : decode b_M_sortOf 12 = .ok (.iload_n 0, 1) := by decide +kernel
theorem d_M_sortOf_13 : decode b_M_sortOf 13 = .ok (.bipush 65, 2) := by decide +kernel
theorem d_M_sortOf_15 : decode b_M_sortOf 15 = .ok (.if_icmp .lt 9, 3) := by decide +kernel
theorem d_M_sortOf_18 : decode b_M_sortOf 18 = .ok (.iload_n 0, 1) := by decide +kernel
theorem d_M_sortOf_19 : decode b_M_sortOf 19 = .ok (.bipush 90, 2) := by decide +kernel
theorem d_M_sortOf_21 : decode b_M_sortOf 21 = .ok (.if_icmp .le 9, 3) := by decide +kernel
theorem d_M_sortOf_24 : decode b_M_sortOf 24 = .ok (.iload_n 0, 1) := by decide +kernel
theorem d_M_sortOf_25 : decode b_M_sortOf 25 = .ok (.bipush 95, 2) := by decide +kernel
theorem d_M_sortOf_27 : decode b_M_sortOf 27 = .ok (.if_icmp .ne 15, 3) := by decide +kernel
theorem d_M_sortOf_30 : decode b_M_sortOf 30 = .ok (.iload_n 0, 1) := by decide +kernel
theorem d_M_sortOf_31 : decode b_M_sortOf 31 = .ok (.bipush 95, 2) := by decide +kernel
theorem d_M_sortOf_33 : decode b_M_sortOf 33 = .ok (.if_icmp .ne 7, 3) := by decide +kernel
theorem d_M_sortOf_36 : decode b_M_sortOf 36 = .ok (.iconst 3, 1) := by decide +kernel
theorem d_M_sortOf_37 : decode b_M_sortOf 37 = .ok (.goto 4, 3) := by decide +kernel
theorem d_M_sortOf_40 : decode b_M_sortOf 40 = .ok (.iconst 1, 1) := by decide +kernel
theorem d_M_sortOf_41 : decode b_M_sortOf 41 = .ok (.ireturn, 1) := by decide +kernel
theorem d_M_sortOf_42 : decode b_M_sortOf 42 = .ok (.iload_n 0, 1) := by decide +kernel
theorem d_M_sortOf_43 : decode b_M_sortOf 43 = .ok (.bipush 48, 2) := by decide +kernel
theorem d_M_sortOf_45 : decode b_M_sortOf 45 = .ok (.if_icmp .lt 11, 3) := by decide +kernel
theorem d_M_sortOf_48 : decode b_M_sortOf 48 = .ok (.iload_n 0, 1) := by decide +kernel
theorem d_M_sortOf_49 : decode b_M_sortOf 49 = .ok (.bipush 57, 2) := by decide +kernel
theorem d_M_sortOf_51 : decode b_M_sortOf 51 = .ok (.if_icmp .gt 5, 3) := by decide +kernel
theorem d_M_sortOf_54 : decode b_M_sortOf 54 = .ok (.iconst 2, 1) := by decide +kernel
theorem d_M_sortOf_55 : decode b_M_sortOf 55 = .ok (.ireturn, 1) := by decide +kernel
theorem d_M_sortOf_56 : decode b_M_sortOf 56 = .ok (.iload_n 0, 1) := by decide +kernel
theorem d_M_sortOf_57 : decode b_M_sortOf 57 = .ok (.sipush 192, 3) := by decide +kernel
theorem d_M_sortOf_60 : decode b_M_sortOf 60 = .ok (.if_icmp .lt 30, 3) := by decide +kernel
theorem d_M_sortOf_63 : decode b_M_sortOf 63 = .ok (.iload_n 0, 1) := by decide +kernel
theorem d_M_sortOf_64 : decode b_M_sortOf 64 = .ok (.sipush 591, 3) := by decide +kernel
theorem d_M_sortOf_67 : decode b_M_sortOf 67 = .ok (.if_icmp .gt 23, 3) := by decide +kernel
theorem d_M_sortOf_70 : decode b_M_sortOf 70 = .ok (.iload_n 0, 1) := by decide +kernel
theorem d_M_sortOf_71 : decode b_M_sortOf 71 = .ok (.sipush 215, 3) := by decide +kernel
theorem d_M_sortOf_74 : decode b_M_sortOf 74 = .ok (.if_icmp .eq 10, 3) := by decide +kernel
theorem d_M_sortOf_77 : decode b_M_sortOf 77 = .ok (.iload_n 0, 1) := by decide +kernel
theorem d_M_sortOf_78 : decode b_M_sortOf 78 = .ok (.sipush 247, 3) := by decide +kernel
theorem d_M_sortOf_81 : decode b_M_sortOf 81 = .ok (.if_icmp .ne 7, 3) := by decide +kernel
theorem d_M_sortOf_84 : decode b_M_sortOf 84 = .ok (.iconst 0, 1) := by decide +kernel
theorem d_M_sortOf_85 : decode b_M_sortOf 85 = .ok (.goto 4, 3) := by decide +kernel
theorem d_M_sortOf_88 : decode b_M_sortOf 88 = .ok (.iconst 1, 1) := by decide +kernel
theorem d_M_sortOf_89 : decode b_M_sortOf 89 = .ok (.ireturn, 1) := by decide +kernel
theorem d_M_sortOf_90 : decode b_M_sortOf 90 = .ok (.iload_n 0, 1) := by decide +kernel
theorem d_M_sortOf_91 : decode b_M_sortOf 91 = .ok (.sipush 913, 3) := by decide +kernel
theorem d_M_sortOf_94 : decode b_M_sortOf 94 = .ok (.if_icmp .lt 10, 3) := by decide +kernel
theorem d_M_sortOf_97 : decode b_M_sortOf 97 = .ok (.iload_n 0, 1) := by decide +kernel
theorem d_M_sortOf_98 : decode b_M_sortOf 98 = .ok (.sipush 1023, 3) := by decide +kernel
theorem d_M_sortOf_101 : decode b_M_sortOf 101 = .ok (.if_icmp .le 17, 3) := by decide +kernel
theorem d_M_sortOf_104 : decode b_M_sortOf 104 = .ok (.iload_n 0, 1) := by decide +kernel
theorem d_M_sortOf_105 : decode b_M_sortOf 105 = .ok (.sipush 1024, 3) := by decide +kernel
theorem d_M_sortOf_108 : decode b_M_sortOf 108 = .ok (.if_icmp .lt 12, 3) := by decide +kernel
theorem d_M_sortOf_111 : decode b_M_sortOf 111 = .ok (.iload_n 0, 1) := by decide +kernel
theorem d_M_sortOf_112 : decode b_M_sortOf 112 = .ok (.sipush 1279, 3) := by decide +kernel
theorem d_M_sortOf_115 : decode b_M_sortOf 115 = .ok (.if_icmp .gt 5, 3) := by decide +kernel
theorem d_M_sortOf_118 : decode b_M_sortOf 118 = .ok (.iconst 1, 1) := by decide +kernel
theorem d_M_sortOf_119 : decode b_M_sortOf 119 = .ok (.ireturn, 1) := by decide +kernel
theorem d_M_sortOf_120 : decode b_M_sortOf 120 = .ok (.iload_n 0, 1) := by decide +kernel
theorem d_M_sortOf_121 : decode b_M_sortOf 121 = .ok (.sipush 19968, 3) := by decide +kernel
theorem d_M_sortOf_124 : decode b_M_sortOf 124 = .ok (.if_icmp .lt 12, 3) := by decide +kernel
theorem d_M_sortOf_127 : decode b_M_sortOf 127 = .ok (.iload_n 0, 1) := by decide +kernel
theorem d_M_sortOf_128 : decode b_M_sortOf 128 = .ok (.ldc 226, 2) := by decide +kernel
theorem d_M_sortOf_130 : decode b_M_sortOf 130 = .ok (.if_icmp .gt 6, 3) := by decide +kernel
theorem d_M_sortOf_133 : decode b_M_sortOf 133 = .ok (.bipush 7, 2) := by decide +kernel
theorem d_M_sortOf_135 : decode b_M_sortOf 135 = .ok (.ireturn, 1) := by decide +kernel
theorem d_M_sortOf_136 : decode b_M_sortOf 136 = .ok (.iload_n 0, 1) := by decide +kernel
theorem d_M_sortOf_137 : decode b_M_sortOf 137 = .ok (.sipush 183, 3) := by decide +kernel
theorem d_M_sortOf_140 : decode b_M_sortOf 140 = .ok (.if_icmp .ne 5, 3) := by decide +kernel
theorem d_M_sortOf_143 : decode b_M_sortOf 143 = .ok (.iconst 4, 1) := by decide +kernel
theorem d_M_sortOf_144 : decode b_M_sortOf 144 = .ok (.ireturn, 1) := by decide +kernel
theorem d_M_sortOf_145 : decode b_M_sortOf 145 = .ok (.iload_n 0, 1) := by decide +kernel
theorem d_M_sortOf_146 : decode b_M_sortOf 146 = .ok (.bipush 44, 2) := by decide +kernel
theorem d_M_sortOf_148 : decode b_M_sortOf 148 = .ok (.if_icmp .eq 9, 3) := by decide +kernel
theorem d_M_sortOf_151 : decode b_M_sortOf 151 = .ok (.iload_n 0, 1) := by decide +kernel
theorem d_M_sortOf_152 : decode b_M_sortOf 152 = .ok (.bipush 59, 2) := by decide +kernel
theorem d_M_sortOf_154 : decode b_M_sortOf 154 = .ok (.if_icmp .ne 5, 3) := by decide +kernel
theorem d_M_sortOf_157 : decode b_M_sortOf 157 = .ok (.iconst 5, 1) := by decide +kernel
theorem d_M_sortOf_158 : decode b_M_sortOf 158 = .ok (.ireturn, 1) := by decide +kernel
end
section
theorem d_M_sortOf_159 : decode b_M_sortOf 159 = .ok (.iload_n 0, 1) := by decide +kernel
theorem d_M_sortOf_160 : decode b_M_sortOf 160 = .ok (.bipush 39, 2) := by decide +kernel
theorem d_M_sortOf_162 : decode b_M_sortOf 162 = .ok (.if_icmp .eq 16, 3) := by decide +kernel
theorem d_M_sortOf_165 : decode b_M_sortOf 165 = .ok (.iload_n 0, 1) := by decide +kernel
theorem d_M_sortOf_166 : decode b_M_sortOf 166 = .ok (.bipush 46, 2) := by decide +kernel
theorem d_M_sortOf_168 : decode b_M_sortOf 168 = .ok (.if_icmp .eq 10, 3) := by decide +kernel
theorem d_M_sortOf_171 : decode b_M_sortOf 171 = .ok (.iload_n 0, 1) := by decide +kernel
theorem d_M_sortOf_172 : decode b_M_sortOf 172 = .ok (.sipush 8217, 3) := by decide +kernel
theorem d_M_sortOf_175 : decode b_M_sortOf 175 = .ok (.if_icmp .ne 8, 3) := by decide +kernel
theorem d_M_sortOf_178 : decode b_M_sortOf 178 = .ok (.bipush 6, 2) := by decide +kernel
theorem d_M_sortOf_180 : decode b_M_sortOf 180 = .ok (.goto 4, 3) := by decide +kernel
theorem d_M_sortOf_183 : decode b_M_sortOf 183 = .ok (.iconst 0, 1) := by decide +kernel
theorem d_M_sortOf_184 : decode b_M_sortOf 184 = .ok (.ireturn, 1) := by decide +kernel
theorem d_M_inWord_0 : decode b_M_inWord 0 = .ok (.iload_n 0, 1) := by decide +kernel
theorem d_M_inWord_1 : decode b_M_inWord 1 = .ok (.iconst 1, 1) := by decide +kernel
theorem d_M_inWord_2 : decode b_M_inWord 2 = .ok (.if_icmp .eq 13, 3) := by decide +kernel
theorem d_M_inWord_5 : decode b_M_inWord 5 = .ok (.iload_n 0, 1) := by decide +kernel
theorem d_M_inWord_6 : decode b_M_inWord 6 = .ok (.iconst 2, 1) := by decide +kernel
theorem d_M_inWord_7 : decode b_M_inWord 7 = .ok (.if_icmp .eq 8, 3) := by decide +kernel
theorem d_M_inWord_10 : decode b_M_inWord 10 = .ok (.iload_n 0, 1) := by decide +kernel
theorem d_M_inWord_11 : decode b_M_inWord 11 = .ok (.iconst 3, 1) := by decide +kernel
theorem d_M_inWord_12 : decode b_M_inWord 12 = .ok (.if_icmp .ne 7, 3) := by decide +kernel
theorem d_M_inWord_15 : decode b_M_inWord 15 = .ok (.iconst 1, 1) := by decide +kernel
theorem d_M_inWord_16 : decode b_M_inWord 16 = .ok (.goto 4, 3) := by decide +kernel
theorem d_M_inWord_19 : decode b_M_inWord 19 = .ok (.iconst 0, 1) := by decide +kernel
theorem d_M_inWord_20 : decode b_M_inWord 20 = .ok (.ireturn, 1) := by decide +kernel
theorem d_M_further_0 : decode b_M_further 0 = .ok (.aload_n 0, 1) := by decide +kernel
theorem d_M_further_1 : decode b_M_further 1 = .ok (.iload_n 1, 1) := by decide +kernel
theorem d_M_further_2 : decode b_M_further 2 = .ok (.iaload, 1) := by decide +kernel
theorem d_M_further_3 : decode b_M_further 3 = .ok (.invokestatic 227, 3) := by decide +kernel
theorem d_M_further_6 : decode b_M_further 6 = .ok (.istore_n 3, 1) := by decide +kernel
theorem d_M_further_7 : decode b_M_further 7 = .ok (.iload_n 1, 1) := by decide +kernel
theorem d_M_further_8 : decode b_M_further 8 = .ok (.iconst 1, 1) := by decide +kernel
theorem d_M_further_9 : decode b_M_further 9 = .ok (.iadd, 1) := by decide +kernel
theorem d_M_further_10 : decode b_M_further 10 = .ok (.iload_n 2, 1) := by decide +kernel
theorem d_M_further_11 : decode b_M_further 11 = .ok (.if_icmp .ge 14, 3) := by decide +kernel
theorem d_M_further_14 : decode b_M_further 14 = .ok (.aload_n 0, 1) := by decide +kernel
theorem d_M_further_15 : decode b_M_further 15 = .ok (.iload_n 1, 1) := by decide +kernel
theorem d_M_further_16 : decode b_M_further 16 = .ok (.iconst 1, 1) := by decide +kernel
theorem d_M_further_17 : decode b_M_further 17 = .ok (.iadd, 1) := by decide +kernel
theorem d_M_further_18 : decode b_M_further 18 = .ok (.iaload, 1) := by decide +kernel
theorem d_M_further_19 : decode b_M_further 19 = .ok (.invokestatic 227, 3) := by decide +kernel
theorem d_M_further_22 : decode b_M_further 22 = .ok (.goto 4, 3) := by decide +kernel
theorem d_M_further_25 : decode b_M_further 25 = .ok (.iconst 0, 1) := by decide +kernel
theorem d_M_further_26 : decode b_M_further 26 = .ok (.istore 4, 2) := by decide +kernel
theorem d_M_further_28 : decode b_M_further 28 = .ok (.iload_n 1, 1) := by decide +kernel
theorem d_M_further_29 : decode b_M_further 29 = .ok (.iconst 2, 1) := by decide +kernel
theorem d_M_further_30 : decode b_M_further 30 = .ok (.iadd, 1) := by decide +kernel
theorem d_M_further_31 : decode b_M_further 31 = .ok (.iload_n 2, 1) := by decide +kernel
theorem d_M_further_32 : decode b_M_further 32 = .ok (.if_icmp .ge 14, 3) := by decide +kernel
theorem d_M_further_35 : decode b_M_further 35 = .ok (.aload_n 0, 1) := by decide +kernel
theorem d_M_further_36 : decode b_M_further 36 = .ok (.iload_n 1, 1) := by decide +kernel
theorem d_M_further_37 : decode b_M_further 37 = .ok (.iconst 2, 1) := by decide +kernel
theorem d_M_further_38 : decode b_M_further 38 = .ok (.iadd, 1) := by decide +kernel
theorem d_M_further_39 : decode b_M_further 39 = .ok (.iaload, 1) := by decide +kernel
theorem d_M_further_40 : decode b_M_further 40 = .ok (.invokestatic 227, 3) := by decide +kernel
theorem d_M_further_43 : decode b_M_further 43 = .ok (.goto 4, 3) := by decide +kernel
theorem d_M_further_46 : decode b_M_further 46 = .ok (.iconst 0, 1) := by decide +kernel
theorem d_M_further_47 : decode b_M_further 47 = .ok (.istore 5, 2) := by decide +kernel
theorem d_M_further_49 : decode b_M_further 49 = .ok (.iload_n 3, 1) := by decide +kernel
theorem d_M_further_50 : decode b_M_further 50 = .ok (.invokestatic 231, 3) := by decide +kernel
theorem d_M_further_53 : decode b_M_further 53 = .ok (.ifCond .eq 13, 3) := by decide +kernel
theorem d_M_further_56 : decode b_M_further 56 = .ok (.iload 4, 2) := by decide +kernel
theorem d_M_further_58 : decode b_M_further 58 = .ok (.invokestatic 231, 3) := by decide +kernel
theorem d_M_further_61 : decode b_M_further 61 = .ok (.ifCond .eq 5, 3) := by decide +kernel
theorem d_M_further_64 : decode b_M_further 64 = .ok (.iconst 1, 1) := by decide +kernel
theorem d_M_further_65 : decode b_M_further 65 = .ok (.ireturn, 1) := by decide +kernel
theorem d_M_further_66 : decode b_M_further 66 = .ok (.iload_n 3, 1) := by decide +kernel
theorem d_M_further_67 : decode b_M_further 67 = .ok (.iconst 1, 1) := by decide +kernel
theorem d_M_further_68 : decode b_M_further 68 = .ok (.if_icmp .ne 24, 3) := by decide +kernel
theorem d_M_further_71 : decode b_M_further 71 = .ok (.iload 5, 2) := by decide +kernel
theorem d_M_further_73 : decode b_M_further 73 = .ok (.iconst 1, 1) := by decide +kernel
theorem d_M_further_74 : decode b_M_further 74 = .ok (.if_icmp .ne 18, 3) := by decide +kernel
theorem d_M_further_77 : decode b_M_further 77 = .ok (.iload 4, 2) := by decide +kernel
theorem d_M_further_79 : decode b_M_further 79 = .ok (.iconst 4, 1) := by decide +kernel
theorem d_M_further_80 : decode b_M_further 80 = .ok (.if_icmp .eq 10, 3) := by decide +kernel
theorem d_M_further_83 : decode b_M_further 83 = .ok (.iload 4, 2) := by decide +kernel
theorem d_M_further_85 : decode b_M_further 85 = .ok (.bipush 6, 2) := by decide +kernel
theorem d_M_further_87 : decode b_M_further 87 = .ok (.if_icmp .ne 5, 3) := by decide +kernel
theorem d_M_further_90 : decode b_M_further 90 = .ok (.iconst 2, 1) := by decide +kernel
theorem d_M_further_91 : decode b_M_further 91 = .ok (.ireturn, 1) := by decide +kernel
theorem d_M_further_92 : decode b_M_further 92 = .ok (.iload_n 3, 1) := by decide +kernel
theorem d_M_further_93 : decode b_M_further 93 = .ok (.iconst 2, 1) := by decide +kernel
theorem d_M_further_94 : decode b_M_further 94 = .ok (.if_icmp .ne 24, 3) := by decide +kernel
theorem d_M_further_97 : decode b_M_further 97 = .ok (.iload 5, 2) := by decide +kernel
theorem d_M_further_99 : decode b_M_further 99 = .ok (.iconst 2, 1) := by decide +kernel
theorem d_M_further_100 : decode b_M_further 100 = .ok (.if_icmp .ne 18, 3) := by decide +kernel
theorem d_M_further_103 : decode b_M_further 103 = .ok (.iload 4, 2) := by decide +kernel
theorem d_M_further_105 : decode b_M_further 105 = .ok (.iconst 5, 1) := by decide +kernel
theorem d_M_further_106 : decode b_M_further 106 = .ok (.if_icmp .eq 10, 3) := by decide +kernel
theorem d_M_further_109 : decode b_M_further 109 = .ok (.iload 4, 2) := by decide +kernel
theorem d_M_further_111 : decode b_M_further 111 = .ok (.bipush 6, 2) := by decide +kernel
theorem d_M_further_113 : decode b_M_further 113 = .ok (.if_icmp .ne 5, 3) := by decide +kernel
theorem d_M_further_116 : decode b_M_further 116 = .ok (.iconst 2, 1) := by decide +kernel
theorem d_M_further_117 : decode b_M_further 117 = .ok (.ireturn, 1) := by decide +kernel
theorem d_M_further_118 : decode b_M_further 118 = .ok (.iconst 0, 1) := by decide +kernel
theorem d_M_further_119 : decode b_M_further 119 = .ok (.ireturn, 1) := by decide +kernel
theorem d_M_token_aIII_0 : decode b_M_token_aIII 0 = .ok (.aload_n 0, 1) := by decide +kernel
theorem d_M_token_aIII_1 : decode b_M_token_aIII 1 = .ok (.iload_n 3, 1) := by decide +kernel
theorem d_M_token_aIII_2 : decode b_M_token_aIII 2 = .ok (.iload_n 2, 1) := by decide +kernel
theorem d_M_token_aIII_3 : decode b_M_token_aIII 3 = .ok (.isub, 1) := by decide +kernel
theorem d_M_token_aIII_4 : decode b_M_token_aIII 4 = .ok (.putfield 254, 3) := by decide +kernel
theorem d_M_token_aIII_7 : decode b_M_token_aIII 7 = .ok (.iconst 0, 1) := by decide +kernel
theorem d_M_token_aIII_8 : decode b_M_token_aIII 8 = .ok (.istore 4, 2) := by decide +kernel
theorem d_M_token_aIII_10 : decode b_M_token_aIII 10 = .ok (.iload 4, 2) := by decide +kernel
theorem d_M_token_aIII_12 : decode b_M_token_aIII 12 = .ok (.aload_n 0, 1) := by decide +kernel
theorem d_M_token_aIII_13 : decode b_M_token_aIII 13 = .ok (.getfield 254, 3) := by decide +kernel
theorem d_M_token_aIII_16 : decode b_M_token_aIII 16 = .ok (.if_icmp .ge 22, 3) := by decide +kernel
theorem d_M_token_aIII_19 : decode b_M_token_aIII 19 = .ok (.aload_n 0, 1) := by decide +kernel
theorem d_M_token_aIII_20 : decode b_M_token_aIII 20 = .ok (.getfield 207, 3) := by decide +kernel
theorem d_M_token_aIII_23 : decode b_M_token_aIII 23 = .ok (.iload 4, 2) := by decide +kernel
theorem d_M_token_aIII_25 : decode b_M_token_aIII 25 = .ok (.aload_n 1, 1) := by decide +kernel
theorem d_M_token_aIII_26 : decode b_M_token_aIII 26 = .ok (.iload_n 2, 1) := by decide +kernel
theorem d_M_token_aIII_27 : decode b_M_token_aIII 27 = .ok (.iload 4, 2) := by decide +kernel
theorem d_M_token_aIII_29 : decode b_M_token_aIII 29 = .ok (.iadd, 1) := by decide +kernel
theorem d_M_token_aIII_30 : decode b_M_token_aIII 30 = .ok (.iaload, 1) := by decide +kernel
theorem d_M_token_aIII_31 : decode b_M_token_aIII 31 = .ok (.iastore, 1) := by decide +kernel
theorem d_M_token_aIII_32 : decode b_M_token_aIII 32 = .ok (.iinc 4 1, 3) := by decide +kernel
theorem d_M_token_aIII_35 : decode b_M_token_aIII 35 = .ok (.goto (-25), 3) := by decide +kernel
theorem d_M_token_aIII_38 : decode b_M_token_aIII 38 = .ok (.aload_n 0, 1) := by decide +kernel
theorem d_M_token_aIII_39 : decode b_M_token_aIII 39 = .ok (.getfield 237, 3) := by decide +kernel
theorem d_M_token_aIII_42 : decode b_M_token_aIII 42 = .ok (.istore 4, 2) := by decide +kernel
theorem d_M_token_aIII_44 : decode b_M_token_aIII 44 = .ok (.aload_n 0, 1) := by decide +kernel
theorem d_M_token_aIII_45 : decode b_M_token_aIII 45 = .ok (.dup, 1) := by decide +kernel
theorem d_M_token_aIII_46 : decode b_M_token_aIII 46 = .ok (.getfield 237, 3) := by decide +kernel
theorem d_M_token_aIII_49 : decode b_M_token_aIII 49 = .ok (.iconst 1, 1) := by decide +kernel
theorem d_M_token_aIII_50 : decode b_M_token_aIII 50 = .ok (.iadd, 1) := by decide +kernel
theorem d_M_token_aIII_51 : decode b_M_token_aIII 51 = .ok (.putfield 237, 3) := by decide +kernel
theorem d_M_token_aIII_54 : decode b_M_token_aIII 54 = .ok (.aload_n 0, 1) := by decide +kernel
theorem d_M_token_aIII_55 : decode b_M_token_aIII 55 = .ok (.getfield 254, 3) := by decide +kernel
theorem d_M_token_aIII_58 : decode b_M_token_aIII 58 = .ok (.iconst 2, 1) := by decide +kernel
theorem d_M_token_aIII_59 : decode b_M_token_aIII 59 = .ok (.if_icmp .le 78, 3) := by decide +kernel
theorem d_M_token_aIII_62 : decode b_M_token_aIII 62 = .ok (.aload_n 0, 1) := by decide +kernel
theorem d_M_token_aIII_63 : decode b_M_token_aIII 63 = .ok (.getfield 207, 3) := by decide +kernel
theorem d_M_token_aIII_66 : decode b_M_token_aIII 66 = .ok (.aload_n 0, 1) := by decide +kernel
theorem d_M_token_aIII_67 : decode b_M_token_aIII 67 = .ok (.getfield 254, 3) := by decide +kernel
theorem d_M_token_aIII_70 : decode b_M_token_aIII 70 = .ok (.iconst 1, 1) := by decide +kernel
theorem d_M_token_aIII_71 : decode b_M_token_aIII 71 = .ok (.isub, 1) := by decide +kernel
theorem d_M_token_aIII_72 : decode b_M_token_aIII 72 = .ok (.iaload, 1) := by decide +kernel
theorem d_M_token_aIII_73 : decode b_M_token_aIII 73 = .ok (.bipush 115, 2) := by decide +kernel
theorem d_M_token_aIII_75 : decode b_M_token_aIII 75 = .ok (.if_icmp .eq 19, 3) := by decide +kernel
theorem d_M_token_aIII_78 : decode b_M_token_aIII 78 = .ok (.aload_n 0, 1) := by decide +kernel
theorem d_M_token_aIII_79 : decode b_M_token_aIII 79 = .ok (.getfield 207, 3) := by decide +kernel
theorem d_M_token_aIII_82 : decode b_M_token_aIII 82 = .ok (.aload_n 0, 1) := by decide +kernel
theorem d_M_token_aIII_83 : decode b_M_token_aIII 83 = .ok (.getfield 254, 3) := by decide +kernel
theorem d_M_token_aIII_86 : decode b_M_token_aIII 86 = .ok (.iconst 1, 1) := by decide +kernel
theorem d_M_token_aIII_87 : decode b_M_token_aIII 87 = .ok (.isub, 1) := by decide +kernel
theorem d_M_token_aIII_88 : decode b_M_token_aIII 88 = .ok (.iaload, 1) := by decide +kernel
theorem d_M_token_aIII_89 : decode b_M_token_aIII 89 = .ok (.bipush 83, 2) := by decide +kernel
theorem d_M_token_aIII_91 : decode b_M_token_aIII 91 = .ok (.if_icmp .ne 46, 3) := by decide +kernel
theorem d_M_token_aIII_94 : decode b_M_token_aIII 94 = .ok (.aload_n 0, 1) := by decide +kernel
theorem d_M_token_aIII_95 : decode b_M_token_aIII 95 = .ok (.getfield 207, 3) := by decide +kernel
theorem d_M_token_aIII_98 : decode b_M_token_aIII 98 = .ok (.aload_n 0, 1) := by decide +kernel
theorem d_M_token_aIII_99 : decode b_M_token_aIII 99 = .ok (.getfield 254, 3) := by decide +kernel
theorem d_M_token_aIII_102 : decode b_M_token_aIII 102 = .ok (.iconst 2, 1) := by decide +kernel
theorem d_M_token_aIII_103 : decode b_M_token_aIII 103 = .ok (.isub, 1) := by decide +kernel
theorem d_M_token_aIII_104 : decode b_M_token_aIII 104 = .ok (.iaload, 1) := by decide +kernel
theorem d_M_token_aIII_105 : decode b_M_token_aIII 105 = .ok (.bipush 39, 2) := by decide +kernel
theorem d_M_token_aIII_107 : decode b_M_token_aIII 107 = .ok (.if_icmp .eq 20, 3) := by decide +kernel
theorem d_M_token_aIII_110 : decode b_M_token_aIII 110 = .ok (.aload_n 0, 1) := by decide +kernel
theorem d_M_token_aIII_111 : decode b_M_token_aIII 111 = .ok (.getfield 207, 3) := by decide +kernel
theorem d_M_token_aIII_114 : decode b_M_token_aIII 114 = .ok (.aload_n 0, 1) := by decide +kernel
theorem d_M_token_aIII_115 : decode b_M_token_aIII 115 = .ok (.getfield 254, 3) := by decide +kernel
theorem d_M_token_aIII_118 : decode b_M_token_aIII 118 = .ok (.iconst 2, 1) := by decide +kernel
theorem d_M_token_aIII_119 : decode b_M_token_aIII 119 = .ok (.isub, 1) := by decide +kernel
theorem d_M_token_aIII_120 : decode b_M_token_aIII 120 = .ok (.iaload, 1) := by decide +kernel
theorem d_M_token_aIII_121 : decode b_M_token_aIII 121 = .ok (.sipush 8217, 3) := by decide +kernel
theorem d_M_token_aIII_124 : decode b_M_token_aIII 124 = .ok (.if_icmp .ne 13, 3) := by decide +kernel
theorem d_M_token_aIII_127 : decode b_M_token_aIII 127 = .ok (.aload_n 0, 1) := by decide +kernel
theorem d_M_token_aIII_128 : decode b_M_token_aIII 128 = .ok (.dup, 1) := by decide +kernel
theorem d_M_token_aIII_129 : decode b_M_token_aIII 129 = .ok (.getfield 254, 3) := by decide +kernel
theorem d_M_token_aIII_132 : decode b_M_token_aIII 132 = .ok (.iconst 2, 1) := by decide +kernel
theorem d_M_token_aIII_133 : decode b_M_token_aIII 133 = .ok (.isub, 1) := by decide +kernel
theorem d_M_token_aIII_134 : decode b_M_token_aIII 134 = .ok (.putfield 254, 3) := by decide +kernel
theorem d_M_token_aIII_137 : decode b_M_token_aIII 137 = .ok (.iconst 1, 1) := by decide +kernel
theorem d_M_token_aIII_138 : decode b_M_token_aIII 138 = .ok (.istore 5, 2) := by decide +kernel
theorem d_M_token_aIII_140 : decode b_M_token_aIII 140 = .ok (.iconst 0, 1) := by decide +kernel
theorem d_M_token_aIII_141 : decode b_M_token_aIII 141 = .ok (.istore 6, 2) := by decide +kernel
theorem d_M_token_aIII_143 : decode b_M_token_aIII 143 = .ok (.iload 6, 2) := by decide +kernel
theorem d_M_token_aIII_145 : decode b_M_token_aIII 145 = .ok (.aload_n 0, 1) := by decide +kernel
theorem d_M_token_aIII_146 : decode b_M_token_aIII 146 = .ok (.getfield 254, 3) := by decide +kernel
theorem d_M_token_aIII_149 : decode b_M_token_aIII 149 = .ok (.if_icmp .ge 53, 3) := by decide +kernel
theorem d_M_token_aIII_152 : decode b_M_token_aIII 152 = .ok (.aload_n 0, 1) := by decide +kernel
theorem d_M_token_aIII_153 : decode b_M_token_aIII 153 = .ok (.getfield 207, 3) := by decide +kernel
theorem d_M_token_aIII_156 : decode b_M_token_aIII 156 = .ok (.iload 6, 2) := by decide +kernel
theorem d_M_token_aIII_158 : decode b_M_token_aIII 158 = .ok (.aload_n 0, 1) := by decide +kernel
theorem d_M_token_aIII_159 : decode b_M_token_aIII 159 = .ok (.getfield 207, 3) := by decide +kernel
theorem d_M_token_aIII_162 : decode b_M_token_aIII 162 = .ok (.iload 6, 2) := by decide +kernel
theorem d_M_token_aIII_164 : decode b_M_token_aIII 164 = .ok (.iaload, 1) := by decide +kernel
theorem d_M_token_aIII_165 : decode b_M_token_aIII 165 = .ok (.invokestatic 257, 3) := by decide +kernel
theorem d_M_token_aIII_168 : decode b_M_token_aIII 168 = .ok (.iastore, 1) := by decide +kernel
theorem d_M_token_aIII_169 : decode b_M_token_aIII 169 = .ok (.aload_n 0, 1) := by decide +kernel
theorem d_M_token_aIII_170 : decode b_M_token_aIII 170 = .ok (.getfield 207, 3) := by decide +kernel
theorem d_M_token_aIII_173 : decode b_M_token_aIII 173 = .ok (.iload 6, 2) := by decide +kernel
theorem d_M_token_aIII_175 : decode b_M_token_aIII 175 = .ok (.iaload, 1) := by decide +kernel
theorem d_M_token_aIII_176 : decode b_M_token_aIII 176 = .ok (.bipush 97, 2) := by decide +kernel
theorem d_M_token_aIII_178 : decode b_M_token_aIII 178 = .ok (.if_icmp .lt 15, 3) := by decide +kernel
theorem d_M_token_aIII_181 : decode b_M_token_aIII 181 = .ok (.aload_n 0, 1) := by decide +kernel
theorem d_M_token_aIII_182 : decode b_M_token_aIII 182 = .ok (.getfield 207, 3) := by decide +kernel
theorem d_M_token_aIII_185 : decode b_M_token_aIII 185 = .ok (.iload 6, 2) := by decide +kernel
theorem d_M_token_aIII_187 : decode b_M_token_aIII 187 = .ok (.iaload, 1) := by decide +kernel
theorem d_M_token_aIII_188 : decode b_M_token_aIII 188 = .ok (.bipush 122, 2) := by decide +kernel
theorem d_M_token_aIII_190 : decode b_M_token_aIII 190 = .ok (.if_icmp .le 6, 3) := by decide +kernel
theorem d_M_token_aIII_193 : decode b_M_token_aIII 193 = .ok (.iconst 0, 1) := by decide +kernel
theorem d_M_token_aIII_194 : decode b_M_token_aIII 194 = .ok (.istore 5, 2) := by decide +kernel
theorem d_M_token_aIII_196 : decode b_M_token_aIII 196 = .ok (.iinc 6 1, 3) := by decide +kernel
theorem d_M_token_aIII_199 : decode b_M_token_aIII 199 = .ok (.goto (-56), 3) := by decide +kernel
theorem d_M_token_aIII_202 : decode b_M_token_aIII 202 = .ok (.aload_n 0, 1) := by decide +kernel
theorem d_M_token_aIII_203 : decode b_M_token_aIII 203 = .ok (.getfield 75, 3) := by decide +kernel
theorem d_M_token_aIII_206 : decode b_M_token_aIII 206 = .ok (.astore 6, 2) := by decide +kernel
theorem d_M_token_aIII_208 : decode b_M_token_aIII 208 = .ok (.aload 6, 2) := by decide +kernel
theorem d_M_token_aIII_210 : decode b_M_token_aIII 210 = .ok (.arraylength, 1) := by decide +kernel
theorem d_M_token_aIII_211 : decode b_M_token_aIII 211 = .ok (.istore 7, 2) := by decide +kernel
theorem d_M_token_aIII_213 : decode b_M_token_aIII 213 = .ok (.iconst 0, 1) := by decide +kernel
theorem d_M_token_aIII_214 : decode b_M_token_aIII 214 = .ok (.istore 8, 2) := by decide +kernel
theorem d_M_token_aIII_216 : decode b_M_token_aIII 216 = .ok (.iload 8, 2) := by decide +kernel
theorem d_M_token_aIII_218 : decode b_M_token_aIII 218 = .ok (.iload 7, 2) := by decide +kernel
theorem d_M_token_aIII_220 : decode b_M_token_aIII 220 = .ok (.if_icmp .ge 26, 3) := by decide +kernel
theorem d_M_token_aIII_223 : decode b_M_token_aIII 223 = .ok (.aload 6, 2) := by decide +kernel
theorem d_M_token_aIII_225 : decode b_M_token_aIII 225 = .ok (.iload 8, 2) := by decide +kernel
theorem d_M_token_aIII_227 : decode b_M_token_aIII 227 = .ok (.aaload, 1) := by decide +kernel
theorem d_M_token_aIII_228 : decode b_M_token_aIII 228 = .ok (.astore 9, 2) := by decide +kernel
theorem d_M_token_aIII_230 : decode b_M_token_aIII 230 = .ok (.aload_n 0, 1) := by decide +kernel
theorem d_M_token_aIII_231 : decode b_M_token_aIII 231 = .ok (.aload 9, 2) := by decide +kernel
theorem d_M_token_aIII_233 : decode b_M_token_aIII 233 = .ok (.invokevirtual 260, 3) := by decide +kernel
theorem d_M_token_aIII_236 : decode b_M_token_aIII 236 = .ok (.ifCond .eq 4, 3) := by decide +kernel
theorem d_M_token_aIII_239 : decode b_M_token_aIII 239 = .ok (.return_, 1) := by decide +kernel
theorem d_M_token_aIII_240 : decode b_M_token_aIII 240 = .ok (.iinc 8 1, 3) := by decide +kernel
theorem d_M_token_aIII_243 : decode b_M_token_aIII 243 = .ok (.goto (-27), 3) := by decide +kernel
theorem d_M_token_aIII_246 : decode b_M_token_aIII 246 = .ok (.iload 5, 2) := by decide +kernel
theorem d_M_token_aIII_248 : decode b_M_token_aIII 248 = .ok (.ifCond .eq 15, 3) := by decide +kernel
theorem d_M_token_aIII_251 : decode b_M_token_aIII 251 = .ok (.aload_n 0, 1) := by decide +kernel
theorem d_M_token_aIII_252 : decode b_M_token_aIII 252 = .ok (.getfield 254, 3) := by decide +kernel
theorem d_M_token_aIII_255 : decode b_M_token_aIII 255 = .ok (.iconst 2, 1) := by decide +kernel
theorem d_M_token_aIII_256 : decode b_M_token_aIII 256 = .ok (.if_icmp .le 7, 3) := by decide +kernel
theorem d_M_token_aIII_259 : decode b_M_token_aIII 259 = .ok (.aload_n 0, 1) := by decide +kernel
theorem d_M_token_aIII_260 : decode b_M_token_aIII 260 = .ok (.invokevirtual 263, 3) := by decide +kernel
theorem d_M_token_aIII_263 : decode b_M_token_aIII 263 = .ok (.aload_n 0, 1) := by decide +kernel
theorem d_M_token_aIII_264 : decode b_M_token_aIII 264 = .ok (.getfield 201, 3) := by decide +kernel
theorem d_M_token_aIII_267 : decode b_M_token_aIII 267 = .ok (.aload_n 0, 1) := by decide +kernel
theorem d_M_token_aIII_268 : decode b_M_token_aIII 268 = .ok (.getfield 234, 3) := by decide +kernel
theorem d_M_token_aIII_271 : decode b_M_token_aIII 271 = .ok (.iaload, 1) := by decide +kernel
theorem d_M_token_aIII_272 : decode b_M_token_aIII 272 = .ok (.istore 6, 2) := by decide +kernel
theorem d_M_token_aIII_274 : decode b_M_token_aIII 274 = .ok (.iconst 0, 1) := by decide +kernel
theorem d_M_token_aIII_275 : decode b_M_token_aIII 275 = .ok (.istore 7, 2) := by decide +kernel
theorem d_M_token_aIII_277 : decode b_M_token_aIII 277 = .ok (.iload 7, 2) := by decide +kernel
theorem d_M_token_aIII_279 : decode b_M_token_aIII 279 = .ok (.aload_n 0, 1) := by decide +kernel
theorem d_M_token_aIII_280 : decode b_M_token_aIII 280 = .ok (.getfield 254, 3) := by decide +kernel
theorem d_M_token_aIII_283 : decode b_M_token_aIII 283 = .ok (.if_icmp .ge 26, 3) := by decide +kernel
theorem d_M_token_aIII_286 : decode b_M_token_aIII 286 = .ok (.aload_n 0, 1) := by decide +kernel
theorem d_M_token_aIII_287 : decode b_M_token_aIII 287 = .ok (.getfield 198, 3) := by decide +kernel
theorem d_M_token_aIII_290 : decode b_M_token_aIII 290 = .ok (.iload 6, 2) := by decide +kernel
theorem d_M_token_aIII_292 : decode b_M_token_aIII 292 = .ok (.iload 7, 2) := by decide +kernel
theorem d_M_token_aIII_294 : decode b_M_token_aIII 294 = .ok (.iadd, 1) := by decide +kernel
theorem d_M_token_aIII_295 : decode b_M_token_aIII 295 = .ok (.aload_n 0, 1) := by decide +kernel
theorem d_M_token_aIII_296 : decode b_M_token_aIII 296 = .ok (.getfield 207, 3) := by decide +kernel
theorem d_M_token_aIII_299 : decode b_M_token_aIII 299 = .ok (.iload 7, 2) := by decide +kernel
theorem d_M_token_aIII_301 : decode b_M_token_aIII 301 = .ok (.iaload, 1) := by decide +kernel
theorem d_M_token_aIII_302 : decode b_M_token_aIII 302 = .ok (.iastore, 1) := by decide +kernel
theorem d_M_token_aIII_303 : decode b_M_token_aIII 303 = .ok (.iinc 7 1, 3) := by decide +kernel
theorem d_M_token_aIII_306 : decode b_M_token_aIII 306 = .ok (.goto (-29), 3) := by decide +kernel
theorem d_M_token_aIII_309 : decode b_M_token_aIII 309 = .ok (.aload_n 0, 1) := by decide +kernel
theorem d_M_token_aIII_310 : decode b_M_token_aIII 310 = .ok (.getfield 204, 3) := by decide +kernel
theorem d_M_token_aIII_313 : decode b_M_token_aIII 313 = .ok (.aload_n 0, 1) := by decide +kernel
theorem d_M_token_aIII_314 : decode b_M_token_aIII 314 = .ok (.getfield 234, 3) := by decide +kernel
theorem d_M_token_aIII_317 : decode b_M_token_aIII 317 = .ok (.iload 4, 2) := by decide +kernel
theorem d_M_token_aIII_319 : decode b_M_token_aIII 319 = .ok (.iastore, 1) := by decide +kernel
theorem d_M_token_aIII_320 : decode b_M_token_aIII 320 = .ok (.aload_n 0, 1) := by decide +kernel
theorem d_M_token_aIII_321 : decode b_M_token_aIII 321 = .ok (.dup, 1) := by decide +kernel
theorem d_M_token_aIII_322 : decode b_M_token_aIII 322 = .ok (.getfield 234, 3) := by decide +kernel
theorem d_M_token_aIII_325 : decode b_M_token_aIII 325 = .ok (.iconst 1, 1) := by decide +kernel
theorem d_M_token_aIII_326 : decode b_M_token_aIII 326 = .ok (.iadd, 1) := by decide +kernel
theorem d_M_token_aIII_327 : decode b_M_token_aIII 327 = .ok (.putfield 234, 3) := by decide +kernel
theorem d_M_token_aIII_330 : decode b_M_token_aIII 330 = .ok (.aload_n 0, 1) := by decide +kernel
theorem d_M_token_aIII_331 : decode b_M_token_aIII 331 = .ok (.getfield 201, 3) := by decide +kernel
theorem d_M_token_aIII_334 : decode b_M_token_aIII 334 = .ok (.aload_n 0, 1) := by decide +kernel
theorem d_M_token_aIII_335 : decode b_M_token_aIII 335 = .ok (.getfield 234, 3) := by decide +kernel
theorem d_M_token_aIII_338 : decode b_M_token_aIII 338 = .ok (.iload 6, 2) := by decide +kernel
theorem d_M_token_aIII_340 : decode b_M_token_aIII 340 = .ok (.aload_n 0, 1) := by decide +kernel
theorem d_M_token_aIII_341 : decode b_M_token_aIII 341 = .ok (.getfield 254, 3) := by decide +kernel
theorem d_M_token_aIII_344 : decode b_M_token_aIII 344 = .ok (.iadd, 1) := by decide +kernel
theorem d_M_token_aIII_345 : decode b_M_token_aIII 345 = .ok (.iastore, 1) := by decide +kernel
theorem d_M_token_aIII_346 : decode b_M_token_aIII 346 = .ok (.return_, 1) := by decide +kernel
theorem d_M_lowered_0 : decode b_M_lowered 0 = .ok (.iload_n 0, 1) := by decide +kernel
theorem d_M_lowered_1 : decode b_M_lowered 1 = .ok (.bipush 65, 2) := by decide +kernel
theorem d_M_lowered_3 : decode b_M_lowered 3 = .ok (.if_icmp .lt 14, 3) := by decide +kernel
theorem d_M_lowered_6 : decode b_M_lowered 6 = .ok (.iload_n 0, 1) := by decide +kernel
theorem d_M_lowered_7 : decode b_M_lowered 7 = .ok (.bipush 90, 2) := by decide +kernel
theorem d_M_lowered_9 : decode b_M_lowered 9 = .ok (.if_icmp .gt 8, 3) := by decide +kernel
theorem d_M_lowered_12 : decode b_M_lowered 12 = .ok (.iload_n 0, 1) := by decide +kernel
theorem d_M_lowered_13 : decode b_M_lowered 13 = .ok (.bipush 32, 2) := by decide +kernel
theorem d_M_lowered_15 : decode b_M_lowered 15 = .ok (.iadd, 1) := by decide +kernel
theorem d_M_lowered_16 : decode b_M_lowered 16 = .ok (.ireturn, 1) := by decide +kernel
theorem d_M_lowered_17 : decode b_M_lowered 17 = .ok (.iload_n 0, 1) := by decide +kernel
theorem d_M_lowered_18 : decode b_M_lowered 18 = .ok (.sipush 192, 3) := by decide +kernel
theorem d_M_lowered_21 : decode b_M_lowered 21 = .ok (.if_icmp .lt 22, 3) := by decide +kernel
theorem d_M_lowered_24 : decode b_M_lowered 24 = .ok (.iload_n 0, 1) := by decide +kernel
theorem d_M_lowered_25 : decode b_M_lowered 25 = .ok (.sipush 222, 3) := by decide +kernel
theorem d_M_lowered_28 : decode b_M_lowered 28 = .ok (.if_icmp .gt 15, 3) := by decide +kernel
theorem d_M_lowered_31 : decode b_M_lowered 31 = .ok (.iload_n 0, 1) := by decide +kernel
theorem d_M_lowered_32 : decode b_M_lowered 32 = .ok (.sipush 215, 3) := by decide +kernel
theorem d_M_lowered_35 : decode b_M_lowered 35 = .ok (.if_icmp .eq 8, 3) := by decide +kernel
theorem d_M_lowered_38 : decode b_M_lowered 38 = .ok (.iload_n 0, 1) := by decide +kernel
theorem d_M_lowered_39 : decode b_M_lowered 39 = .ok (.bipush 32, 2) := by decide +kernel
theorem d_M_lowered_41 : decode b_M_lowered 41 = .ok (.iadd, 1) := by decide +kernel
theorem d_M_lowered_42 : decode b_M_lowered 42 = .ok (.ireturn, 1) := by decide +kernel
theorem d_M_lowered_43 : decode b_M_lowered 43 = .ok (.iload_n 0, 1) := by decide +kernel
theorem d_M_lowered_44 : decode b_M_lowered 44 = .ok (.sipush 913, 3) := by decide +kernel
theorem d_M_lowered_47 : decode b_M_lowered 47 = .ok (.if_icmp .lt 22, 3) := by decide +kernel
theorem d_M_lowered_50 : decode b_M_lowered 50 = .ok (.iload_n 0, 1) := by decide +kernel
theorem d_M_lowered_51 : decode b_M_lowered 51 = .ok (.sipush 939, 3) := by decide +kernel
theorem d_M_lowered_54 : decode b_M_lowered 54 = .ok (.if_icmp .gt 15, 3) := by decide +kernel
theorem d_M_lowered_57 : decode b_M_lowered 57 = .ok (.iload_n 0, 1) := by decide +kernel
theorem d_M_lowered_58 : decode b_M_lowered 58 = .ok (.sipush 930, 3) := by decide +kernel
theorem d_M_lowered_61 : decode b_M_lowered 61 = .ok (.if_icmp .eq 8, 3) := by decide +kernel
theorem d_M_lowered_64 : decode b_M_lowered 64 = .ok (.iload_n 0, 1) := by decide +kernel
theorem d_M_lowered_65 : decode b_M_lowered 65 = .ok (.bipush 32, 2) := by decide +kernel
theorem d_M_lowered_67 : decode b_M_lowered 67 = .ok (.iadd, 1) := by decide +kernel
theorem d_M_lowered_68 : decode b_M_lowered 68 = .ok (.ireturn, 1) := by decide +kernel
theorem d_M_lowered_69 : decode b_M_lowered 69 = .ok (.iload_n 0, 1) := by decide +kernel
theorem d_M_lowered_70 : decode b_M_lowered 70 = .ok (.sipush 1040, 3) := by decide +kernel
theorem d_M_lowered_73 : decode b_M_lowered 73 = .ok (.if_icmp .lt 15, 3) := by decide +kernel
theorem d_M_lowered_76 : decode b_M_lowered 76 = .ok (.iload_n 0, 1) := by decide +kernel
theorem d_M_lowered_77 : decode b_M_lowered 77 = .ok (.sipush 1071, 3) := by decide +kernel
theorem d_M_lowered_80 : decode b_M_lowered 80 = .ok (.if_icmp .gt 8, 3) := by decide +kernel
theorem d_M_lowered_83 : decode b_M_lowered 83 = .ok (.iload_n 0, 1) := by decide +kernel
theorem d_M_lowered_84 : decode b_M_lowered 84 = .ok (.bipush 32, 2) := by decide +kernel
theorem d_M_lowered_86 : decode b_M_lowered 86 = .ok (.iadd, 1) := by decide +kernel
theorem d_M_lowered_87 : decode b_M_lowered 87 = .ok (.ireturn, 1) := by decide +kernel
theorem d_M_lowered_88 : decode b_M_lowered 88 = .ok (.iload_n 0, 1) := by decide +kernel
theorem d_M_lowered_89 : decode b_M_lowered 89 = .ok (.sipush 1024, 3) := by decide +kernel
theorem d_M_lowered_92 : decode b_M_lowered 92 = .ok (.if_icmp .lt 17, 3) := by decide +kernel
theorem d_M_lowered_95 : decode b_M_lowered 95 = .ok (.iload_n 0, 1) := by decide +kernel
theorem d_M_lowered_96 : decode b_M_lowered 96 = .ok (.sipush 1039, 3) := by decide +kernel
theorem d_M_lowered_99 : decode b_M_lowered 99 = .ok (.if_icmp .gt 10, 3) := by decide +kernel
theorem d_M_lowered_102 : decode b_M_lowered 102 = .ok (.iload_n 0, 1) := by decide +kernel
theorem d_M_lowered_103 : decode b_M_lowered 103 = .ok (.bipush 80, 2) := by decide +kernel
theorem d_M_lowered_105 : decode b_M_lowered 105 = .ok (.iadd, 1) := by decide +kernel
theorem d_M_lowered_106 : decode b_M_lowered 106 = .ok (.goto 4, 3) := by decide +kernel
theorem d_M_lowered_109 : decode b_M_lowered 109 = .ok (.iload_n 0, 1) := by decide +kernel
theorem d_M_lowered_110 : decode b_M_lowered 110 = .ok (.ireturn, 1) := by decide +kernel
theorem d_M_is_0 : decode b_M_is 0 = .ok (.aload_n 1, 1) := by decide +kernel
theorem d_M_is_1 : decode b_M_is 1 = .ok (.invokevirtual 266, 3) := by decide +kernel
theorem d_M_is_4 : decode b_M_is 4 = .ok (.aload_n 0, 1) := by decide +kernel
theorem d_M_is_5 : decode b_M_is 5 = .ok (.getfield 254, 3) := by decide +kernel
theorem d_M_is_8 : decode b_M_is 8 = .ok (.if_icmp .ne 15, 3) := by decide +kernel
theorem d_M_is_11 : decode b_M_is 11 = .ok (.aload_n 0, 1) := by decide +kernel
theorem d_M_is_12 : decode b_M_is 12 = .ok (.aload_n 1, 1) := by decide +kernel
theorem d_M_is_13 : decode b_M_is 13 = .ok (.invokevirtual 270, 3) := by decide +kernel
theorem d_M_is_16 : decode b_M_is 16 = .ok (.ifCond .eq 7, 3) := by decide +kernel
theorem d_M_is_19 : decode b_M_is 19 = .ok (.iconst 1, 1) := by decide +kernel
theorem d_M_is_20 : decode b_M_is 20 = .ok (.goto 4, 3) := by decide +kernel
theorem d_M_is_23 : decode b_M_is 23 = .ok (.iconst 0, 1) := by decide +kernel
theorem d_M_is_24 : decode b_M_is 24 = .ok (.ireturn, 1) := by decide +kernel
theorem d_M_ends_0 : decode b_M_ends 0 = .ok (.aload_n 1, 1) := by decide +kernel
theorem d_M_ends_1 : decode b_M_ends 1 = .ok (.invokevirtual 266, 3) := by decide +kernel
theorem d_M_ends_4 : decode b_M_ends 4 = .ok (.aload_n 0, 1) := by decide +kernel
theorem d_M_ends_5 : decode b_M_ends 5 = .ok (.getfield 254, 3) := by decide +kernel
theorem d_M_ends_8 : decode b_M_ends 8 = .ok (.if_icmp .le 5, 3) := by decide +kernel
theorem d_M_ends_11 : decode b_M_ends 11 = .ok (.iconst 0, 1) := by decide +kernel
theorem d_M_ends_12 : decode b_M_ends 12 = .ok (.ireturn, 1) := by decide +kernel
theorem d_M_ends_13 : decode b_M_ends 13 = .ok (.iconst 0, 1) := by decide +kernel
theorem d_M_ends_14 : decode b_M_ends 14 = .ok (.istore_n 2, 1) := by decide +kernel
theorem d_M_ends_15 : decode b_M_ends 15 = .ok (.iload_n 2, 1) := by decide +kernel
theorem d_M_ends_16 : decode b_M_ends 16 = .ok (.aload_n 1, 1) := by decide +kernel
theorem d_M_ends_17 : decode b_M_ends 17 = .ok (.invokevirtual 266, 3) := by decide +kernel
theorem d_M_ends_20 : decode b_M_ends 20 = .ok (.if_icmp .ge 35, 3) := by decide +kernel
theorem d_M_ends_23 : decode b_M_ends 23 = .ok (.aload_n 0, 1) := by decide +kernel
theorem d_M_ends_24 : decode b_M_ends 24 = .ok (.getfield 207, 3) := by decide +kernel
theorem d_M_ends_27 : decode b_M_ends 27 = .ok (.aload_n 0, 1) := by decide +kernel
theorem d_M_ends_28 : decode b_M_ends 28 = .ok (.getfield 254, 3) := by decide +kernel
theorem d_M_ends_31 : decode b_M_ends 31 = .ok (.aload_n 1, 1) := by decide +kernel
theorem d_M_ends_32 : decode b_M_ends 32 = .ok (.invokevirtual 266, 3) := by decide +kernel
theorem d_M_ends_35 : decode b_M_ends 35 = .ok (.isub, 1) := by decide +kernel
theorem d_M_ends_36 : decode b_M_ends 36 = .ok (.iload_n 2, 1) := by decide +kernel
theorem d_M_ends_37 : decode b_M_ends 37 = .ok (.iadd, 1) := by decide +kernel
theorem d_M_ends_38 : decode b_M_ends 38 = .ok (.iaload, 1) := by decide +kernel
theorem d_M_ends_39 : decode b_M_ends 39 = .ok (.aload_n 1, 1) := by decide +kernel
theorem d_M_ends_40 : decode b_M_ends 40 = .ok (.iload_n 2, 1) := by decide +kernel
theorem d_M_ends_41 : decode b_M_ends 41 = .ok (.invokevirtual 273, 3) := by decide +kernel
theorem d_M_ends_44 : decode b_M_ends 44 = .ok (.if_icmp .eq 5, 3) := by decide +kernel
theorem d_M_ends_47 : decode b_M_ends 47 = .ok (.iconst 0, 1) := by decide +kernel
theorem d_M_ends_48 : decode b_M_ends 48 = .ok (.ireturn, 1) := by decide +kernel
theorem d_M_ends_49 : decode b_M_ends 49 = .ok (.iinc 2 1, 3) := by decide +kernel
theorem d_M_ends_52 : decode b_M_ends 52 = .ok (.goto (-37), 3) := by decide +kernel
theorem d_M_ends_55 : decode b_M_ends 55 = .ok (.iconst 1, 1) := by decide +kernel
theorem d_M_ends_56 : decode b_M_ends 56 = .ok (.ireturn, 1) := by decide +kernel
theorem d_M_stem_0 : decode b_M_stem 0 = .ok (.aload_n 0, 1) := by decide +kernel
theorem d_M_stem_1 : decode b_M_stem 1 = .ok (.ldc_w 280, 3) := by decide +kernel
theorem d_M_stem_4 : decode b_M_stem 4 = .ok (.invokevirtual 270, 3) := by decide +kernel
theorem d_M_stem_7 : decode b_M_stem 7 = .ok (.ifCond .ne 13, 3) := by decide +kernel
theorem d_M_stem_10 : decode b_M_stem 10 = .ok (.aload_n 0, 1) := by decide +kernel
theorem d_M_stem_11 : decode b_M_stem 11 = .ok (.ldc_w 282, 3) := by decide +kernel
theorem d_M_stem_14 : decode b_M_stem 14 = .ok (.invokevirtual 270, 3) := by decide +kernel
theorem d_M_stem_17 : decode b_M_stem 17 = .ok (.ifCond .eq 16, 3) := by decide +kernel
theorem d_M_stem_20 : decode b_M_stem 20 = .ok (.aload_n 0, 1) := by decide +kernel
theorem d_M_stem_21 : decode b_M_stem 21 = .ok (.dup, 1) := by decide +kernel
theorem d_M_stem_22 : decode b_M_stem 22 = .ok (.getfield 254, 3) := by decide +kernel
theorem d_M_stem_25 : decode b_M_stem 25 = .ok (.iconst 2, 1) := by decide +kernel
theorem d_M_stem_26 : decode b_M_stem 26 = .ok (.isub, 1) := by decide +kernel
theorem d_M_stem_27 : decode b_M_stem 27 = .ok (.putfield 254, 3) := by decide +kernel
theorem d_M_stem_30 : decode b_M_stem 30 = .ok (.goto 33, 3) := by decide +kernel
theorem d_M_stem_33 : decode b_M_stem 33 = .ok (.aload_n 0, 1) := by decide +kernel
theorem d_M_stem_34 : decode b_M_stem 34 = .ok (.ldc_w 284, 3) := by decide +kernel
theorem d_M_stem_37 : decode b_M_stem 37 = .ok (.invokevirtual 270, 3) := by decide +kernel
theorem d_M_stem_40 : decode b_M_stem 40 = .ok (.ifCond .eq 23, 3) := by decide +kernel
theorem d_M_stem_43 : decode b_M_stem 43 = .ok (.aload_n 0, 1) := by decide +kernel
theorem d_M_stem_44 : decode b_M_stem 44 = .ok (.ldc_w 286, 3) := by decide +kernel
theorem d_M_stem_47 : decode b_M_stem 47 = .ok (.invokevirtual 270, 3) := by decide +kernel
theorem d_M_stem_50 : decode b_M_stem 50 = .ok (.ifCond .ne 13, 3) := by decide +kernel
theorem d_M_stem_53 : decode b_M_stem 53 = .ok (.aload_n 0, 1) := by decide +kernel
theorem d_M_stem_54 : decode b_M_stem 54 = .ok (.dup, 1) := by decide +kernel
theorem d_M_stem_55 : decode b_M_stem 55 = .ok (.getfield 254, 3) := by decide +kernel
theorem d_M_stem_58 : decode b_M_stem 58 = .ok (.iconst 1, 1) := by decide +kernel
theorem d_M_stem_59 : decode b_M_stem 59 = .ok (.isub, 1) := by decide +kernel
theorem d_M_stem_60 : decode b_M_stem 60 = .ok (.putfield 254, 3) := by decide +kernel
theorem d_M_stem_63 : decode b_M_stem 63 = .ok (.aload_n 0, 1) := by decide +kernel
theorem d_M_stem_64 : decode b_M_stem 64 = .ok (.invokevirtual 288, 3) := by decide +kernel
theorem d_M_stem_67 : decode b_M_stem 67 = .ok (.aload_n 0, 1) := by decide +kernel
theorem d_M_stem_68 : decode b_M_stem 68 = .ok (.ldc_w 291, 3) := by decide +kernel
theorem d_M_stem_71 : decode b_M_stem 71 = .ok (.invokevirtual 270, 3) := by decide +kernel
theorem d_M_stem_74 : decode b_M_stem 74 = .ok (.ifCond .eq 29, 3) := by decide +kernel
theorem d_M_stem_77 : decode b_M_stem 77 = .ok (.aload_n 0, 1) := by decide +kernel
theorem d_M_stem_78 : decode b_M_stem 78 = .ok (.aload_n 0, 1) := by decide +kernel
theorem d_M_stem_79 : decode b_M_stem 79 = .ok (.getfield 254, 3) := by decide +kernel
theorem d_M_stem_82 : decode b_M_stem 82 = .ok (.iconst 1, 1) := by decide +kernel
theorem d_M_stem_83 : decode b_M_stem 83 = .ok (.isub, 1) := by decide +kernel
theorem d_M_stem_84 : decode b_M_stem 84 = .ok (.invokevirtual 293, 3) := by decide +kernel
theorem d_M_stem_87 : decode b_M_stem 87 = .ok (.ifCond .eq 16, 3) := by decide +kernel
theorem d_M_stem_90 : decode b_M_stem 90 = .ok (.aload_n 0, 1) := by decide +kernel
theorem d_M_stem_91 : decode b_M_stem 91 = .ok (.getfield 207, 3) := by decide +kernel
theorem d_M_stem_94 : decode b_M_stem 94 = .ok (.aload_n 0, 1) := by decide +kernel
theorem d_M_stem_95 : decode b_M_stem 95 = .ok (.getfield 254, 3) := by decide +kernel
theorem d_M_stem_98 : decode b_M_stem 98 = .ok (.iconst 1, 1) := by decide +kernel
theorem d_M_stem_99 : decode b_M_stem 99 = .ok (.isub, 1) := by decide +kernel
theorem d_M_stem_100 : decode b_M_stem 100 = .ok (.bipush 105, 2) := by decide +kernel
theorem d_M_stem_102 : decode b_M_stem 102 = .ok (.iastore, 1) := by decide +kernel
theorem d_M_stem_103 : decode b_M_stem 103 = .ok (.aload_n 0, 1) := by decide +kernel
theorem d_M_stem_104 : decode b_M_stem 104 = .ok (.aload_n 0, 1) := by decide +kernel
theorem d_M_stem_105 : decode b_M_stem 105 = .ok (.getfield 147, 3) := by decide +kernel
theorem d_M_stem_108 : decode b_M_stem 108 = .ok (.invokevirtual 296, 3) := by decide +kernel
theorem d_M_stem_111 : decode b_M_stem 111 = .ok (.istore_n 1, 1) := by decide +kernel
theorem d_M_stem_112 : decode b_M_stem 112 = .ok (.iload_n 1, 1) := by decide +kernel
theorem d_M_stem_113 : decode b_M_stem 113 = .ok (.ifCond .lt 50, 3) := by decide +kernel
theorem d_M_stem_116 : decode b_M_stem 116 = .ok (.aload_n 0, 1) := by decide +kernel
theorem d_M_stem_117 : decode b_M_stem 117 = .ok (.aload_n 0, 1) := by decide +kernel
theorem d_M_stem_118 : decode b_M_stem 118 = .ok (.getfield 254, 3) := by decide +kernel
theorem d_M_stem_121 : decode b_M_stem 121 = .ok (.aload_n 0, 1) := by decide +kernel
theorem d_M_stem_122 : decode b_M_stem 122 = .ok (.getfield 147, 3) := by decide +kernel
theorem d_M_stem_125 : decode b_M_stem 125 = .ok (.iload_n 1, 1) := by decide +kernel
theorem d_M_stem_126 : decode b_M_stem 126 = .ok (.aaload, 1) := by decide +kernel
theorem d_M_stem_127 : decode b_M_stem 127 = .ok (.invokevirtual 266, 3) := by decide +kernel
theorem d_M_stem_130 : decode b_M_stem 130 = .ok (.isub, 1) := by decide +kernel
theorem d_M_stem_131 : decode b_M_stem 131 = .ok (.invokevirtual 300, 3) := by decide +kernel
theorem d_M_stem_134 : decode b_M_stem 134 = .ok (.ifCond .le 29, 3) := by decide +kernel
theorem d_M_stem_137 : decode b_M_stem 137 = .ok (.aload_n 0, 1) := by decide +kernel
theorem d_M_stem_138 : decode b_M_stem 138 = .ok (.aload_n 0, 1) := by decide +kernel
theorem d_M_stem_139 : decode b_M_stem 139 = .ok (.getfield 254, 3) := by decide +kernel
theorem d_M_stem_142 : decode b_M_stem 142 = .ok (.aload_n 0, 1) := by decide +kernel
theorem d_M_stem_143 : decode b_M_stem 143 = .ok (.getfield 147, 3) := by decide +kernel
theorem d_M_stem_146 : decode b_M_stem 146 = .ok (.iload_n 1, 1) := by decide +kernel
theorem d_M_stem_147 : decode b_M_stem 147 = .ok (.aaload, 1) := by decide +kernel
theorem d_M_stem_148 : decode b_M_stem 148 = .ok (.invokevirtual 266, 3) := by decide +kernel
theorem d_M_stem_151 : decode b_M_stem 151 = .ok (.isub, 1) := by decide +kernel
theorem d_M_stem_152 : decode b_M_stem 152 = .ok (.aload_n 0, 1) := by decide +kernel
theorem d_M_stem_153 : decode b_M_stem 153 = .ok (.getfield 147, 3) := by decide +kernel
theorem d_M_stem_156 : decode b_M_stem 156 = .ok (.iload_n 1, 1) := by decide +kernel
theorem d_M_stem_157 : decode b_M_stem 157 = .ok (.iconst 1, 1) := by decide +kernel
theorem d_M_stem_158 : decode b_M_stem 158 = .ok (.iadd, 1) := by decide +kernel
theorem d_M_stem_159 : decode b_M_stem 159 = .ok (.aaload, 1) := by decide +kernel
theorem d_M_stem_160 : decode b_M_stem 160 = .ok (.invokevirtual 303, 3) := by decide +kernel
theorem d_M_stem_163 : decode b_M_stem 163 = .ok (.aload_n 0, 1) := by decide +kernel
theorem d_M_stem_164 : decode b_M_stem 164 = .ok (.aload_n 0, 1) := by decide +kernel
theorem d_M_stem_165 : decode b_M_stem 165 = .ok (.getfield 166, 3) := by decide +kernel
theorem d_M_stem_168 : decode b_M_stem 168 = .ok (.invokevirtual 296, 3) := by decide +kernel
theorem d_M_stem_171 : decode b_M_stem 171 = .ok (.istore_n 1, 1) := by decide +kernel
theorem d_M_stem_172 : decode b_M_stem 172 = .ok (.iload_n 1, 1) := by decide +kernel
theorem d_M_stem_173 : decode b_M_stem 173 = .ok (.ifCond .lt 50, 3) := by decide +kernel
theorem d_M_stem_176 : decode b_M_stem 176 = .ok (.aload_n 0, 1) := by decide +kernel
theorem d_M_stem_177 : decode b_M_stem 177 = .ok (.aload_n 0, 1) := by decide +kernel
theorem d_M_stem_178 : decode b_M_stem 178 = .ok (.getfield 254, 3) := by decide +kernel
theorem d_M_stem_181 : decode b_M_stem 181 = .ok (.aload_n 0, 1) := by decide +kernel
theorem d_M_stem_182 : decode b_M_stem 182 = .ok (.getfield 166, 3) := by decide +kernel
theorem d_M_stem_185 : decode b_M_stem 185 = .ok (.iload_n 1, 1) := by decide +kernel
theorem d_M_stem_186 : decode b_M_stem 186 = .ok (.aaload, 1) := by decide +kernel
theorem d_M_stem_187 : decode b_M_stem 187 = .ok (.invokevirtual 266, 3) := by decide +kernel
theorem d_M_stem_190 : decode b_M_stem 190 = .ok (.isub, 1) := by decide +kernel
theorem d_M_stem_191 : decode b_M_stem 191 = .ok (.invokevirtual 300, 3) := by decide +kernel
theorem d_M_stem_194 : decode b_M_stem 194 = .ok (.ifCond .le 29, 3) := by decide +kernel
theorem d_M_stem_197 : decode b_M_stem 197 = .ok (.aload_n 0, 1) := by decide +kernel
theorem d_M_stem_198 : decode b_M_stem 198 = .ok (.aload_n 0, 1) := by decide +kernel
theorem d_M_stem_199 : decode b_M_stem 199 = .ok (.getfield 254, 3) := by decide +kernel
theorem d_M_stem_202 : decode b_M_stem 202 = .ok (.aload_n 0, 1) := by decide +kernel
theorem d_M_stem_203 : decode b_M_stem 203 = .ok (.getfield 166, 3) := by decide +kernel
theorem d_M_stem_206 : decode b_M_stem 206 = .ok (.iload_n 1, 1) := by decide +kernel
theorem d_M_stem_207 : decode b_M_stem 207 = .ok (.aaload, 1) := by decide +kernel
theorem d_M_stem_208 : decode b_M_stem 208 = .ok (.invokevirtual 266, 3) := by decide +kernel
theorem d_M_stem_211 : decode b_M_stem 211 = .ok (.isub, 1) := by decide +kernel
theorem d_M_stem_212 : decode b_M_stem 212 = .ok (.aload_n 0, 1) := by decide +kernel
theorem d_M_stem_213 : decode b_M_stem 213 = .ok (.getfield 166, 3) := by decide +kernel
theorem d_M_stem_216 : decode b_M_stem 216 = .ok (.iload_n 1, 1) := by decide +kernel
theorem d_M_stem_217 : decode b_M_stem 217 = .ok (.iconst 1, 1) := by decide +kernel
theorem d_M_stem_218 : decode b_M_stem 218 = .ok (.iadd, 1) := by decide +kernel
theorem d_M_stem_219 : decode b_M_stem 219 = .ok (.aaload, 1) := by decide +kernel
theorem d_M_stem_220 : decode b_M_stem 220 = .ok (.invokevirtual 303, 3) := by decide +kernel
theorem d_M_stem_223 : decode b_M_stem 223 = .ok (.aload_n 0, 1) := by decide +kernel
theorem d_M_stem_224 : decode b_M_stem 224 = .ok (.aload_n 0, 1) := by decide +kernel
theorem d_M_stem_225 : decode b_M_stem 225 = .ok (.getfield 187, 3) := by decide +kernel
theorem d_M_stem_228 : decode b_M_stem 228 = .ok (.invokevirtual 296, 3) := by decide +kernel
theorem d_M_stem_231 : decode b_M_stem 231 = .ok (.istore_n 1, 1) := by decide +kernel
theorem d_M_stem_232 : decode b_M_stem 232 = .ok (.iload_n 1, 1) := by decide +kernel
theorem d_M_stem_233 : decode b_M_stem 233 = .ok (.ifCond .lt 86, 3) := by decide +kernel
theorem d_M_stem_236 : decode b_M_stem 236 = .ok (.aload_n 0, 1) := by decide +kernel
theorem d_M_stem_237 : decode b_M_stem 237 = .ok (.getfield 254, 3) := by decide +kernel
theorem d_M_stem_240 : decode b_M_stem 240 = .ok (.aload_n 0, 1) := by decide +kernel
theorem d_M_stem_241 : decode b_M_stem 241 = .ok (.getfield 187, 3) := by decide +kernel
theorem d_M_stem_244 : decode b_M_stem 244 = .ok (.iload_n 1, 1) := by decide +kernel
theorem d_M_stem_245 : decode b_M_stem 245 = .ok (.aaload, 1) := by decide +kernel
theorem d_M_stem_246 : decode b_M_stem 246 = .ok (.invokevirtual 266, 3) := by decide +kernel
theorem d_M_stem_249 : decode b_M_stem 249 = .ok (.isub, 1) := by decide +kernel
theorem d_M_stem_250 : decode b_M_stem 250 = .ok (.istore_n 2, 1) := by decide +kernel
theorem d_M_stem_251 : decode b_M_stem 251 = .ok (.aload_n 0, 1) := by decide +kernel
theorem d_M_stem_252 : decode b_M_stem 252 = .ok (.getfield 187, 3) := by decide +kernel
theorem d_M_stem_255 : decode b_M_stem 255 = .ok (.iload_n 1, 1) := by decide +kernel
theorem d_M_stem_256 : decode b_M_stem 256 = .ok (.aaload, 1) := by decide +kernel
theorem d_M_stem_257 : decode b_M_stem 257 = .ok (.ldc 185, 2) := by decide +kernel
theorem d_M_stem_259 : decode b_M_stem 259 = .ok (.invokevirtual 307, 3) := by decide +kernel
theorem d_M_stem_262 : decode b_M_stem 262 = .ok (.ifCond .eq 33, 3) := by decide +kernel
theorem d_M_stem_265 : decode b_M_stem 265 = .ok (.iload_n 2, 1) := by decide +kernel
theorem d_M_stem_266 : decode b_M_stem 266 = .ok (.ifCond .le 33, 3) := by decide +kernel
theorem d_M_stem_269 : decode b_M_stem 269 = .ok (.aload_n 0, 1) := by decide +kernel
theorem d_M_stem_270 : decode b_M_stem 270 = .ok (.getfield 207, 3) := by decide +kernel
theorem d_M_stem_273 : decode b_M_stem 273 = .ok (.iload_n 2, 1) := by decide +kernel
theorem d_M_stem_274 : decode b_M_stem 274 = .ok (.iconst 1, 1) := by decide +kernel
theorem d_M_stem_275 : decode b_M_stem 275 = .ok (.isub, 1) := by decide +kernel
theorem d_M_stem_276 : decode b_M_stem 276 = .ok (.iaload, 1) := by decide +kernel
theorem d_M_stem_277 : decode b_M_stem 277 = .ok (.bipush 115, 2) := by decide +kernel
theorem d_M_stem_279 : decode b_M_stem 279 = .ok (.if_icmp .eq 16, 3) := by decide +kernel
theorem d_M_stem_282 : decode b_M_stem 282 = .ok (.aload_n 0, 1) := by decide +kernel
theorem d_M_stem_283 : decode b_M_stem 283 = .ok (.getfield 207, 3) := by decide +kernel
theorem d_M_stem_286 : decode b_M_stem 286 = .ok (.iload_n 2, 1) := by decide +kernel
theorem d_M_stem_287 : decode b_M_stem 287 = .ok (.iconst 1, 1) := by decide +kernel
theorem d_M_stem_288 : decode b_M_stem 288 = .ok (.isub, 1) := by decide +kernel
theorem d_M_stem_289 : decode b_M_stem 289 = .ok (.iaload, 1) := by decide +kernel
theorem d_M_stem_290 : decode b_M_stem 290 = .ok (.bipush 116, 2) := by decide +kernel
theorem d_M_stem_292 : decode b_M_stem 292 = .ok (.if_icmp .ne 7, 3) := by decide +kernel
theorem d_M_stem_295 : decode b_M_stem 295 = .ok (.iconst 1, 1) := by decide +kernel
theorem d_M_stem_296 : decode b_M_stem 296 = .ok (.goto 4, 3) := by decide +kernel
theorem d_M_stem_299 : decode b_M_stem 299 = .ok (.iconst 0, 1) := by decide +kernel
theorem d_M_stem_300 : decode b_M_stem 300 = .ok (.istore_n 3, 1) := by decide +kernel
theorem d_M_stem_301 : decode b_M_stem 301 = .ok (.iload_n 3, 1) := by decide +kernel
theorem d_M_stem_302 : decode b_M_stem 302 = .ok (.ifCond .eq 17, 3) := by decide +kernel
theorem d_M_stem_305 : decode b_M_stem 305 = .ok (.aload_n 0, 1) := by decide +kernel
theorem d_M_stem_306 : decode b_M_stem 306 = .ok (.iload_n 2, 1) := by decide +kernel
theorem d_M_stem_307 : decode b_M_stem 307 = .ok (.invokevirtual 300, 3) := by decide +kernel
theorem d_M_stem_310 : decode b_M_stem 310 = .ok (.iconst 1, 1) := by decide +kernel
theorem d_M_stem_311 : decode b_M_stem 311 = .ok (.if_icmp .le 8, 3) := by decide +kernel
theorem d_M_stem_314 : decode b_M_stem 314 = .ok (.aload_n 0, 1) := by decide +kernel
theorem d_M_stem_315 : decode b_M_stem 315 = .ok (.iload_n 2, 1) := by decide +kernel
theorem d_M_stem_316 : decode b_M_stem 316 = .ok (.putfield 254, 3) := by decide +kernel
theorem d_M_stem_319 : decode b_M_stem 319 = .ok (.aload_n 0, 1) := by decide +kernel
theorem d_M_stem_320 : decode b_M_stem 320 = .ok (.ldc 115, 2) := by decide +kernel
theorem d_M_stem_322 : decode b_M_stem 322 = .ok (.invokevirtual 270, 3) := by decide +kernel
theorem d_M_stem_325 : decode b_M_stem 325 = .ok (.ifCond .eq 47, 3) := by decide +kernel
theorem d_M_stem_328 : decode b_M_stem 328 = .ok (.aload_n 0, 1) := by decide +kernel
theorem d_M_stem_329 : decode b_M_stem 329 = .ok (.aload_n 0, 1) := by decide +kernel
theorem d_M_stem_330 : decode b_M_stem 330 = .ok (.getfield 254, 3) := by decide +kernel
theorem d_M_stem_333 : decode b_M_stem 333 = .ok (.iconst 1, 1) := by decide +kernel
theorem d_M_stem_334 : decode b_M_stem 334 = .ok (.isub, 1) := by decide +kernel
theorem d_M_stem_335 : decode b_M_stem 335 = .ok (.invokevirtual 300, 3) := by decide +kernel
theorem d_M_stem_338 : decode b_M_stem 338 = .ok (.istore_n 2, 1) := by decide +kernel
theorem d_M_stem_339 : decode b_M_stem 339 = .ok (.iload_n 2, 1) := by decide +kernel
theorem d_M_stem_340 : decode b_M_stem 340 = .ok (.iconst 1, 1) := by decide +kernel
theorem d_M_stem_341 : decode b_M_stem 341 = .ok (.if_icmp .gt 21, 3) := by decide +kernel
theorem d_M_stem_344 : decode b_M_stem 344 = .ok (.iload_n 2, 1) := by decide +kernel
theorem d_M_stem_345 : decode b_M_stem 345 = .ok (.iconst 1, 1) := by decide +kernel
theorem d_M_stem_346 : decode b_M_stem 346 = .ok (.if_icmp .ne 26, 3) := by decide +kernel
theorem d_M_stem_349 : decode b_M_stem 349 = .ok (.aload_n 0, 1) := by decide +kernel
theorem d_M_stem_350 : decode b_M_stem 350 = .ok (.aload_n 0, 1) := by decide +kernel
theorem d_M_stem_351 : decode b_M_stem 351 = .ok (.getfield 254, 3) := by decide +kernel
theorem d_M_stem_354 : decode b_M_stem 354 = .ok (.iconst 1, 1) := by decide +kernel
theorem d_M_stem_355 : decode b_M_stem 355 = .ok (.isub, 1) := by decide +kernel
theorem d_M_stem_356 : decode b_M_stem 356 = .ok (.invokevirtual 311, 3) := by decide +kernel
theorem d_M_stem_359 : decode b_M_stem 359 = .ok (.ifCond .ne 13, 3) := by decide +kernel
theorem d_M_stem_362 : decode b_M_stem 362 = .ok (.aload_n 0, 1) := by decide +kernel
theorem d_M_stem_363 : decode b_M_stem 363 = .ok (.dup, 1) := by decide +kernel
theorem d_M_stem_364 : decode b_M_stem 364 = .ok (.getfield 254, 3) := by decide +kernel
theorem d_M_stem_367 : decode b_M_stem 367 = .ok (.iconst 1, 1) := by decide +kernel
theorem d_M_stem_368 : decode b_M_stem 368 = .ok (.isub, 1) := by decide +kernel
theorem d_M_stem_369 : decode b_M_stem 369 = .ok (.putfield 254, 3) := by decide +kernel
theorem d_M_stem_372 : decode b_M_stem 372 = .ok (.aload_n 0, 1) := by decide +kernel
theorem d_M_stem_373 : decode b_M_stem 373 = .ok (.ldc_w 314, 3) := by decide +kernel
theorem d_M_stem_376 : decode b_M_stem 376 = .ok (.invokevirtual 270, 3) := by decide +kernel
theorem d_M_stem_379 : decode b_M_stem 379 = .ok (.ifCond .eq 25, 3) := by decide +kernel
theorem d_M_stem_382 : decode b_M_stem 382 = .ok (.aload_n 0, 1) := by decide +kernel
theorem d_M_stem_383 : decode b_M_stem 383 = .ok (.aload_n 0, 1) := by decide +kernel
theorem d_M_stem_384 : decode b_M_stem 384 = .ok (.getfield 254, 3) := by decide +kernel
theorem d_M_stem_387 : decode b_M_stem 387 = .ok (.invokevirtual 300, 3) := by decide +kernel
theorem d_M_stem_390 : decode b_M_stem 390 = .ok (.iconst 1, 1) := by decide +kernel
theorem d_M_stem_391 : decode b_M_stem 391 = .ok (.if_icmp .le 13, 3) := by decide +kernel
theorem d_M_stem_394 : decode b_M_stem 394 = .ok (.aload_n 0, 1) := by decide +kernel
theorem d_M_stem_395 : decode b_M_stem 395 = .ok (.dup, 1) := by decide +kernel
theorem d_M_stem_396 : decode b_M_stem 396 = .ok (.getfield 254, 3) := by decide +kernel
theorem d_M_stem_399 : decode b_M_stem 399 = .ok (.iconst 1, 1) := by decide +kernel
theorem d_M_stem_400 : decode b_M_stem 400 = .ok (.isub, 1) := by decide +kernel
theorem d_M_stem_401 : decode b_M_stem 401 = .ok (.putfield 254, 3) := by decide +kernel
theorem d_M_stem_404 : decode b_M_stem 404 = .ok (.return_, 1) := by decide +kernel
theorem d_M_stemOneB_0 : decode b_M_stemOneB 0 = .ok (.aload_n 0, 1) := by decide +kernel
theorem d_M_stemOneB_1 : decode b_M_stemOneB 1 = .ok (.ldc_w 316, 3) := by decide +kernel
theorem d_M_stemOneB_4 : decode b_M_stemOneB 4 = .ok (.invokevirtual 270, 3) := by decide +kernel
theorem d_M_stemOneB_7 : decode b_M_stemOneB 7 = .ok (.ifCond .eq 27, 3) := by decide +kernel
theorem d_M_stemOneB_10 : decode b_M_stemOneB 10 = .ok (.aload_n 0, 1) := by decide +kernel
theorem d_M_stemOneB_11 : decode b_M_stemOneB 11 = .ok (.aload_n 0, 1) := by decide +kernel
theorem d_M_stemOneB_12 : decode b_M_stemOneB 12 = .ok (.getfield 254, 3) := by decide +kernel
theorem d_M_stemOneB_15 : decode b_M_stemOneB 15 = .ok (.iconst 3, 1) := by decide +kernel
theorem d_M_stemOneB_16 : decode b_M_stemOneB 16 = .ok (.isub, 1) := by decide +kernel
theorem d_M_stemOneB_17 : decode b_M_stemOneB 17 = .ok (.invokevirtual 300, 3) := by decide +kernel
theorem d_M_stemOneB_20 : decode b_M_stemOneB 20 = .ok (.ifCond .le 13, 3) := by decide +kernel
theorem d_M_stemOneB_23 : decode b_M_stemOneB 23 = .ok (.aload_n 0, 1) := by decide +kernel
theorem d_M_stemOneB_24 : decode b_M_stemOneB 24 = .ok (.dup, 1) := by decide +kernel
theorem d_M_stemOneB_25 : decode b_M_stemOneB 25 = .ok (.getfield 254, 3) := by decide +kernel
theorem d_M_stemOneB_28 : decode b_M_stemOneB 28 = .ok (.iconst 1, 1) := by decide +kernel
theorem d_M_stemOneB_29 : decode b_M_stemOneB 29 = .ok (.isub, 1) := by decide +kernel
theorem d_M_stemOneB_30 : decode b_M_stemOneB 30 = .ok (.putfield 254, 3) := by decide +kernel
theorem d_M_stemOneB_33 : decode b_M_stemOneB 33 = .ok (.return_, 1) := by decide +kernel
theorem d_M_stemOneB_34 : decode b_M_stemOneB 34 = .ok (.aload_n 0, 1) := by decide +kernel
theorem d_M_stemOneB_35 : decode b_M_stemOneB 35 = .ok (.ldc_w 318, 3) := by decide +kernel
theorem d_M_stemOneB_38 : decode b_M_stemOneB 38 = .ok (.invokevirtual 270, 3) := by decide +kernel
theorem d_M_stemOneB_41 : decode b_M_stemOneB 41 = .ok (.ifCond .eq 12, 3) := by decide +kernel
theorem d_M_stemOneB_44 : decode b_M_stemOneB 44 = .ok (.aload_n 0, 1) := by decide +kernel
theorem d_M_stemOneB_45 : decode b_M_stemOneB 45 = .ok (.getfield 254, 3) := by decide +kernel
theorem d_M_stemOneB_48 : decode b_M_stemOneB 48 = .ok (.iconst 2, 1) := by decide +kernel
theorem d_M_stemOneB_49 : decode b_M_stemOneB 49 = .ok (.isub, 1) := by decide +kernel
theorem d_M_stemOneB_50 : decode b_M_stemOneB 50 = .ok (.goto 23, 3) := by decide +kernel
theorem d_M_stemOneB_53 : decode b_M_stemOneB 53 = .ok (.aload_n 0, 1) := by decide +kernel
theorem d_M_stemOneB_54 : decode b_M_stemOneB 54 = .ok (.ldc_w 320, 3) := by decide +kernel
theorem d_M_stemOneB_57 : decode b_M_stemOneB 57 = .ok (.invokevirtual 270, 3) := by decide +kernel
theorem d_M_stemOneB_60 : decode b_M_stemOneB 60 = .ok (.ifCond .eq 12, 3) := by decide +kernel
theorem d_M_stemOneB_63 : decode b_M_stemOneB 63 = .ok (.aload_n 0, 1) := by decide +kernel
theorem d_M_stemOneB_64 : decode b_M_stemOneB 64 = .ok (.getfield 254, 3) := by decide +kernel
theorem d_M_stemOneB_67 : decode b_M_stemOneB 67 = .ok (.iconst 3, 1) := by decide +kernel
theorem d_M_stemOneB_68 : decode b_M_stemOneB 68 = .ok (.isub, 1) := by decide +kernel
theorem d_M_stemOneB_69 : decode b_M_stemOneB 69 = .ok (.goto 4, 3) := by decide +kernel
theorem d_M_stemOneB_72 : decode b_M_stemOneB 72 = .ok (.iconst (-1), 1) := by decide +kernel
theorem d_M_stemOneB_73 : decode b_M_stemOneB 73 = .ok (.istore_n 1, 1) := by decide +kernel
theorem d_M_stemOneB_74 : decode b_M_stemOneB 74 = .ok (.iload_n 1, 1) := by decide +kernel
theorem d_M_stemOneB_75 : decode b_M_stemOneB 75 = .ok (.ifCond .lt 11, 3) := by decide +kernel
theorem d_M_stemOneB_78 : decode b_M_stemOneB 78 = .ok (.aload_n 0, 1) := by decide +kernel
theorem d_M_stemOneB_79 : decode b_M_stemOneB 79 = .ok (.iload_n 1, 1) := by decide +kernel
theorem d_M_stemOneB_80 : decode b_M_stemOneB 80 = .ok (.invokevirtual 293, 3) := by decide +kernel
theorem d_M_stemOneB_83 : decode b_M_stemOneB 83 = .ok (.ifCond .ne 4, 3) := by decide +kernel
theorem d_M_stemOneB_86 : decode b_M_stemOneB 86 = .ok (.return_, 1) := by decide +kernel
theorem d_M_stemOneB_87 : decode b_M_stemOneB 87 = .ok (.aload_n 0, 1) := by decide +kernel
theorem d_M_stemOneB_88 : decode b_M_stemOneB 88 = .ok (.iload_n 1, 1) := by decide +kernel
theorem d_M_stemOneB_89 : decode b_M_stemOneB 89 = .ok (.putfield 254, 3) := by decide +kernel
theorem d_M_stemOneB_92 : decode b_M_stemOneB 92 = .ok (.iload_n 1, 1) := by decide +kernel
theorem d_M_stemOneB_93 : decode b_M_stemOneB 93 = .ok (.iconst 1, 1) := by decide +kernel
theorem d_M_stemOneB_94 : decode b_M_stemOneB 94 = .ok (.if_icmp .le 36, 3) := by decide +kernel
theorem d_M_stemOneB_97 : decode b_M_stemOneB 97 = .ok (.aload_n 0, 1) := by decide +kernel
theorem d_M_stemOneB_98 : decode b_M_stemOneB 98 = .ok (.getfield 207, 3) := by decide +kernel
theorem d_M_stemOneB_101 : decode b_M_stemOneB 101 = .ok (.iload_n 1, 1) := by decide +kernel
theorem d_M_stemOneB_102 : decode b_M_stemOneB 102 = .ok (.iconst 1, 1) := by decide +kernel
theorem d_M_stemOneB_103 : decode b_M_stemOneB 103 = .ok (.isub, 1) := by decide +kernel
theorem d_M_stemOneB_104 : decode b_M_stemOneB 104 = .ok (.iaload, 1) := by decide +kernel
theorem d_M_stemOneB_105 : decode b_M_stemOneB 105 = .ok (.aload_n 0, 1) := by decide +kernel
theorem d_M_stemOneB_106 : decode b_M_stemOneB 106 = .ok (.getfield 207, 3) := by decide +kernel
theorem d_M_stemOneB_109 : decode b_M_stemOneB 109 = .ok (.iload_n 1, 1) := by decide +kernel
theorem d_M_stemOneB_110 : decode b_M_stemOneB 110 = .ok (.iconst 2, 1) := by decide +kernel
theorem d_M_stemOneB_111 : decode b_M_stemOneB 111 = .ok (.isub, 1) := by decide +kernel
theorem d_M_stemOneB_112 : decode b_M_stemOneB 112 = .ok (.iaload, 1) := by decide +kernel
theorem d_M_stemOneB_113 : decode b_M_stemOneB 113 = .ok (.if_icmp .ne 17, 3) := by decide +kernel
theorem d_M_stemOneB_116 : decode b_M_stemOneB 116 = .ok (.aload_n 0, 1) := by decide +kernel
theorem d_M_stemOneB_117 : decode b_M_stemOneB 117 = .ok (.iload_n 1, 1) := by decide +kernel
theorem d_M_stemOneB_118 : decode b_M_stemOneB 118 = .ok (.iconst 1, 1) := by decide +kernel
theorem d_M_stemOneB_119 : decode b_M_stemOneB 119 = .ok (.isub, 1) := by decide +kernel
theorem d_M_stemOneB_120 : decode b_M_stemOneB 120 = .ok (.invokevirtual 277, 3) := by decide +kernel
theorem d_M_stemOneB_123 : decode b_M_stemOneB 123 = .ok (.ifCond .ne 7, 3) := by decide +kernel
theorem d_M_stemOneB_126 : decode b_M_stemOneB 126 = .ok (.iconst 1, 1) := by decide +kernel
theorem d_M_stemOneB_127 : decode b_M_stemOneB 127 = .ok (.goto 4, 3) := by decide +kernel
theorem d_M_stemOneB_130 : decode b_M_stemOneB 130 = .ok (.iconst 0, 1) := by decide +kernel
theorem d_M_stemOneB_131 : decode b_M_stemOneB 131 = .ok (.istore_n 2, 1) := by decide +kernel
theorem d_M_stemOneB_132 : decode b_M_stemOneB 132 = .ok (.aload_n 0, 1) := by decide +kernel
theorem d_M_stemOneB_133 : decode b_M_stemOneB 133 = .ok (.ldc 19, 2) := by decide +kernel
theorem d_M_stemOneB_135 : decode b_M_stemOneB 135 = .ok (.invokevirtual 270, 3) := by decide +kernel
theorem d_M_stemOneB_138 : decode b_M_stemOneB 138 = .ok (.ifCond .ne 23, 3) := by decide +kernel
theorem d_M_stemOneB_141 : decode b_M_stemOneB 141 = .ok (.aload_n 0, 1) := by decide +kernel
theorem d_M_stemOneB_142 : decode b_M_stemOneB 142 = .ok (.ldc_w 322, 3) := by decide +kernel
theorem d_M_stemOneB_145 : decode b_M_stemOneB 145 = .ok (.invokevirtual 270, 3) := by decide +kernel
theorem d_M_stemOneB_148 : decode b_M_stemOneB 148 = .ok (.ifCond .ne 13, 3) := by decide +kernel
theorem d_M_stemOneB_151 : decode b_M_stemOneB 151 = .ok (.aload_n 0, 1) := by decide +kernel
theorem d_M_stemOneB_152 : decode b_M_stemOneB 152 = .ok (.ldc_w 324, 3) := by decide +kernel
theorem d_M_stemOneB_155 : decode b_M_stemOneB 155 = .ok (.invokevirtual 270, 3) := by decide +kernel
theorem d_M_stemOneB_158 : decode b_M_stemOneB 158 = .ok (.ifCond .eq 13, 3) := by decide +kernel
theorem d_M_stemOneB_161 : decode b_M_stemOneB 161 = .ok (.aload_n 0, 1) := by decide +kernel
theorem d_M_stemOneB_162 : decode b_M_stemOneB 162 = .ok (.iload_n 1, 1) := by decide +kernel
theorem d_M_stemOneB_163 : decode b_M_stemOneB 163 = .ok (.ldc 115, 2) := by decide +kernel
theorem d_M_stemOneB_165 : decode b_M_stemOneB 165 = .ok (.invokevirtual 303, 3) := by decide +kernel
theorem d_M_stemOneB_168 : decode b_M_stemOneB 168 = .ok (.goto 83, 3) := by decide +kernel
theorem d_M_stemOneB_171 : decode b_M_stemOneB 171 = .ok (.iload_n 2, 1) := by decide +kernel
theorem d_M_stemOneB_172 : decode b_M_stemOneB 172 = .ok (.ifCond .eq 55, 3) := by decide +kernel
end
section
theorem d_M_stemOneB_175 : decode b_M_stemOneB 175 = .ok (.aload_n 0, 1) := by decide +kernel
theorem d_M_stemOneB_176 : decode b_M_stemOneB 176 = .ok (.getfield 207, 3) := by decide +kernel
theorem d_M_stemOneB_179 : decode b_M_stemOneB 179 = .ok (.iload_n 1, 1) := by decide +kernel
theorem d_M_stemOneB_180 : decode b_M_stemOneB 180 = .ok (.iconst 1, 1) := by decide +kernel
theorem d_M_stemOneB_181 : decode b_M_stemOneB 181 = .ok (.isub, 1) := by decide +kernel
theorem d_M_stemOneB_182 : decode b_M_stemOneB 182 = .ok (.iaload, 1) := by decide +kernel
theorem d_M_stemOneB_183 : decode b_M_stemOneB 183 = .ok (.bipush 108, 2) := by decide +kernel
theorem d_M_stemOneB_185 : decode b_M_stemOneB 185 = .ok (.if_icmp .eq 42, 3) := by decide +kernel
theorem d_M_stemOneB_188 : decode b_M_stemOneB 188 = .ok (.aload_n 0, 1) := by decide +kernel
theorem d_M_stemOneB_189 : decode b_M_stemOneB 189 = .ok (.getfield 207, 3) := by decide +kernel
theorem d_M_stemOneB_192 : decode b_M_stemOneB 192 = .ok (.iload_n 1, 1) := by decide +kernel
theorem d_M_stemOneB_193 : decode b_M_stemOneB 193 = .ok (.iconst 1, 1) := by decide +kernel
theorem d_M_stemOneB_194 : decode b_M_stemOneB 194 = .ok (.isub, 1) := by decide +kernel
theorem d_M_stemOneB_195 : decode b_M_stemOneB 195 = .ok (.iaload, 1) := by decide +kernel
theorem d_M_stemOneB_196 : decode b_M_stemOneB 196 = .ok (.bipush 115, 2) := by decide +kernel
theorem d_M_stemOneB_198 : decode b_M_stemOneB 198 = .ok (.if_icmp .eq 29, 3) := by decide +kernel
theorem d_M_stemOneB_201 : decode b_M_stemOneB 201 = .ok (.aload_n 0, 1) := by decide +kernel
theorem d_M_stemOneB_202 : decode b_M_stemOneB 202 = .ok (.getfield 207, 3) := by decide +kernel
theorem d_M_stemOneB_205 : decode b_M_stemOneB 205 = .ok (.iload_n 1, 1) := by decide +kernel
theorem d_M_stemOneB_206 : decode b_M_stemOneB 206 = .ok (.iconst 1, 1) := by decide +kernel
theorem d_M_stemOneB_207 : decode b_M_stemOneB 207 = .ok (.isub, 1) := by decide +kernel
theorem d_M_stemOneB_208 : decode b_M_stemOneB 208 = .ok (.iaload, 1) := by decide +kernel
theorem d_M_stemOneB_209 : decode b_M_stemOneB 209 = .ok (.bipush 122, 2) := by decide +kernel
theorem d_M_stemOneB_211 : decode b_M_stemOneB 211 = .ok (.if_icmp .eq 16, 3) := by decide +kernel
theorem d_M_stemOneB_214 : decode b_M_stemOneB 214 = .ok (.aload_n 0, 1) := by decide +kernel
theorem d_M_stemOneB_215 : decode b_M_stemOneB 215 = .ok (.dup, 1) := by decide +kernel
theorem d_M_stemOneB_216 : decode b_M_stemOneB 216 = .ok (.getfield 254, 3) := by decide +kernel
theorem d_M_stemOneB_219 : decode b_M_stemOneB 219 = .ok (.iconst 1, 1) := by decide +kernel
theorem d_M_stemOneB_220 : decode b_M_stemOneB 220 = .ok (.isub, 1) := by decide +kernel
theorem d_M_stemOneB_221 : decode b_M_stemOneB 221 = .ok (.putfield 254, 3) := by decide +kernel
theorem d_M_stemOneB_224 : decode b_M_stemOneB 224 = .ok (.goto 27, 3) := by decide +kernel
theorem d_M_stemOneB_227 : decode b_M_stemOneB 227 = .ok (.aload_n 0, 1) := by decide +kernel
theorem d_M_stemOneB_228 : decode b_M_stemOneB 228 = .ok (.iload_n 1, 1) := by decide +kernel
theorem d_M_stemOneB_229 : decode b_M_stemOneB 229 = .ok (.invokevirtual 300, 3) := by decide +kernel
theorem d_M_stemOneB_232 : decode b_M_stemOneB 232 = .ok (.iconst 1, 1) := by decide +kernel
theorem d_M_stemOneB_233 : decode b_M_stemOneB 233 = .ok (.if_icmp .ne 18, 3) := by decide +kernel
theorem d_M_stemOneB_236 : decode b_M_stemOneB 236 = .ok (.aload_n 0, 1) := by decide +kernel
theorem d_M_stemOneB_237 : decode b_M_stemOneB 237 = .ok (.iload_n 1, 1) := by decide +kernel
theorem d_M_stemOneB_238 : decode b_M_stemOneB 238 = .ok (.invokevirtual 311, 3) := by decide +kernel
theorem d_M_stemOneB_241 : decode b_M_stemOneB 241 = .ok (.ifCond .eq 10, 3) := by decide +kernel
theorem d_M_stemOneB_244 : decode b_M_stemOneB 244 = .ok (.aload_n 0, 1) := by decide +kernel
theorem d_M_stemOneB_245 : decode b_M_stemOneB 245 = .ok (.iload_n 1, 1) := by decide +kernel
theorem d_M_stemOneB_246 : decode b_M_stemOneB 246 = .ok (.ldc 115, 2) := by decide +kernel
theorem d_M_stemOneB_248 : decode b_M_stemOneB 248 = .ok (.invokevirtual 303, 3) := by decide +kernel
theorem d_M_stemOneB_251 : decode b_M_stemOneB 251 = .ok (.return_, 1) := by decide +kernel
theorem d_M_measure_0 : decode b_M_measure 0 = .ok (.iconst 0, 1) := by decide +kernel
theorem d_M_measure_1 : decode b_M_measure 1 = .ok (.istore_n 2, 1) := by decide +kernel
theorem d_M_measure_2 : decode b_M_measure 2 = .ok (.iconst 1, 1) := by decide +kernel
theorem d_M_measure_3 : decode b_M_measure 3 = .ok (.istore_n 3, 1) := by decide +kernel
theorem d_M_measure_4 : decode b_M_measure 4 = .ok (.iload_n 3, 1) := by decide +kernel
theorem d_M_measure_5 : decode b_M_measure 5 = .ok (.iload_n 1, 1) := by decide +kernel
theorem d_M_measure_6 : decode b_M_measure 6 = .ok (.if_icmp .ge 30, 3) := by decide +kernel
theorem d_M_measure_9 : decode b_M_measure 9 = .ok (.aload_n 0, 1) := by decide +kernel
theorem d_M_measure_10 : decode b_M_measure 10 = .ok (.iload_n 3, 1) := by decide +kernel
theorem d_M_measure_11 : decode b_M_measure 11 = .ok (.iconst 1, 1) := by decide +kernel
theorem d_M_measure_12 : decode b_M_measure 12 = .ok (.isub, 1) := by decide +kernel
theorem d_M_measure_13 : decode b_M_measure 13 = .ok (.invokevirtual 277, 3) := by decide +kernel
theorem d_M_measure_16 : decode b_M_measure 16 = .ok (.ifCond .eq 14, 3) := by decide +kernel
theorem d_M_measure_19 : decode b_M_measure 19 = .ok (.aload_n 0, 1) := by decide +kernel
theorem d_M_measure_20 : decode b_M_measure 20 = .ok (.iload_n 3, 1) := by decide +kernel
theorem d_M_measure_21 : decode b_M_measure 21 = .ok (.invokevirtual 277, 3) := by decide +kernel
theorem d_M_measure_24 : decode b_M_measure 24 = .ok (.ifCond .ne 6, 3) := by decide +kernel
theorem d_M_measure_27 : decode b_M_measure 27 = .ok (.iinc 2 1, 3) := by decide +kernel
theorem d_M_measure_30 : decode b_M_measure 30 = .ok (.iinc 3 1, 3) := by decide +kernel
theorem d_M_measure_33 : decode b_M_measure 33 = .ok (.goto (-29), 3) := by decide +kernel
theorem d_M_measure_36 : decode b_M_measure 36 = .ok (.iload_n 2, 1) := by decide +kernel
theorem d_M_measure_37 : decode b_M_measure 37 = .ok (.ireturn, 1) := by decide +kernel
theorem d_M_vowel_0 : decode b_M_vowel 0 = .ok (.aload_n 0, 1) := by decide +kernel
theorem d_M_vowel_1 : decode b_M_vowel 1 = .ok (.getfield 207, 3) := by decide +kernel
theorem d_M_vowel_4 : decode b_M_vowel 4 = .ok (.iload_n 1, 1) := by decide +kernel
theorem d_M_vowel_5 : decode b_M_vowel 5 = .ok (.iaload, 1) := by decide +kernel
theorem d_M_vowel_6 : decode b_M_vowel 6 = .ok (.istore_n 2, 1) := by decide +kernel
theorem d_M_vowel_7 : decode b_M_vowel 7 = .ok (.iload_n 2, 1) := by decide +kernel
theorem d_M_vowel_8 : decode b_M_vowel 8 = .ok (.bipush 121, 2) := by decide +kernel
theorem d_M_vowel_10 : decode b_M_vowel 10 = .ok (.if_icmp .eq 39, 3) := by decide +kernel
theorem d_M_vowel_13 : decode b_M_vowel 13 = .ok (.iload_n 2, 1) := by decide +kernel
theorem d_M_vowel_14 : decode b_M_vowel 14 = .ok (.bipush 97, 2) := by decide +kernel
theorem d_M_vowel_16 : decode b_M_vowel 16 = .ok (.if_icmp .eq 27, 3) := by decide +kernel
theorem d_M_vowel_19 : decode b_M_vowel 19 = .ok (.iload_n 2, 1) := by decide +kernel
theorem d_M_vowel_20 : decode b_M_vowel 20 = .ok (.bipush 101, 2) := by decide +kernel
theorem d_M_vowel_22 : decode b_M_vowel 22 = .ok (.if_icmp .eq 21, 3) := by decide +kernel
theorem d_M_vowel_25 : decode b_M_vowel 25 = .ok (.iload_n 2, 1) := by decide +kernel
theorem d_M_vowel_26 : decode b_M_vowel 26 = .ok (.bipush 105, 2) := by decide +kernel
theorem d_M_vowel_28 : decode b_M_vowel 28 = .ok (.if_icmp .eq 15, 3) := by decide +kernel
theorem d_M_vowel_31 : decode b_M_vowel 31 = .ok (.iload_n 2, 1) := by decide +kernel
theorem d_M_vowel_32 : decode b_M_vowel 32 = .ok (.bipush 111, 2) := by decide +kernel
theorem d_M_vowel_34 : decode b_M_vowel 34 = .ok (.if_icmp .eq 9, 3) := by decide +kernel
theorem d_M_vowel_37 : decode b_M_vowel 37 = .ok (.iload_n 2, 1) := by decide +kernel
theorem d_M_vowel_38 : decode b_M_vowel 38 = .ok (.bipush 117, 2) := by decide +kernel
theorem d_M_vowel_40 : decode b_M_vowel 40 = .ok (.if_icmp .ne 7, 3) := by decide +kernel
theorem d_M_vowel_43 : decode b_M_vowel 43 = .ok (.iconst 1, 1) := by decide +kernel
theorem d_M_vowel_44 : decode b_M_vowel 44 = .ok (.goto 4, 3) := by decide +kernel
theorem d_M_vowel_47 : decode b_M_vowel 47 = .ok (.iconst 0, 1) := by decide +kernel
theorem d_M_vowel_48 : decode b_M_vowel 48 = .ok (.ireturn, 1) := by decide +kernel
theorem d_M_vowel_49 : decode b_M_vowel 49 = .ok (.iload_n 1, 1) := by decide +kernel
theorem d_M_vowel_50 : decode b_M_vowel 50 = .ok (.istore_n 3, 1) := by decide +kernel
theorem d_M_vowel_51 : decode b_M_vowel 51 = .ok (.iload_n 3, 1) := by decide +kernel
theorem d_M_vowel_52 : decode b_M_vowel 52 = .ok (.ifCond .le 22, 3) := by decide +kernel
theorem d_M_vowel_55 : decode b_M_vowel 55 = .ok (.aload_n 0, 1) := by decide +kernel
theorem d_M_vowel_56 : decode b_M_vowel 56 = .ok (.getfield 207, 3) := by decide +kernel
theorem d_M_vowel_59 : decode b_M_vowel 59 = .ok (.iload_n 3, 1) := by decide +kernel
theorem d_M_vowel_60 : decode b_M_vowel 60 = .ok (.iconst 1, 1) := by decide +kernel
theorem d_M_vowel_61 : decode b_M_vowel 61 = .ok (.isub, 1) := by decide +kernel
theorem d_M_vowel_62 : decode b_M_vowel 62 = .ok (.iaload, 1) := by decide +kernel
theorem d_M_vowel_63 : decode b_M_vowel 63 = .ok (.bipush 121, 2) := by decide +kernel
theorem d_M_vowel_65 : decode b_M_vowel 65 = .ok (.if_icmp .ne 9, 3) := by decide +kernel
theorem d_M_vowel_68 : decode b_M_vowel 68 = .ok (.iinc 3 (-1), 3) := by decide +kernel
theorem d_M_vowel_71 : decode b_M_vowel 71 = .ok (.goto (-20), 3) := by decide +kernel
theorem d_M_vowel_74 : decode b_M_vowel 74 = .ok (.iload_n 3, 1) := by decide +kernel
theorem d_M_vowel_75 : decode b_M_vowel 75 = .ok (.ifCond .le 17, 3) := by decide +kernel
theorem d_M_vowel_78 : decode b_M_vowel 78 = .ok (.aload_n 0, 1) := by decide +kernel
theorem d_M_vowel_79 : decode b_M_vowel 79 = .ok (.iload_n 3, 1) := by decide +kernel
theorem d_M_vowel_80 : decode b_M_vowel 80 = .ok (.iconst 1, 1) := by decide +kernel
theorem d_M_vowel_81 : decode b_M_vowel 81 = .ok (.isub, 1) := by decide +kernel
theorem d_M_vowel_82 : decode b_M_vowel 82 = .ok (.invokevirtual 277, 3) := by decide +kernel
theorem d_M_vowel_85 : decode b_M_vowel 85 = .ok (.ifCond .ne 7, 3) := by decide +kernel
theorem d_M_vowel_88 : decode b_M_vowel 88 = .ok (.iconst 1, 1) := by decide +kernel
theorem d_M_vowel_89 : decode b_M_vowel 89 = .ok (.goto 4, 3) := by decide +kernel
theorem d_M_vowel_92 : decode b_M_vowel 92 = .ok (.iconst 0, 1) := by decide +kernel
theorem d_M_vowel_93 : decode b_M_vowel 93 = .ok (.istore 4, 2) := by decide +kernel
theorem d_M_vowel_95 : decode b_M_vowel 95 = .ok (.iload_n 1, 1) := by decide +kernel
theorem d_M_vowel_96 : decode b_M_vowel 96 = .ok (.iload_n 3, 1) := by decide +kernel
theorem d_M_vowel_97 : decode b_M_vowel 97 = .ok (.isub, 1) := by decide +kernel
theorem d_M_vowel_98 : decode b_M_vowel 98 = .ok (.iconst 2, 1) := by decide +kernel
theorem d_M_vowel_99 : decode b_M_vowel 99 = .ok (.irem, 1) := by decide +kernel
theorem d_M_vowel_100 : decode b_M_vowel 100 = .ok (.ifCond .ne 8, 3) := by decide +kernel
theorem d_M_vowel_103 : decode b_M_vowel 103 = .ok (.iload 4, 2) := by decide +kernel
theorem d_M_vowel_105 : decode b_M_vowel 105 = .ok (.goto 13, 3) := by decide +kernel
theorem d_M_vowel_108 : decode b_M_vowel 108 = .ok (.iload 4, 2) := by decide +kernel
theorem d_M_vowel_110 : decode b_M_vowel 110 = .ok (.ifCond .ne 7, 3) := by decide +kernel
theorem d_M_vowel_113 : decode b_M_vowel 113 = .ok (.iconst 1, 1) := by decide +kernel
theorem d_M_vowel_114 : decode b_M_vowel 114 = .ok (.goto 4, 3) := by decide +kernel
theorem d_M_vowel_117 : decode b_M_vowel 117 = .ok (.iconst 0, 1) := by decide +kernel
theorem d_M_vowel_118 : decode b_M_vowel 118 = .ok (.ireturn, 1) := by decide +kernel
theorem d_M_anyVowel_0 : decode b_M_anyVowel 0 = .ok (.iconst 0, 1) := by decide +kernel
theorem d_M_anyVowel_1 : decode b_M_anyVowel 1 = .ok (.istore_n 2, 1) := by decide +kernel
theorem d_M_anyVowel_2 : decode b_M_anyVowel 2 = .ok (.iload_n 2, 1) := by decide +kernel
theorem d_M_anyVowel_3 : decode b_M_anyVowel 3 = .ok (.iload_n 1, 1) := by decide +kernel
theorem d_M_anyVowel_4 : decode b_M_anyVowel 4 = .ok (.if_icmp .ge 19, 3) := by decide +kernel
theorem d_M_anyVowel_7 : decode b_M_anyVowel 7 = .ok (.aload_n 0, 1) := by decide +kernel
theorem d_M_anyVowel_8 : decode b_M_anyVowel 8 = .ok (.iload_n 2, 1) := by decide +kernel
theorem d_M_anyVowel_9 : decode b_M_anyVowel 9 = .ok (.invokevirtual 277, 3) := by decide +kernel
theorem d_M_anyVowel_12 : decode b_M_anyVowel 12 = .ok (.ifCond .eq 5, 3) := by decide +kernel
theorem d_M_anyVowel_15 : decode b_M_anyVowel 15 = .ok (.iconst 1, 1) := by decide +kernel
theorem d_M_anyVowel_16 : decode b_M_anyVowel 16 = .ok (.ireturn, 1) := by decide +kernel
theorem d_M_anyVowel_17 : decode b_M_anyVowel 17 = .ok (.iinc 2 1, 3) := by decide +kernel
theorem d_M_anyVowel_20 : decode b_M_anyVowel 20 = .ok (.goto (-18), 3) := by decide +kernel
theorem d_M_anyVowel_23 : decode b_M_anyVowel 23 = .ok (.iconst 0, 1) := by decide +kernel
theorem d_M_anyVowel_24 : decode b_M_anyVowel 24 = .ok (.ireturn, 1) := by decide +kernel
theorem d_M_instead_0 : decode b_M_instead 0 = .ok (.iconst 0, 1) := by decide +kernel
theorem d_M_instead_1 : decode b_M_instead 1 = .ok (.istore_n 3, 1) := by decide +kernel
theorem d_M_instead_2 : decode b_M_instead 2 = .ok (.iload_n 3, 1) := by decide +kernel
theorem d_M_instead_3 : decode b_M_instead 3 = .ok (.aload_n 2, 1) := by decide +kernel
theorem d_M_instead_4 : decode b_M_instead 4 = .ok (.invokevirtual 266, 3) := by decide +kernel
theorem d_M_instead_7 : decode b_M_instead 7 = .ok (.if_icmp .ge 22, 3) := by decide +kernel
theorem d_M_instead_10 : decode b_M_instead 10 = .ok (.aload_n 0, 1) := by decide +kernel
theorem d_M_instead_11 : decode b_M_instead 11 = .ok (.getfield 207, 3) := by decide +kernel
theorem d_M_instead_14 : decode b_M_instead 14 = .ok (.iload_n 1, 1) := by decide +kernel
theorem d_M_instead_15 : decode b_M_instead 15 = .ok (.iload_n 3, 1) := by decide +kernel
theorem d_M_instead_16 : decode b_M_instead 16 = .ok (.iadd, 1) := by decide +kernel
theorem d_M_instead_17 : decode b_M_instead 17 = .ok (.aload_n 2, 1) := by decide +kernel
theorem d_M_instead_18 : decode b_M_instead 18 = .ok (.iload_n 3, 1) := by decide +kernel
theorem d_M_instead_19 : decode b_M_instead 19 = .ok (.invokevirtual 273, 3) := by decide +kernel
theorem d_M_instead_22 : decode b_M_instead 22 = .ok (.iastore, 1) := by decide +kernel
theorem d_M_instead_23 : decode b_M_instead 23 = .ok (.iinc 3 1, 3) := by decide +kernel
theorem d_M_instead_26 : decode b_M_instead 26 = .ok (.goto (-24), 3) := by decide +kernel
theorem d_M_instead_29 : decode b_M_instead 29 = .ok (.aload_n 0, 1) := by decide +kernel
theorem d_M_instead_30 : decode b_M_instead 30 = .ok (.iload_n 1, 1) := by decide +kernel
theorem d_M_instead_31 : decode b_M_instead 31 = .ok (.aload_n 2, 1) := by decide +kernel
theorem d_M_instead_32 : decode b_M_instead 32 = .ok (.invokevirtual 266, 3) := by decide +kernel
theorem d_M_instead_35 : decode b_M_instead 35 = .ok (.iadd, 1) := by decide +kernel
theorem d_M_instead_36 : decode b_M_instead 36 = .ok (.putfield 254, 3) := by decide +kernel
theorem d_M_instead_39 : decode b_M_instead 39 = .ok (.return_, 1) := by decide +kernel
theorem d_M_cvc_0 : decode b_M_cvc 0 = .ok (.iload_n 1, 1) := by decide +kernel
theorem d_M_cvc_1 : decode b_M_cvc 1 = .ok (.iconst 2, 1) := by decide +kernel
theorem d_M_cvc_2 : decode b_M_cvc 2 = .ok (.if_icmp .le 76, 3) := by decide +kernel
theorem d_M_cvc_5 : decode b_M_cvc 5 = .ok (.aload_n 0, 1) := by decide +kernel
theorem d_M_cvc_6 : decode b_M_cvc 6 = .ok (.iload_n 1, 1) := by decide +kernel
theorem d_M_cvc_7 : decode b_M_cvc 7 = .ok (.iconst 3, 1) := by decide +kernel
theorem d_M_cvc_8 : decode b_M_cvc 8 = .ok (.isub, 1) := by decide +kernel
theorem d_M_cvc_9 : decode b_M_cvc 9 = .ok (.invokevirtual 277, 3) := by decide +kernel
theorem d_M_cvc_12 : decode b_M_cvc 12 = .ok (.ifCond .ne 66, 3) := by decide +kernel
theorem d_M_cvc_15 : decode b_M_cvc 15 = .ok (.aload_n 0, 1) := by decide +kernel
theorem d_M_cvc_16 : decode b_M_cvc 16 = .ok (.iload_n 1, 1) := by decide +kernel
theorem d_M_cvc_17 : decode b_M_cvc 17 = .ok (.iconst 2, 1) := by decide +kernel
theorem d_M_cvc_18 : decode b_M_cvc 18 = .ok (.isub, 1) := by decide +kernel
theorem d_M_cvc_19 : decode b_M_cvc 19 = .ok (.invokevirtual 277, 3) := by decide +kernel
theorem d_M_cvc_22 : decode b_M_cvc 22 = .ok (.ifCond .eq 56, 3) := by decide +kernel
theorem d_M_cvc_25 : decode b_M_cvc 25 = .ok (.aload_n 0, 1) := by decide +kernel
theorem d_M_cvc_26 : decode b_M_cvc 26 = .ok (.iload_n 1, 1) := by decide +kernel
theorem d_M_cvc_27 : decode b_M_cvc 27 = .ok (.iconst 1, 1) := by decide +kernel
theorem d_M_cvc_28 : decode b_M_cvc 28 = .ok (.isub, 1) := by decide +kernel
theorem d_M_cvc_29 : decode b_M_cvc 29 = .ok (.invokevirtual 277, 3) := by decide +kernel
theorem d_M_cvc_32 : decode b_M_cvc 32 = .ok (.ifCond .ne 46, 3) := by decide +kernel
theorem d_M_cvc_35 : decode b_M_cvc 35 = .ok (.aload_n 0, 1) := by decide +kernel
theorem d_M_cvc_36 : decode b_M_cvc 36 = .ok (.getfield 207, 3) := by decide +kernel
theorem d_M_cvc_39 : decode b_M_cvc 39 = .ok (.iload_n 1, 1) := by decide +kernel
theorem d_M_cvc_40 : decode b_M_cvc 40 = .ok (.iconst 1, 1) := by decide +kernel
theorem d_M_cvc_41 : decode b_M_cvc 41 = .ok (.isub, 1) := by decide +kernel
theorem d_M_cvc_42 : decode b_M_cvc 42 = .ok (.iaload, 1) := by decide +kernel
theorem d_M_cvc_43 : decode b_M_cvc 43 = .ok (.bipush 119, 2) := by decide +kernel
theorem d_M_cvc_45 : decode b_M_cvc 45 = .ok (.if_icmp .eq 33, 3) := by decide +kernel
theorem d_M_cvc_48 : decode b_M_cvc 48 = .ok (.aload_n 0, 1) := by decide +kernel
theorem d_M_cvc_49 : decode b_M_cvc 49 = .ok (.getfield 207, 3) := by decide +kernel
theorem d_M_cvc_52 : decode b_M_cvc 52 = .ok (.iload_n 1, 1) := by decide +kernel
theorem d_M_cvc_53 : decode b_M_cvc 53 = .ok (.iconst 1, 1) := by decide +kernel
theorem d_M_cvc_54 : decode b_M_cvc 54 = .ok (.isub, 1) := by decide +kernel
theorem d_M_cvc_55 : decode b_M_cvc 55 = .ok (.iaload, 1) := by decide +kernel
theorem d_M_cvc_56 : decode b_M_cvc 56 = .ok (.bipush 120, 2) := by decide +kernel
theorem d_M_cvc_58 : decode b_M_cvc 58 = .ok (.if_icmp .eq 20, 3) := by decide +kernel
theorem d_M_cvc_61 : decode b_M_cvc 61 = .ok (.aload_n 0, 1) := by decide +kernel
theorem d_M_cvc_62 : decode b_M_cvc 62 = .ok (.getfield 207, 3) := by decide +kernel
theorem d_M_cvc_65 : decode b_M_cvc 65 = .ok (.iload_n 1, 1) := by decide +kernel
theorem d_M_cvc_66 : decode b_M_cvc 66 = .ok (.iconst 1, 1) := by decide +kernel
theorem d_M_cvc_67 : decode b_M_cvc 67 = .ok (.isub, 1) := by decide +kernel
theorem d_M_cvc_68 : decode b_M_cvc 68 = .ok (.iaload, 1) := by decide +kernel
theorem d_M_cvc_69 : decode b_M_cvc 69 = .ok (.bipush 121, 2) := by decide +kernel
theorem d_M_cvc_71 : decode b_M_cvc 71 = .ok (.if_icmp .eq 7, 3) := by decide +kernel
theorem d_M_cvc_74 : decode b_M_cvc 74 = .ok (.iconst 1, 1) := by decide +kernel
theorem d_M_cvc_75 : decode b_M_cvc 75 = .ok (.goto 4, 3) := by decide +kernel
theorem d_M_cvc_78 : decode b_M_cvc 78 = .ok (.iconst 0, 1) := by decide +kernel
theorem d_M_cvc_79 : decode b_M_cvc 79 = .ok (.ireturn, 1) := by decide +kernel
theorem d_M_longest_0 : decode b_M_longest 0 = .ok (.iconst (-1), 1) := by decide +kernel
theorem d_M_longest_1 : decode b_M_longest 1 = .ok (.istore_n 2, 1) := by decide +kernel
theorem d_M_longest_2 : decode b_M_longest 2 = .ok (.iconst 0, 1) := by decide +kernel
theorem d_M_longest_3 : decode b_M_longest 3 = .ok (.istore_n 3, 1) := by decide +kernel
theorem d_M_longest_4 : decode b_M_longest 4 = .ok (.iload_n 3, 1) := by decide +kernel
theorem d_M_longest_5 : decode b_M_longest 5 = .ok (.aload_n 1, 1) := by decide +kernel
theorem d_M_longest_6 : decode b_M_longest 6 = .ok (.arraylength, 1) := by decide +kernel
theorem d_M_longest_7 : decode b_M_longest 7 = .ok (.if_icmp .ge 40, 3) := by decide +kernel
theorem d_M_longest_10 : decode b_M_longest 10 = .ok (.aload_n 0, 1) := by decide +kernel
theorem d_M_longest_11 : decode b_M_longest 11 = .ok (.aload_n 1, 1) := by decide +kernel
theorem d_M_longest_12 : decode b_M_longest 12 = .ok (.iload_n 3, 1) := by decide +kernel
theorem d_M_longest_13 : decode b_M_longest 13 = .ok (.aaload, 1) := by decide +kernel
theorem d_M_longest_14 : decode b_M_longest 14 = .ok (.invokevirtual 270, 3) := by decide +kernel
theorem d_M_longest_17 : decode b_M_longest 17 = .ok (.ifCond .eq 24, 3) := by decide +kernel
theorem d_M_longest_20 : decode b_M_longest 20 = .ok (.iload_n 2, 1) := by decide +kernel
theorem d_M_longest_21 : decode b_M_longest 21 = .ok (.ifCond .lt 18, 3) := by decide +kernel
theorem d_M_longest_24 : decode b_M_longest 24 = .ok (.aload_n 1, 1) := by decide +kernel
theorem d_M_longest_25 : decode b_M_longest 25 = .ok (.iload_n 3, 1) := by decide +kernel
theorem d_M_longest_26 : decode b_M_longest 26 = .ok (.aaload, 1) := by decide +kernel
theorem d_M_longest_27 : decode b_M_longest 27 = .ok (.invokevirtual 266, 3) := by decide +kernel
theorem d_M_longest_30 : decode b_M_longest 30 = .ok (.aload_n 1, 1) := by decide +kernel
theorem d_M_longest_31 : decode b_M_longest 31 = .ok (.iload_n 2, 1) := by decide +kernel
theorem d_M_longest_32 : decode b_M_longest 32 = .ok (.aaload, 1) := by decide +kernel
theorem d_M_longest_33 : decode b_M_longest 33 = .ok (.invokevirtual 266, 3) := by decide +kernel
theorem d_M_longest_36 : decode b_M_longest 36 = .ok (.if_icmp .le 5, 3) := by decide +kernel
theorem d_M_longest_39 : decode b_M_longest 39 = .ok (.iload_n 3, 1) := by decide +kernel
theorem d_M_longest_40 : decode b_M_longest 40 = .ok (.istore_n 2, 1) := by decide +kernel
theorem d_M_longest_41 : decode b_M_longest 41 = .ok (.iinc 3 2, 3) := by decide +kernel
theorem d_M_longest_44 : decode b_M_longest 44 = .ok (.goto (-40), 3) := by decide +kernel
theorem d_M_longest_47 : decode b_M_longest 47 = .ok (.iload_n 2, 1) := by decide +kernel
theorem d_M_longest_48 : decode b_M_longest 48 = .ok (.ireturn, 1) := by decide +kernel
theorem d_M_token_II_0 : decode b_M_token_II 0 = .ok (.aload_n 0, 1) := by decide +kernel
theorem d_M_token_II_1 : decode b_M_token_II 1 = .ok (.iload_n 2, 1) := by decide +kernel
theorem d_M_token_II_2 : decode b_M_token_II 2 = .ok (.ifCond .lt 8, 3) := by decide +kernel
theorem d_M_token_II_5 : decode b_M_token_II 5 = .ok (.iload_n 2, 1) := by decide +kernel
theorem d_M_token_II_6 : decode b_M_token_II 6 = .ok (.iconst 1, 1) := by decide +kernel
theorem d_M_token_II_7 : decode b_M_token_II 7 = .ok (.if_icmp .le 7, 3) := by decide +kernel
theorem d_M_token_II_10 : decode b_M_token_II 10 = .ok (.iconst 1, 1) := by decide +kernel
theorem d_M_token_II_11 : decode b_M_token_II 11 = .ok (.goto 16, 3) := by decide +kernel
theorem d_M_token_II_14 : decode b_M_token_II 14 = .ok (.aload_n 0, 1) := by decide +kernel
theorem d_M_token_II_15 : decode b_M_token_II 15 = .ok (.iload_n 1, 1) := by decide +kernel
theorem d_M_token_II_16 : decode b_M_token_II 16 = .ok (.invokevirtual 336, 3) := by decide +kernel
theorem d_M_token_II_19 : decode b_M_token_II 19 = .ok (.ifCond .eq 7, 3) := by decide +kernel
theorem d_M_token_II_22 : decode b_M_token_II 22 = .ok (.iconst 0, 1) := by decide +kernel
theorem d_M_token_II_23 : decode b_M_token_II 23 = .ok (.goto 4, 3) := by decide +kernel
theorem d_M_token_II_26 : decode b_M_token_II 26 = .ok (.iconst 2, 1) := by decide +kernel
theorem d_M_token_II_27 : decode b_M_token_II 27 = .ok (.putfield 210, 3) := by decide +kernel
theorem d_M_token_II_30 : decode b_M_token_II 30 = .ok (.aload_n 0, 1) := by decide +kernel
theorem d_M_token_II_31 : decode b_M_token_II 31 = .ok (.getfield 210, 3) := by decide +kernel
theorem d_M_token_II_34 : decode b_M_token_II 34 = .ok (.ifCond .eq 5, 3) := by decide +kernel
theorem d_M_token_II_37 : decode b_M_token_II 37 = .ok (.iconst 0, 1) := by decide +kernel
theorem d_M_token_II_38 : decode b_M_token_II 38 = .ok (.ireturn, 1) := by decide +kernel
theorem d_M_token_II_39 : decode b_M_token_II 39 = .ok (.iload_n 2, 1) := by decide +kernel
theorem d_M_token_II_40 : decode b_M_token_II 40 = .ok (.ifCond .ne 12, 3) := by decide +kernel
theorem d_M_token_II_43 : decode b_M_token_II 43 = .ok (.aload_n 0, 1) := by decide +kernel
theorem d_M_token_II_44 : decode b_M_token_II 44 = .ok (.getfield 204, 3) := by decide +kernel
theorem d_M_token_II_47 : decode b_M_token_II 47 = .ok (.iload_n 1, 1) := by decide +kernel
theorem d_M_token_II_48 : decode b_M_token_II 48 = .ok (.iaload, 1) := by decide +kernel
theorem d_M_token_II_49 : decode b_M_token_II 49 = .ok (.goto 18, 3) := by decide +kernel
theorem d_M_token_II_52 : decode b_M_token_II 52 = .ok (.aload_n 0, 1) := by decide +kernel
theorem d_M_token_II_53 : decode b_M_token_II 53 = .ok (.getfield 201, 3) := by decide +kernel
theorem d_M_token_II_56 : decode b_M_token_II 56 = .ok (.iload_n 1, 1) := by decide +kernel
theorem d_M_token_II_57 : decode b_M_token_II 57 = .ok (.iconst 1, 1) := by decide +kernel
theorem d_M_token_II_58 : decode b_M_token_II 58 = .ok (.iadd, 1) := by decide +kernel
theorem d_M_token_II_59 : decode b_M_token_II 59 = .ok (.iaload, 1) := by decide +kernel
theorem d_M_token_II_60 : decode b_M_token_II 60 = .ok (.aload_n 0, 1) := by decide +kernel
theorem d_M_token_II_61 : decode b_M_token_II 61 = .ok (.getfield 201, 3) := by decide +kernel
theorem d_M_token_II_64 : decode b_M_token_II 64 = .ok (.iload_n 1, 1) := by decide +kernel
theorem d_M_token_II_65 : decode b_M_token_II 65 = .ok (.iaload, 1) := by decide +kernel
theorem d_M_token_II_66 : decode b_M_token_II 66 = .ok (.isub, 1) := by decide +kernel
theorem d_M_token_II_67 : decode b_M_token_II 67 = .ok (.ireturn, 1) := by decide +kernel
theorem d_M_there_0 : decode b_M_there 0 = .ok (.iload_n 1, 1) := by decide +kernel
theorem d_M_there_1 : decode b_M_there 1 = .ok (.ifCond .lt 15, 3) := by decide +kernel
theorem d_M_there_4 : decode b_M_there 4 = .ok (.iload_n 1, 1) := by decide +kernel
theorem d_M_there_5 : decode b_M_there 5 = .ok (.aload_n 0, 1) := by decide +kernel
theorem d_M_there_6 : decode b_M_there 6 = .ok (.getfield 234, 3) := by decide +kernel
theorem d_M_there_9 : decode b_M_there 9 = .ok (.if_icmp .ge 7, 3) := by decide +kernel
theorem d_M_there_12 : decode b_M_there 12 = .ok (.iconst 1, 1) := by decide +kernel
theorem d_M_there_13 : decode b_M_there 13 = .ok (.goto 4, 3) := by decide +kernel
theorem d_M_there_16 : decode b_M_there 16 = .ok (.iconst 0, 1) := by decide +kernel
theorem d_M_there_17 : decode b_M_there 17 = .ok (.ireturn, 1) := by decide +kernel
theorem d_M_character_0 : decode b_M_character 0 = .ok (.aload_n 0, 1) := by decide +kernel
theorem d_M_character_1 : decode b_M_character 1 = .ok (.aload_n 0, 1) := by decide +kernel
theorem d_M_character_2 : decode b_M_character 2 = .ok (.iload_n 1, 1) := by decide +kernel
theorem d_M_character_3 : decode b_M_character 3 = .ok (.invokevirtual 336, 3) := by decide +kernel
theorem d_M_character_6 : decode b_M_character 6 = .ok (.ifCond .eq 30, 3) := by decide +kernel
theorem d_M_character_9 : decode b_M_character 9 = .ok (.iload_n 2, 1) := by decide +kernel
theorem d_M_character_10 : decode b_M_character 10 = .ok (.ifCond .lt 26, 3) := by decide +kernel
theorem d_M_character_13 : decode b_M_character 13 = .ok (.iload_n 2, 1) := by decide +kernel
theorem d_M_character_14 : decode b_M_character 14 = .ok (.aload_n 0, 1) := by decide +kernel
theorem d_M_character_15 : decode b_M_character 15 = .ok (.getfield 201, 3) := by decide +kernel
theorem d_M_character_18 : decode b_M_character 18 = .ok (.iload_n 1, 1) := by decide +kernel
theorem d_M_character_19 : decode b_M_character 19 = .ok (.iconst 1, 1) := by decide +kernel
theorem d_M_character_20 : decode b_M_character 20 = .ok (.iadd, 1) := by decide +kernel
theorem d_M_character_21 : decode b_M_character 21 = .ok (.iaload, 1) := by decide +kernel
theorem d_M_character_22 : decode b_M_character 22 = .ok (.aload_n 0, 1) := by decide +kernel
theorem d_M_character_23 : decode b_M_character 23 = .ok (.getfield 201, 3) := by decide +kernel
theorem d_M_character_26 : decode b_M_character 26 = .ok (.iload_n 1, 1) := by decide +kernel
theorem d_M_character_27 : decode b_M_character 27 = .ok (.iaload, 1) := by decide +kernel
theorem d_M_character_28 : decode b_M_character 28 = .ok (.isub, 1) := by decide +kernel
theorem d_M_character_29 : decode b_M_character 29 = .ok (.if_icmp .ge 7, 3) := by decide +kernel
theorem d_M_character_32 : decode b_M_character 32 = .ok (.iconst 0, 1) := by decide +kernel
theorem d_M_character_33 : decode b_M_character 33 = .ok (.goto 4, 3) := by decide +kernel
theorem d_M_character_36 : decode b_M_character 36 = .ok (.iconst 1, 1) := by decide +kernel
theorem d_M_character_37 : decode b_M_character 37 = .ok (.putfield 210, 3) := by decide +kernel
theorem d_M_character_40 : decode b_M_character 40 = .ok (.aload_n 0, 1) := by decide +kernel
theorem d_M_character_41 : decode b_M_character 41 = .ok (.getfield 210, 3) := by decide +kernel
theorem d_M_character_44 : decode b_M_character 44 = .ok (.ifCond .eq 7, 3) := by decide +kernel
theorem d_M_character_47 : decode b_M_character 47 = .ok (.iconst 0, 1) := by decide +kernel
theorem d_M_character_48 : decode b_M_character 48 = .ok (.goto 16, 3) := by decide +kernel
theorem d_M_character_51 : decode b_M_character 51 = .ok (.aload_n 0, 1) := by decide +kernel
theorem d_M_character_52 : decode b_M_character 52 = .ok (.getfield 198, 3) := by decide +kernel
theorem d_M_character_55 : decode b_M_character 55 = .ok (.aload_n 0, 1) := by decide +kernel
theorem d_M_character_56 : decode b_M_character 56 = .ok (.getfield 201, 3) := by decide +kernel
theorem d_M_character_59 : decode b_M_character 59 = .ok (.iload_n 1, 1) := by decide +kernel
theorem d_M_character_60 : decode b_M_character 60 = .ok (.iaload, 1) := by decide +kernel
theorem d_M_character_61 : decode b_M_character 61 = .ok (.iload_n 2, 1) := by decide +kernel
theorem d_M_character_62 : decode b_M_character 62 = .ok (.iadd, 1) := by decide +kernel
theorem d_M_character_63 : decode b_M_character 63 = .ok (.iaload, 1) := by decide +kernel
theorem d_M_character_64 : decode b_M_character 64 = .ok (.ireturn, 1) := by decide +kernel
theorem d_M_first_0 : decode b_M_first 0 = .ok (.aload_n 0, 1) := by decide +kernel
theorem d_M_first_1 : decode b_M_first 1 = .ok (.aload_n 0, 1) := by decide +kernel
theorem d_M_first_2 : decode b_M_first 2 = .ok (.iload_n 1, 1) := by decide +kernel
theorem d_M_first_3 : decode b_M_first 3 = .ok (.invokevirtual 336, 3) := by decide +kernel
theorem d_M_first_6 : decode b_M_first 6 = .ok (.ifCond .eq 7, 3) := by decide +kernel
theorem d_M_first_9 : decode b_M_first 9 = .ok (.iconst 0, 1) := by decide +kernel
theorem d_M_first_10 : decode b_M_first 10 = .ok (.goto 4, 3) := by decide +kernel
theorem d_M_first_13 : decode b_M_first 13 = .ok (.iconst 1, 1) := by decide +kernel
theorem d_M_first_14 : decode b_M_first 14 = .ok (.putfield 210, 3) := by decide +kernel
theorem d_M_first_17 : decode b_M_first 17 = .ok (.aload_n 0, 1) := by decide +kernel
theorem d_M_first_18 : decode b_M_first 18 = .ok (.getfield 210, 3) := by decide +kernel
theorem d_M_first_21 : decode b_M_first 21 = .ok (.ifCond .eq 5, 3) := by decide +kernel
theorem d_M_first_24 : decode b_M_first 24 = .ok (.iconst 0, 1) := by decide +kernel
theorem d_M_first_25 : decode b_M_first 25 = .ok (.ireturn, 1) := by decide +kernel
theorem d_M_first_26 : decode b_M_first 26 = .ok (.iconst 0, 1) := by decide +kernel
theorem d_M_first_27 : decode b_M_first 27 = .ok (.istore_n 2, 1) := by decide +kernel
theorem d_M_first_28 : decode b_M_first 28 = .ok (.aload_n 0, 1) := by decide +kernel
theorem d_M_first_29 : decode b_M_first 29 = .ok (.iload_n 1, 1) := by decide +kernel
theorem d_M_first_30 : decode b_M_first 30 = .ok (.iload_n 2, 1) := by decide +kernel
theorem d_M_first_31 : decode b_M_first 31 = .ok (.invokevirtual 338, 3) := by decide +kernel
theorem d_M_first_34 : decode b_M_first 34 = .ok (.ifCond .ne 9, 3) := by decide +kernel
theorem d_M_first_37 : decode b_M_first 37 = .ok (.iinc 2 1, 3) := by decide +kernel
theorem d_M_first_40 : decode b_M_first 40 = .ok (.goto (-12), 3) := by decide +kernel
theorem d_M_first_43 : decode b_M_first 43 = .ok (.iload_n 2, 1) := by decide +kernel
theorem d_M_first_44 : decode b_M_first 44 = .ok (.ireturn, 1) := by decide +kernel
theorem d_M_same_0 : decode b_M_same 0 = .ok (.aload_n 0, 1) := by decide +kernel
theorem d_M_same_1 : decode b_M_same 1 = .ok (.getfield 201, 3) := by decide +kernel
theorem d_M_same_4 : decode b_M_same 4 = .ok (.iload_n 1, 1) := by decide +kernel
theorem d_M_same_5 : decode b_M_same 5 = .ok (.iconst 1, 1) := by decide +kernel
theorem d_M_same_6 : decode b_M_same 6 = .ok (.iadd, 1) := by decide +kernel
theorem d_M_same_7 : decode b_M_same 7 = .ok (.iaload, 1) := by decide +kernel
theorem d_M_same_8 : decode b_M_same 8 = .ok (.aload_n 0, 1) := by decide +kernel
theorem d_M_same_9 : decode b_M_same 9 = .ok (.getfield 201, 3) := by decide +kernel
theorem d_M_same_12 : decode b_M_same 12 = .ok (.iload_n 1, 1) := by decide +kernel
theorem d_M_same_13 : decode b_M_same 13 = .ok (.iaload, 1) := by decide +kernel
theorem d_M_same_14 : decode b_M_same 14 = .ok (.isub, 1) := by decide +kernel
theorem d_M_same_15 : decode b_M_same 15 = .ok (.istore_n 3, 1) := by decide +kernel
theorem d_M_same_16 : decode b_M_same 16 = .ok (.iload_n 3, 1) := by decide +kernel
theorem d_M_same_17 : decode b_M_same 17 = .ok (.aload_n 0, 1) := by decide +kernel
theorem d_M_same_18 : decode b_M_same 18 = .ok (.getfield 201, 3) := by decide +kernel
theorem d_M_same_21 : decode b_M_same 21 = .ok (.iload_n 2, 1) := by decide +kernel
theorem d_M_same_22 : decode b_M_same 22 = .ok (.iconst 1, 1) := by decide +kernel
theorem d_M_same_23 : decode b_M_same 23 = .ok (.iadd, 1) := by decide +kernel
theorem d_M_same_24 : decode b_M_same 24 = .ok (.iaload, 1) := by decide +kernel
theorem d_M_same_25 : decode b_M_same 25 = .ok (.aload_n 0, 1) := by decide +kernel
theorem d_M_same_26 : decode b_M_same 26 = .ok (.getfield 201, 3) := by decide +kernel
theorem d_M_same_29 : decode b_M_same 29 = .ok (.iload_n 2, 1) := by decide +kernel
theorem d_M_same_30 : decode b_M_same 30 = .ok (.iaload, 1) := by decide +kernel
theorem d_M_same_31 : decode b_M_same 31 = .ok (.isub, 1) := by decide +kernel
theorem d_M_same_32 : decode b_M_same 32 = .ok (.if_icmp .eq 5, 3) := by decide +kernel
theorem d_M_same_35 : decode b_M_same 35 = .ok (.iconst 0, 1) := by decide +kernel
theorem d_M_same_36 : decode b_M_same 36 = .ok (.ireturn, 1) := by decide +kernel
theorem d_M_same_37 : decode b_M_same 37 = .ok (.iconst 0, 1) := by decide +kernel
theorem d_M_same_38 : decode b_M_same 38 = .ok (.istore 4, 2) := by decide +kernel
theorem d_M_same_40 : decode b_M_same 40 = .ok (.iload 4, 2) := by decide +kernel
theorem d_M_same_42 : decode b_M_same 42 = .ok (.iload_n 3, 1) := by decide +kernel
theorem d_M_same_43 : decode b_M_same 43 = .ok (.if_icmp .ge 42, 3) := by decide +kernel
theorem d_M_same_46 : decode b_M_same 46 = .ok (.aload_n 0, 1) := by decide +kernel
theorem d_M_same_47 : decode b_M_same 47 = .ok (.getfield 198, 3) := by decide +kernel
theorem d_M_same_50 : decode b_M_same 50 = .ok (.aload_n 0, 1) := by decide +kernel
theorem d_M_same_51 : decode b_M_same 51 = .ok (.getfield 201, 3) := by decide +kernel
theorem d_M_same_54 : decode b_M_same 54 = .ok (.iload_n 1, 1) := by decide +kernel
theorem d_M_same_55 : decode b_M_same 55 = .ok (.iaload, 1) := by decide +kernel
theorem d_M_same_56 : decode b_M_same 56 = .ok (.iload 4, 2) := by decide +kernel
theorem d_M_same_58 : decode b_M_same 58 = .ok (.iadd, 1) := by decide +kernel
theorem d_M_same_59 : decode b_M_same 59 = .ok (.iaload, 1) := by decide +kernel
theorem d_M_same_60 : decode b_M_same 60 = .ok (.aload_n 0, 1) := by decide +kernel
theorem d_M_same_61 : decode b_M_same 61 = .ok (.getfield 198, 3) := by decide +kernel
theorem d_M_same_64 : decode b_M_same 64 = .ok (.aload_n 0, 1) := by decide +kernel
theorem d_M_same_65 : decode b_M_same 65 = .ok (.getfield 201, 3) := by decide +kernel
theorem d_M_same_68 : decode b_M_same 68 = .ok (.iload_n 2, 1) := by decide +kernel
theorem d_M_same_69 : decode b_M_same 69 = .ok (.iaload, 1) := by decide +kernel
theorem d_M_same_70 : decode b_M_same 70 = .ok (.iload 4, 2) := by decide +kernel
theorem d_M_same_72 : decode b_M_same 72 = .ok (.iadd, 1) := by decide +kernel
theorem d_M_same_73 : decode b_M_same 73 = .ok (.iaload, 1) := by decide +kernel
theorem d_M_same_74 : decode b_M_same 74 = .ok (.if_icmp .eq 5, 3) := by decide +kernel
theorem d_M_same_77 : decode b_M_same 77 = .ok (.iconst 0, 1) := by decide +kernel
theorem d_M_same_78 : decode b_M_same 78 = .ok (.ireturn, 1) := by decide +kernel
theorem d_M_same_79 : decode b_M_same 79 = .ok (.iinc 4 1, 3) := by decide +kernel
theorem d_M_same_82 : decode b_M_same 82 = .ok (.goto (-42), 3) := by decide +kernel
theorem d_M_same_85 : decode b_M_same 85 = .ok (.iconst 1, 1) := by decide +kernel
theorem d_M_same_86 : decode b_M_same 86 = .ok (.ireturn, 1) := by decide +kernel
theorem d_M_sort_0 : decode b_M_sort 0 = .ok (.aload_n 0, 1) := by decide +kernel
theorem d_M_sort_1 : decode b_M_sort 1 = .ok (.iload_n 1, 1) := by decide +kernel
theorem d_M_sort_2 : decode b_M_sort 2 = .ok (.ifCond .lt 10, 3) := by decide +kernel
theorem d_M_sort_5 : decode b_M_sort 5 = .ok (.iload_n 1, 1) := by decide +kernel
theorem d_M_sort_6 : decode b_M_sort 6 = .ok (.ldc_w 342, 3) := by decide +kernel
theorem d_M_sort_9 : decode b_M_sort 9 = .ok (.if_icmp .le 7, 3) := by decide +kernel
theorem d_M_sort_12 : decode b_M_sort 12 = .ok (.iconst 1, 1) := by decide +kernel
theorem d_M_sort_13 : decode b_M_sort 13 = .ok (.goto 4, 3) := by decide +kernel
theorem d_M_sort_16 : decode b_M_sort 16 = .ok (.iconst 0, 1) := by decide +kernel
theorem d_M_sort_17 : decode b_M_sort 17 = .ok (.putfield 210, 3) := by decide +kernel
theorem d_M_sort_20 : decode b_M_sort 20 = .ok (.aload_n 0, 1) := by decide +kernel
theorem d_M_sort_21 : decode b_M_sort 21 = .ok (.getfield 210, 3) := by decide +kernel
theorem d_M_sort_24 : decode b_M_sort 24 = .ok (.ifCond .eq 7, 3) := by decide +kernel
theorem d_M_sort_27 : decode b_M_sort 27 = .ok (.iconst 0, 1) := by decide +kernel
theorem d_M_sort_28 : decode b_M_sort 28 = .ok (.goto 7, 3) := by decide +kernel
theorem d_M_sort_31 : decode b_M_sort 31 = .ok (.iload_n 1, 1) := by decide +kernel
theorem d_M_sort_32 : decode b_M_sort 32 = .ok (.invokestatic 227, 3) := by decide +kernel
theorem d_M_sort_35 : decode b_M_sort 35 = .ok (.ireturn, 1) := by decide +kernel
theorem d_M_count_0 : decode b_M_count 0 = .ok (.aload_n 0, 1) := by decide +kernel
theorem d_M_count_1 : decode b_M_count 1 = .ok (.iconst 0, 1) := by decide +kernel
theorem d_M_count_2 : decode b_M_count 2 = .ok (.putfield 210, 3) := by decide +kernel
theorem d_M_count_5 : decode b_M_count 5 = .ok (.iload_n 1, 1) := by decide +kernel
theorem d_M_count_6 : decode b_M_count 6 = .ok (.tableswitch 64 0 4 #[34, 39, 44, 49, 54], 34) := by decide +kernel
theorem d_M_count_40 : decode b_M_count 40 = .ok (.aload_n 0, 1) := by decide +kernel
theorem d_M_count_41 : decode b_M_count 41 = .ok (.getfield 326, 3) := by decide +kernel
theorem d_M_count_44 : decode b_M_count 44 = .ok (.ireturn, 1) := by decide +kernel
theorem d_M_count_45 : decode b_M_count 45 = .ok (.aload_n 0, 1) := by decide +kernel
theorem d_M_count_46 : decode b_M_count 46 = .ok (.getfield 234, 3) := by decide +kernel
theorem d_M_count_49 : decode b_M_count 49 = .ok (.ireturn, 1) := by decide +kernel
theorem d_M_count_50 : decode b_M_count 50 = .ok (.aload_n 0, 1) := by decide +kernel
theorem d_M_count_51 : decode b_M_count 51 = .ok (.getfield 237, 3) := by decide +kernel
theorem d_M_count_54 : decode b_M_count 54 = .ok (.ireturn, 1) := by decide +kernel
theorem d_M_count_55 : decode b_M_count 55 = .ok (.aload_n 0, 1) := by decide +kernel
theorem d_M_count_56 : decode b_M_count 56 = .ok (.getfield 218, 3) := by decide +kernel
theorem d_M_count_59 : decode b_M_count 59 = .ok (.ireturn, 1) := by decide +kernel
theorem d_M_count_60 : decode b_M_count 60 = .ok (.aload_n 0, 1) := by decide +kernel
theorem d_M_count_61 : decode b_M_count 61 = .ok (.getfield 201, 3) := by decide +kernel
theorem d_M_count_64 : decode b_M_count 64 = .ok (.aload_n 0, 1) := by decide +kernel
theorem d_M_count_65 : decode b_M_count 65 = .ok (.getfield 234, 3) := by decide +kernel
theorem d_M_count_68 : decode b_M_count 68 = .ok (.iaload, 1) := by decide +kernel
theorem d_M_count_69 : decode b_M_count 69 = .ok (.ireturn, 1) := by decide +kernel
theorem d_M_count_70 : decode b_M_count 70 = .ok (.iconst (-1), 1) := by decide +kernel
theorem d_M_count_71 : decode b_M_count 71 = .ok (.ireturn, 1) := by decide +kernel
theorem d_L_feed_0 : decode b_L_feed 0 = .ok (.aload 6, 2) := by decide +kernel
theorem d_L_feed_2 : decode b_L_feed 2 = .ok (.iconst 0, 1) := by decide +kernel
theorem d_L_feed_3 : decode b_L_feed 3 = .ok (.aload_n 0, 1) := by decide +kernel
theorem d_L_feed_4 : decode b_L_feed 4 = .ok (.iload_n 1, 1) := by decide +kernel
theorem d_L_feed_5 : decode b_L_feed 5 = .ok (.iload_n 2, 1) := by decide +kernel
theorem d_L_feed_6 : decode b_L_feed 6 = .ok (.iload_n 3, 1) := by decide +kernel
theorem d_L_feed_7 : decode b_L_feed 7 = .ok (.iload 4, 2) := by decide +kernel
theorem d_L_feed_9 : decode b_L_feed 9 = .ok (.iload 5, 2) := by decide +kernel
theorem d_L_feed_11 : decode b_L_feed 11 = .ok (.invokevirtual 7, 3) := by decide +kernel
theorem d_L_feed_14 : decode b_L_feed 14 = .ok (.i2l, 1) := by decide +kernel
theorem d_L_feed_15 : decode b_L_feed 15 = .ok (.lastore, 1) := by decide +kernel
theorem d_L_feed_16 : decode b_L_feed 16 = .ok (.goto 7, 3) := by decide +kernel
theorem d_L_feed_19 : decode b_L_feed 19 = .ok (.astore 7, 2) := by decide +kernel
theorem d_L_feed_21 : decode b_L_feed 21 = .ok (.iconst 1, 1) := by decide +kernel
theorem d_L_feed_22 : decode b_L_feed 22 = .ok (.ireturn, 1) := by decide +kernel
theorem d_L_feed_23 : decode b_L_feed 23 = .ok (.iconst 0, 1) := by decide +kernel
theorem d_L_feed_24 : decode b_L_feed 24 = .ok (.ireturn, 1) := by decide +kernel
theorem d_L_end_0 : decode b_L_end 0 = .ok (.aload_n 2, 1) := by decide +kernel
theorem d_L_end_1 : decode b_L_end 1 = .ok (.iconst 0, 1) := by decide +kernel
theorem d_L_end_2 : decode b_L_end 2 = .ok (.aload_n 0, 1) := by decide +kernel
theorem d_L_end_3 : decode b_L_end 3 = .ok (.iload_n 1, 1) := by decide +kernel
theorem d_L_end_4 : decode b_L_end 4 = .ok (.invokevirtual 15, 3) := by decide +kernel
theorem d_L_end_7 : decode b_L_end 7 = .ok (.i2l, 1) := by decide +kernel
theorem d_L_end_8 : decode b_L_end 8 = .ok (.lastore, 1) := by decide +kernel
theorem d_L_end_9 : decode b_L_end 9 = .ok (.goto 6, 3) := by decide +kernel
theorem d_L_end_12 : decode b_L_end 12 = .ok (.astore_n 3, 1) := by decide +kernel
theorem d_L_end_13 : decode b_L_end 13 = .ok (.iconst 1, 1) := by decide +kernel
theorem d_L_end_14 : decode b_L_end 14 = .ok (.ireturn, 1) := by decide +kernel
theorem d_L_end_15 : decode b_L_end 15 = .ok (.iconst 0, 1) := by decide +kernel
theorem d_L_end_16 : decode b_L_end 16 = .ok (.ireturn, 1) := by decide +kernel
theorem d_L_token_0 : decode b_L_token 0 = .ok (.aload_n 3, 1) := by decide +kernel
theorem d_L_token_1 : decode b_L_token 1 = .ok (.iconst 0, 1) := by decide +kernel
theorem d_L_token_2 : decode b_L_token 2 = .ok (.aload_n 0, 1) := by decide +kernel
theorem d_L_token_3 : decode b_L_token 3 = .ok (.iload_n 1, 1) := by decide +kernel
theorem d_L_token_4 : decode b_L_token 4 = .ok (.iload_n 2, 1) := by decide +kernel
theorem d_L_token_5 : decode b_L_token 5 = .ok (.invokevirtual 21, 3) := by decide +kernel
theorem d_L_token_8 : decode b_L_token 8 = .ok (.i2l, 1) := by decide +kernel
theorem d_L_token_9 : decode b_L_token 9 = .ok (.lastore, 1) := by decide +kernel
theorem d_L_token_10 : decode b_L_token 10 = .ok (.goto 11, 3) := by decide +kernel
theorem d_L_token_13 : decode b_L_token 13 = .ok (.astore 4, 2) := by decide +kernel
theorem d_L_token_15 : decode b_L_token 15 = .ok (.iconst 1, 1) := by decide +kernel
theorem d_L_token_16 : decode b_L_token 16 = .ok (.ireturn, 1) := by decide +kernel
theorem d_L_token_17 : decode b_L_token 17 = .ok (.astore 4, 2) := by decide +kernel
theorem d_L_token_19 : decode b_L_token 19 = .ok (.iconst 2, 1) := by decide +kernel
theorem d_L_token_20 : decode b_L_token 20 = .ok (.ireturn, 1) := by decide +kernel
theorem d_L_token_21 : decode b_L_token 21 = .ok (.iconst 0, 1) := by decide +kernel
theorem d_L_token_22 : decode b_L_token 22 = .ok (.ireturn, 1) := by decide +kernel
theorem d_L_character_0 : decode b_L_character 0 = .ok (.aload_n 3, 1) := by decide +kernel
theorem d_L_character_1 : decode b_L_character 1 = .ok (.iconst 0, 1) := by decide +kernel
theorem d_L_character_2 : decode b_L_character 2 = .ok (.aload_n 0, 1) := by decide +kernel
theorem d_L_character_3 : decode b_L_character 3 = .ok (.iload_n 1, 1) := by decide +kernel
theorem d_L_character_4 : decode b_L_character 4 = .ok (.iload_n 2, 1) := by decide +kernel
theorem d_L_character_5 : decode b_L_character 5 = .ok (.invokevirtual 27, 3) := by decide +kernel
theorem d_L_character_8 : decode b_L_character 8 = .ok (.i2l, 1) := by decide +kernel
theorem d_L_character_9 : decode b_L_character 9 = .ok (.lastore, 1) := by decide +kernel
theorem d_L_character_10 : decode b_L_character 10 = .ok (.goto 7, 3) := by decide +kernel
theorem d_L_character_13 : decode b_L_character 13 = .ok (.astore 4, 2) := by decide +kernel
theorem d_L_character_15 : decode b_L_character 15 = .ok (.iconst 1, 1) := by decide +kernel
theorem d_L_character_16 : decode b_L_character 16 = .ok (.ireturn, 1) := by decide +kernel
theorem d_L_character_17 : decode b_L_character 17 = .ok (.iconst 0, 1) := by decide +kernel
theorem d_L_character_18 : decode b_L_character 18 = .ok (.ireturn, 1) := by decide +kernel
theorem d_L_first_0 : decode b_L_first 0 = .ok (.aload_n 2, 1) := by decide +kernel
theorem d_L_first_1 : decode b_L_first 1 = .ok (.iconst 0, 1) := by decide +kernel
theorem d_L_first_2 : decode b_L_first 2 = .ok (.aload_n 0, 1) := by decide +kernel
theorem d_L_first_3 : decode b_L_first 3 = .ok (.iload_n 1, 1) := by decide +kernel
theorem d_L_first_4 : decode b_L_first 4 = .ok (.invokevirtual 30, 3) := by decide +kernel
theorem d_L_first_7 : decode b_L_first 7 = .ok (.i2l, 1) := by decide +kernel
theorem d_L_first_8 : decode b_L_first 8 = .ok (.lastore, 1) := by decide +kernel
theorem d_L_first_9 : decode b_L_first 9 = .ok (.goto 6, 3) := by decide +kernel
theorem d_L_first_12 : decode b_L_first 12 = .ok (.astore_n 3, 1) := by decide +kernel
theorem d_L_first_13 : decode b_L_first 13 = .ok (.iconst 1, 1) := by decide +kernel
theorem d_L_first_14 : decode b_L_first 14 = .ok (.ireturn, 1) := by decide +kernel
theorem d_L_first_15 : decode b_L_first 15 = .ok (.iconst 0, 1) := by decide +kernel
theorem d_L_first_16 : decode b_L_first 16 = .ok (.ireturn, 1) := by decide +kernel
theorem d_L_sort_0 : decode b_L_sort 0 = .ok (.aload_n 2, 1) := by decide +kernel
theorem d_L_sort_1 : decode b_L_sort 1 = .ok (.iconst 0, 1) := by decide +kernel
theorem d_L_sort_2 : decode b_L_sort 2 = .ok (.aload_n 0, 1) := by decide +kernel
theorem d_L_sort_3 : decode b_L_sort 3 = .ok (.iload_n 1, 1) := by decide +kernel
theorem d_L_sort_4 : decode b_L_sort 4 = .ok (.invokevirtual 33, 3) := by decide +kernel
theorem d_L_sort_7 : decode b_L_sort 7 = .ok (.i2l, 1) := by decide +kernel
theorem d_L_sort_8 : decode b_L_sort 8 = .ok (.lastore, 1) := by decide +kernel
theorem d_L_sort_9 : decode b_L_sort 9 = .ok (.goto 6, 3) := by decide +kernel
theorem d_L_sort_12 : decode b_L_sort 12 = .ok (.astore_n 3, 1) := by decide +kernel
theorem d_L_sort_13 : decode b_L_sort 13 = .ok (.iconst 1, 1) := by decide +kernel
theorem d_L_sort_14 : decode b_L_sort 14 = .ok (.ireturn, 1) := by decide +kernel
theorem d_L_sort_15 : decode b_L_sort 15 = .ok (.iconst 0, 1) := by decide +kernel
theorem d_L_sort_16 : decode b_L_sort 16 = .ok (.ireturn, 1) := by decide +kernel
theorem d_L_law_0 : decode code 0 = .ok (.new 8, 3) := by decide +kernel
theorem d_L_law_3 : decode code 3 = .ok (.dup, 1) := by decide +kernel
theorem d_L_law_4 : decode code 4 = .ok (.invokespecial 36, 3) := by decide +kernel
theorem d_L_law_7 : decode code 7 = .ok (.astore_n 1, 1) := by decide +kernel
theorem d_L_law_8 : decode code 8 = .ok (.new 37, 3) := by decide +kernel
theorem d_L_law_11 : decode code 11 = .ok (.dup, 1) := by decide +kernel
theorem d_L_law_12 : decode code 12 = .ok (.invokespecial 39, 3) := by decide +kernel
theorem d_L_law_15 : decode code 15 = .ok (.astore_n 2, 1) := by decide +kernel
theorem d_L_law_16 : decode code 16 = .ok (.iconst 1, 1) := by decide +kernel
theorem d_L_law_17 : decode code 17 = .ok (.newarray .long, 2) := by decide +kernel
theorem d_L_law_19 : decode code 19 = .ok (.astore_n 3, 1) := by decide +kernel
theorem d_L_law_20 : decode code 20 = .ok (.iconst 0, 1) := by decide +kernel
theorem d_L_law_21 : decode code 21 = .ok (.istore 4, 2) := by decide +kernel
theorem d_L_law_23 : decode code 23 = .ok (.iload 4, 2) := by decide +kernel
theorem d_L_law_25 : decode code 25 = .ok (.aload_n 0, 1) := by decide +kernel
theorem d_L_law_26 : decode code 26 = .ok (.arraylength, 1) := by decide +kernel
theorem d_L_law_27 : decode code 27 = .ok (.bipush 6, 2) := by decide +kernel
theorem d_L_law_29 : decode code 29 = .ok (.isub, 1) := by decide +kernel
theorem d_L_law_30 : decode code 30 = .ok (.if_icmp .gt 510, 3) := by decide +kernel
theorem d_L_law_33 : decode code 33 = .ok (.aload_n 0, 1) := by decide +kernel
theorem d_L_law_34 : decode code 34 = .ok (.iload 4, 2) := by decide +kernel
theorem d_L_law_36 : decode code 36 = .ok (.iaload, 1) := by decide +kernel
theorem d_L_law_37 : decode code 37 = .ok (.bipush 7, 2) := by decide +kernel
theorem d_L_law_39 : decode code 39 = .ok (.iand, 1) := by decide +kernel
theorem d_L_law_40 : decode code 40 = .ok (.tableswitch 494 0 7 #[48, 152, 208, 221, 289, 357, 413, 469], 48) := by decide +kernel
theorem d_L_law_88 : decode code 88 = .ok (.aload_n 1, 1) := by decide +kernel
theorem d_L_law_89 : decode code 89 = .ok (.aload_n 0, 1) := by decide +kernel
theorem d_L_law_90 : decode code 90 = .ok (.iload 4, 2) := by decide +kernel
theorem d_L_law_92 : decode code 92 = .ok (.iconst 1, 1) := by decide +kernel
theorem d_L_law_93 : decode code 93 = .ok (.iadd, 1) := by decide +kernel
theorem d_L_law_94 : decode code 94 = .ok (.iaload, 1) := by decide +kernel
theorem d_L_law_95 : decode code 95 = .ok (.aload_n 0, 1) := by decide +kernel
theorem d_L_law_96 : decode code 96 = .ok (.iload 4, 2) := by decide +kernel
theorem d_L_law_98 : decode code 98 = .ok (.iconst 2, 1) := by decide +kernel
theorem d_L_law_99 : decode code 99 = .ok (.iadd, 1) := by decide +kernel
theorem d_L_law_100 : decode code 100 = .ok (.iaload, 1) := by decide +kernel
theorem d_L_law_101 : decode code 101 = .ok (.aload_n 0, 1) := by decide +kernel
theorem d_L_law_102 : decode code 102 = .ok (.iload 4, 2) := by decide +kernel
theorem d_L_law_104 : decode code 104 = .ok (.iconst 3, 1) := by decide +kernel
theorem d_L_law_105 : decode code 105 = .ok (.iadd, 1) := by decide +kernel
theorem d_L_law_106 : decode code 106 = .ok (.iaload, 1) := by decide +kernel
theorem d_L_law_107 : decode code 107 = .ok (.aload_n 0, 1) := by decide +kernel
theorem d_L_law_108 : decode code 108 = .ok (.iload 4, 2) := by decide +kernel
theorem d_L_law_110 : decode code 110 = .ok (.iconst 4, 1) := by decide +kernel
theorem d_L_law_111 : decode code 111 = .ok (.iadd, 1) := by decide +kernel
theorem d_L_law_112 : decode code 112 = .ok (.iaload, 1) := by decide +kernel
theorem d_L_law_113 : decode code 113 = .ok (.aload_n 0, 1) := by decide +kernel
theorem d_L_law_114 : decode code 114 = .ok (.iload 4, 2) := by decide +kernel
theorem d_L_law_116 : decode code 116 = .ok (.iconst 5, 1) := by decide +kernel
theorem d_L_law_117 : decode code 117 = .ok (.iadd, 1) := by decide +kernel
theorem d_L_law_118 : decode code 118 = .ok (.iaload, 1) := by decide +kernel
theorem d_L_law_119 : decode code 119 = .ok (.aload_n 3, 1) := by decide +kernel
theorem d_L_law_120 : decode code 120 = .ok (.invokestatic 40, 3) := by decide +kernel
theorem d_L_law_123 : decode code 123 = .ok (.istore 5, 2) := by decide +kernel
theorem d_L_law_125 : decode code 125 = .ok (.aload_n 2, 1) := by decide +kernel
theorem d_L_law_126 : decode code 126 = .ok (.aload_n 0, 1) := by decide +kernel
theorem d_L_law_127 : decode code 127 = .ok (.iload 4, 2) := by decide +kernel
theorem d_L_law_129 : decode code 129 = .ok (.iconst 1, 1) := by decide +kernel
theorem d_L_law_130 : decode code 130 = .ok (.iadd, 1) := by decide +kernel
theorem d_L_law_131 : decode code 131 = .ok (.iaload, 1) := by decide +kernel
theorem d_L_law_132 : decode code 132 = .ok (.aload_n 0, 1) := by decide +kernel
theorem d_L_law_133 : decode code 133 = .ok (.iload 4, 2) := by decide +kernel
theorem d_L_law_135 : decode code 135 = .ok (.iconst 2, 1) := by decide +kernel
theorem d_L_law_136 : decode code 136 = .ok (.iadd, 1) := by decide +kernel
theorem d_L_law_137 : decode code 137 = .ok (.iaload, 1) := by decide +kernel
theorem d_L_law_138 : decode code 138 = .ok (.aload_n 0, 1) := by decide +kernel
theorem d_L_law_139 : decode code 139 = .ok (.iload 4, 2) := by decide +kernel
theorem d_L_law_141 : decode code 141 = .ok (.iconst 3, 1) := by decide +kernel
theorem d_L_law_142 : decode code 142 = .ok (.iadd, 1) := by decide +kernel
theorem d_L_law_143 : decode code 143 = .ok (.iaload, 1) := by decide +kernel
theorem d_L_law_144 : decode code 144 = .ok (.aload_n 0, 1) := by decide +kernel
theorem d_L_law_145 : decode code 145 = .ok (.iload 4, 2) := by decide +kernel
theorem d_L_law_147 : decode code 147 = .ok (.iconst 4, 1) := by decide +kernel
theorem d_L_law_148 : decode code 148 = .ok (.iadd, 1) := by decide +kernel
theorem d_L_law_149 : decode code 149 = .ok (.iaload, 1) := by decide +kernel
theorem d_L_law_150 : decode code 150 = .ok (.aload_n 0, 1) := by decide +kernel
theorem d_L_law_151 : decode code 151 = .ok (.iload 4, 2) := by decide +kernel
theorem d_L_law_153 : decode code 153 = .ok (.iconst 5, 1) := by decide +kernel
theorem d_L_law_154 : decode code 154 = .ok (.iadd, 1) := by decide +kernel
theorem d_L_law_155 : decode code 155 = .ok (.iaload, 1) := by decide +kernel
theorem d_L_law_156 : decode code 156 = .ok (.invokevirtual 45, 3) := by decide +kernel
theorem d_L_law_159 : decode code 159 = .ok (.istore 6, 2) := by decide +kernel
theorem d_L_law_161 : decode code 161 = .ok (.aload_n 2, 1) := by decide +kernel
theorem d_L_law_162 : decode code 162 = .ok (.invokevirtual 46, 3) := by decide +kernel
theorem d_L_law_165 : decode code 165 = .ok (.iload 5, 2) := by decide +kernel
theorem d_L_law_167 : decode code 167 = .ok (.if_icmp .eq 5, 3) := by decide +kernel
theorem d_L_law_170 : decode code 170 = .ok (.iconst 0, 1) := by decide +kernel
theorem d_L_law_171 : decode code 171 = .ok (.ireturn, 1) := by decide +kernel
theorem d_L_law_172 : decode code 172 = .ok (.iload 5, 2) := by decide +kernel
theorem d_L_law_174 : decode code 174 = .ok (.ifCond .ne 15, 3) := by decide +kernel
theorem d_L_law_177 : decode code 177 = .ok (.aload_n 3, 1) := by decide +kernel
theorem d_L_law_178 : decode code 178 = .ok (.iconst 0, 1) := by decide +kernel
theorem d_L_law_179 : decode code 179 = .ok (.laload, 1) := by decide +kernel
theorem d_L_law_180 : decode code 180 = .ok (.iload 6, 2) := by decide +kernel
theorem d_L_law_182 : decode code 182 = .ok (.i2l, 1) := by decide +kernel
theorem d_L_law_183 : decode code 183 = .ok (.lcmp, 1) := by decide +kernel
theorem d_L_law_184 : decode code 184 = .ok (.ifCond .eq 5, 3) := by decide +kernel
theorem d_L_law_187 : decode code 187 = .ok (.iconst 0, 1) := by decide +kernel
theorem d_L_law_188 : decode code 188 = .ok (.ireturn, 1) := by decide +kernel
theorem d_L_law_189 : decode code 189 = .ok (.goto 345, 3) := by decide +kernel
theorem d_L_law_192 : decode code 192 = .ok (.aload_n 1, 1) := by decide +kernel
theorem d_L_law_193 : decode code 193 = .ok (.aload_n 0, 1) := by decide +kernel
theorem d_L_law_194 : decode code 194 = .ok (.iload 4, 2) := by decide +kernel
theorem d_L_law_196 : decode code 196 = .ok (.iconst 1, 1) := by decide +kernel
theorem d_L_law_197 : decode code 197 = .ok (.iadd, 1) := by decide +kernel
theorem d_L_law_198 : decode code 198 = .ok (.iaload, 1) := by decide +kernel
theorem d_L_law_199 : decode code 199 = .ok (.aload_n 3, 1) := by decide +kernel
theorem d_L_law_200 : decode code 200 = .ok (.invokestatic 50, 3) := by decide +kernel
theorem d_L_law_203 : decode code 203 = .ok (.istore 5, 2) := by decide +kernel
theorem d_L_law_205 : decode code 205 = .ok (.aload_n 2, 1) := by decide +kernel
theorem d_L_law_206 : decode code 206 = .ok (.aload_n 0, 1) := by decide +kernel
theorem d_L_law_207 : decode code 207 = .ok (.iload 4, 2) := by decide +kernel
theorem d_L_law_209 : decode code 209 = .ok (.iconst 1, 1) := by decide +kernel
theorem d_L_law_210 : decode code 210 = .ok (.iadd, 1) := by decide +kernel
theorem d_L_law_211 : decode code 211 = .ok (.iaload, 1) := by decide +kernel
theorem d_L_law_212 : decode code 212 = .ok (.invokevirtual 53, 3) := by decide +kernel
theorem d_L_law_215 : decode code 215 = .ok (.istore 6, 2) := by decide +kernel
theorem d_L_law_217 : decode code 217 = .ok (.aload_n 2, 1) := by decide +kernel
theorem d_L_law_218 : decode code 218 = .ok (.invokevirtual 46, 3) := by decide +kernel
theorem d_L_law_221 : decode code 221 = .ok (.iload 5, 2) := by decide +kernel
theorem d_L_law_223 : decode code 223 = .ok (.if_icmp .eq 5, 3) := by decide +kernel
theorem d_L_law_226 : decode code 226 = .ok (.iconst 0, 1) := by decide +kernel
theorem d_L_law_227 : decode code 227 = .ok (.ireturn, 1) := by decide +kernel
theorem d_L_law_228 : decode code 228 = .ok (.iload 5, 2) := by decide +kernel
theorem d_L_law_230 : decode code 230 = .ok (.ifCond .ne 15, 3) := by decide +kernel
theorem d_L_law_233 : decode code 233 = .ok (.aload_n 3, 1) := by decide +kernel
theorem d_L_law_234 : decode code 234 = .ok (.iconst 0, 1) := by decide +kernel
theorem d_L_law_235 : decode code 235 = .ok (.laload, 1) := by decide +kernel
theorem d_L_law_236 : decode code 236 = .ok (.iload 6, 2) := by decide +kernel
theorem d_L_law_238 : decode code 238 = .ok (.i2l, 1) := by decide +kernel
theorem d_L_law_239 : decode code 239 = .ok (.lcmp, 1) := by decide +kernel
theorem d_L_law_240 : decode code 240 = .ok (.ifCond .eq 5, 3) := by decide +kernel
theorem d_L_law_243 : decode code 243 = .ok (.iconst 0, 1) := by decide +kernel
theorem d_L_law_244 : decode code 244 = .ok (.ireturn, 1) := by decide +kernel
theorem d_L_law_245 : decode code 245 = .ok (.goto 289, 3) := by decide +kernel
theorem d_L_law_248 : decode code 248 = .ok (.aload_n 1, 1) := by decide +kernel
theorem d_L_law_249 : decode code 249 = .ok (.invokevirtual 54, 3) := by decide +kernel
theorem d_L_law_252 : decode code 252 = .ok (.aload_n 2, 1) := by decide +kernel
theorem d_L_law_253 : decode code 253 = .ok (.invokevirtual 57, 3) := by decide +kernel
theorem d_L_law_256 : decode code 256 = .ok (.if_icmp .eq 278, 3) := by decide +kernel
theorem d_L_law_259 : decode code 259 = .ok (.iconst 0, 1) := by decide +kernel
theorem d_L_law_260 : decode code 260 = .ok (.ireturn, 1) := by decide +kernel
theorem d_L_law_261 : decode code 261 = .ok (.aload_n 1, 1) := by decide +kernel
theorem d_L_law_262 : decode code 262 = .ok (.aload_n 0, 1) := by decide +kernel
theorem d_L_law_263 : decode code 263 = .ok (.iload 4, 2) := by decide +kernel
theorem d_L_law_265 : decode code 265 = .ok (.iconst 1, 1) := by decide +kernel
end
section
theorem d_L_law_266 : decode code 266 = .ok (.iadd, 1) := by decide +kernel
theorem d_L_law_267 : decode code 267 = .ok (.iaload, 1) := by decide +kernel
theorem d_L_law_268 : decode code 268 = .ok (.aload_n 0, 1) := by decide +kernel
theorem d_L_law_269 : decode code 269 = .ok (.iload 4, 2) := by decide +kernel
theorem d_L_law_271 : decode code 271 = .ok (.iconst 2, 1) := by decide +kernel
theorem d_L_law_272 : decode code 272 = .ok (.iadd, 1) := by decide +kernel
theorem d_L_law_273 : decode code 273 = .ok (.iaload, 1) := by decide +kernel
theorem d_L_law_274 : decode code 274 = .ok (.aload_n 3, 1) := by decide +kernel
theorem d_L_law_275 : decode code 275 = .ok (.invokestatic 58, 3) := by decide +kernel
theorem d_L_law_278 : decode code 278 = .ok (.istore 5, 2) := by decide +kernel
theorem d_L_law_280 : decode code 280 = .ok (.aload_n 2, 1) := by decide +kernel
theorem d_L_law_281 : decode code 281 = .ok (.aload_n 0, 1) := by decide +kernel
theorem d_L_law_282 : decode code 282 = .ok (.iload 4, 2) := by decide +kernel
theorem d_L_law_284 : decode code 284 = .ok (.iconst 1, 1) := by decide +kernel
theorem d_L_law_285 : decode code 285 = .ok (.iadd, 1) := by decide +kernel
theorem d_L_law_286 : decode code 286 = .ok (.iaload, 1) := by decide +kernel
theorem d_L_law_287 : decode code 287 = .ok (.aload_n 0, 1) := by decide +kernel
theorem d_L_law_288 : decode code 288 = .ok (.iload 4, 2) := by decide +kernel
theorem d_L_law_290 : decode code 290 = .ok (.iconst 2, 1) := by decide +kernel
theorem d_L_law_291 : decode code 291 = .ok (.iadd, 1) := by decide +kernel
theorem d_L_law_292 : decode code 292 = .ok (.iaload, 1) := by decide +kernel
theorem d_L_law_293 : decode code 293 = .ok (.invokevirtual 61, 3) := by decide +kernel
theorem d_L_law_296 : decode code 296 = .ok (.istore 6, 2) := by decide +kernel
theorem d_L_law_298 : decode code 298 = .ok (.aload_n 2, 1) := by decide +kernel
theorem d_L_law_299 : decode code 299 = .ok (.invokevirtual 46, 3) := by decide +kernel
theorem d_L_law_302 : decode code 302 = .ok (.iload 5, 2) := by decide +kernel
theorem d_L_law_304 : decode code 304 = .ok (.if_icmp .eq 5, 3) := by decide +kernel
theorem d_L_law_307 : decode code 307 = .ok (.iconst 0, 1) := by decide +kernel
theorem d_L_law_308 : decode code 308 = .ok (.ireturn, 1) := by decide +kernel
theorem d_L_law_309 : decode code 309 = .ok (.iload 5, 2) := by decide +kernel
theorem d_L_law_311 : decode code 311 = .ok (.ifCond .ne 15, 3) := by decide +kernel
theorem d_L_law_314 : decode code 314 = .ok (.aload_n 3, 1) := by decide +kernel
theorem d_L_law_315 : decode code 315 = .ok (.iconst 0, 1) := by decide +kernel
theorem d_L_law_316 : decode code 316 = .ok (.laload, 1) := by decide +kernel
theorem d_L_law_317 : decode code 317 = .ok (.iload 6, 2) := by decide +kernel
theorem d_L_law_319 : decode code 319 = .ok (.i2l, 1) := by decide +kernel
theorem d_L_law_320 : decode code 320 = .ok (.lcmp, 1) := by decide +kernel
theorem d_L_law_321 : decode code 321 = .ok (.ifCond .eq 5, 3) := by decide +kernel
theorem d_L_law_324 : decode code 324 = .ok (.iconst 0, 1) := by decide +kernel
theorem d_L_law_325 : decode code 325 = .ok (.ireturn, 1) := by decide +kernel
theorem d_L_law_326 : decode code 326 = .ok (.goto 208, 3) := by decide +kernel
theorem d_L_law_329 : decode code 329 = .ok (.aload_n 1, 1) := by decide +kernel
theorem d_L_law_330 : decode code 330 = .ok (.aload_n 0, 1) := by decide +kernel
theorem d_L_law_331 : decode code 331 = .ok (.iload 4, 2) := by decide +kernel
theorem d_L_law_333 : decode code 333 = .ok (.iconst 1, 1) := by decide +kernel
theorem d_L_law_334 : decode code 334 = .ok (.iadd, 1) := by decide +kernel
theorem d_L_law_335 : decode code 335 = .ok (.iaload, 1) := by decide +kernel
theorem d_L_law_336 : decode code 336 = .ok (.aload_n 0, 1) := by decide +kernel
theorem d_L_law_337 : decode code 337 = .ok (.iload 4, 2) := by decide +kernel
theorem d_L_law_339 : decode code 339 = .ok (.iconst 2, 1) := by decide +kernel
theorem d_L_law_340 : decode code 340 = .ok (.iadd, 1) := by decide +kernel
theorem d_L_law_341 : decode code 341 = .ok (.iaload, 1) := by decide +kernel
theorem d_L_law_342 : decode code 342 = .ok (.aload_n 3, 1) := by decide +kernel
theorem d_L_law_343 : decode code 343 = .ok (.invokestatic 62, 3) := by decide +kernel
theorem d_L_law_346 : decode code 346 = .ok (.istore 5, 2) := by decide +kernel
theorem d_L_law_348 : decode code 348 = .ok (.aload_n 2, 1) := by decide +kernel
theorem d_L_law_349 : decode code 349 = .ok (.aload_n 0, 1) := by decide +kernel
theorem d_L_law_350 : decode code 350 = .ok (.iload 4, 2) := by decide +kernel
theorem d_L_law_352 : decode code 352 = .ok (.iconst 1, 1) := by decide +kernel
theorem d_L_law_353 : decode code 353 = .ok (.iadd, 1) := by decide +kernel
theorem d_L_law_354 : decode code 354 = .ok (.iaload, 1) := by decide +kernel
theorem d_L_law_355 : decode code 355 = .ok (.aload_n 0, 1) := by decide +kernel
theorem d_L_law_356 : decode code 356 = .ok (.iload 4, 2) := by decide +kernel
theorem d_L_law_358 : decode code 358 = .ok (.iconst 2, 1) := by decide +kernel
theorem d_L_law_359 : decode code 359 = .ok (.iadd, 1) := by decide +kernel
theorem d_L_law_360 : decode code 360 = .ok (.iaload, 1) := by decide +kernel
theorem d_L_law_361 : decode code 361 = .ok (.invokevirtual 64, 3) := by decide +kernel
theorem d_L_law_364 : decode code 364 = .ok (.istore 6, 2) := by decide +kernel
theorem d_L_law_366 : decode code 366 = .ok (.aload_n 2, 1) := by decide +kernel
theorem d_L_law_367 : decode code 367 = .ok (.invokevirtual 46, 3) := by decide +kernel
theorem d_L_law_370 : decode code 370 = .ok (.iload 5, 2) := by decide +kernel
theorem d_L_law_372 : decode code 372 = .ok (.if_icmp .eq 5, 3) := by decide +kernel
theorem d_L_law_375 : decode code 375 = .ok (.iconst 0, 1) := by decide +kernel
theorem d_L_law_376 : decode code 376 = .ok (.ireturn, 1) := by decide +kernel
theorem d_L_law_377 : decode code 377 = .ok (.iload 5, 2) := by decide +kernel
theorem d_L_law_379 : decode code 379 = .ok (.ifCond .ne 15, 3) := by decide +kernel
theorem d_L_law_382 : decode code 382 = .ok (.aload_n 3, 1) := by decide +kernel
theorem d_L_law_383 : decode code 383 = .ok (.iconst 0, 1) := by decide +kernel
theorem d_L_law_384 : decode code 384 = .ok (.laload, 1) := by decide +kernel
theorem d_L_law_385 : decode code 385 = .ok (.iload 6, 2) := by decide +kernel
theorem d_L_law_387 : decode code 387 = .ok (.i2l, 1) := by decide +kernel
theorem d_L_law_388 : decode code 388 = .ok (.lcmp, 1) := by decide +kernel
theorem d_L_law_389 : decode code 389 = .ok (.ifCond .eq 5, 3) := by decide +kernel
theorem d_L_law_392 : decode code 392 = .ok (.iconst 0, 1) := by decide +kernel
theorem d_L_law_393 : decode code 393 = .ok (.ireturn, 1) := by decide +kernel
theorem d_L_law_394 : decode code 394 = .ok (.goto 140, 3) := by decide +kernel
theorem d_L_law_397 : decode code 397 = .ok (.aload_n 1, 1) := by decide +kernel
theorem d_L_law_398 : decode code 398 = .ok (.aload_n 0, 1) := by decide +kernel
theorem d_L_law_399 : decode code 399 = .ok (.iload 4, 2) := by decide +kernel
theorem d_L_law_401 : decode code 401 = .ok (.iconst 1, 1) := by decide +kernel
theorem d_L_law_402 : decode code 402 = .ok (.iadd, 1) := by decide +kernel
theorem d_L_law_403 : decode code 403 = .ok (.iaload, 1) := by decide +kernel
theorem d_L_law_404 : decode code 404 = .ok (.aload_n 3, 1) := by decide +kernel
theorem d_L_law_405 : decode code 405 = .ok (.invokestatic 65, 3) := by decide +kernel
theorem d_L_law_408 : decode code 408 = .ok (.istore 5, 2) := by decide +kernel
theorem d_L_law_410 : decode code 410 = .ok (.aload_n 2, 1) := by decide +kernel
theorem d_L_law_411 : decode code 411 = .ok (.aload_n 0, 1) := by decide +kernel
theorem d_L_law_412 : decode code 412 = .ok (.iload 4, 2) := by decide +kernel
theorem d_L_law_414 : decode code 414 = .ok (.iconst 1, 1) := by decide +kernel
theorem d_L_law_415 : decode code 415 = .ok (.iadd, 1) := by decide +kernel
theorem d_L_law_416 : decode code 416 = .ok (.iaload, 1) := by decide +kernel
theorem d_L_law_417 : decode code 417 = .ok (.invokevirtual 67, 3) := by decide +kernel
theorem d_L_law_420 : decode code 420 = .ok (.istore 6, 2) := by decide +kernel
theorem d_L_law_422 : decode code 422 = .ok (.aload_n 2, 1) := by decide +kernel
theorem d_L_law_423 : decode code 423 = .ok (.invokevirtual 46, 3) := by decide +kernel
theorem d_L_law_426 : decode code 426 = .ok (.iload 5, 2) := by decide +kernel
theorem d_L_law_428 : decode code 428 = .ok (.if_icmp .eq 5, 3) := by decide +kernel
theorem d_L_law_431 : decode code 431 = .ok (.iconst 0, 1) := by decide +kernel
theorem d_L_law_432 : decode code 432 = .ok (.ireturn, 1) := by decide +kernel
theorem d_L_law_433 : decode code 433 = .ok (.iload 5, 2) := by decide +kernel
theorem d_L_law_435 : decode code 435 = .ok (.ifCond .ne 15, 3) := by decide +kernel
theorem d_L_law_438 : decode code 438 = .ok (.aload_n 3, 1) := by decide +kernel
theorem d_L_law_439 : decode code 439 = .ok (.iconst 0, 1) := by decide +kernel
theorem d_L_law_440 : decode code 440 = .ok (.laload, 1) := by decide +kernel
theorem d_L_law_441 : decode code 441 = .ok (.iload 6, 2) := by decide +kernel
theorem d_L_law_443 : decode code 443 = .ok (.i2l, 1) := by decide +kernel
theorem d_L_law_444 : decode code 444 = .ok (.lcmp, 1) := by decide +kernel
theorem d_L_law_445 : decode code 445 = .ok (.ifCond .eq 5, 3) := by decide +kernel
theorem d_L_law_448 : decode code 448 = .ok (.iconst 0, 1) := by decide +kernel
theorem d_L_law_449 : decode code 449 = .ok (.ireturn, 1) := by decide +kernel
theorem d_L_law_450 : decode code 450 = .ok (.goto 84, 3) := by decide +kernel
theorem d_L_law_453 : decode code 453 = .ok (.aload_n 1, 1) := by decide +kernel
theorem d_L_law_454 : decode code 454 = .ok (.aload_n 0, 1) := by decide +kernel
theorem d_L_law_455 : decode code 455 = .ok (.iload 4, 2) := by decide +kernel
theorem d_L_law_457 : decode code 457 = .ok (.iconst 1, 1) := by decide +kernel
theorem d_L_law_458 : decode code 458 = .ok (.iadd, 1) := by decide +kernel
theorem d_L_law_459 : decode code 459 = .ok (.iaload, 1) := by decide +kernel
theorem d_L_law_460 : decode code 460 = .ok (.aload_n 3, 1) := by decide +kernel
theorem d_L_law_461 : decode code 461 = .ok (.invokestatic 68, 3) := by decide +kernel
theorem d_L_law_464 : decode code 464 = .ok (.istore 5, 2) := by decide +kernel
theorem d_L_law_466 : decode code 466 = .ok (.aload_n 2, 1) := by decide +kernel
theorem d_L_law_467 : decode code 467 = .ok (.aload_n 0, 1) := by decide +kernel
theorem d_L_law_468 : decode code 468 = .ok (.iload 4, 2) := by decide +kernel
theorem d_L_law_470 : decode code 470 = .ok (.iconst 1, 1) := by decide +kernel
theorem d_L_law_471 : decode code 471 = .ok (.iadd, 1) := by decide +kernel
theorem d_L_law_472 : decode code 472 = .ok (.iaload, 1) := by decide +kernel
theorem d_L_law_473 : decode code 473 = .ok (.invokevirtual 70, 3) := by decide +kernel
theorem d_L_law_476 : decode code 476 = .ok (.istore 6, 2) := by decide +kernel
theorem d_L_law_478 : decode code 478 = .ok (.aload_n 2, 1) := by decide +kernel
theorem d_L_law_479 : decode code 479 = .ok (.invokevirtual 46, 3) := by decide +kernel
theorem d_L_law_482 : decode code 482 = .ok (.iload 5, 2) := by decide +kernel
theorem d_L_law_484 : decode code 484 = .ok (.if_icmp .eq 5, 3) := by decide +kernel
theorem d_L_law_487 : decode code 487 = .ok (.iconst 0, 1) := by decide +kernel
theorem d_L_law_488 : decode code 488 = .ok (.ireturn, 1) := by decide +kernel
theorem d_L_law_489 : decode code 489 = .ok (.iload 5, 2) := by decide +kernel
theorem d_L_law_491 : decode code 491 = .ok (.ifCond .ne 15, 3) := by decide +kernel
theorem d_L_law_494 : decode code 494 = .ok (.aload_n 3, 1) := by decide +kernel
theorem d_L_law_495 : decode code 495 = .ok (.iconst 0, 1) := by decide +kernel
theorem d_L_law_496 : decode code 496 = .ok (.laload, 1) := by decide +kernel
theorem d_L_law_497 : decode code 497 = .ok (.iload 6, 2) := by decide +kernel
theorem d_L_law_499 : decode code 499 = .ok (.i2l, 1) := by decide +kernel
theorem d_L_law_500 : decode code 500 = .ok (.lcmp, 1) := by decide +kernel
theorem d_L_law_501 : decode code 501 = .ok (.ifCond .eq 5, 3) := by decide +kernel
theorem d_L_law_504 : decode code 504 = .ok (.iconst 0, 1) := by decide +kernel
theorem d_L_law_505 : decode code 505 = .ok (.ireturn, 1) := by decide +kernel
theorem d_L_law_506 : decode code 506 = .ok (.goto 28, 3) := by decide +kernel
theorem d_L_law_509 : decode code 509 = .ok (.aload_n 1, 1) := by decide +kernel
theorem d_L_law_510 : decode code 510 = .ok (.aload_n 0, 1) := by decide +kernel
theorem d_L_law_511 : decode code 511 = .ok (.iload 4, 2) := by decide +kernel
theorem d_L_law_513 : decode code 513 = .ok (.iconst 1, 1) := by decide +kernel
theorem d_L_law_514 : decode code 514 = .ok (.iadd, 1) := by decide +kernel
theorem d_L_law_515 : decode code 515 = .ok (.iaload, 1) := by decide +kernel
theorem d_L_law_516 : decode code 516 = .ok (.invokevirtual 71, 3) := by decide +kernel
theorem d_L_law_519 : decode code 519 = .ok (.aload_n 2, 1) := by decide +kernel
theorem d_L_law_520 : decode code 520 = .ok (.aload_n 0, 1) := by decide +kernel
theorem d_L_law_521 : decode code 521 = .ok (.iload 4, 2) := by decide +kernel
theorem d_L_law_523 : decode code 523 = .ok (.iconst 1, 1) := by decide +kernel
theorem d_L_law_524 : decode code 524 = .ok (.iadd, 1) := by decide +kernel
theorem d_L_law_525 : decode code 525 = .ok (.iaload, 1) := by decide +kernel
theorem d_L_law_526 : decode code 526 = .ok (.invokevirtual 74, 3) := by decide +kernel
theorem d_L_law_529 : decode code 529 = .ok (.if_icmp .eq 5, 3) := by decide +kernel
theorem d_L_law_532 : decode code 532 = .ok (.iconst 0, 1) := by decide +kernel
theorem d_L_law_533 : decode code 533 = .ok (.ireturn, 1) := by decide +kernel
theorem d_L_law_534 : decode code 534 = .ok (.iinc 4 6, 3) := by decide +kernel
theorem d_L_law_537 : decode code 537 = .ok (.goto (-514), 3) := by decide +kernel
theorem d_L_law_540 : decode code 540 = .ok (.iconst 1, 1) := by decide +kernel
theorem d_L_law_541 : decode code 541 = .ok (.ireturn, 1) := by decide +kernel
end
section
/-! PURE, 7: the class's way through a sequence of bytes -/
def pu_lead (u : Nat) : Nat := if u < 128 then 1 else if u < 194 ∨ 244 < u then 0 else if u < 224 then 2 else if u < 240 then 3 else 4
theorem pu_lead_le (u : Nat) : pu_lead u ≤ 4 := by
  unfold pu_lead
  repeat' split
  all_goals omega
abbrev pu_sec (u v : Nat) : Prop := (if u = 224 then 160 else if u = 240 then 144 else 128) ≤ v ∧ v ≤ (if u = 237 then 159 else if u = 244 then 143 else 191)
theorem pu_sizeA {u : Nat → Nat} {a e : Nat} (h : a < e) (h1 : e - a < pu_lead (u a)) : pu_size u a e = 0 := by
  unfold pu_lead at h1
  unfold pu_size
  repeat' split at h1
  all_goals (repeat' split)
  all_goals first | rfl | (exfalso; omega)
theorem pu_sizeB {u : Nat → Nat} {a e : Nat} (h2 : 1 < pu_lead (u a)) (h3 : ¬ pu_sec (u a) (u (a + 1))) : pu_size u a e = 0 := by
  unfold pu_lead at h2
  unfold pu_sec at h3
  unfold pu_size
  repeat' split at h2
  all_goals (repeat' split at h3)
  all_goals (repeat' split)
  all_goals first | rfl | (exfalso; omega)
theorem pu_sizeC {u : Nat → Nat} {a e k : Nat} (h2 : 2 ≤ k) (h3 : k < pu_lead (u a)) (h4 : ¬ (128 ≤ u (a + k) ∧ u (a + k) < 192)) : pu_size u a e = 0 := by
  have h5 := pu_lead_le (u a)
  have h6 : k = 2 ∨ k = 3 := by omega
  unfold pu_lead at h3
  unfold pu_size
  rcases h6 with rfl | rfl
  all_goals repeat' split at h3
  all_goals (repeat' split)
  all_goals first | rfl | (exfalso; omega)
theorem pu_sizeD {u : Nat → Nat} {a e : Nat} (h : a < e) (h1 : pu_lead (u a) ≤ e - a) (h2 : 1 < pu_lead (u a) → pu_sec (u a) (u (a + 1))) (h3 : ∀ k, 2 ≤ k → k < pu_lead (u a) → 128 ≤ u (a + k) ∧ u (a + k) < 192) : pu_size u a e = pu_lead (u a) := by
  rcases Nat.lt_or_ge (u a) 128 with c | c
  · have e1 : pu_lead (u a) = 1 := by unfold pu_lead; (repeat' split) <;> omega
    rw [e1]; unfold pu_size; rw [if_pos c]
  · rcases Nat.lt_or_ge (u a) 194 with c2 | c2
    · have e1 : pu_lead (u a) = 0 := by unfold pu_lead; (repeat' split) <;> omega
      rw [e1]; unfold pu_size; (repeat' split) <;> omega
    · rcases Nat.lt_or_ge 244 (u a) with c3 | c3
      · have e1 : pu_lead (u a) = 0 := by unfold pu_lead; (repeat' split) <;> omega
        rw [e1]; unfold pu_size; (repeat' split) <;> omega
      · rcases Nat.lt_or_ge (u a) 224 with c4 | c4
        · have e1 : pu_lead (u a) = 2 := by unfold pu_lead; (repeat' split) <;> omega
          rw [e1] at h1 h2 h3 ⊢
          have hs := h2 (by decide)
          unfold pu_sec at hs
          rw [if_neg (by omega), if_neg (by omega), if_neg (by omega), if_neg (by omega)] at hs
          unfold pu_size
          rw [if_neg (by omega), if_pos (by omega), if_pos (by omega)]
        · rcases Nat.lt_or_ge (u a) 240 with c5 | c5
          · have e1 : pu_lead (u a) = 3 := by unfold pu_lead; (repeat' split) <;> omega
            rw [e1] at h1 h2 h3 ⊢
            have hs := h2 (by decide)
            have a2 := h3 2 (by decide) (by decide)
            unfold pu_sec at hs
            rw [if_neg (by omega : ¬ u a = 240), if_neg (by omega : ¬ u a = 244)] at hs
            unfold pu_size
            rw [if_neg (by omega), if_neg (by omega), if_pos (by omega), if_pos]
            refine ⟨by omega, hs.1, ?_, a2.1, a2.2⟩
            have h9 := hs.2
            split at h9 <;> split <;> omega
          · have e1 : pu_lead (u a) = 4 := by unfold pu_lead; (repeat' split) <;> omega
            rw [e1] at h1 h2 h3 ⊢
            have hs := h2 (by decide)
            have a2 := h3 2 (by decide) (by decide)
            have a3 := h3 3 (by decide) (by decide)
            unfold pu_sec at hs
            rw [if_neg (by omega : ¬ u a = 224), if_neg (by omega : ¬ u a = 237)] at hs
            unfold pu_size
            rw [if_neg (by omega), if_neg (by omega), if_neg (by omega), if_pos (by omega), if_pos]
            refine ⟨by omega, hs.1, ?_, a2.1, a2.2, a3.1, a3.2⟩
            have h9 := hs.2
            split at h9 <;> split <;> omega
/-- the value of the first k bytes of s -/
def pu_vl (u : Nat → Nat) (a s : Nat) : Nat → Nat
  | 0 => 0
  | 1 => u a % 2 ^ (7 - s)
  | k + 2 => pu_vl u a s (k + 1) * 64 + u (a + (k + 1)) % 64
theorem pu_vl_lt (u : Nat → Nat) (a : Nat) {s : Nat} (h : 2 ≤ s) : ∀ k, k ≤ 3 → pu_vl u a s k < 2 ^ 18
  | 0, _ => by show 0 < 2 ^ 18; decide
  | 1, _ => by
    have h1 : 2 ^ (7 - s) ≤ 2 ^ 5 := Nat.pow_le_pow_right (by decide) (by omega)
    have h2 : u a % 2 ^ (7 - s) < 2 ^ (7 - s) := Nat.mod_lt _ (Nat.two_pow_pos _)
    show u a % 2 ^ (7 - s) < 2 ^ 18
    have h3 : (2 : Nat) ^ 5 = 32 := rfl
    have h4 : (2 : Nat) ^ 18 = 262144 := rfl
    omega
  | 2, _ => by
    have h1 : 2 ^ (7 - s) ≤ 2 ^ 5 := Nat.pow_le_pow_right (by decide) (by omega)
    have h2 : u a % 2 ^ (7 - s) < 2 ^ (7 - s) := Nat.mod_lt _ (Nat.two_pow_pos _)
    have h3 : (2 : Nat) ^ 5 = 32 := rfl
    have h4 : (2 : Nat) ^ 18 = 262144 := rfl
    show u a % 2 ^ (7 - s) * 64 + u (a + 1) % 64 < 2 ^ 18
    omega
  | 3, _ => by
    have h1 : 2 ^ (7 - s) ≤ 2 ^ 5 := Nat.pow_le_pow_right (by decide) (by omega)
    have h2 : u a % 2 ^ (7 - s) < 2 ^ (7 - s) := Nat.mod_lt _ (Nat.two_pow_pos _)
    have h3 : (2 : Nat) ^ 5 = 32 := rfl
    have h4 : (2 : Nat) ^ 18 = 262144 := rfl
    show (u a % 2 ^ (7 - s) * 64 + u (a + 1) % 64) * 64 + u (a + 2) % 64 < 2 ^ 18
    omega
theorem pu_char_val {u : Nat → Nat} {a e : Nat} (h : 2 ≤ pu_size u a e) : pu_char u a e = pu_vl u a (pu_size u a e) (pu_size u a e) := by
  have h1 := pu_size_le u a e
  unfold pu_char
  generalize pu_size u a e = s at *
  have h2 : s = 2 ∨ s = 3 ∨ s = 4 := by omega
  rcases h2 with rfl | rfl | rfl <;> rfl
theorem pu_mask (x : Int32) {s : Nat} (h : s = 2 ∨ s = 3 ∨ s = 4) : x &&& ((255 : Int32) >>> (nI (s + 1) &&& 31)) = nI (pu_u x % 2 ^ (7 - s)) := by
  rcases h with rfl | rfl | rfl
  · exact pu_and31 x
  · exact pu_and15 x
  · exact pu_and7 x
end
section
/-! WHAT STAYS: strings, statics -/
abbrev sv_G : Type := va_G × (Nat → ClassId) × (Nat → Nat) × (Nat → Nat)
/-- the texts of the literals, as bytes; a literal has its own number, its place in sv_lits -/
def sv_lits : List (String × Nat × String × Nat) := [("WordChain$SilentWords", 13, "a an and are as at be but by for if in into is it no not of on or such that the their then there these they this to was will with ", 0), ("WordChain$Stemmer", 9, "sses", 1), ("WordChain$Stemmer", 11, "ss", 2), ("WordChain$Stemmer", 16, "ies", 3), ("WordChain$Stemmer", 18, "i", 4), ("WordChain$Stemmer", 20, "s", 5), ("WordChain$Stemmer", 22, "", 6), ("WordChain$Stemmer", 30, "eed", 7), ("WordChain$Stemmer", 32, "ee", 8), ("WordChain$Stemmer", 34, "ed", 9), ("WordChain$Stemmer", 36, "ing", 10), ("WordChain$Stemmer", 41, "ational", 11), ("WordChain$Stemmer", 43, "ate", 12), ("WordChain$Stemmer", 45, "tional", 13), ("WordChain$Stemmer", 47, "tion", 14), ("WordChain$Stemmer", 49, "enci", 15), ("WordChain$Stemmer", 51, "ence", 16), ("WordChain$Stemmer", 53, "anci", 17), ("WordChain$Stemmer", 55, "ance", 18), ("WordChain$Stemmer", 57, "izer", 19), ("WordChain$Stemmer", 59, "ize", 20), ("WordChain$Stemmer", 61, "abli", 21), ("WordChain$Stemmer", 63, "able", 22), ("WordChain$Stemmer", 65, "alli", 23), ("WordChain$Stemmer", 67, "al", 24), ("WordChain$Stemmer", 69, "entli", 25), ("WordChain$Stemmer", 71, "ent", 26), ("WordChain$Stemmer", 73, "eli", 27), ("WordChain$Stemmer", 75, "e", 28), ("WordChain$Stemmer", 77, "ousli", 29), ("WordChain$Stemmer", 79, "ous", 30), ("WordChain$Stemmer", 81, "ization", 31), ("WordChain$Stemmer", 83, "ation", 32), ("WordChain$Stemmer", 85, "ator", 33), ("WordChain$Stemmer", 87, "alism", 34), ("WordChain$Stemmer", 89, "iveness", 35), ("WordChain$Stemmer", 91, "ive", 36), ("WordChain$Stemmer", 93, "fulness", 37), ("WordChain$Stemmer", 95, "ful", 38), ("WordChain$Stemmer", 97, "ousness", 39), ("WordChain$Stemmer", 99, "aliti", 40), ("WordChain$Stemmer", 101, "iviti", 41), ("WordChain$Stemmer", 103, "biliti", 42), ("WordChain$Stemmer", 105, "ble", 43), ("WordChain$Stemmer", 110, "icate", 44), ("WordChain$Stemmer", 112, "ic", 45), ("WordChain$Stemmer", 114, "ative", 46), ("WordChain$Stemmer", 116, "alize", 47), ("WordChain$Stemmer", 118, "iciti", 48), ("WordChain$Stemmer", 120, "ical", 49), ("WordChain$Stemmer", 122, "ness", 50), ("WordChain$Stemmer", 127, "er", 51), ("WordChain$Stemmer", 129, "ible", 52), ("WordChain$Stemmer", 131, "ant", 53), ("WordChain$Stemmer", 133, "ement", 54), ("WordChain$Stemmer", 135, "ment", 55), ("WordChain$Stemmer", 137, "ion", 56), ("WordChain$Stemmer", 139, "ou", 57), ("WordChain$Stemmer", 141, "ism", 58), ("WordChain$Stemmer", 143, "iti", 59), ("WordChain$Stemmer", 230, "at", 60), ("WordChain$Stemmer", 236, "bl", 61), ("WordChain$Stemmer", 238, "iz", 62), ("WordChain$Stemmer", 243, "l", 63), ("WordChain$Stemmer", 245, "z", 64), ("WordChain$Stemmer", 250, "y", 65), ("WordChain$Stemmer", 252, "sion", 66), ("WordChain$Stemmer", 254, "ll", 67), ("WordChain", 52, "INPUT is full", 68), ("WordChain", 62, "as many bytes can't go", 69), ("WordChain", 96, "what is 0 or 1", 70), ("WordChain", 104, "no such TOKEN", 71), ("WordChain", 114, "no such CHARACTER", 72), ("WordChain", 126, "no CHARACTER", 73), ("WordChainModel", 9, "a", 74), ("WordChainModel", 11, "an", 75), ("WordChainModel", 13, "and", 76), ("WordChainModel", 15, "are", 77), ("WordChainModel", 17, "as", 78), ("WordChainModel", 19, "at", 79), ("WordChainModel", 21, "be", 80), ("WordChainModel", 23, "but", 81), ("WordChainModel", 25, "by", 82), ("WordChainModel", 27, "for", 83), ("WordChainModel", 29, "if", 84), ("WordChainModel", 31, "in", 85), ("WordChainModel", 33, "into", 86), ("WordChainModel", 35, "is", 87), ("WordChainModel", 37, "it", 88), ("WordChainModel", 39, "no", 89), ("WordChainModel", 41, "not", 90), ("WordChainModel", 43, "of", 91), ("WordChainModel", 45, "on", 92), ("WordChainModel", 47, "or", 93), ("WordChainModel", 49, "such", 94), ("WordChainModel", 51, "that", 95), ("WordChainModel", 53, "the", 96), ("WordChainModel", 55, "their", 97), ("WordChainModel", 57, "then", 98), ("WordChainModel", 59, "there", 99), ("WordChainModel", 61, "these", 100), ("WordChainModel", 63, "they", 101), ("WordChainModel", 65, "this", 102), ("WordChainModel", 67, "to", 103), ("WordChainModel", 69, "was", 104), ("WordChainModel", 71, "will", 105), ("WordChainModel", 73, "with", 106), ("WordChainModel", 81, "ational", 107), ("WordChainModel", 83, "ate", 108), ("WordChainModel", 85, "tional", 109), ("WordChainModel", 87, "tion", 110), ("WordChainModel", 89, "enci", 111), ("WordChainModel", 91, "ence", 112), ("WordChainModel", 93, "anci", 113), ("WordChainModel", 95, "ance", 114), ("WordChainModel", 97, "izer", 115), ("WordChainModel", 99, "ize", 116), ("WordChainModel", 101, "abli", 117), ("WordChainModel", 103, "able", 118), ("WordChainModel", 105, "alli", 119), ("WordChainModel", 107, "al", 120), ("WordChainModel", 109, "entli", 121), ("WordChainModel", 111, "ent", 122), ("WordChainModel", 113, "eli", 123), ("WordChainModel", 115, "e", 124), ("WordChainModel", 117, "ousli", 125), ("WordChainModel", 119, "ous", 126), ("WordChainModel", 121, "ization", 127), ("WordChainModel", 123, "ation", 128), ("WordChainModel", 125, "ator", 129), ("WordChainModel", 127, "alism", 130), ("WordChainModel", 129, "iveness", 131), ("WordChainModel", 131, "ive", 132), ("WordChainModel", 133, "fulness", 133), ("WordChainModel", 135, "ful", 134), ("WordChainModel", 137, "ousness", 135), ("WordChainModel", 139, "aliti", 136), ("WordChainModel", 141, "iviti", 137), ("WordChainModel", 143, "biliti", 138), ("WordChainModel", 145, "ble", 139), ("WordChainModel", 150, "icate", 140), ("WordChainModel", 152, "ic", 141), ("WordChainModel", 154, "ative", 142), ("WordChainModel", 156, "", 143), ("WordChainModel", 158, "alize", 144), ("WordChainModel", 160, "iciti", 145), ("WordChainModel", 162, "ical", 146), ("WordChainModel", 164, "ness", 147), ("WordChainModel", 169, "er", 148), ("WordChainModel", 171, "ible", 149), ("WordChainModel", 173, "ant", 150), ("WordChainModel", 175, "ement", 151), ("WordChainModel", 177, "ment", 152), ("WordChainModel", 179, "ou", 153), ("WordChainModel", 181, "ism", 154), ("WordChainModel", 183, "iti", 155), ("WordChainModel", 185, "ion", 156), ("WordChainModel", 280, "sses", 157), ("WordChainModel", 282, "ies", 158), ("WordChainModel", 284, "s", 159), ("WordChainModel", 286, "ss", 160), ("WordChainModel", 316, "eed", 161), ("WordChainModel", 318, "ed", 162), ("WordChainModel", 320, "ing", 163), ("WordChainModel", 322, "bl", 164), ("WordChainModel", 324, "iz", 165), ("WordChainModel", 291, "y", 166), ("WordChainModel", 314, "ll", 167)]
abbrev sv_nS : Nat := 168
def sv_txts : List (List Int32) := [[97, 32, 97, 110, 32, 97, 110, 100, 32, 97, 114, 101, 32, 97, 115, 32, 97, 116, 32, 98, 101, 32, 98, 117, 116, 32, 98, 121, 32, 102, 111, 114, 32, 105, 102, 32, 105, 110, 32, 105, 110, 116, 111, 32, 105, 115, 32, 105, 116, 32, 110, 111, 32, 110, 111, 116, 32, 111, 102, 32, 111, 110, 32, 111, 114, 32, 115, 117, 99, 104, 32, 116, 104, 97, 116, 32, 116, 104, 101, 32, 116, 104, 101, 105, 114, 32, 116, 104, 101, 110, 32, 116, 104, 101, 114, 101, 32, 116, 104, 101, 115, 101, 32, 116, 104, 101, 121, 32, 116, 104, 105, 115, 32, 116, 111, 32, 119, 97, 115, 32, 119, 105, 108, 108, 32, 119, 105, 116, 104, 32], [115, 115, 101, 115], [115, 115], [105, 101, 115], [105], [115], [], [101, 101, 100], [101, 101], [101, 100], [105, 110, 103], [97, 116, 105, 111, 110, 97, 108], [97, 116, 101], [116, 105, 111, 110, 97, 108], [116, 105, 111, 110], [101, 110, 99, 105], [101, 110, 99, 101], [97, 110, 99, 105], [97, 110, 99, 101], [105, 122, 101, 114], [105, 122, 101], [97, 98, 108, 105], [97, 98, 108, 101], [97, 108, 108, 105], [97, 108], [101, 110, 116, 108, 105], [101, 110, 116], [101, 108, 105], [101], [111, 117, 115, 108, 105], [111, 117, 115], [105, 122, 97, 116, 105, 111, 110], [97, 116, 105, 111, 110], [97, 116, 111, 114], [97, 108, 105, 115, 109], [105, 118, 101, 110, 101, 115, 115], [105, 118, 101], [102, 117, 108, 110, 101, 115, 115], [102, 117, 108], [111, 117, 115, 110, 101, 115, 115], [97, 108, 105, 116, 105], [105, 118, 105, 116, 105], [98, 105, 108, 105, 116, 105], [98, 108, 101], [105, 99, 97, 116, 101], [105, 99], [97, 116, 105, 118, 101], [97, 108, 105, 122, 101], [105, 99, 105, 116, 105], [105, 99, 97, 108], [110, 101, 115, 115], [101, 114], [105, 98, 108, 101], [97, 110, 116], [101, 109, 101, 110, 116], [109, 101, 110, 116], [105, 111, 110], [111, 117], [105, 115, 109], [105, 116, 105], [97, 116], [98, 108], [105, 122], [108], [122], [121], [115, 105, 111, 110], [108, 108], [73, 78, 80, 85, 84, 32, 105, 115, 32, 102, 117, 108, 108], [97, 115, 32, 109, 97, 110, 121, 32, 98, 121, 116, 101, 115, 32, 99, 97, 110, 39, 116, 32, 103, 111], [119, 104, 97, 116, 32, 105, 115, 32, 48, 32, 111, 114, 32, 49], [110, 111, 32, 115, 117, 99, 104, 32, 84, 79, 75, 69, 78], [110, 111, 32, 115, 117, 99, 104, 32, 67, 72, 65, 82, 65, 67, 84, 69, 82], [110, 111, 32, 67, 72, 65, 82, 65, 67, 84, 69, 82], [97], [97, 110], [97, 110, 100], [97, 114, 101], [97, 115], [97, 116], [98, 101], [98, 117, 116], [98, 121], [102, 111, 114], [105, 102], [105, 110], [105, 110, 116, 111], [105, 115], [105, 116], [110, 111], [110, 111, 116], [111, 102], [111, 110], [111, 114], [115, 117, 99, 104], [116, 104, 97, 116], [116, 104, 101], [116, 104, 101, 105, 114], [116, 104, 101, 110], [116, 104, 101, 114, 101], [116, 104, 101, 115, 101], [116, 104, 101, 121], [116, 104, 105, 115], [116, 111], [119, 97, 115], [119, 105, 108, 108], [119, 105, 116, 104], [97, 116, 105, 111, 110, 97, 108], [97, 116, 101], [116, 105, 111, 110, 97, 108], [116, 105, 111, 110], [101, 110, 99, 105], [101, 110, 99, 101], [97, 110, 99, 105], [97, 110, 99, 101], [105, 122, 101, 114], [105, 122, 101], [97, 98, 108, 105], [97, 98, 108, 101], [97, 108, 108, 105], [97, 108], [101, 110, 116, 108, 105], [101, 110, 116], [101, 108, 105], [101], [111, 117, 115, 108, 105], [111, 117, 115], [105, 122, 97, 116, 105, 111, 110], [97, 116, 105, 111, 110], [97, 116, 111, 114], [97, 108, 105, 115, 109], [105, 118, 101, 110, 101, 115, 115], [105, 118, 101], [102, 117, 108, 110, 101, 115, 115], [102, 117, 108], [111, 117, 115, 110, 101, 115, 115], [97, 108, 105, 116, 105], [105, 118, 105, 116, 105], [98, 105, 108, 105, 116, 105], [98, 108, 101], [105, 99, 97, 116, 101], [105, 99], [97, 116, 105, 118, 101], [], [97, 108, 105, 122, 101], [105, 99, 105, 116, 105], [105, 99, 97, 108], [110, 101, 115, 115], [101, 114], [105, 98, 108, 101], [97, 110, 116], [101, 109, 101, 110, 116], [109, 101, 110, 116], [111, 117], [105, 115, 109], [105, 116, 105], [105, 111, 110], [115, 115, 101, 115], [105, 101, 115], [115], [115, 115], [101, 101, 100], [101, 100], [105, 110, 103], [98, 108], [105, 122], [121], [108, 108]]
def sv_txt (i : Nat) : List Int32 := sv_txts.getD i []
def sv_S1 (byt : List Int32) (aK aV : Nat) (A : Nat → Prop) (U : State) (H : Heap) : Prop := va_O "java/lang/String" aK A U H ∧ va_OF "java/lang/String" "coder" "B" (.int 0) aK A U H ∧ va_OF "java/lang/String" "value" "[B" (.ref aV) aK A U H ∧ va_T .byte aV byt.length (fun j => .int (byt.getD j 0)) A U H
def sv_Str (g : sv_G) (A : Nat → Prop) (U : State) (H : Heap) : Prop := (∀ i, i < sv_nS → sv_S1 (sv_txt i) (g.2.2.1 i) (g.2.2.2 i) A U H) ∧ (∀ q ∈ sv_lits, vk_R q.1 q.2.1 q.2.2.1 (g.2.2.1 q.2.2.2) U) ∧ va_Z "java/lang/String" "COMPACT_STRINGS" "Z" (.int 1) A U H ∧ va_AO "WordChain$Ending" U ∧ va_AO "java/lang/String" U ∧ ∃ v : Option Nat, va_Z "jdk/internal/util/Preconditions" "SIOOBE_FORMATTER" "Ljava/util/function/BiFunction;" (va_rf v) A U H
theorem sv_S1.to {byt : List Int32} {aK aV : Nat} {A B : Nat → Prop} {s U : State} {H : Heap} (h : sv_S1 byt aK aV A s s.heap) (hq : ∀ a : Nat, a < s.heap.size → ¬ A a → H[a]? = s.heap[a]?) (hAB : ∀ q, B q → A q) (hvm : s.vm.Alike U.vm) : sv_S1 byt aK aV B U H :=
  ⟨va_O.moved hvm ((h.1.kept hq).narrow hAB), va_OF.moved hvm ((h.2.1.kept hq).narrow hAB), va_OF.moved hvm ((h.2.2.1.kept hq).narrow hAB), va_T.moved hvm ((h.2.2.2.kept hq).narrow hAB)⟩
theorem sv_Str.call {g : sv_G} {A B : Nat → Prop} {s U : State} {H : Heap} {locs : List Loc} (h : sv_Str g A s s.heap) (hS : va_S A s.heap H locs) (hAB : ∀ q, B q → A q) (hU : U.heap = H) (hW : s.WarmedH U.vm) : sv_Str g B U U.heap := by
  subst hU
  obtain ⟨h1, h2, h3, h5, h6, v, h4⟩ := h
  exact ⟨fun i hi => (h1 i hi).to hS.2.1 hAB hW.alike, fun q hq => (h2 q hq).warm hW, va_Z.moved hW.alike ((h3.kept hS.2.1).narrow hAB), va_AO.moved hW.alike h5, va_AO.moved hW.alike h6, v, va_Z.moved hW.alike ((h4.kept hS.2.1).narrow hAB)⟩
theorem sv_Str.same {g : sv_G} {A : Nat → Prop} {u U : State} {H : Heap} (hv : U.vm = u.vm) (h : sv_Str g A u H) : sv_Str g A U H := by
  have ha : u.vm.Alike U.vm := by rw [hv]; exact Vm.Alike.refl _
  obtain ⟨h1, h2, h3, h5, h6, v, h4⟩ := h
  exact ⟨fun i hi => ⟨va_O.moved ha (h1 i hi).1, va_OF.moved ha (h1 i hi).2.1, va_OF.moved ha (h1 i hi).2.2.1, va_T.moved ha (h1 i hi).2.2.2⟩, fun q hq => (h2 q hq).same hv, va_Z.moved ha h3, va_AO.moved ha h5, va_AO.moved ha h6, v, va_Z.moved ha h4⟩
end
section
/-! OUR LAYER: a walk over the whole world as a list (sv_V), its fixed things (sv_C), contracts over whole worlds -/
def sv_tys (g : sv_G) : List (ClassId × FieldType) := [(g.2.1 0, .int), (g.2.1 1, .byte), (g.2.1 2, .boolean), (g.2.1 3, .long), (g.2.1 4, .object "WordChain$Ending"), (g.2.1 5, .object "java/lang/String")]
def sv_good (w : Cond) : Bool := (w.onTables && w.keeps) || (match w with | .arrayClass _ => true | _ => false)
def sv_tbl : List Cond := lw_tbl.filter sv_good
theorem sv_tbl_good (w : Cond) (h : w ∈ sv_tbl) : (w.onTables && w.keeps) = true ∨ ∃ ty, w = .arrayClass ty := by
  have h2 := (List.mem_filter.mp h).2
  unfold sv_good at h2
  rcases (Bool.or_eq_true _ _).mp h2 with h3 | h3
  · exact Or.inl h3
  · refine Or.inr ?_
    revert h3
    cases w <;> intro h3 <;> first | exact ⟨_, rfl⟩ | cases h3
theorem sv_in {w : Cond} (h : w ∈ lw_tbl) (hg : sv_good w = true) : w ∈ sv_tbl := List.mem_filter.mpr ⟨h, hg⟩
theorem sv_at {w : Cond} (i : Nat) (h : lw_tbl[i]? = some w) (hg : sv_good w = true) : w ∈ sv_tbl := sv_in (List.mem_of_getElem? h) hg
/-- the locals, by their numbers; all of one slot -/
def sv_L (ls : Array Slot) (nL : Nat) (lv : List (Option Value)) : Prop := ls.size = nL ∧ lv_wf ls ∧ ∀ (i : Nat) (v : Value), lv[i]? = some (some v) → ls[i]? = some (.val v) ∧ v.category = 1
def sv_pairs (lv : List (Option Value)) : List (Nat × Value) := lv.zipIdx.filterMap (fun q => q.1.map (fun v => (q.2, v)))
theorem sv_pairs_mem {lv : List (Option Value)} {i : Nat} {v : Value} : (i, v) ∈ sv_pairs lv ↔ lv[i]? = some (some v) := by
  unfold sv_pairs
  rw [List.mem_filterMap]
  constructor
  · rintro ⟨⟨o, j⟩, h1, h2⟩
    have h3 := List.mem_zipIdx_iff_getElem?.mp h1
    cases o with
    | none => cases h2
    | some w =>
      cases h2
      exact h3
  · intro h
    exact ⟨(some v, i), List.mem_zipIdx_iff_getElem?.mpr h, rfl⟩
theorem sv_L.has {ls : Array Slot} {nL : Nat} {lv : List (Option Value)} (h : sv_L ls nL lv) : lv_has ls nL (sv_pairs lv) := ⟨h.1, h.2.1, fun q hq => (h.2.2 q.1 q.2 (sv_pairs_mem.mp hq)).1⟩
theorem sv_L.get {ls : Array Slot} {nL : Nat} {lv : List (Option Value)} (h : sv_L ls nL lv) {i : Nat} {v : Value} (hv : lv[i]? = some (some v)) : ls[i]? = some (.val v) := (h.2.2 i v hv).1
theorem sv_L.lt {ls : Array Slot} {nL : Nat} {lv : List (Option Value)} (h : sv_L ls nL lv) {i : Nat} {v : Value} (hv : lv[i]? = some (some v)) : i < nL := by
  have h2 := lv_lt (h.get hv)
  rw [h.1] at h2
  exact h2
theorem sv_L.stored {ls ls' : Array Slot} {nL : Nat} {lv : List (Option Value)} (h : sv_L ls nL lv) {i : Nat} {v : Value} (hc : v.category = 1) (h' : lv_has ls' nL ((i, v) :: (sv_pairs lv).filter (fun q => !(q.1 == i) && !(q.1 + 1 == i && q.2.category == 2)))) : sv_L ls' nL (lv.set i (some v)) := by
  refine ⟨h'.1, h'.2.1, fun j w hj => ?_⟩
  by_cases hji : i = j
  · subst hji
    have hl : i < lv.length := by
      rcases Nat.lt_or_ge i lv.length with q | q
      · exact q
      · rw [List.getElem?_eq_none (by rw [List.length_set]; exact q)] at hj; cases hj
    rw [List.getElem?_set_self hl] at hj
    cases hj
    exact ⟨h'.2.2 (i, v) List.mem_cons_self, hc⟩
  · rw [List.getElem?_set_ne hji] at hj
    have h1 := h.2.2 j w hj
    refine ⟨h'.2.2 (j, w) (List.mem_cons_of_mem _ (List.mem_filter.mpr ⟨sv_pairs_mem.mpr hj, ?_⟩)), h1.2⟩
    have a1 : (j == i) = false := by simpa using fun q => hji q.symm
    have a2 : (w.category == 2) = false := by rw [h1.2]; rfl
    simp [a1, a2]
theorem sv_L.sub {ls : Array Slot} {nL : Nat} {lv lv' : List (Option Value)} (h : sv_L ls nL lv) (hs : ∀ (i : Nat) (v : Value), lv'[i]? = some (some v) → lv[i]? = some (some v)) : sv_L ls nL lv' := ⟨h.1, h.2.1, fun i v hv => h.2.2 i v (hs i v hv)⟩
abbrev sv_X : Type := (Program × Launch × Env × Room) × (State × MethodId × Array Value × List Frame) × (Method × Code × (State → Prop)) × sv_G × (Nat → Prop)
/-- from pc, with these cells, locals and stack, the walk comes to its end; k cells of n slots are made so far -/
def sv_V (X : sv_X) (nL k n : Nat) (ws : va_W) (pc : Nat) (lv : List (Option Value)) (st : List Value) : Prop := match X with
  | ((p, l, e, R), (s, m, args, below), (meth, c, Q), g, A) => ∀ (H : Heap) (locs : List Loc) (ls : Array Slot), va_P g.1 classes ws H → va_D A ws → va_S A s.heap H locs → sv_L ls nL lv → W p l e R s m args below meth c H locs k n Q (F0 m pc ls st)
/-- what is fixed in a walk -/
def sv_C (X : sv_X) (l' : Launch) (cc : ByteArray) (nL : Nat) (own : String) (rm : Room) (g' : sv_G) : Prop := match X with
  | ((p, l, e, R), (s, m, args, below), (meth, c, Q), g, A) => l' = l ∧ g' = g ∧ rm = R ∧ p.tables.exec = Jvm.exec ∧ c.code = cc ∧ c.maxLocals = nL ∧ s.vm.findClass own = some m.cls ∧ (∀ w ∈ sv_tbl, w.before args s = true) ∧ va_K g.1 classes (sv_tys g) s ∧ (∀ q : Nat, s.heap.size ≤ q → A q) ∧ sv_Str g A s s.heap ∧ (meth.name = "<init>" ∨ True)

def sv_isInit (X : sv_X) : Prop := match X with
  | ((p, l, e, R), (s, m, args, below), (meth, c, Q), g, A) => meth.name = "<init>"
end
section
section SVR
variable {X : sv_X} {l : Launch} {cc : ByteArray} {nL k n pc : Nat} {own : String} {rm : Room} {g : sv_G} {ws : va_W} {lv : List (Option Value)} {st : List Value}
theorem sv_iconst (C : sv_C X l cc nL own rm g) {n0 : Int} {v : Int32} (hv : Int32.ofInt n0 = v) (hd : decode cc pc = .ok (.iconst n0, 1)) (z : sv_V X nL k n ws (pc + 1) lv (.int v :: st)) : sv_V X nL k n ws pc lv st := by
  obtain ⟨⟨p, l0, e, R⟩, ⟨s, m, args, below⟩, ⟨meth, c, Q⟩, g0, A⟩ := X
  obtain ⟨rfl, rfl, rfl, hx, hb, hml, hown, hts, hK, hA, hZ, hin⟩ := C
  intro H locs ls hP hD hS hl
  exact lv_iconst hx hb hd hv (z H locs ls hP hD hS hl)
theorem sv_bipush (C : sv_C X l cc nL own rm g) {n0 : Int} {v : Int32} (hv : (Int8.ofInt n0).toInt32 = v) (hd : decode cc pc = .ok (.bipush n0, 2)) (z : sv_V X nL k n ws (pc + 2) lv (.int v :: st)) : sv_V X nL k n ws pc lv st := by
  obtain ⟨⟨p, l0, e, R⟩, ⟨s, m, args, below⟩, ⟨meth, c, Q⟩, g0, A⟩ := X
  obtain ⟨rfl, rfl, rfl, hx, hb, hml, hown, hts, hK, hA, hZ, hin⟩ := C
  intro H locs ls hP hD hS hl
  exact lv_bipush hx hb hd hv (z H locs ls hP hD hS hl)
theorem sv_sipush (C : sv_C X l cc nL own rm g) {n0 : Int} {v : Int32} (hv : (Int16.ofInt n0).toInt32 = v) (hd : decode cc pc = .ok (.sipush n0, 3)) (z : sv_V X nL k n ws (pc + 3) lv (.int v :: st)) : sv_V X nL k n ws pc lv st := by
  obtain ⟨⟨p, l0, e, R⟩, ⟨s, m, args, below⟩, ⟨meth, c, Q⟩, g0, A⟩ := X
  obtain ⟨rfl, rfl, rfl, hx, hb, hml, hown, hts, hK, hA, hZ, hin⟩ := C
  intro H locs ls hP hD hS hl
  exact lv_sipush hx hb hd hv (z H locs ls hP hD hS hl)
theorem sv_ldc (C : sv_C X l cc nL own rm g) {ix : Nat} {v : Int32} (hc : Cond.constant own ix v ∈ sv_tbl) (hd : decode cc pc = .ok (.ldc ix, 2)) (z : sv_V X nL k n ws (pc + 2) lv (.int v :: st)) : sv_V X nL k n ws pc lv st := by
  obtain ⟨⟨p, l0, e, R⟩, ⟨s, m, args, below⟩, ⟨meth, c, Q⟩, g0, A⟩ := X
  obtain ⟨rfl, rfl, rfl, hx, hb, hml, hown, hts, hK, hA, hZ, hin⟩ := C
  intro H locs ls hP hD hS hl
  exact lv_ldc hx hb hown (hts _ hc) hd (z H locs ls hP hD hS hl)
theorem sv_lconst (C : sv_C X l cc nL own rm g) {n0 : Fin 2} {v : Int64} (hv : Int64.ofNat (n0 : Nat) = v) (hd : decode cc pc = .ok (.lconst n0, 1)) (z : sv_V X nL k n ws (pc + 1) lv (.long v :: st)) : sv_V X nL k n ws pc lv st := by
  obtain ⟨⟨p, l0, e, R⟩, ⟨s, m, args, below⟩, ⟨meth, c, Q⟩, g0, A⟩ := X
  obtain ⟨rfl, rfl, rfl, hx, hb, hml, hown, hts, hK, hA, hZ, hin⟩ := C
  intro H locs ls hP hD hS hl
  exact lv_lconst hx hb hd hv (z H locs ls hP hD hS hl)
theorem sv_null (C : sv_C X l cc nL own rm g)  (hd : decode cc pc = .ok (.aconst_null, 1)) (z : sv_V X nL k n ws (pc + 1) lv (.null :: st)) : sv_V X nL k n ws pc lv st := by
  obtain ⟨⟨p, l0, e, R⟩, ⟨s, m, args, below⟩, ⟨meth, c, Q⟩, g0, A⟩ := X
  obtain ⟨rfl, rfl, rfl, hx, hb, hml, hown, hts, hK, hA, hZ, hin⟩ := C
  intro H locs ls hP hD hS hl
  exact lv_null hx hb hd (z H locs ls hP hD hS hl)
theorem sv_iload_n (C : sv_C X l cc nL own rm g) {k0 : Fin 4} {i : Nat} {x : Int32} (hi : (k0 : Nat) = i) (hv : lv[i]? = some (some (.int x))) (hd : decode cc pc = .ok (.iload_n k0, 1)) (z : sv_V X nL k n ws (pc + 1) lv (.int x :: st)) : sv_V X nL k n ws pc lv st := by
  obtain ⟨⟨p, l0, e, R⟩, ⟨s, m, args, below⟩, ⟨meth, c, Q⟩, g0, A⟩ := X
  obtain ⟨rfl, rfl, rfl, hx, hb, hml, hown, hts, hK, hA, hZ, hin⟩ := C
  intro H locs ls hP hD hS hl
  exact lv_iload_n hx hb hd hi (hl.get hv) (z H locs ls hP hD hS hl)
theorem sv_iload (C : sv_C X l cc nL own rm g) {i : Nat} {x : Int32} (hv : lv[i]? = some (some (.int x))) (hd : decode cc pc = .ok (.iload i, 2)) (z : sv_V X nL k n ws (pc + 2) lv (.int x :: st)) : sv_V X nL k n ws pc lv st := by
  obtain ⟨⟨p, l0, e, R⟩, ⟨s, m, args, below⟩, ⟨meth, c, Q⟩, g0, A⟩ := X
  obtain ⟨rfl, rfl, rfl, hx, hb, hml, hown, hts, hK, hA, hZ, hin⟩ := C
  intro H locs ls hP hD hS hl
  exact lv_iload hx hb hd (hl.get hv) (z H locs ls hP hD hS hl)
theorem sv_aload_n (C : sv_C X l cc nL own rm g) {k0 : Fin 4} {i : Nat} {x : Nat} (hi : (k0 : Nat) = i) (hv : lv[i]? = some (some (.ref x))) (hd : decode cc pc = .ok (.aload_n k0, 1)) (z : sv_V X nL k n ws (pc + 1) lv (.ref x :: st)) : sv_V X nL k n ws pc lv st := by
  obtain ⟨⟨p, l0, e, R⟩, ⟨s, m, args, below⟩, ⟨meth, c, Q⟩, g0, A⟩ := X
  obtain ⟨rfl, rfl, rfl, hx, hb, hml, hown, hts, hK, hA, hZ, hin⟩ := C
  intro H locs ls hP hD hS hl
  exact lv_aload_n hx hb hd hi (hl.get hv) (z H locs ls hP hD hS hl)
theorem sv_aload (C : sv_C X l cc nL own rm g) {i : Nat} {x : Nat} (hv : lv[i]? = some (some (.ref x))) (hd : decode cc pc = .ok (.aload i, 2)) (z : sv_V X nL k n ws (pc + 2) lv (.ref x :: st)) : sv_V X nL k n ws pc lv st := by
  obtain ⟨⟨p, l0, e, R⟩, ⟨s, m, args, below⟩, ⟨meth, c, Q⟩, g0, A⟩ := X
  obtain ⟨rfl, rfl, rfl, hx, hb, hml, hown, hts, hK, hA, hZ, hin⟩ := C
  intro H locs ls hP hD hS hl
  exact lv_aload hx hb hd (hl.get hv) (z H locs ls hP hD hS hl)
theorem sv_aload_nN (C : sv_C X l cc nL own rm g) {k0 : Fin 4} {i : Nat} (hi : (k0 : Nat) = i) (hv : lv[i]? = some (some .null)) (hd : decode cc pc = .ok (.aload_n k0, 1)) (z : sv_V X nL k n ws (pc + 1) lv (.null :: st)) : sv_V X nL k n ws pc lv st := by
  obtain ⟨⟨p, l0, e, R⟩, ⟨s, m, args, below⟩, ⟨meth, c, Q⟩, g0, A⟩ := X
  obtain ⟨rfl, rfl, rfl, hx, hb, hml, hown, hts, hK, hA, hZ, hin⟩ := C
  intro H locs ls hP hD hS hl
  exact lv_aload_nN hx hb hd hi (hl.get hv) (z H locs ls hP hD hS hl)
theorem sv_aloadN (C : sv_C X l cc nL own rm g) {i : Nat} (hv : lv[i]? = some (some .null)) (hd : decode cc pc = .ok (.aload i, 2)) (z : sv_V X nL k n ws (pc + 2) lv (.null :: st)) : sv_V X nL k n ws pc lv st := by
  obtain ⟨⟨p, l0, e, R⟩, ⟨s, m, args, below⟩, ⟨meth, c, Q⟩, g0, A⟩ := X
  obtain ⟨rfl, rfl, rfl, hx, hb, hml, hown, hts, hK, hA, hZ, hin⟩ := C
  intro H locs ls hP hD hS hl
  exact lv_aloadN hx hb hd (hl.get hv) (z H locs ls hP hD hS hl)
theorem sv_istore_n (C : sv_C X l cc nL own rm g) {k0 : Fin 4} {i : Nat} {x : Int32} (hi : (k0 : Nat) = i) (hn : i < nL) (lv' : List (Option Value)) (hlv : lv.set i (some (.int x)) = lv') (hd : decode cc pc = .ok (.istore_n k0, 1)) (z : sv_V X nL k n ws (pc + 1) lv' st) : sv_V X nL k n ws pc lv (.int x :: st) := by
  obtain ⟨⟨p, l0, e, R⟩, ⟨s, m, args, below⟩, ⟨meth, c, Q⟩, g0, A⟩ := X
  obtain ⟨rfl, rfl, rfl, hx, hb, hml, hown, hts, hK, hA, hZ, hin⟩ := C
  intro H locs ls hP hD hS hl
  exact lv_istore_n hx hb hd hi hl.has hn rfl (fun ls2 hl2 => z H locs ls2 hP hD hS (by have h3 := hl.stored rfl hl2; rw [hlv] at h3; exact h3))
theorem sv_istore (C : sv_C X l cc nL own rm g) {i : Nat} {x : Int32} (hn : i < nL) (lv' : List (Option Value)) (hlv : lv.set i (some (.int x)) = lv') (hd : decode cc pc = .ok (.istore i, 2)) (z : sv_V X nL k n ws (pc + 2) lv' st) : sv_V X nL k n ws pc lv (.int x :: st) := by
  obtain ⟨⟨p, l0, e, R⟩, ⟨s, m, args, below⟩, ⟨meth, c, Q⟩, g0, A⟩ := X
  obtain ⟨rfl, rfl, rfl, hx, hb, hml, hown, hts, hK, hA, hZ, hin⟩ := C
  intro H locs ls hP hD hS hl
  exact lv_istore hx hb hd hl.has hn rfl (fun ls2 hl2 => z H locs ls2 hP hD hS (by have h3 := hl.stored rfl hl2; rw [hlv] at h3; exact h3))
theorem sv_astore_n (C : sv_C X l cc nL own rm g) {k0 : Fin 4} {i : Nat} {x : Nat} (hi : (k0 : Nat) = i) (hn : i < nL) (lv' : List (Option Value)) (hlv : lv.set i (some (.ref x)) = lv') (hd : decode cc pc = .ok (.astore_n k0, 1)) (z : sv_V X nL k n ws (pc + 1) lv' st) : sv_V X nL k n ws pc lv (.ref x :: st) := by
  obtain ⟨⟨p, l0, e, R⟩, ⟨s, m, args, below⟩, ⟨meth, c, Q⟩, g0, A⟩ := X
  obtain ⟨rfl, rfl, rfl, hx, hb, hml, hown, hts, hK, hA, hZ, hin⟩ := C
  intro H locs ls hP hD hS hl
  exact lv_astore_n hx hb hd hi hl.has hn rfl (fun ls2 hl2 => z H locs ls2 hP hD hS (by have h3 := hl.stored rfl hl2; rw [hlv] at h3; exact h3))
theorem sv_astore (C : sv_C X l cc nL own rm g) {i : Nat} {x : Nat} (hn : i < nL) (lv' : List (Option Value)) (hlv : lv.set i (some (.ref x)) = lv') (hd : decode cc pc = .ok (.astore i, 2)) (z : sv_V X nL k n ws (pc + 2) lv' st) : sv_V X nL k n ws pc lv (.ref x :: st) := by
  obtain ⟨⟨p, l0, e, R⟩, ⟨s, m, args, below⟩, ⟨meth, c, Q⟩, g0, A⟩ := X
  obtain ⟨rfl, rfl, rfl, hx, hb, hml, hown, hts, hK, hA, hZ, hin⟩ := C
  intro H locs ls hP hD hS hl
  exact lv_astore hx hb hd hl.has hn rfl (fun ls2 hl2 => z H locs ls2 hP hD hS (by have h3 := hl.stored rfl hl2; rw [hlv] at h3; exact h3))
theorem sv_astore_nN (C : sv_C X l cc nL own rm g) {k0 : Fin 4} {i : Nat}  (hi : (k0 : Nat) = i) (hn : i < nL) (lv' : List (Option Value)) (hlv : lv.set i (some (.null)) = lv') (hd : decode cc pc = .ok (.astore_n k0, 1)) (z : sv_V X nL k n ws (pc + 1) lv' st) : sv_V X nL k n ws pc lv (.null :: st) := by
  obtain ⟨⟨p, l0, e, R⟩, ⟨s, m, args, below⟩, ⟨meth, c, Q⟩, g0, A⟩ := X
  obtain ⟨rfl, rfl, rfl, hx, hb, hml, hown, hts, hK, hA, hZ, hin⟩ := C
  intro H locs ls hP hD hS hl
  exact lv_astore_nN hx hb hd hi hl.has hn rfl (fun ls2 hl2 => z H locs ls2 hP hD hS (by have h3 := hl.stored rfl hl2; rw [hlv] at h3; exact h3))
theorem sv_astoreN (C : sv_C X l cc nL own rm g) {i : Nat}  (hn : i < nL) (lv' : List (Option Value)) (hlv : lv.set i (some (.null)) = lv') (hd : decode cc pc = .ok (.astore i, 2)) (z : sv_V X nL k n ws (pc + 2) lv' st) : sv_V X nL k n ws pc lv (.null :: st) := by
  obtain ⟨⟨p, l0, e, R⟩, ⟨s, m, args, below⟩, ⟨meth, c, Q⟩, g0, A⟩ := X
  obtain ⟨rfl, rfl, rfl, hx, hb, hml, hown, hts, hK, hA, hZ, hin⟩ := C
  intro H locs ls hP hD hS hl
  exact lv_astoreN hx hb hd hl.has hn rfl (fun ls2 hl2 => z H locs ls2 hP hD hS (by have h3 := hl.stored rfl hl2; rw [hlv] at h3; exact h3))
theorem sv_iinc (C : sv_C X l cc nL own rm g) {i : Nat} {n0 : Int} {x v : Int32} (hx0 : lv[i]? = some (some (.int x))) (hv : x + Int32.ofInt n0 = v) (lv' : List (Option Value)) (hlv : lv.set i (some (.int v)) = lv') (hd : decode cc pc = .ok (.iinc i n0, 3)) (z : sv_V X nL k n ws (pc + 3) lv' st) : sv_V X nL k n ws pc lv st := by
  obtain ⟨⟨p, l0, e, R⟩, ⟨s, m, args, below⟩, ⟨meth, c, Q⟩, g0, A⟩ := X
  obtain ⟨rfl, rfl, rfl, hx, hb, hml, hown, hts, hK, hA, hZ, hin⟩ := C
  intro H locs ls hP hD hS hl
  obtain ⟨kq, hkq⟩ := List.getElem?_of_mem (sv_pairs_mem.mpr hx0)
  exact lv_iinc hx hb hd hl.has hkq hv (hl.lt hx0) rfl (fun ls2 hl2 => z H locs ls2 hP hD hS (by have h3 := hl.stored rfl hl2; rw [hlv] at h3; exact h3))
theorem sv_iadd (C : sv_C X l cc nL own rm g) {x y : Int32} (hd : decode cc pc = .ok (.iadd, 1)) (z : sv_V X nL k n ws (pc + 1) lv (.int (x + y) :: st)) : sv_V X nL k n ws pc lv (.int y :: .int x :: st) := by
  obtain ⟨⟨p, l0, e, R⟩, ⟨s, m, args, below⟩, ⟨meth, c, Q⟩, g0, A⟩ := X
  obtain ⟨rfl, rfl, rfl, hx, hb, hml, hown, hts, hK, hA, hZ, hin⟩ := C
  intro H locs ls hP hD hS hl
  exact lv_iadd hx hb hd (z H locs ls hP hD hS hl)
theorem sv_isub (C : sv_C X l cc nL own rm g) {x y : Int32} (hd : decode cc pc = .ok (.isub, 1)) (z : sv_V X nL k n ws (pc + 1) lv (.int (x - y) :: st)) : sv_V X nL k n ws pc lv (.int y :: .int x :: st) := by
  obtain ⟨⟨p, l0, e, R⟩, ⟨s, m, args, below⟩, ⟨meth, c, Q⟩, g0, A⟩ := X
  obtain ⟨rfl, rfl, rfl, hx, hb, hml, hown, hts, hK, hA, hZ, hin⟩ := C
  intro H locs ls hP hD hS hl
  exact lv_isub hx hb hd (z H locs ls hP hD hS hl)
theorem sv_imul (C : sv_C X l cc nL own rm g) {x y : Int32} (hd : decode cc pc = .ok (.imul, 1)) (z : sv_V X nL k n ws (pc + 1) lv (.int (x * y) :: st)) : sv_V X nL k n ws pc lv (.int y :: .int x :: st) := by
  obtain ⟨⟨p, l0, e, R⟩, ⟨s, m, args, below⟩, ⟨meth, c, Q⟩, g0, A⟩ := X
  obtain ⟨rfl, rfl, rfl, hx, hb, hml, hown, hts, hK, hA, hZ, hin⟩ := C
  intro H locs ls hP hD hS hl
  exact lv_imul hx hb hd (z H locs ls hP hD hS hl)
theorem sv_iand (C : sv_C X l cc nL own rm g) {x y : Int32} (hd : decode cc pc = .ok (.iand, 1)) (z : sv_V X nL k n ws (pc + 1) lv (.int (x &&& y) :: st)) : sv_V X nL k n ws pc lv (.int y :: .int x :: st) := by
  obtain ⟨⟨p, l0, e, R⟩, ⟨s, m, args, below⟩, ⟨meth, c, Q⟩, g0, A⟩ := X
  obtain ⟨rfl, rfl, rfl, hx, hb, hml, hown, hts, hK, hA, hZ, hin⟩ := C
  intro H locs ls hP hD hS hl
  exact lv_iand hx hb hd (z H locs ls hP hD hS hl)
theorem sv_ior (C : sv_C X l cc nL own rm g) {x y : Int32} (hd : decode cc pc = .ok (.ior, 1)) (z : sv_V X nL k n ws (pc + 1) lv (.int (x ||| y) :: st)) : sv_V X nL k n ws pc lv (.int y :: .int x :: st) := by
  obtain ⟨⟨p, l0, e, R⟩, ⟨s, m, args, below⟩, ⟨meth, c, Q⟩, g0, A⟩ := X
  obtain ⟨rfl, rfl, rfl, hx, hb, hml, hown, hts, hK, hA, hZ, hin⟩ := C
  intro H locs ls hP hD hS hl
  exact lv_ior hx hb hd (z H locs ls hP hD hS hl)
theorem sv_ishl (C : sv_C X l cc nL own rm g) {x y : Int32} (hd : decode cc pc = .ok (.ishl, 1)) (z : sv_V X nL k n ws (pc + 1) lv (.int (x <<< (y &&& 31)) :: st)) : sv_V X nL k n ws pc lv (.int y :: .int x :: st) := by
  obtain ⟨⟨p, l0, e, R⟩, ⟨s, m, args, below⟩, ⟨meth, c, Q⟩, g0, A⟩ := X
  obtain ⟨rfl, rfl, rfl, hx, hb, hml, hown, hts, hK, hA, hZ, hin⟩ := C
  intro H locs ls hP hD hS hl
  exact lv_ishl hx hb hd (z H locs ls hP hD hS hl)
theorem sv_ishr (C : sv_C X l cc nL own rm g) {x y : Int32} (hd : decode cc pc = .ok (.ishr, 1)) (z : sv_V X nL k n ws (pc + 1) lv (.int (x >>> (y &&& 31)) :: st)) : sv_V X nL k n ws pc lv (.int y :: .int x :: st) := by
  obtain ⟨⟨p, l0, e, R⟩, ⟨s, m, args, below⟩, ⟨meth, c, Q⟩, g0, A⟩ := X
  obtain ⟨rfl, rfl, rfl, hx, hb, hml, hown, hts, hK, hA, hZ, hin⟩ := C
  intro H locs ls hP hD hS hl
  exact lv_ishr hx hb hd (z H locs ls hP hD hS hl)
theorem sv_irem (C : sv_C X l cc nL own rm g) {x y : Int32} (hne : ¬ y = 0) (hd : decode cc pc = .ok (.irem, 1)) (z : sv_V X nL k n ws (pc + 1) lv (.int (x - x / y * y) :: st)) : sv_V X nL k n ws pc lv (.int y :: .int x :: st) := by
  obtain ⟨⟨p, l0, e, R⟩, ⟨s, m, args, below⟩, ⟨meth, c, Q⟩, g0, A⟩ := X
  obtain ⟨rfl, rfl, rfl, hx, hb, hml, hown, hts, hK, hA, hZ, hin⟩ := C
  intro H locs ls hP hD hS hl
  exact lv_irem hx hb hd hne (z H locs ls hP hD hS hl)
theorem sv_iushr (C : sv_C X l cc nL own rm g) {x y v : Int32} (hv : (x.toUInt32 >>> (y.toUInt32 &&& Int32.toUInt32 31)).toInt32 = v) (hd : decode cc pc = .ok (.iushr, 1)) (z : sv_V X nL k n ws (pc + 1) lv (.int v :: st)) : sv_V X nL k n ws pc lv (.int y :: .int x :: st) := by
  obtain ⟨⟨p, l0, e, R⟩, ⟨s, m, args, below⟩, ⟨meth, c, Q⟩, g0, A⟩ := X
  obtain ⟨rfl, rfl, rfl, hx, hb, hml, hown, hts, hK, hA, hZ, hin⟩ := C
  intro H locs ls hP hD hS hl
  exact lv_iushr hx hb hd hv (z H locs ls hP hD hS hl)
theorem sv_i2l (C : sv_C X l cc nL own rm g) {x : Int32} (hd : decode cc pc = .ok (.i2l, 1)) (z : sv_V X nL k n ws (pc + 1) lv (.long x.toInt64 :: st)) : sv_V X nL k n ws pc lv (.int x :: st) := by
  obtain ⟨⟨p, l0, e, R⟩, ⟨s, m, args, below⟩, ⟨meth, c, Q⟩, g0, A⟩ := X
  obtain ⟨rfl, rfl, rfl, hx, hb, hml, hown, hts, hK, hA, hZ, hin⟩ := C
  intro H locs ls hP hD hS hl
  exact lv_i2l hx hb hd rfl (z H locs ls hP hD hS hl)
theorem sv_i2b (C : sv_C X l cc nL own rm g) {x : Int32} (hd : decode cc pc = .ok (.i2b, 1)) (z : sv_V X nL k n ws (pc + 1) lv (.int x.toInt8.toInt32 :: st)) : sv_V X nL k n ws pc lv (.int x :: st) := by
  obtain ⟨⟨p, l0, e, R⟩, ⟨s, m, args, below⟩, ⟨meth, c, Q⟩, g0, A⟩ := X
  obtain ⟨rfl, rfl, rfl, hx, hb, hml, hown, hts, hK, hA, hZ, hin⟩ := C
  intro H locs ls hP hD hS hl
  exact lv_i2b hx hb hd rfl (z H locs ls hP hD hS hl)
theorem sv_i2c (C : sv_C X l cc nL own rm g) {x : Int32} (hd : decode cc pc = .ok (.i2c, 1)) (z : sv_V X nL k n ws (pc + 1) lv (.int (x.toUInt32 % 65536).toInt32 :: st)) : sv_V X nL k n ws pc lv (.int x :: st) := by
  obtain ⟨⟨p, l0, e, R⟩, ⟨s, m, args, below⟩, ⟨meth, c, Q⟩, g0, A⟩ := X
  obtain ⟨rfl, rfl, rfl, hx, hb, hml, hown, hts, hK, hA, hZ, hin⟩ := C
  intro H locs ls hP hD hS hl
  exact lv_i2c hx hb hd rfl (z H locs ls hP hD hS hl)
theorem sv_lcmp (C : sv_C X l cc nL own rm g) {x y : Int64} (hd : decode cc pc = .ok (.lcmp, 1)) (z : sv_V X nL k n ws (pc + 1) lv (.int (lg_cmp x y) :: st)) : sv_V X nL k n ws pc lv (.long y :: .long x :: st) := by
  obtain ⟨⟨p, l0, e, R⟩, ⟨s, m, args, below⟩, ⟨meth, c, Q⟩, g0, A⟩ := X
  obtain ⟨rfl, rfl, rfl, hx, hb, hml, hown, hts, hK, hA, hZ, hin⟩ := C
  intro H locs ls hP hD hS hl
  exact W.lcmp hx hb hd (z H locs ls hP hD hS hl)
theorem sv_dup (C : sv_C X l cc nL own rm g) {v : Value} (hv : v.category = 1) (hd : decode cc pc = .ok (.dup, 1)) (z : sv_V X nL k n ws (pc + 1) lv (v :: v :: st)) : sv_V X nL k n ws pc lv (v :: st) := by
  obtain ⟨⟨p, l0, e, R⟩, ⟨s, m, args, below⟩, ⟨meth, c, Q⟩, g0, A⟩ := X
  obtain ⟨rfl, rfl, rfl, hx, hb, hml, hown, hts, hK, hA, hZ, hin⟩ := C
  intro H locs ls hP hD hS hl
  exact lv_dup hx hb hd hv (z H locs ls hP hD hS hl)
theorem sv_pop (C : sv_C X l cc nL own rm g) {v : Value} (hv : v.category = 1) (hd : decode cc pc = .ok (.pop, 1)) (z : sv_V X nL k n ws (pc + 1) lv st) : sv_V X nL k n ws pc lv (v :: st) := by
  obtain ⟨⟨p, l0, e, R⟩, ⟨s, m, args, below⟩, ⟨meth, c, Q⟩, g0, A⟩ := X
  obtain ⟨rfl, rfl, rfl, hx, hb, hml, hown, hts, hK, hA, hZ, hin⟩ := C
  intro H locs ls hP hD hS hl
  exact lv_pop hx hb hd hv (z H locs ls hP hD hS hl)
theorem sv_dup_x1 (C : sv_C X l cc nL own rm g) {v w : Value} (hv : v.category = 1) (hw : w.category = 1) (hd : decode cc pc = .ok (.dup_x1, 1)) (z : sv_V X nL k n ws (pc + 1) lv (v :: w :: v :: st)) : sv_V X nL k n ws pc lv (v :: w :: st) := by
  obtain ⟨⟨p, l0, e, R⟩, ⟨s, m, args, below⟩, ⟨meth, c, Q⟩, g0, A⟩ := X
  obtain ⟨rfl, rfl, rfl, hx, hb, hml, hown, hts, hK, hA, hZ, hin⟩ := C
  intro H locs ls hP hD hS hl
  exact lv_dup_x1 hx hb hd hv hw (z H locs ls hP hD hS hl)
theorem sv_dup2 (C : sv_C X l cc nL own rm g) {v w : Value} (hv : v.category = 1) (hw : w.category = 1) (hd : decode cc pc = .ok (.dup2, 1)) (z : sv_V X nL k n ws (pc + 1) lv (v :: w :: v :: w :: st)) : sv_V X nL k n ws pc lv (v :: w :: st) := by
  obtain ⟨⟨p, l0, e, R⟩, ⟨s, m, args, below⟩, ⟨meth, c, Q⟩, g0, A⟩ := X
  obtain ⟨rfl, rfl, rfl, hx, hb, hml, hown, hts, hK, hA, hZ, hin⟩ := C
  intro H locs ls hP hD hS hl
  exact lv_dup2_11 hx hb hd hv hw (z H locs ls hP hD hS hl)
theorem sv_if_eq (C : sv_C X l cc nL own rm g) {x : Int32} {off : Int} (tgt : Nat) (ht : (pc : Int) + off = (tgt : Int)) (hd : decode cc pc = .ok (.ifCond .eq off, 3)) (zt : x = 0 → sv_V X nL k n ws tgt lv st) (zf : ¬ x = 0 → sv_V X nL k n ws (pc + 3) lv st) : sv_V X nL k n ws pc lv (.int x :: st) := by
  obtain ⟨⟨p, l0, e, R⟩, ⟨s, m, args, below⟩, ⟨meth, c, Q⟩, g0, A⟩ := X
  obtain ⟨rfl, rfl, rfl, hx, hb, hml, hown, hts, hK, hA, hZ, hin⟩ := C
  intro H locs ls hP hD hS hl
  exact lv_if_eq hx hb hd ht (fun q => zt q H locs ls hP hD hS hl) (fun q => zf q H locs ls hP hD hS hl)
theorem sv_icmp_eq (C : sv_C X l cc nL own rm g) {x y : Int32} {off : Int} (tgt : Nat) (ht : (pc : Int) + off = (tgt : Int)) (hd : decode cc pc = .ok (.if_icmp .eq off, 3)) (zt : x = y → sv_V X nL k n ws tgt lv st) (zf : ¬ x = y → sv_V X nL k n ws (pc + 3) lv st) : sv_V X nL k n ws pc lv (.int y :: .int x :: st) := by
  obtain ⟨⟨p, l0, e, R⟩, ⟨s, m, args, below⟩, ⟨meth, c, Q⟩, g0, A⟩ := X
  obtain ⟨rfl, rfl, rfl, hx, hb, hml, hown, hts, hK, hA, hZ, hin⟩ := C
  intro H locs ls hP hD hS hl
  exact lv_icmp_eq hx hb hd ht (fun q => zt q H locs ls hP hD hS hl) (fun q => zf q H locs ls hP hD hS hl)
theorem sv_if_ne (C : sv_C X l cc nL own rm g) {x : Int32} {off : Int} (tgt : Nat) (ht : (pc : Int) + off = (tgt : Int)) (hd : decode cc pc = .ok (.ifCond .ne off, 3)) (zt : ¬ x = 0 → sv_V X nL k n ws tgt lv st) (zf : x = 0 → sv_V X nL k n ws (pc + 3) lv st) : sv_V X nL k n ws pc lv (.int x :: st) := by
  obtain ⟨⟨p, l0, e, R⟩, ⟨s, m, args, below⟩, ⟨meth, c, Q⟩, g0, A⟩ := X
  obtain ⟨rfl, rfl, rfl, hx, hb, hml, hown, hts, hK, hA, hZ, hin⟩ := C
  intro H locs ls hP hD hS hl
  exact lv_if_ne hx hb hd ht (fun q => zt q H locs ls hP hD hS hl) (fun q => zf q H locs ls hP hD hS hl)
theorem sv_icmp_ne (C : sv_C X l cc nL own rm g) {x y : Int32} {off : Int} (tgt : Nat) (ht : (pc : Int) + off = (tgt : Int)) (hd : decode cc pc = .ok (.if_icmp .ne off, 3)) (zt : ¬ x = y → sv_V X nL k n ws tgt lv st) (zf : x = y → sv_V X nL k n ws (pc + 3) lv st) : sv_V X nL k n ws pc lv (.int y :: .int x :: st) := by
  obtain ⟨⟨p, l0, e, R⟩, ⟨s, m, args, below⟩, ⟨meth, c, Q⟩, g0, A⟩ := X
  obtain ⟨rfl, rfl, rfl, hx, hb, hml, hown, hts, hK, hA, hZ, hin⟩ := C
  intro H locs ls hP hD hS hl
  exact lv_icmp_ne hx hb hd ht (fun q => zt q H locs ls hP hD hS hl) (fun q => zf q H locs ls hP hD hS hl)
theorem sv_if_lt (C : sv_C X l cc nL own rm g) {x : Int32} {off : Int} (tgt : Nat) (ht : (pc : Int) + off = (tgt : Int)) (hd : decode cc pc = .ok (.ifCond .lt off, 3)) (zt : x < 0 → sv_V X nL k n ws tgt lv st) (zf : ¬ x < 0 → sv_V X nL k n ws (pc + 3) lv st) : sv_V X nL k n ws pc lv (.int x :: st) := by
  obtain ⟨⟨p, l0, e, R⟩, ⟨s, m, args, below⟩, ⟨meth, c, Q⟩, g0, A⟩ := X
  obtain ⟨rfl, rfl, rfl, hx, hb, hml, hown, hts, hK, hA, hZ, hin⟩ := C
  intro H locs ls hP hD hS hl
  exact lv_if_lt hx hb hd ht (fun q => zt q H locs ls hP hD hS hl) (fun q => zf q H locs ls hP hD hS hl)
theorem sv_icmp_lt (C : sv_C X l cc nL own rm g) {x y : Int32} {off : Int} (tgt : Nat) (ht : (pc : Int) + off = (tgt : Int)) (hd : decode cc pc = .ok (.if_icmp .lt off, 3)) (zt : x < y → sv_V X nL k n ws tgt lv st) (zf : ¬ x < y → sv_V X nL k n ws (pc + 3) lv st) : sv_V X nL k n ws pc lv (.int y :: .int x :: st) := by
  obtain ⟨⟨p, l0, e, R⟩, ⟨s, m, args, below⟩, ⟨meth, c, Q⟩, g0, A⟩ := X
  obtain ⟨rfl, rfl, rfl, hx, hb, hml, hown, hts, hK, hA, hZ, hin⟩ := C
  intro H locs ls hP hD hS hl
  exact lv_icmp_lt hx hb hd ht (fun q => zt q H locs ls hP hD hS hl) (fun q => zf q H locs ls hP hD hS hl)
theorem sv_if_ge (C : sv_C X l cc nL own rm g) {x : Int32} {off : Int} (tgt : Nat) (ht : (pc : Int) + off = (tgt : Int)) (hd : decode cc pc = .ok (.ifCond .ge off, 3)) (zt : 0 ≤ x → sv_V X nL k n ws tgt lv st) (zf : ¬ 0 ≤ x → sv_V X nL k n ws (pc + 3) lv st) : sv_V X nL k n ws pc lv (.int x :: st) := by
  obtain ⟨⟨p, l0, e, R⟩, ⟨s, m, args, below⟩, ⟨meth, c, Q⟩, g0, A⟩ := X
  obtain ⟨rfl, rfl, rfl, hx, hb, hml, hown, hts, hK, hA, hZ, hin⟩ := C
  intro H locs ls hP hD hS hl
  exact lv_if_ge hx hb hd ht (fun q => zt q H locs ls hP hD hS hl) (fun q => zf q H locs ls hP hD hS hl)
theorem sv_icmp_ge (C : sv_C X l cc nL own rm g) {x y : Int32} {off : Int} (tgt : Nat) (ht : (pc : Int) + off = (tgt : Int)) (hd : decode cc pc = .ok (.if_icmp .ge off, 3)) (zt : y ≤ x → sv_V X nL k n ws tgt lv st) (zf : ¬ y ≤ x → sv_V X nL k n ws (pc + 3) lv st) : sv_V X nL k n ws pc lv (.int y :: .int x :: st) := by
  obtain ⟨⟨p, l0, e, R⟩, ⟨s, m, args, below⟩, ⟨meth, c, Q⟩, g0, A⟩ := X
  obtain ⟨rfl, rfl, rfl, hx, hb, hml, hown, hts, hK, hA, hZ, hin⟩ := C
  intro H locs ls hP hD hS hl
  exact lv_icmp_ge hx hb hd ht (fun q => zt q H locs ls hP hD hS hl) (fun q => zf q H locs ls hP hD hS hl)
theorem sv_if_gt (C : sv_C X l cc nL own rm g) {x : Int32} {off : Int} (tgt : Nat) (ht : (pc : Int) + off = (tgt : Int)) (hd : decode cc pc = .ok (.ifCond .gt off, 3)) (zt : 0 < x → sv_V X nL k n ws tgt lv st) (zf : ¬ 0 < x → sv_V X nL k n ws (pc + 3) lv st) : sv_V X nL k n ws pc lv (.int x :: st) := by
  obtain ⟨⟨p, l0, e, R⟩, ⟨s, m, args, below⟩, ⟨meth, c, Q⟩, g0, A⟩ := X
  obtain ⟨rfl, rfl, rfl, hx, hb, hml, hown, hts, hK, hA, hZ, hin⟩ := C
  intro H locs ls hP hD hS hl
  exact lv_if_gt hx hb hd ht (fun q => zt q H locs ls hP hD hS hl) (fun q => zf q H locs ls hP hD hS hl)
theorem sv_icmp_gt (C : sv_C X l cc nL own rm g) {x y : Int32} {off : Int} (tgt : Nat) (ht : (pc : Int) + off = (tgt : Int)) (hd : decode cc pc = .ok (.if_icmp .gt off, 3)) (zt : y < x → sv_V X nL k n ws tgt lv st) (zf : ¬ y < x → sv_V X nL k n ws (pc + 3) lv st) : sv_V X nL k n ws pc lv (.int y :: .int x :: st) := by
  obtain ⟨⟨p, l0, e, R⟩, ⟨s, m, args, below⟩, ⟨meth, c, Q⟩, g0, A⟩ := X
  obtain ⟨rfl, rfl, rfl, hx, hb, hml, hown, hts, hK, hA, hZ, hin⟩ := C
  intro H locs ls hP hD hS hl
  exact lv_icmp_gt hx hb hd ht (fun q => zt q H locs ls hP hD hS hl) (fun q => zf q H locs ls hP hD hS hl)
theorem sv_if_le (C : sv_C X l cc nL own rm g) {x : Int32} {off : Int} (tgt : Nat) (ht : (pc : Int) + off = (tgt : Int)) (hd : decode cc pc = .ok (.ifCond .le off, 3)) (zt : x ≤ 0 → sv_V X nL k n ws tgt lv st) (zf : ¬ x ≤ 0 → sv_V X nL k n ws (pc + 3) lv st) : sv_V X nL k n ws pc lv (.int x :: st) := by
  obtain ⟨⟨p, l0, e, R⟩, ⟨s, m, args, below⟩, ⟨meth, c, Q⟩, g0, A⟩ := X
  obtain ⟨rfl, rfl, rfl, hx, hb, hml, hown, hts, hK, hA, hZ, hin⟩ := C
  intro H locs ls hP hD hS hl
  exact lv_if_le hx hb hd ht (fun q => zt q H locs ls hP hD hS hl) (fun q => zf q H locs ls hP hD hS hl)
theorem sv_icmp_le (C : sv_C X l cc nL own rm g) {x y : Int32} {off : Int} (tgt : Nat) (ht : (pc : Int) + off = (tgt : Int)) (hd : decode cc pc = .ok (.if_icmp .le off, 3)) (zt : x ≤ y → sv_V X nL k n ws tgt lv st) (zf : ¬ x ≤ y → sv_V X nL k n ws (pc + 3) lv st) : sv_V X nL k n ws pc lv (.int y :: .int x :: st) := by
  obtain ⟨⟨p, l0, e, R⟩, ⟨s, m, args, below⟩, ⟨meth, c, Q⟩, g0, A⟩ := X
  obtain ⟨rfl, rfl, rfl, hx, hb, hml, hown, hts, hK, hA, hZ, hin⟩ := C
  intro H locs ls hP hD hS hl
  exact lv_icmp_le hx hb hd ht (fun q => zt q H locs ls hP hD hS hl) (fun q => zf q H locs ls hP hD hS hl)
theorem sv_goto (C : sv_C X l cc nL own rm g)  {off : Int} (tgt : Nat) (ht : (pc : Int) + off = (tgt : Int)) (hd : decode cc pc = .ok (.goto off, 3)) (z : sv_V X nL k n ws tgt lv st) : sv_V X nL k n ws pc lv st := by
  obtain ⟨⟨p, l0, e, R⟩, ⟨s, m, args, below⟩, ⟨meth, c, Q⟩, g0, A⟩ := X
  obtain ⟨rfl, rfl, rfl, hx, hb, hml, hown, hts, hK, hA, hZ, hin⟩ := C
  intro H locs ls hP hD hS hl
  exact lv_goto hx hb hd ht (z H locs ls hP hD hS hl)
theorem sv_ifnull (C : sv_C X l cc nL own rm g) {x : Nat} {off : Int} (hd : decode cc pc = .ok (.ifnull off, 3)) (z : sv_V X nL k n ws (pc + 3) lv st) : sv_V X nL k n ws pc lv (.ref x :: st) := by
  obtain ⟨⟨p, l0, e, R⟩, ⟨s, m, args, below⟩, ⟨meth, c, Q⟩, g0, A⟩ := X
  obtain ⟨rfl, rfl, rfl, hx, hb, hml, hown, hts, hK, hA, hZ, hin⟩ := C
  intro H locs ls hP hD hS hl
  exact lv_ifnull hx hb hd  (z H locs ls hP hD hS hl)
theorem sv_ifnullN (C : sv_C X l cc nL own rm g)  {off : Int} (tgt : Nat) (ht : (pc : Int) + off = (tgt : Int)) (hd : decode cc pc = .ok (.ifnull off, 3)) (z : sv_V X nL k n ws tgt lv st) : sv_V X nL k n ws pc lv (.null :: st) := by
  obtain ⟨⟨p, l0, e, R⟩, ⟨s, m, args, below⟩, ⟨meth, c, Q⟩, g0, A⟩ := X
  obtain ⟨rfl, rfl, rfl, hx, hb, hml, hown, hts, hK, hA, hZ, hin⟩ := C
  intro H locs ls hP hD hS hl
  exact lv_ifnullN hx hb hd ht (z H locs ls hP hD hS hl)
theorem sv_ifnonnull (C : sv_C X l cc nL own rm g) {x : Nat} {off : Int} (tgt : Nat) (ht : (pc : Int) + off = (tgt : Int)) (hd : decode cc pc = .ok (.ifnonnull off, 3)) (z : sv_V X nL k n ws tgt lv st) : sv_V X nL k n ws pc lv (.ref x :: st) := by
  obtain ⟨⟨p, l0, e, R⟩, ⟨s, m, args, below⟩, ⟨meth, c, Q⟩, g0, A⟩ := X
  obtain ⟨rfl, rfl, rfl, hx, hb, hml, hown, hts, hK, hA, hZ, hin⟩ := C
  intro H locs ls hP hD hS hl
  exact lv_ifnonnull hx hb hd ht (z H locs ls hP hD hS hl)
theorem sv_ifnonnullN (C : sv_C X l cc nL own rm g)  {off : Int} (hd : decode cc pc = .ok (.ifnonnull off, 3)) (z : sv_V X nL k n ws (pc + 3) lv st) : sv_V X nL k n ws pc lv (.null :: st) := by
  obtain ⟨⟨p, l0, e, R⟩, ⟨s, m, args, below⟩, ⟨meth, c, Q⟩, g0, A⟩ := X
  obtain ⟨rfl, rfl, rfl, hx, hb, hml, hown, hts, hK, hA, hZ, hin⟩ := C
  intro H locs ls hP hD hS hl
  exact lv_ifnonnullN hx hb hd  (z H locs ls hP hD hS hl)
theorem sv_tableOut (C : sv_C X l cc nL own rm g) {dflt lo hi : Int} {offs : Array Int} {len : Nat} {x : Int32} (tgt : Nat) (hd : decode cc pc = .ok (.tableswitch dflt lo hi offs, len)) (h : x.toInt < lo ∨ hi < x.toInt) (ht : (pc : Int) + dflt = (tgt : Int)) (z : sv_V X nL k n ws tgt lv st) : sv_V X nL k n ws pc lv (.int x :: st) := by
  obtain ⟨⟨p, l0, e, R⟩, ⟨s, m, args, below⟩, ⟨meth, c, Q⟩, g0, A⟩ := X
  obtain ⟨rfl, rfl, rfl, hx, hb, hml, hown, hts, hK, hA, hZ, hin⟩ := C
  intro H locs ls hP hD hS hl
  exact lv_tableOut hx hb hd h ht (z H locs ls hP hD hS hl)
theorem sv_tableIn (C : sv_C X l cc nL own rm g) {dflt lo hi : Int} {offs : Array Int} {len : Nat} {x : Int32} {off : Int} (tgt : Nat) (hd : decode cc pc = .ok (.tableswitch dflt lo hi offs, len)) (h1 : ¬ x.toInt < lo) (h2 : ¬ hi < x.toInt) (ho : offs[(x.toInt - lo).toNat]? = some off) (ht : (pc : Int) + off = (tgt : Int)) (z : sv_V X nL k n ws tgt lv st) : sv_V X nL k n ws pc lv (.int x :: st) := by
  obtain ⟨⟨p, l0, e, R⟩, ⟨s, m, args, below⟩, ⟨meth, c, Q⟩, g0, A⟩ := X
  obtain ⟨rfl, rfl, rfl, hx, hb, hml, hown, hts, hK, hA, hZ, hin⟩ := C
  intro H locs ls hP hD hS hl
  exact lv_tableIn hx hb hd h1 h2 ho ht (z H locs ls hP hD hS hl)
theorem sv_lookup (C : sv_C X l cc nL own rm g) {dflt : Int} {ps : Array (Int × Int)} {len : Nat} {x : Int32} {off : Int} (tgt : Nat) (hd : decode cc pc = .ok (.lookupswitch dflt ps, len)) (hp : (ps.toList.zip (ps.toList.drop 1)).all (fun (a, next) => a.1 < next.1) = true) (ho : Op.lookupswitch.offset ps.toList dflt x.toInt = off) (ht : (pc : Int) + off = (tgt : Int)) (z : sv_V X nL k n ws tgt lv st) : sv_V X nL k n ws pc lv (.int x :: st) := by
  obtain ⟨⟨p, l0, e, R⟩, ⟨s, m, args, below⟩, ⟨meth, c, Q⟩, g0, A⟩ := X
  obtain ⟨rfl, rfl, rfl, hx, hb, hml, hown, hts, hK, hA, hZ, hin⟩ := C
  intro H locs ls hP hD hS hl
  exact lv_lookup hx hb hd hp ho ht (z H locs ls hP hD hS hl)
/-- a field, as a class's pool names it: class number ci, field number kf -/
def sv_FL (own : String) (ix ci kf : Nat) : Prop := ∃ (Cn : String) (T : u_T) (N : Nat), classes[ci]? = some (Cn, T, N) ∧ kf < N ∧ (∀ w ∈ u_ws Cn T N, w ∈ sv_tbl) ∧ Cond.fieldLink own ix (T kf).1 (T kf).2.1 (T kf).2.2.1 ∈ sv_tbl
/-- .. and it may be written -/
def sv_FP (own : String) (ix ci kf : Nat) (ty : FieldType) (fin : Bool) : Prop := ∃ (Cn : String) (T : u_T) (N : Nat) (ty0 : Nat → FieldType), classes[ci]? = some (Cn, T, N) ∧ kf < N ∧ (∀ w ∈ u_ws Cn T N, w ∈ sv_tbl) ∧ Cond.fieldLink own ix (T kf).1 (T kf).2.1 (T kf).2.2.1 ∈ sv_tbl ∧ (∀ k, k < N → parseFieldDescriptor (T k).2.2.1 = some (ty0 k)) ∧ (∀ a, a < N → ∀ b, b < N → a ≠ b → (T a).2.1 ≠ (T b).2.1) ∧ (T kf).2.2.2 = fin ∧ (fin = true → (T kf).1 = own) ∧ parseFieldDescriptor (T kf).2.2.1 = some ty
theorem sv_get (C : sv_C X l cc nL own rm g) {ix ci kf a : Nat} {fs : List Value} {v : Value} (hf : sv_FL own ix ci kf) (q0 : Nat) (he : ws[q0]? = some (a, .inr (ci, fs))) (hv : fs[kf]? = some v) (hd : decode cc pc = .ok (.getfield ix, 3)) (z : sv_V X nL k n ws (pc + 3) lv (v :: st)) : sv_V X nL k n ws pc lv (.ref a :: st) := by
  obtain ⟨⟨p, l0, e, R⟩, ⟨s, m, args, below⟩, ⟨meth, c, Q⟩, g0, A⟩ := X
  obtain ⟨rfl, rfl, rfl, hx, hb, hml, hown, hts, hK, hA, hZ, hin⟩ := C
  intro H locs ls hP hD hS hl
  obtain ⟨Cn, T, N, h1, h2, h3, h4⟩ := hf
  exact va_get hx hb hts h3 hown hK hP q0 he h1 kf h2 (hts _ h4) (fun _ h9 => h9) hv hd (z H locs ls hP hD hS hl)
theorem sv_getM (C : sv_C X l cc nL own rm g) {ix ci kf a : Nat} {fs : List Value} {v : Value} (hf : sv_FL own ix ci kf) (he : (a, .inr (ci, fs)) ∈ ws) (hv : fs[kf]? = some v) (hd : decode cc pc = .ok (.getfield ix, 3)) (z : sv_V X nL k n ws (pc + 3) lv (v :: st)) : sv_V X nL k n ws pc lv (.ref a :: st) := by
  obtain ⟨⟨p, l0, e, R⟩, ⟨s, m, args, below⟩, ⟨meth, c, Q⟩, g0, A⟩ := X
  obtain ⟨rfl, rfl, rfl, hx, hb, hml, hown, hts, hK, hA, hZ, hin⟩ := C
  intro H locs ls hP hD hS hl
  obtain ⟨q0, he⟩ := List.getElem?_of_mem he
  obtain ⟨Cn, T, N, h1, h2, h3, h4⟩ := hf
  exact va_get hx hb hts h3 hown hK hP q0 he h1 kf h2 (hts _ h4) (fun _ h9 => h9) hv hd (z H locs ls hP hD hS hl)
theorem sv_put (C : sv_C X l cc nL own rm g) {ix ci kf a : Nat} {fs : List Value} {v : Value} {ty : FieldType} (hf : sv_FP own ix ci kf ty false) (q0 : Nat) (he : ws[q0]? = some (a, .inr (ci, fs))) (hn : narrow ty v = v) (hfit : fits ty v = true) (hlf : kf < fs.length) (ws' : va_W) (hws : ws.set q0 (a, .inr (ci, fs.set kf v)) = ws') (hd : decode cc pc = .ok (.putfield ix, 3)) (z : sv_V X nL k n ws' (pc + 3) lv st) : sv_V X nL k n ws pc lv (v :: .ref a :: st) := by
  obtain ⟨⟨p, l0, e, R⟩, ⟨s, m, args, below⟩, ⟨meth, c, Q⟩, g0, A⟩ := X
  obtain ⟨rfl, rfl, rfl, hx, hb, hml, hown, hts, hK, hA, hZ, hin⟩ := C
  intro H locs ls hP hD hS hl
  obtain ⟨Cn, T, N, ty0, h1, h2, h3, h4, h5, h6, h7, h8, h9⟩ := hf
  exact va_put hx hb hts h3 ty0 h5 h6 hown hK hP hD hS q0 he h1 kf h2 (hts _ h4) (fun _ h9 => h9) h7 h9 hn hfit hlf hd (fun H2 locs2 hP2 hD2 hS2 => z H2 locs2 ls (by rw [← hws]; exact hP2) (by rw [← hws]; exact hD2) hS2 hl)
theorem sv_putF (C : sv_C X l cc nL own rm g) {ix ci kf a : Nat} {fs : List Value} {v : Value} {ty : FieldType} (hinit : sv_isInit X) (hf : sv_FP own ix ci kf ty true) (q0 : Nat) (he : ws[q0]? = some (a, .inr (ci, fs))) (hn : narrow ty v = v) (hfit : fits ty v = true) (hlf : kf < fs.length) (ws' : va_W) (hws : ws.set q0 (a, .inr (ci, fs.set kf v)) = ws') (hd : decode cc pc = .ok (.putfield ix, 3)) (z : sv_V X nL k n ws' (pc + 3) lv st) : sv_V X nL k n ws pc lv (v :: .ref a :: st) := by
  obtain ⟨⟨p, l0, e, R⟩, ⟨s, m, args, below⟩, ⟨meth, c, Q⟩, g0, A⟩ := X
  obtain ⟨rfl, rfl, rfl, hx, hb, hml, hown, hts, hK, hA, hZ, hin⟩ := C
  intro H locs ls hP hD hS hl
  obtain ⟨Cn, T, N, ty0, h1, h2, h3, h4, h5, h6, h7, h8, h9⟩ := hf
  exact va_putF hx hb hts h3 ty0 h5 h6 hown hK hP hD hS q0 he h1 kf h2 (hts _ h4) (fun _ h9 => h9) h7 hinit (h8 rfl) h9 hn hfit hlf hd (fun H2 locs2 hP2 hD2 hS2 => z H2 locs2 ls (by rw [← hws]; exact hP2) (by rw [← hws]; exact hD2) hS2 hl)
theorem sv_iald (C : sv_C X l cc nL own rm g) {a N : Nat} {f : Nat → Int32} {i : Int32} (q0 : Nat) (ha : ws[q0]? = some (a, .inl (g.2.1 0, N, .inl f))) (hin0 : vp_in i N) (hd : decode cc pc = .ok (.iaload, 1)) (z : sv_V X nL k n ws (pc + 1) lv (.int (f i.toNatClampNeg) :: st)) : sv_V X nL k n ws pc lv (.int i :: .ref a :: st) := by
  obtain ⟨⟨p, l0, e, R⟩, ⟨s, m, args, below⟩, ⟨meth, c, Q⟩, g0, A⟩ := X
  obtain ⟨rfl, rfl, rfl, hx, hb, hml, hown, hts, hK, hA, hZ, hin⟩ := C
  intro H locs ls hP hD hS hl
  exact va_iald hx hb hK hP q0 0 ha rfl hin0 hd (z H locs ls hP hD hS hl)
theorem sv_bald (C : sv_C X l cc nL own rm g) {a N : Nat} {f : Nat → Int32} {i : Int32} (q0 : Nat) (ha : ws[q0]? = some (a, .inl (g.2.1 1, N, .inl f))) (hin0 : vp_in i N) (hd : decode cc pc = .ok (.baload, 1)) (z : sv_V X nL k n ws (pc + 1) lv (.int (f i.toNatClampNeg) :: st)) : sv_V X nL k n ws pc lv (.int i :: .ref a :: st) := by
  obtain ⟨⟨p, l0, e, R⟩, ⟨s, m, args, below⟩, ⟨meth, c, Q⟩, g0, A⟩ := X
  obtain ⟨rfl, rfl, rfl, hx, hb, hml, hown, hts, hK, hA, hZ, hin⟩ := C
  intro H locs ls hP hD hS hl
  exact va_bald hx hb hK hP q0 1 ha rfl hin0 hd (z H locs ls hP hD hS hl)
theorem sv_zald (C : sv_C X l cc nL own rm g) {a N : Nat} {f : Nat → Int32} {i : Int32} (q0 : Nat) (ha : ws[q0]? = some (a, .inl (g.2.1 2, N, .inl f))) (hin0 : vp_in i N) (hd : decode cc pc = .ok (.baload, 1)) (z : sv_V X nL k n ws (pc + 1) lv (.int (f i.toNatClampNeg) :: st)) : sv_V X nL k n ws pc lv (.int i :: .ref a :: st) := by
  obtain ⟨⟨p, l0, e, R⟩, ⟨s, m, args, below⟩, ⟨meth, c, Q⟩, g0, A⟩ := X
  obtain ⟨rfl, rfl, rfl, hx, hb, hml, hown, hts, hK, hA, hZ, hin⟩ := C
  intro H locs ls hP hD hS hl
  exact va_zald hx hb hK hP q0 2 ha rfl hin0 hd (z H locs ls hP hD hS hl)
theorem sv_iast (C : sv_C X l cc nL own rm g) {a N : Nat} {f : Nat → Int32} {i x : Int32} (q0 : Nat) (ha : ws[q0]? = some (a, .inl (g.2.1 0, N, .inl f))) (hin0 : vp_in i N) (ws' : va_W) (hws : ws.set q0 (a, .inl (g.2.1 0, N, .inl (upd f i.toNatClampNeg x))) = ws') (hd : decode cc pc = .ok (.iastore, 1)) (z : sv_V X nL k n ws' (pc + 1) lv st) : sv_V X nL k n ws pc lv (.int x :: .int i :: .ref a :: st) := by
  obtain ⟨⟨p, l0, e, R⟩, ⟨s, m, args, below⟩, ⟨meth, c, Q⟩, g0, A⟩ := X
  obtain ⟨rfl, rfl, rfl, hx, hb, hml, hown, hts, hK, hA, hZ, hin⟩ := C
  intro H locs ls hP hD hS hl
  exact va_iast hx hb hK hP hD hS q0 0 ha rfl hin0 hd (fun H2 locs2 hP2 hD2 hS2 => z H2 locs2 ls (by rw [← hws]; exact hP2) (by rw [← hws]; exact hD2) hS2 hl)
theorem sv_bast (C : sv_C X l cc nL own rm g) {a N : Nat} {f : Nat → Int32} {i x : Int32} (q0 : Nat) (ha : ws[q0]? = some (a, .inl (g.2.1 1, N, .inl f))) (hin0 : vp_in i N) (ws' : va_W) (hws : ws.set q0 (a, .inl (g.2.1 1, N, .inl (upd f i.toNatClampNeg (vp_nar .byte x)))) = ws') (hd : decode cc pc = .ok (.bastore, 1)) (z : sv_V X nL k n ws' (pc + 1) lv st) : sv_V X nL k n ws pc lv (.int x :: .int i :: .ref a :: st) := by
  obtain ⟨⟨p, l0, e, R⟩, ⟨s, m, args, below⟩, ⟨meth, c, Q⟩, g0, A⟩ := X
  obtain ⟨rfl, rfl, rfl, hx, hb, hml, hown, hts, hK, hA, hZ, hin⟩ := C
  intro H locs ls hP hD hS hl
  exact va_bast hx hb hK hP hD hS q0 1 ha rfl hin0 hd (fun H2 locs2 hP2 hD2 hS2 => z H2 locs2 ls (by rw [← hws]; exact hP2) (by rw [← hws]; exact hD2) hS2 hl)
theorem sv_zast (C : sv_C X l cc nL own rm g) {a N : Nat} {f : Nat → Int32} {i x : Int32} (q0 : Nat) (ha : ws[q0]? = some (a, .inl (g.2.1 2, N, .inl f))) (hin0 : vp_in i N) (ws' : va_W) (hws : ws.set q0 (a, .inl (g.2.1 2, N, .inl (upd f i.toNatClampNeg (vp_nar .boolean x)))) = ws') (hd : decode cc pc = .ok (.bastore, 1)) (z : sv_V X nL k n ws' (pc + 1) lv st) : sv_V X nL k n ws pc lv (.int x :: .int i :: .ref a :: st) := by
  obtain ⟨⟨p, l0, e, R⟩, ⟨s, m, args, below⟩, ⟨meth, c, Q⟩, g0, A⟩ := X
  obtain ⟨rfl, rfl, rfl, hx, hb, hml, hown, hts, hK, hA, hZ, hin⟩ := C
  intro H locs ls hP hD hS hl
  exact va_zast hx hb hK hP hD hS q0 2 ha rfl hin0 hd (fun H2 locs2 hP2 hD2 hS2 => z H2 locs2 ls (by rw [← hws]; exact hP2) (by rw [← hws]; exact hD2) hS2 hl)
theorem sv_lald (C : sv_C X l cc nL own rm g) {a N : Nat} {f : Nat → Int64} {i : Int32} (q0 : Nat) (ha : ws[q0]? = some (a, .inl (g.2.1 3, N, .inr (.inl f)))) (hin0 : vp_in i N) (hd : decode cc pc = .ok (.laload, 1)) (z : sv_V X nL k n ws (pc + 1) lv (.long (f i.toNatClampNeg) :: st)) : sv_V X nL k n ws pc lv (.int i :: .ref a :: st) := by
  obtain ⟨⟨p, l0, e, R⟩, ⟨s, m, args, below⟩, ⟨meth, c, Q⟩, g0, A⟩ := X
  obtain ⟨rfl, rfl, rfl, hx, hb, hml, hown, hts, hK, hA, hZ, hin⟩ := C
  intro H locs ls hP hD hS hl
  exact va_lald hx hb hK hP q0 3 ha rfl hin0 hd (z H locs ls hP hD hS hl)
theorem sv_last (C : sv_C X l cc nL own rm g) {a N : Nat} {f : Nat → Int64} {i : Int32} {x : Int64} (q0 : Nat) (ha : ws[q0]? = some (a, .inl (g.2.1 3, N, .inr (.inl f)))) (hin0 : vp_in i N) (ws' : va_W) (hws : ws.set q0 (a, .inl (g.2.1 3, N, .inr (.inl (vp_updL f i.toNatClampNeg x)))) = ws') (hd : decode cc pc = .ok (.lastore, 1)) (z : sv_V X nL k n ws' (pc + 1) lv st) : sv_V X nL k n ws pc lv (.long x :: .int i :: .ref a :: st) := by
  obtain ⟨⟨p, l0, e, R⟩, ⟨s, m, args, below⟩, ⟨meth, c, Q⟩, g0, A⟩ := X
  obtain ⟨rfl, rfl, rfl, hx, hb, hml, hown, hts, hK, hA, hZ, hin⟩ := C
  intro H locs ls hP hD hS hl
  exact va_last hx hb hK hP hD hS q0 3 ha rfl hin0 hd (fun H2 locs2 hP2 hD2 hS2 => z H2 locs2 ls (by rw [← hws]; exact hP2) (by rw [← hws]; exact hD2) hS2 hl)
theorem sv_aaldE (C : sv_C X l cc nL own rm g) {a N : Nat} {f : Nat → Option Nat} {i : Int32} (ha : (a, .inl (g.2.1 4, N, .inr (.inr (.inr (.inr f))))) ∈ ws) (hin0 : vp_in i N) (hd : decode cc pc = .ok (.aaload, 1)) (z : sv_V X nL k n ws (pc + 1) lv (va_rf (f i.toNatClampNeg) :: st)) : sv_V X nL k n ws pc lv (.int i :: .ref a :: st) := by
  obtain ⟨⟨p, l0, e, R⟩, ⟨s, m, args, below⟩, ⟨meth, c, Q⟩, g0, A⟩ := X
  obtain ⟨rfl, rfl, rfl, hx, hb, hml, hown, hts, hK, hA, hZ, hin⟩ := C
  intro H locs ls hP hD hS hl
  obtain ⟨q0, ha⟩ := List.getElem?_of_mem ha
  exact va_aldq hx hb hK hP q0 4 ha rfl hin0 hd (z H locs ls hP hD hS hl)
theorem sv_aaldS (C : sv_C X l cc nL own rm g) {a N : Nat} {f : Nat → Option Nat} {i : Int32} (ha : (a, .inl (g.2.1 5, N, .inr (.inr (.inr (.inr f))))) ∈ ws) (hin0 : vp_in i N) (hd : decode cc pc = .ok (.aaload, 1)) (z : sv_V X nL k n ws (pc + 1) lv (va_rf (f i.toNatClampNeg) :: st)) : sv_V X nL k n ws pc lv (.int i :: .ref a :: st) := by
  obtain ⟨⟨p, l0, e, R⟩, ⟨s, m, args, below⟩, ⟨meth, c, Q⟩, g0, A⟩ := X
  obtain ⟨rfl, rfl, rfl, hx, hb, hml, hown, hts, hK, hA, hZ, hin⟩ := C
  intro H locs ls hP hD hS hl
  obtain ⟨q0, ha⟩ := List.getElem?_of_mem ha
  exact va_aldq hx hb hK hP q0 5 ha rfl hin0 hd (z H locs ls hP hD hS hl)
theorem sv_alen (C : sv_C X l cc nL own rm g) {a : Nat} {t0 : Nat} {x : vp_A} {ty : FieldType} {cA : ClassId} {v : Int32} (ht : (sv_tys g)[t0]? = some (cA, ty)) (ha : (a, .inl (cA, x)) ∈ ws) (hv : Int32.ofNat x.1 = v) (hd : decode cc pc = .ok (.arraylength, 1)) (z : sv_V X nL k n ws (pc + 1) lv (.int v :: st)) : sv_V X nL k n ws pc lv (.ref a :: st) := by
  obtain ⟨⟨p, l0, e, R⟩, ⟨s, m, args, below⟩, ⟨meth, c, Q⟩, g0, A⟩ := X
  obtain ⟨rfl, rfl, rfl, hx, hb, hml, hown, hts, hK, hA, hZ, hin⟩ := C
  intro H locs ls hP hD hS hl
  obtain ⟨q0, ha⟩ := List.getElem?_of_mem ha
  exact va_alen hx hb hK hP q0 t0 ha ht hv hd (z H locs ls hP hD hS hl)
/-- the cells in another order, or fewer -/
theorem sv_perm (is : List Nat) (ws' : va_W) (hn : va_nd is = true) (h1 : is.map (fun i => ws[i]?) = ws'.map some) (z : sv_V X nL k n ws' pc lv st) : sv_V X nL k n ws pc lv st := by
  obtain ⟨⟨p, l0, e, R⟩, ⟨s, m, args, below⟩, ⟨meth, c, Q⟩, g0, A⟩ := X
  intro H locs ls hP hD hS hl
  refine z H locs ls ?_ (hD.sub is hn h1) hS hl
  intro j q hj
  have h2 : (is.map (fun i => ws[i]?))[j]? = some (some q) := by rw [h1, List.getElem?_map, hj]; rfl
  rw [List.getElem?_map] at h2
  cases hi : is[j]? with
  | none => rw [hi] at h2; cases h2
  | some i => rw [hi] at h2; exact hP i q (Option.some.inj h2)
theorem sv_sub (lv' : List (Option Value)) (hs : ∀ (i : Nat) (v : Value), lv'[i]? = some (some v) → lv[i]? = some (some v)) (z : sv_V X nL k n ws pc lv' st) : sv_V X nL k n ws pc lv st := by
  obtain ⟨⟨p, l0, e, R⟩, ⟨s, m, args, below⟩, ⟨meth, c, Q⟩, g0, A⟩ := X
  intro H locs ls hP hD hS hl
  exact z H locs ls hP hD hS (hl.sub hs)
theorem sv_widen {k2 n2 : Nat} (h1 : k ≤ k2) (h2 : n ≤ n2) (z : sv_V X nL k2 n2 ws pc lv st) : sv_V X nL k n ws pc lv st := by
  obtain ⟨⟨p, l0, e, R⟩, ⟨s, m, args, below⟩, ⟨meth, c, Q⟩, g0, A⟩ := X
  intro H locs ls hP hD hS hl
  exact W.widen h1 h2 (z H locs ls hP hD hS hl)
end SVR
end
section
/-! PERMUTATIONS, MAKINGS, LIBRARY ROWS -/
theorem sv_P_perm {D : va_G} {cl : List vw_C} {ws ws' : va_W} {H : Heap} (hp : ws.Perm ws') (h : va_P D cl ws H) : va_P D cl ws' H := by
  intro k q hk
  obtain ⟨j, hj⟩ := List.getElem?_of_mem (hp.mem_iff.mpr (List.mem_of_getElem? hk))
  exact h j q hj
theorem sv_D_iff {A : Nat → Prop} {ws : va_W} : va_D A ws ↔ (ws.map Prod.fst).Nodup ∧ ∀ q ∈ ws, A q.1 := by
  constructor
  · rintro ⟨h1, h2⟩
    refine ⟨?_, fun q hq => ?_⟩
    · refine List.nodup_iff_pairwise_ne.mpr (List.pairwise_iff_getElem.mpr fun i j hi hj hij hh => ?_)
      rw [List.length_map] at hi hj
      rw [List.getElem_map, List.getElem_map] at hh
      have h3 := h1 i j _ _ (List.getElem?_eq_getElem hi) (List.getElem?_eq_getElem hj) hh
      omega
    · obtain ⟨j, hj⟩ := List.getElem?_of_mem hq
      exact h2 j q hj
  · rintro ⟨h1, h2⟩
    refine ⟨fun i j p q hi hj hpq => ?_, fun k q hk => h2 q (List.mem_of_getElem? hk)⟩
    have h1 := List.pairwise_iff_getElem.mp (List.nodup_iff_pairwise_ne.mp h1)
    obtain ⟨li, ei⟩ := List.getElem?_eq_some_iff.mp hi
    obtain ⟨lj, ej⟩ := List.getElem?_eq_some_iff.mp hj
    rcases Nat.lt_trichotomy i j with h | h | h
    · exact absurd (by rw [List.getElem_map, List.getElem_map, ei, ej, hpq]) (h1 i j (by rw [List.length_map]; exact li) (by rw [List.length_map]; exact lj) h)
    · exact h
    · exact absurd (by rw [List.getElem_map, List.getElem_map, ei, ej, hpq]) (h1 j i (by rw [List.length_map]; exact lj) (by rw [List.length_map]; exact li) h)
theorem sv_D_perm {A : Nat → Prop} {ws ws' : va_W} (hp : ws.Perm ws') (h : va_D A ws) : va_D A ws' := by
  rw [sv_D_iff] at h ⊢
  exact ⟨(hp.map Prod.fst).nodup_iff.mp h.1, fun q hq => h.2 q (hp.mem_iff.mpr hq)⟩
theorem sv_range {α : Type} (d : α) (l : List α) : (List.range l.length).map (fun i => l.getD i d) = l := by
  apply List.ext_getElem
  · simp
  · intro i h1 h2
    simp [List.getD_eq_getElem?_getD, h2]
section SVP
variable {X : sv_X} {l : Launch} {cc : ByteArray} {nL k n pc : Nat} {own : String} {rm : Room} {g : sv_G} {ws : va_W} {lv : List (Option Value)} {st : List Value}
theorem sv_Perm {ws' : va_W} (hp : ws.Perm ws') (z : sv_V X nL k n ws' pc lv st) : sv_V X nL k n ws pc lv st := by
  obtain ⟨⟨p, l0, e, R⟩, ⟨s, m, args, below⟩, ⟨meth, c, Q⟩, g0, A⟩ := X
  intro H locs ls hP hD hS hl
  exact z H locs ls (sv_P_perm hp hP) (sv_D_perm hp hD) hS hl
/-- the first cells in another order; the rest stays -/
theorem sv_rot (is : List Nat) (pre pre' rest ws' : va_W) (h1 : ws = pre ++ rest) (h2 : ws' = pre' ++ rest) (hm : is.map (fun i => pre.getD i (0, .inr (0, []))) = pre') (hi : is.isPerm (List.range pre.length) = true) (z : sv_V X nL k n ws' pc lv st) : sv_V X nL k n ws pc lv st := by
  subst h1; subst h2
  refine sv_Perm (List.Perm.append_right rest ?_) z
  have h3 := (List.isPerm_iff.mp hi).map (fun i => pre.getD i (0, .inr (0, [])))
  rw [hm, sv_range] at h3
  exact h3.symm
theorem sv_eqi {x y : Int32} (h : x = y) (z : sv_V X nL k n ws pc lv (.int y :: st)) : sv_V X nL k n ws pc lv (.int x :: st) := by subst h; exact z
theorem sv_eqi2 {v : Value} {x y : Int32} (h : x = y) (z : sv_V X nL k n ws pc lv (v :: .int y :: st)) : sv_V X nL k n ws pc lv (v :: .int x :: st) := by subst h; exact z
theorem sv_lvE {lv' : List (Option Value)} (h : lv = lv') (z : sv_V X nL k n ws pc lv' st) : sv_V X nL k n ws pc lv st := by subst h; exact z
theorem sv_wsE {ws' : va_W} (h : ws = ws') (z : sv_V X nL k n ws' pc lv st) : sv_V X nL k n ws pc lv st := by subst h; exact z
theorem sv_pcE {pc' : Nat} (h : pc = pc') (z : sv_V X nL k n ws pc' lv st) : sv_V X nL k n ws pc lv st := by subst h; exact z
theorem sv_objInit (C : sv_C X l cc nL own rm g) {ix a : Nat} (h1 : Cond.methodLink own ix Lib.objectInit ∈ sv_tbl) (h2 : Cond.instanceMethod Lib.objectInit ∈ sv_tbl) (h3 : Cond.code Lib.objectInit ⟨#[0xb1]⟩ 1 none ∈ sv_tbl) (hf : 1 ≤ rm.frames) (hlo : (st.map fun v => v.category).sum + 12 ≤ rm.locals) (hd : decode cc pc = .ok (.invokespecial ix, 3)) (z : sv_V X nL k n ws (pc + 3) lv st) : sv_V X nL k n ws pc lv (.ref a :: st) := by
  obtain ⟨⟨p, l0, e, R⟩, ⟨s, m, args, below⟩, ⟨meth, c, Q⟩, g0, A⟩ := X
  obtain ⟨rfl, rfl, rfl, hx, hb, hml, hown, hts, hK, hA, hZ, hin⟩ := C
  intro H locs ls hP hD hS hl
  exact W.objInit hx hb hown (hts _ h1) (hts _ h2) (hts _ h3) rfl (hl.1.trans hml.symm) rfl hd hf (by show 2 * 0 + _ + 12 ≤ _; omega) (z H locs ls hP hD hS hl)
theorem sv_mmax (C : sv_C X l cc nL own rm g) {ix : Nat} {x y : Int32} (h1 : Cond.methodLink own ix Lib.Math.max.name ∈ sv_tbl) (h2 : Cond.static Lib.Math.max.name ∈ sv_tbl) (h3 : Cond.initialized "java/lang/Math" ∈ sv_tbl) (h4 : Cond.code Lib.Math.max.name Lib.Math.max.code 2 (some .int) ∈ sv_tbl) (hf : 1 ≤ rm.frames) (hlo : (st.map fun v => v.category).sum + 13 ≤ rm.locals) (hc : k ≤ rm.cells) (hs : n ≤ rm.slots) (hd : decode cc pc = .ok (.invokestatic ix, 3)) (z : sv_V X nL k n ws (pc + 3) lv (.int (if x < y then y else x) :: st)) : sv_V X nL k n ws pc lv (.int y :: .int x :: st) := by
  obtain ⟨⟨p, l0, e, R⟩, ⟨s, m, args, below⟩, ⟨meth, c, Q⟩, g0, A⟩ := X
  obtain ⟨rfl, rfl, rfl, hx, hb, hml, hown, hts, hK, hA, hZ, hin⟩ := C
  intro H locs ls hP hD hS hl
  exact va_mmax hx hb (hml.trans hl.1.symm) hown (hts _ h1) (hts _ h2) (hts _ h3) (hts _ h4) hf hlo hc hs hd (z H locs ls hP hD hS hl)
theorem sv_mmin (C : sv_C X l cc nL own rm g) {ix : Nat} {x y : Int32} (h1 : Cond.methodLink own ix Lib.Math.min.name ∈ sv_tbl) (h2 : Cond.static Lib.Math.min.name ∈ sv_tbl) (h3 : Cond.initialized "java/lang/Math" ∈ sv_tbl) (h4 : Cond.code Lib.Math.min.name Lib.Math.min.code 2 (some .int) ∈ sv_tbl) (hf : 1 ≤ rm.frames) (hlo : (st.map fun v => v.category).sum + 13 ≤ rm.locals) (hc : k ≤ rm.cells) (hs : n ≤ rm.slots) (hd : decode cc pc = .ok (.invokestatic ix, 3)) (z : sv_V X nL k n ws (pc + 3) lv (.int (if y < x then y else x) :: st)) : sv_V X nL k n ws pc lv (.int y :: .int x :: st) := by
  obtain ⟨⟨p, l0, e, R⟩, ⟨s, m, args, below⟩, ⟨meth, c, Q⟩, g0, A⟩ := X
  obtain ⟨rfl, rfl, rfl, hx, hb, hml, hown, hts, hK, hA, hZ, hin⟩ := C
  intro H locs ls hP hD hS hl
  exact va_mmin hx hb (hml.trans hl.1.symm) hown (hts _ h1) (hts _ h2) (hts _ h3) (hts _ h4) hf hlo hc hs hd (z H locs ls hP hD hS hl)
theorem sv_copyi (C : sv_C X l cc nL own rm g) {ix a a0 : Nat} {n0 n1 : Nat} {f h : Nat → Int32} {sp dp len : Int32} (w1 : Cond.methodLink own ix arraycopyName ∈ sv_tbl) (w2 : Cond.native arraycopyName ∈ sv_tbl) (w3 : Cond.static arraycopyName ∈ sv_tbl) (w4 : Cond.initialized "java/lang/System" ∈ sv_tbl) (q0 q1 : Nat) (ha0 : ws[q0]? = some (a0, .inl (g.2.1 0, n0, .inl f))) (ha1 : ws[q1]? = some (a, .inl (g.2.1 0, n1, .inl h))) (h1 : ¬ sp < 0) (h2 : ¬ dp < 0) (h3 : ¬ len < 0) (h4 : sp.toNatClampNeg + len.toNatClampNeg ≤ n0) (h5 : dp.toNatClampNeg + len.toNatClampNeg ≤ n1) (hf : 1 ≤ rm.frames) (hlo : (st.map fun v => v.category).sum + (nativeFrameWords "java/lang/System" "arraycopy" 5 + 11) ≤ rm.locals) (ws' : va_W) (hws : ws.set q1 (a, .inl (g.2.1 0, n1, .inl (va_cpy f h sp.toNatClampNeg dp.toNatClampNeg len.toNatClampNeg))) = ws') (hd : decode cc pc = .ok (.invokestatic ix, 3)) (z : sv_V X nL k n ws' (pc + 3) lv st) : sv_V X nL k n ws pc lv (.int len :: .int dp :: .ref a :: .int sp :: .ref a0 :: st) := by
  obtain ⟨⟨p, l0, e, R⟩, ⟨s, m, args, below⟩, ⟨meth, c, Q⟩, g0, A⟩ := X
  obtain ⟨rfl, rfl, rfl, hx, hb, hml, hown, hts, hK, hA, hZ, hin⟩ := C
  intro H locs ls hP hD hS hl
  exact va_copyi hx hb (hml.trans hl.1.symm) hown (hts _ w1) (hts _ w2) (hts _ w3) (hts _ w4) hK hP hD hS q0 q1 0 0 ha0 ha1 rfl rfl rfl h1 h2 h3 h4 h5 (fun _ _ => rfl) hf hlo hd (fun H2 locs2 hP2 hD2 hS2 => z H2 locs2 ls (by rw [← hws]; exact hP2) (by rw [← hws]; exact hD2) hS2 hl)
theorem sv_new (C : sv_C X l cc nL own rm g) {ix ci N : Nat} {Cn : String} {T : u_T} {fs : List Value} (ty : Nat → FieldType) (hc : classes[ci]? = some (Cn, T, N)) (hin0 : ∀ w ∈ u_ws Cn T N, w ∈ sv_tbl) (hty : ∀ j, j < N → parseFieldDescriptor (T j).2.2.1 = some (ty j)) (h1 : Cond.classLink own ix Cn ∈ sv_tbl) (h2 : Cond.instantiable Cn N ∈ sv_tbl) (h3 : Cond.initialized Cn ∈ sv_tbl) (hfs : ∀ j, j < N → defaultValue (ty j) = vp_V fs j) (hcells : k + 1 ≤ rm.cells) (hslots : n + N ≤ rm.slots) (hd : decode cc pc = .ok (.new ix, 3)) (z : ∀ q : Nat, sv_V X nL (k + 1) (n + N) ((q, .inr (ci, fs)) :: ws) (pc + 3) lv (.ref q :: st)) : sv_V X nL k n ws pc lv st := by
  obtain ⟨⟨p, l0, e, R⟩, ⟨s, m, args, below⟩, ⟨meth, c, Q⟩, g0, A⟩ := X
  obtain ⟨rfl, rfl, rfl, hx, hb, hml, hown, hts, hK, hA, hZ, hin⟩ := C
  intro H locs ls hP hD hS hl
  exact va_new hx hb hts hin0 ty hty hown (hts _ h1) (hts _ h2) (hts _ h3) hK hP hD hS hA hc hfs hcells hslots hd (fun q H1 hP1 hD1 hS1 => z q H1 locs ls (sv_P_perm (List.perm_append_singleton _ _) hP1) (sv_D_perm (List.perm_append_singleton _ _) hD1) hS1 hl)
theorem sv_newI (C : sv_C X l cc nL own rm g) {len : Int32} {N : Nat} (h1 : Cond.arrayClass (newarray.typeOf .int) ∈ sv_tbl) (hn : ¬ len < 0) (hN : len.toNatClampNeg = N) (hby : N * componentBytes .int ≤ 536870912) (hcells : k + 1 ≤ rm.cells) (hslots : n + N ≤ rm.slots) (hd : decode cc pc = .ok (.newarray .int, 2)) (z : ∀ q : Nat, sv_V X nL (k + 1) (n + N) ((q, .inl (g.2.1 0, N, .inl (fun _ => 0))) :: ws) (pc + 2) lv (.ref q :: st)) : sv_V X nL k n ws pc lv (.int len :: st) := by
  obtain ⟨⟨p, l0, e, R⟩, ⟨s, m, args, below⟩, ⟨meth, c, Q⟩, g0, A⟩ := X
  obtain ⟨rfl, rfl, rfl, hx, hb, hml, hown, hts, hK, hA, hZ, hin⟩ := C
  intro H locs ls hP hD hS hl
  refine va_newa (a0 := (N, .inl (fun _ => 0))) hx hb (hts _ h1) rfl hK hP hD hS hA (fun cA => rfl) hn hN hby hcells hslots hd (fun q cA H1 hK1 hP1 hD1 hS1 => ?_)
  have e1 : cA = g.2.1 0 := by
    have a1 := (hK1.2 (sv_tys g).length (cA, .int) (by rw [List.getElem?_append_right (Nat.le_refl _), Nat.sub_self]; rfl)).2
    have a2 := (hK.2 0 (g.2.1 0, .int) rfl).2
    exact Option.some.inj (a1.symm.trans a2)
  subst e1
  exact z q H1 locs ls (sv_P_perm (List.perm_append_singleton _ _) hP1) (sv_D_perm (List.perm_append_singleton _ _) hD1) hS1 hl
theorem sv_newB (C : sv_C X l cc nL own rm g) {len : Int32} {N : Nat} (h1 : Cond.arrayClass (newarray.typeOf .byte) ∈ sv_tbl) (hn : ¬ len < 0) (hN : len.toNatClampNeg = N) (hby : N * componentBytes .byte ≤ 536870912) (hcells : k + 1 ≤ rm.cells) (hslots : n + N ≤ rm.slots) (hd : decode cc pc = .ok (.newarray .byte, 2)) (z : ∀ q : Nat, sv_V X nL (k + 1) (n + N) ((q, .inl (g.2.1 1, N, .inl (fun _ => 0))) :: ws) (pc + 2) lv (.ref q :: st)) : sv_V X nL k n ws pc lv (.int len :: st) := by
  obtain ⟨⟨p, l0, e, R⟩, ⟨s, m, args, below⟩, ⟨meth, c, Q⟩, g0, A⟩ := X
  obtain ⟨rfl, rfl, rfl, hx, hb, hml, hown, hts, hK, hA, hZ, hin⟩ := C
  intro H locs ls hP hD hS hl
  refine va_newa (a0 := (N, .inl (fun _ => 0))) hx hb (hts _ h1) rfl hK hP hD hS hA (fun cA => rfl) hn hN hby hcells hslots hd (fun q cA H1 hK1 hP1 hD1 hS1 => ?_)
  have e1 : cA = g.2.1 1 := by
    have a1 := (hK1.2 (sv_tys g).length (cA, .byte) (by rw [List.getElem?_append_right (Nat.le_refl _), Nat.sub_self]; rfl)).2
    have a2 := (hK.2 1 (g.2.1 1, .byte) rfl).2
    exact Option.some.inj (a1.symm.trans a2)
  subst e1
  exact z q H1 locs ls (sv_P_perm (List.perm_append_singleton _ _) hP1) (sv_D_perm (List.perm_append_singleton _ _) hD1) hS1 hl
theorem sv_newZ (C : sv_C X l cc nL own rm g) {len : Int32} {N : Nat} (h1 : Cond.arrayClass (newarray.typeOf .boolean) ∈ sv_tbl) (hn : ¬ len < 0) (hN : len.toNatClampNeg = N) (hby : N * componentBytes .boolean ≤ 536870912) (hcells : k + 1 ≤ rm.cells) (hslots : n + N ≤ rm.slots) (hd : decode cc pc = .ok (.newarray .boolean, 2)) (z : ∀ q : Nat, sv_V X nL (k + 1) (n + N) ((q, .inl (g.2.1 2, N, .inl (fun _ => 0))) :: ws) (pc + 2) lv (.ref q :: st)) : sv_V X nL k n ws pc lv (.int len :: st) := by
  obtain ⟨⟨p, l0, e, R⟩, ⟨s, m, args, below⟩, ⟨meth, c, Q⟩, g0, A⟩ := X
  obtain ⟨rfl, rfl, rfl, hx, hb, hml, hown, hts, hK, hA, hZ, hin⟩ := C
  intro H locs ls hP hD hS hl
  refine va_newa (a0 := (N, .inl (fun _ => 0))) hx hb (hts _ h1) rfl hK hP hD hS hA (fun cA => rfl) hn hN hby hcells hslots hd (fun q cA H1 hK1 hP1 hD1 hS1 => ?_)
  have e1 : cA = g.2.1 2 := by
    have a1 := (hK1.2 (sv_tys g).length (cA, .boolean) (by rw [List.getElem?_append_right (Nat.le_refl _), Nat.sub_self]; rfl)).2
    have a2 := (hK.2 2 (g.2.1 2, .boolean) rfl).2
    exact Option.some.inj (a1.symm.trans a2)
  subst e1
  exact z q H1 locs ls (sv_P_perm (List.perm_append_singleton _ _) hP1) (sv_D_perm (List.perm_append_singleton _ _) hD1) hS1 hl
theorem sv_newL (C : sv_C X l cc nL own rm g) {len : Int32} {N : Nat} (h1 : Cond.arrayClass (newarray.typeOf .long) ∈ sv_tbl) (hn : ¬ len < 0) (hN : len.toNatClampNeg = N) (hby : N * componentBytes .long ≤ 536870912) (hcells : k + 1 ≤ rm.cells) (hslots : n + N ≤ rm.slots) (hd : decode cc pc = .ok (.newarray .long, 2)) (z : ∀ q : Nat, sv_V X nL (k + 1) (n + N) ((q, .inl (g.2.1 3, N, .inr (.inl (fun _ => 0)))) :: ws) (pc + 2) lv (.ref q :: st)) : sv_V X nL k n ws pc lv (.int len :: st) := by
  obtain ⟨⟨p, l0, e, R⟩, ⟨s, m, args, below⟩, ⟨meth, c, Q⟩, g0, A⟩ := X
  obtain ⟨rfl, rfl, rfl, hx, hb, hml, hown, hts, hK, hA, hZ, hin⟩ := C
  intro H locs ls hP hD hS hl
  refine va_newa (a0 := (N, .inr (.inl (fun _ => 0)))) hx hb (hts _ h1) rfl hK hP hD hS hA (fun cA => rfl) hn hN hby hcells hslots hd (fun q cA H1 hK1 hP1 hD1 hS1 => ?_)
  have e1 : cA = g.2.1 3 := by
    have a1 := (hK1.2 (sv_tys g).length (cA, .long) (by rw [List.getElem?_append_right (Nat.le_refl _), Nat.sub_self]; rfl)).2
    have a2 := (hK.2 3 (g.2.1 3, .long) rfl).2
    exact Option.some.inj (a1.symm.trans a2)
  subst e1
  exact z q H1 locs ls (sv_P_perm (List.perm_append_singleton _ _) hP1) (sv_D_perm (List.perm_append_singleton _ _) hD1) hS1 hl
theorem sv_newE (C : sv_C X l cc nL own rm g) {ix : Nat} {len : Int32} {N : Nat} (h1 : Cond.classLink own ix "WordChain$Ending" ∈ sv_tbl) (hn : ¬ len < 0) (hN : len.toNatClampNeg = N) (hby : N * 4 ≤ 536870912) (hcells : k + 1 ≤ rm.cells) (hslots : n + N ≤ rm.slots) (hd : decode cc pc = .ok (.anewarray ix, 3)) (z : ∀ q : Nat, sv_V X nL (k + 1) (n + N) ((q, .inl (g.2.1 4, N, .inr (.inr (.inr (.inr (fun _ => none)))))) :: ws) (pc + 3) lv (.ref q :: st)) : sv_V X nL k n ws pc lv (.int len :: st) := by
  obtain ⟨⟨p, l0, e, R⟩, ⟨s, m, args, below⟩, ⟨meth, c, Q⟩, g0, A⟩ := X
  obtain ⟨rfl, rfl, rfl, hx, hb, hml, hown, hts, hK, hA, hZ, hin⟩ := C
  intro H locs ls hP hD hS hl
  refine va_newq hx hb hown (hts _ h1) hZ.2.2.2.1 hK hP hD hS hA hn hN hby hcells hslots hd (fun q cA H1 hK1 hP1 hD1 hS1 => ?_)
  have e1 : cA = g.2.1 4 := by
    obtain ⟨kA, comp, a1, a2, a3, a4⟩ := (hK1.2 (sv_tys g).length (cA, .object "WordChain$Ending") (by rw [List.getElem?_append_right (Nat.le_refl _), Nat.sub_self]; rfl)).2
    obtain ⟨kB, comp2, b1, b2, b3, b4⟩ := (hK.2 4 (g.2.1 4, .object "WordChain$Ending") rfl).2
    exact Option.some.inj (a4.symm.trans b4)
  subst e1
  exact z q H1 locs ls (sv_P_perm (List.perm_append_singleton _ _) hP1) (sv_D_perm (List.perm_append_singleton _ _) hD1) hS1 hl
theorem sv_newS (C : sv_C X l cc nL own rm g) {ix : Nat} {len : Int32} {N : Nat} (h1 : Cond.classLink own ix "java/lang/String" ∈ sv_tbl) (hn : ¬ len < 0) (hN : len.toNatClampNeg = N) (hby : N * 4 ≤ 536870912) (hcells : k + 1 ≤ rm.cells) (hslots : n + N ≤ rm.slots) (hd : decode cc pc = .ok (.anewarray ix, 3)) (z : ∀ q : Nat, sv_V X nL (k + 1) (n + N) ((q, .inl (g.2.1 5, N, .inr (.inr (.inr (.inr (fun _ => none)))))) :: ws) (pc + 3) lv (.ref q :: st)) : sv_V X nL k n ws pc lv (.int len :: st) := by
  obtain ⟨⟨p, l0, e, R⟩, ⟨s, m, args, below⟩, ⟨meth, c, Q⟩, g0, A⟩ := X
  obtain ⟨rfl, rfl, rfl, hx, hb, hml, hown, hts, hK, hA, hZ, hin⟩ := C
  intro H locs ls hP hD hS hl
  refine va_newq hx hb hown (hts _ h1) hZ.2.2.2.2.1 hK hP hD hS hA hn hN hby hcells hslots hd (fun q cA H1 hK1 hP1 hD1 hS1 => ?_)
  have e1 : cA = g.2.1 5 := by
    obtain ⟨kA, comp, a1, a2, a3, a4⟩ := (hK1.2 (sv_tys g).length (cA, .object "java/lang/String") (by rw [List.getElem?_append_right (Nat.le_refl _), Nat.sub_self]; rfl)).2
    obtain ⟨kB, comp2, b1, b2, b3, b4⟩ := (hK.2 5 (g.2.1 5, .object "java/lang/String") rfl).2
    exact Option.some.inj (a4.symm.trans b4)
  subst e1
  exact z q H1 locs ls (sv_P_perm (List.perm_append_singleton _ _) hP1) (sv_D_perm (List.perm_append_singleton _ _) hD1) hS1 hl
theorem sv_astE (C : sv_C X l cc nL own rm g) {a b N ci : Nat} {f : Nat → Option Nat} {fs : List Value} {T : u_T} {M : Nat} {i : Int32} (q0 qk : Nat) (ha : ws[q0]? = some (a, .inl (g.2.1 4, N, .inr (.inr (.inr (.inr f)))))) (hv : ws[qk]? = some (b, .inr (ci, fs))) (hc : classes[ci]? = some ("WordChain$Ending", T, M)) (hin0 : vp_in i N) (ws' : va_W) (hws : ws.set q0 (a, .inl (g.2.1 4, N, .inr (.inr (.inr (.inr (va_up f i.toNatClampNeg (some b))))))) = ws') (hd : decode cc pc = .ok (.aastore, 1)) (z : sv_V X nL k n ws' (pc + 1) lv st) : sv_V X nL k n ws pc lv (.ref b :: .int i :: .ref a :: st) := by
  obtain ⟨⟨p, l0, e, R⟩, ⟨s, m, args, below⟩, ⟨meth, c, Q⟩, g0, A⟩ := X
  obtain ⟨rfl, rfl, rfl, hx, hb, hml, hown, hts, hK, hA, hZ, hin⟩ := C
  intro H locs ls hP hD hS hl
  exact va_astq hx hb hK hP hD hS q0 4 qk ci (r := ("WordChain$Ending", T, M)) ha rfl hv hc hin0 hd (fun H2 locs2 hP2 hD2 hS2 => z H2 locs2 ls (by rw [← hws]; exact hP2) (by rw [← hws]; exact hD2) hS2 hl)
theorem sv_ldcS (C : sv_C X l cc nL own rm g) {ix i : Nat} {tx : String} (h1 : (own, ix, tx, i) ∈ sv_lits) (hd : decode cc pc = .ok (.ldc ix, 2)) (z : sv_V X nL k n ws (pc + 2) lv (.ref (g.2.2.1 i) :: st)) : sv_V X nL k n ws pc lv st := by
  obtain ⟨⟨p, l0, e, R⟩, ⟨s, m, args, below⟩, ⟨meth, c, Q⟩, g0, A⟩ := X
  obtain ⟨rfl, rfl, rfl, hx, hb, hml, hown, hts, hK, hA, hZ, hin⟩ := C
  intro H locs ls hP hD hS hl
  exact va_ldcS hx hb hown (hZ.2.1 _ h1) hd (z H locs ls hP hD hS hl)
end SVP
end
section
/-! CONTRACTS OVER WHOLE WORLDS -/
def sv_Pre (g : sv_G) (ws : va_W) (sz : Nat) (U : State) : Prop := U.heap.size = sz ∧ va_P g.1 classes ws U.heap ∧ va_K g.1 classes (sv_tys g) U ∧ va_D (fun _ => True) ws ∧ sv_Str g (va_A ws sz) U U.heap
def sv_B (g : sv_G) (A : Nat → Prop) (w : va_W) (t : State) : Prop := va_P g.1 classes w t.heap ∧ va_D A w
/-- y answers an int r and leaves the world w, with post r w -/
def sv_Mi (l : Launch) (y : MethodName) (cc : ByteArray) (mL : Nat) (ret : Option FieldType) (rm : Room) (g : sv_G) (av : List Value) (ws : va_W) (post : Int32 → va_W → Prop) : Prop := ∀ sz : Nat, Met l y (.code y cc mL ret :: sv_tbl) rm (va_Pc av (sv_Pre g ws sz)) (va_Qi post (sv_B g (va_A ws sz)) (va_A ws sz)) rm.cells rm.slots (va_A ws sz)
/-- .. nothing -/
def sv_Mv (l : Launch) (y : MethodName) (cc : ByteArray) (mL : Nat) (ret : Option FieldType) (rm : Room) (g : sv_G) (av : List Value) (ws : va_W) (post : va_W → Prop) : Prop := ∀ sz : Nat, Met l y (.code y cc mL ret :: sv_tbl) rm (va_Pc av (sv_Pre g ws sz)) (va_Qv post (sv_B g (va_A ws sz)) (va_A ws sz)) rm.cells rm.slots (va_A ws sz)
/-- .. a reference or null -/
def sv_Mq (l : Launch) (y : MethodName) (cc : ByteArray) (mL : Nat) (ret : Option FieldType) (rm : Room) (g : sv_G) (av : List Value) (ws : va_W) (post : Option Nat → va_W → Prop) : Prop := ∀ sz : Nat, Met l y (.code y cc mL ret :: sv_tbl) rm (va_Pc av (sv_Pre g ws sz)) (va_Qq post (sv_B g (va_A ws sz)) (va_A ws sz)) rm.cells rm.slots (va_A ws sz)
theorem sv_blind {g : sv_G} {av : List Value} {ws : va_W} {sz : Nat} : FrameBlind (va_Pc av (sv_Pre g ws sz)) := by
  intro a U gf mk q
  obtain ⟨q0, q1, qP, qK, qD, qZ⟩ := q
  exact ⟨q0, q1, qP, va_K.moved (u := U) (U := U.calling gf mk a) (Vm.Alike.refl U.vm) qK, qD, sv_Str.same (U := U.calling gf mk a) rfl qZ⟩
def sv_av (mL : Nat) (av : List Value) : List (Option Value) := av.map some ++ List.replicate (mL - av.length) none
theorem sv_sl : ∀ (av : List Value), (∀ v ∈ av, v.category = 1) → lg_sl av = av.map Slot.val
  | [], _ => rfl
  | v :: av, h => by
    have h1 : ¬ v.category = 2 := by rw [h v List.mem_cons_self]; decide
    have h2 := sv_sl av (fun w hw => h w (List.mem_cons_of_mem _ hw))
    unfold lg_sl at h2 ⊢
    rw [List.flatMap_cons, if_neg h1, h2]
    rfl
theorem sv_entry_L {av : List Value} {mL : Nat} (hav : ∀ v ∈ av, v.category = 1) (hlen : av.length ≤ mL) : sv_L ((lg_sl av ++ List.replicate (mL - (lg_sl av).length) Slot.unset).toArray) mL (sv_av mL av) := by
  have h0 := lv_entry av (n := mL) (by rw [sv_sl av hav, List.length_map]; exact hlen)
  refine ⟨h0.1, h0.2.1, fun i v hv => ?_⟩
  have hi : i < av.length := by
    rcases Nat.lt_or_ge i av.length with q | q
    · exact q
    · unfold sv_av at hv
      rw [List.getElem?_append_right (by rw [List.length_map]; exact q)] at hv
      have h3 := List.eq_of_mem_replicate (List.mem_of_getElem? hv)
      cases h3
  unfold sv_av at hv
  rw [List.getElem?_append_left (by rw [List.length_map]; exact hi), List.getElem?_map] at hv
  have hv2 : av[i]? = some v := by
    cases h4 : av[i]? with
    | none => rw [h4] at hv; cases hv
    | some w => rw [h4] at hv; cases hv; rfl
  refine ⟨?_, hav v (List.mem_of_getElem? hv2)⟩
  rw [List.getElem?_toArray, sv_sl av hav, List.getElem?_append_left (by rw [List.length_map]; exact hi), List.getElem?_map, hv2]
  rfl
theorem sv_enter_i {l : Launch} {y : MethodName} {cc : ByteArray} {mL : Nat} {ret : Option FieldType} {rm : Room} {g : sv_G} {av : List Value} {ws : va_W} {post : Int32 → va_W → Prop} (hy : plainName y.cls = true) {ty : FieldType} (hret : ret = some ty) (hav0 : av.all (fun v => v.category == 1) = true) (hlen : av.length ≤ mL)
    (body : ∀ X : sv_X, sv_C X l cc mL y.cls rm g → (y.name = "<init>" → sv_isInit X) → (∀ (w : va_W) (pc : Nat) (lv : List (Option Value)) (v : Int32), decode cc pc = .ok (.ireturn, 1) → narrow ty (.int v) = .int v → post v w → sv_V X mL rm.cells rm.slots w pc lv [.int v]) → sv_V X mL 0 0 ws 0 (sv_av mL av) []) : sv_Mi l y cc mL ret rm g av ws post := by
  have hav : ∀ v ∈ av, v.category = 1 := fun v hv => by simpa using List.all_eq_true.mp hav0 v hv
  intro sz
  refine Met.ofW (cc := cc) (maxL := mL) (ret := ret) hy rfl ?_
  intro p e s m args below meth c s₁ B hml hv
  obtain ⟨rfl, hsz, hP, hK, hD0, hZ⟩ := hv
  have hts0 := atoms_spec (ws := .code y cc mL ret :: sv_tbl) B.pre
  subst hsz
  have hD := hD0.self (sz := s.heap.size)
  rw [lg_entry_eq]
  refine body ((p, l, e, rm), (s, m, av.toArray, below), (meth, c, _), g, va_A ws s.heap.size) ⟨rfl, rfl, rfl, B.exec, B.bytes, hml, findClass_of_methodNamed B.named, fun w hw => hts0 w (List.mem_cons_of_mem _ hw), hK, fun q h => Or.inr h, hZ, Or.inr trivial⟩ (fun h => ((name_of_methodNamed B.named B.method).1).trans h) ?_ s.heap [] _ hP hD va_S.rf (sv_entry_L hav hlen)
  intro w pc lv v hd hn hq H locs ls hP hD hS hl
  exact W.zret B.exec B.bytes (B.returns.trans hret) hn (fun t ht hW => ⟨⟨v, w, rfl, hq, by rw [ht]; exact hP, hD⟩, hS.F ht⟩) hS.2.2 hd B.notSynchronized
theorem sv_enter_v {l : Launch} {y : MethodName} {cc : ByteArray} {mL : Nat} {ret : Option FieldType} {rm : Room} {g : sv_G} {av : List Value} {ws : va_W} {post : va_W → Prop} (hy : plainName y.cls = true) (hret : ret = none) (hav0 : av.all (fun v => v.category == 1) = true) (hlen : av.length ≤ mL)
    (body : ∀ X : sv_X, sv_C X l cc mL y.cls rm g → (y.name = "<init>" → sv_isInit X) → (∀ (w : va_W) (pc : Nat) (lv : List (Option Value)) , decode cc pc = .ok (.return_, 1) → post w → sv_V X mL rm.cells rm.slots w pc lv []) → sv_V X mL 0 0 ws 0 (sv_av mL av) []) : sv_Mv l y cc mL ret rm g av ws post := by
  have hav : ∀ v ∈ av, v.category = 1 := fun v hv => by simpa using List.all_eq_true.mp hav0 v hv
  intro sz
  refine Met.ofW (cc := cc) (maxL := mL) (ret := ret) hy rfl ?_
  intro p e s m args below meth c s₁ B hml hv
  obtain ⟨rfl, hsz, hP, hK, hD0, hZ⟩ := hv
  have hts0 := atoms_spec (ws := .code y cc mL ret :: sv_tbl) B.pre
  subst hsz
  have hD := hD0.self (sz := s.heap.size)
  rw [lg_entry_eq]
  refine body ((p, l, e, rm), (s, m, av.toArray, below), (meth, c, _), g, va_A ws s.heap.size) ⟨rfl, rfl, rfl, B.exec, B.bytes, hml, findClass_of_methodNamed B.named, fun w hw => hts0 w (List.mem_cons_of_mem _ hw), hK, fun q h => Or.inr h, hZ, Or.inr trivial⟩ (fun h => ((name_of_methodNamed B.named B.method).1).trans h) ?_ s.heap [] _ hP hD va_S.rf (sv_entry_L hav hlen)
  intro w pc lv hd hq H locs ls hP hD hS hl
  exact W.vret B.exec B.bytes (B.returns.trans hret) (fun t ht hW => ⟨⟨w, rfl, hq, by rw [ht]; exact hP, hD⟩, hS.F ht⟩) hS.2.2 hd B.notSynchronized
theorem sv_enter_q {l : Launch} {y : MethodName} {cc : ByteArray} {mL : Nat} {ret : Option FieldType} {rm : Room} {g : sv_G} {av : List Value} {ws : va_W} {post : Option Nat → va_W → Prop} (hy : plainName y.cls = true) {ty : FieldType} (hret : ret = some ty) (hty : (∃ n, ty = .object n) ∨ ∃ t, ty = .array t) (hav0 : av.all (fun v => v.category == 1) = true) (hlen : av.length ≤ mL)
    (body : ∀ X : sv_X, sv_C X l cc mL y.cls rm g → (y.name = "<init>" → sv_isInit X) → (∀ (w : va_W) (pc : Nat) (lv : List (Option Value)) (v : Option Nat), decode cc pc = .ok (.areturn, 1) → post v w → sv_V X mL rm.cells rm.slots w pc lv [va_rf v]) → sv_V X mL 0 0 ws 0 (sv_av mL av) []) : sv_Mq l y cc mL ret rm g av ws post := by
  have hav : ∀ v ∈ av, v.category = 1 := fun v hv => by simpa using List.all_eq_true.mp hav0 v hv
  intro sz
  refine Met.ofW (cc := cc) (maxL := mL) (ret := ret) hy rfl ?_
  intro p e s m args below meth c s₁ B hml hv
  obtain ⟨rfl, hsz, hP, hK, hD0, hZ⟩ := hv
  have hts0 := atoms_spec (ws := .code y cc mL ret :: sv_tbl) B.pre
  subst hsz
  have hD := hD0.self (sz := s.heap.size)
  rw [lg_entry_eq]
  refine body ((p, l, e, rm), (s, m, av.toArray, below), (meth, c, _), g, va_A ws s.heap.size) ⟨rfl, rfl, rfl, B.exec, B.bytes, hml, findClass_of_methodNamed B.named, fun w hw => hts0 w (List.mem_cons_of_mem _ hw), hK, fun q h => Or.inr h, hZ, Or.inr trivial⟩ (fun h => ((name_of_methodNamed B.named B.method).1).trans h) ?_ s.heap [] _ hP hD va_S.rf (sv_entry_L hav hlen)
  intro w pc lv v hd hq H locs ls hP hD hS hl
  exact W.aret B.exec B.bytes (B.returns.trans hret) hty (va_rf_or v) (fun t ht hW => ⟨⟨v, w, rfl, hq, by rw [ht]; exact hP, hD⟩, hS.F ht⟩) hS.2.2 hd B.notSynchronized
theorem sv_goodIn {w : Cond} (h : w ∈ sv_tbl) : GoodIn sv_tbl (w :: sv_tbl) := by
  intro u hu
  rcases List.mem_cons.mp hu with rfl | hu
  · exact ⟨h, sv_tbl_good _ h⟩
  · exact ⟨hu, sv_tbl_good _ hu⟩
/-- the words of a call: kind 0 virtual, 1 static, 2 constructor -/
def sv_LK (kind : Nat) (own : String) (ix : Nat) (y : MethodName) (cc : ByteArray) (mL : Nat) (ret : Option FieldType) (nA : Nat) : Prop := Cond.methodLink own ix y ∈ sv_tbl ∧ Cond.code y cc mL ret ∈ sv_tbl ∧ Cond.initialized y.cls ∈ sv_tbl ∧ (y.cls ≠ "java/lang/invoke/MethodHandle" ∧ y.cls ≠ "java/lang/invoke/VarHandle" ∧ (parseMethodDescriptor y.desc).map (fun d => d.parameters.length) = some nA) ∧ (match kind with | 0 => Cond.instanceMethod y ∈ sv_tbl ∧ Cond.selects y.cls y y ∈ sv_tbl | 1 => Cond.static y ∈ sv_tbl | _ => y.name = "<init>" ∧ Cond.instanceMethod y ∈ sv_tbl)
/-- .. of a nest mate's private method -/
def sv_LKN (kind : Nat) (own : String) (ix : Nat) (y : MethodName) (host : String) (cc : ByteArray) (mL : Nat) (ret : Option FieldType) (nA : Nat) : Prop := Cond.methodLinkNest own ix y host ∈ sv_tbl ∧ Cond.code y cc mL ret ∈ sv_tbl ∧ Cond.initialized y.cls ∈ sv_tbl ∧ (y.cls ≠ "java/lang/invoke/MethodHandle" ∧ y.cls ≠ "java/lang/invoke/VarHandle" ∧ (parseMethodDescriptor y.desc).map (fun d => d.parameters.length) = some nA) ∧ (match kind with | 0 => Cond.instanceMethod y ∈ sv_tbl ∧ Cond.selects y.cls y y ∈ sv_tbl | 1 => Cond.static y ∈ sv_tbl | _ => y.name = "<init>" ∧ Cond.instanceMethod y ∈ sv_tbl)
section SVC
variable {X : sv_X} {l : Launch} {cc : ByteArray} {nL k n pc : Nat} {own : String} {rm : Room} {g : sv_G} {ws : va_W} {lv : List (Option Value)} {st : List Value}
variable {y : MethodName} {cc2 : ByteArray} {mL : Nat} {ret : Option FieldType} {rm2 : Room}
theorem sv_callVi (C : sv_C X l cc nL own rm g) {b : Nat} {As : List Value} {ix : Nat}  {post : Int32 → va_W → Prop} (M : sv_Mi l y cc2 mL ret rm2 g (.ref b :: As) ws post) (hk : sv_LK 0 own ix y cc2 mL ret As.length) {ci : Nat} {fs : List Value} {T : u_T} {N : Nat} (he : (b, .inr (ci, fs)) ∈ ws) (hc : classes[ci]? = some (y.cls, T, N)) (hd : decode cc pc = .ok (.invokevirtual ix, 3)) (hroom : rm2.frames + 1 ≤ rm.frames ∧ 8 + (mL + 11) + rm2.locals ≤ rm.locals) (hst : (st.map fun v => v.category).sum ≤ 8) (hcs : k + rm2.cells ≤ rm.cells ∧ n + rm2.slots ≤ rm.slots) (z : ∀ (r : Int32) (w : va_W), post r w → sv_V X nL (k + rm2.cells) (n + rm2.slots) w (pc + 3) lv (.int r :: st)) : sv_V X nL k n ws pc lv (As.reverse ++ .ref b :: st) := by
  obtain ⟨⟨p, l0, e, R⟩, ⟨s, m, args, below⟩, ⟨meth, c, Q⟩, g0, A⟩ := X
  obtain ⟨rfl, rfl, rfl, hx, hb, hml, hown, hts, hK, hA, hZ, hin⟩ := C
  intro H locs ls hP hD hS hl
  have hF : ∀ q : Nat, va_A ws H.size q → A q := by
    intro q h
    rcases h with ⟨j, e1, h⟩ | h
    · exact hD.2 j _ h
    · exact hA q (Nat.le_trans hS.1 h)
  obtain ⟨h1, h2, h3, h4, h5⟩ := hk
  obtain ⟨qc, he⟩ := List.getElem?_of_mem he
  have hrecv := va_recv hK hP hc he
  exact va_calli (va_runV (As := As) (rest := st) ⟨hx, hb, hml, hown, hts⟩ (M H.size) ⟨(callB_of As.length hts (sv_goodIn h2) rfl rfl rfl (hts _ h3) (hts _ h1) h4 hroom), hts _ h5.1, hts _ h5.2⟩ ⟨sv_blind, hrecv, fun U hU hW => ⟨rfl, by rw [hU], by rw [hU]; exact hP, va_K.moved hW.alike hK, hD.weaken (fun _ _ _ _ => trivial), sv_Str.call hZ hS hF hU hW⟩⟩ rfl rfl hl.1 rfl (lv_room hst) hd hcs) hS (fun q _ h => hF q h) hF (fun r u t H1 locs1 ht hvm hw hB hz1 hk1 hS1 => z r u hw H1 locs1 ls (by rw [← ht]; exact hB.1) (hB.2.weaken (fun _ q _ h => hF q.1 h)) hS1 hl)
theorem sv_callVv (C : sv_C X l cc nL own rm g) {b : Nat} {As : List Value} {ix : Nat}  {post : va_W → Prop} (M : sv_Mv l y cc2 mL ret rm2 g (.ref b :: As) ws post) (hk : sv_LK 0 own ix y cc2 mL ret As.length) {ci : Nat} {fs : List Value} {T : u_T} {N : Nat} (he : (b, .inr (ci, fs)) ∈ ws) (hc : classes[ci]? = some (y.cls, T, N)) (hd : decode cc pc = .ok (.invokevirtual ix, 3)) (hroom : rm2.frames + 1 ≤ rm.frames ∧ 8 + (mL + 11) + rm2.locals ≤ rm.locals) (hst : (st.map fun v => v.category).sum ≤ 8) (hcs : k + rm2.cells ≤ rm.cells ∧ n + rm2.slots ≤ rm.slots) (z : ∀ w : va_W, post w → sv_V X nL (k + rm2.cells) (n + rm2.slots) w (pc + 3) lv st) : sv_V X nL k n ws pc lv (As.reverse ++ .ref b :: st) := by
  obtain ⟨⟨p, l0, e, R⟩, ⟨s, m, args, below⟩, ⟨meth, c, Q⟩, g0, A⟩ := X
  obtain ⟨rfl, rfl, rfl, hx, hb, hml, hown, hts, hK, hA, hZ, hin⟩ := C
  intro H locs ls hP hD hS hl
  have hF : ∀ q : Nat, va_A ws H.size q → A q := by
    intro q h
    rcases h with ⟨j, e1, h⟩ | h
    · exact hD.2 j _ h
    · exact hA q (Nat.le_trans hS.1 h)
  obtain ⟨h1, h2, h3, h4, h5⟩ := hk
  obtain ⟨qc, he⟩ := List.getElem?_of_mem he
  have hrecv := va_recv hK hP hc he
  exact va_callv (va_runV (As := As) (rest := st) ⟨hx, hb, hml, hown, hts⟩ (M H.size) ⟨(callB_of As.length hts (sv_goodIn h2) rfl rfl rfl (hts _ h3) (hts _ h1) h4 hroom), hts _ h5.1, hts _ h5.2⟩ ⟨sv_blind, hrecv, fun U hU hW => ⟨rfl, by rw [hU], by rw [hU]; exact hP, va_K.moved hW.alike hK, hD.weaken (fun _ _ _ _ => trivial), sv_Str.call hZ hS hF hU hW⟩⟩ rfl rfl hl.1 rfl (lv_room hst) hd hcs) hS (fun q _ h => hF q h) hF (fun u t H1 locs1 ht hvm hw hB hz1 hk1 hS1 => z u hw H1 locs1 ls (by rw [← ht]; exact hB.1) (hB.2.weaken (fun _ q _ h => hF q.1 h)) hS1 hl)
theorem sv_callVq (C : sv_C X l cc nL own rm g) {b : Nat} {As : List Value} {ix : Nat}  {post : Option Nat → va_W → Prop} (M : sv_Mq l y cc2 mL ret rm2 g (.ref b :: As) ws post) (hk : sv_LK 0 own ix y cc2 mL ret As.length) {ci : Nat} {fs : List Value} {T : u_T} {N : Nat} (he : (b, .inr (ci, fs)) ∈ ws) (hc : classes[ci]? = some (y.cls, T, N)) (hd : decode cc pc = .ok (.invokevirtual ix, 3)) (hroom : rm2.frames + 1 ≤ rm.frames ∧ 8 + (mL + 11) + rm2.locals ≤ rm.locals) (hst : (st.map fun v => v.category).sum ≤ 8) (hcs : k + rm2.cells ≤ rm.cells ∧ n + rm2.slots ≤ rm.slots) (z : ∀ (r : Option Nat) (w : va_W), post r w → sv_V X nL (k + rm2.cells) (n + rm2.slots) w (pc + 3) lv (va_rf r :: st)) : sv_V X nL k n ws pc lv (As.reverse ++ .ref b :: st) := by
  obtain ⟨⟨p, l0, e, R⟩, ⟨s, m, args, below⟩, ⟨meth, c, Q⟩, g0, A⟩ := X
  obtain ⟨rfl, rfl, rfl, hx, hb, hml, hown, hts, hK, hA, hZ, hin⟩ := C
  intro H locs ls hP hD hS hl
  have hF : ∀ q : Nat, va_A ws H.size q → A q := by
    intro q h
    rcases h with ⟨j, e1, h⟩ | h
    · exact hD.2 j _ h
    · exact hA q (Nat.le_trans hS.1 h)
  obtain ⟨h1, h2, h3, h4, h5⟩ := hk
  obtain ⟨qc, he⟩ := List.getElem?_of_mem he
  have hrecv := va_recv hK hP hc he
  exact va_callq (va_runV (As := As) (rest := st) ⟨hx, hb, hml, hown, hts⟩ (M H.size) ⟨(callB_of As.length hts (sv_goodIn h2) rfl rfl rfl (hts _ h3) (hts _ h1) h4 hroom), hts _ h5.1, hts _ h5.2⟩ ⟨sv_blind, hrecv, fun U hU hW => ⟨rfl, by rw [hU], by rw [hU]; exact hP, va_K.moved hW.alike hK, hD.weaken (fun _ _ _ _ => trivial), sv_Str.call hZ hS hF hU hW⟩⟩ rfl rfl hl.1 rfl (lv_room hst) hd hcs) hS (fun q _ h => hF q h) hF (fun r u t H1 locs1 ht hvm hw hB hz1 hk1 hS1 => z r u hw H1 locs1 ls (by rw [← ht]; exact hB.1) (hB.2.weaken (fun _ q _ h => hF q.1 h)) hS1 hl)
theorem sv_callSi (C : sv_C X l cc nL own rm g)  {As : List Value} {ix : Nat}  {post : Int32 → va_W → Prop} (M : sv_Mi l y cc2 mL ret rm2 g As ws post) (hk : sv_LK 1 own ix y cc2 mL ret As.length)  (hd : decode cc pc = .ok (.invokestatic ix, 3)) (hroom : rm2.frames + 1 ≤ rm.frames ∧ 8 + (mL + 11) + rm2.locals ≤ rm.locals) (hst : (st.map fun v => v.category).sum ≤ 8) (hcs : k + rm2.cells ≤ rm.cells ∧ n + rm2.slots ≤ rm.slots) (z : ∀ (r : Int32) (w : va_W), post r w → sv_V X nL (k + rm2.cells) (n + rm2.slots) w (pc + 3) lv (.int r :: st)) : sv_V X nL k n ws pc lv (As.reverse ++ st) := by
  obtain ⟨⟨p, l0, e, R⟩, ⟨s, m, args, below⟩, ⟨meth, c, Q⟩, g0, A⟩ := X
  obtain ⟨rfl, rfl, rfl, hx, hb, hml, hown, hts, hK, hA, hZ, hin⟩ := C
  intro H locs ls hP hD hS hl
  have hF : ∀ q : Nat, va_A ws H.size q → A q := by
    intro q h
    rcases h with ⟨j, e1, h⟩ | h
    · exact hD.2 j _ h
    · exact hA q (Nat.le_trans hS.1 h)
  obtain ⟨h1, h2, h3, h4, h5⟩ := hk
  exact va_calli (va_runS (As := As) (rest := st) ⟨hx, hb, hml, hown, hts⟩ (M H.size) ⟨(callB_of As.length hts (sv_goodIn h2) rfl rfl rfl (hts _ h3) (hts _ h1) h4 hroom), hts _ h5⟩ ⟨sv_blind, fun U hU hW => ⟨rfl, by rw [hU], by rw [hU]; exact hP, va_K.moved hW.alike hK, hD.weaken (fun _ _ _ _ => trivial), sv_Str.call hZ hS hF hU hW⟩⟩ rfl rfl hl.1 rfl (lv_room hst) hd hcs) hS (fun q _ h => hF q h) hF (fun r u t H1 locs1 ht hvm hw hB hz1 hk1 hS1 => z r u hw H1 locs1 ls (by rw [← ht]; exact hB.1) (hB.2.weaken (fun _ q _ h => hF q.1 h)) hS1 hl)
theorem sv_callSv (C : sv_C X l cc nL own rm g)  {As : List Value} {ix : Nat}  {post : va_W → Prop} (M : sv_Mv l y cc2 mL ret rm2 g As ws post) (hk : sv_LK 1 own ix y cc2 mL ret As.length)  (hd : decode cc pc = .ok (.invokestatic ix, 3)) (hroom : rm2.frames + 1 ≤ rm.frames ∧ 8 + (mL + 11) + rm2.locals ≤ rm.locals) (hst : (st.map fun v => v.category).sum ≤ 8) (hcs : k + rm2.cells ≤ rm.cells ∧ n + rm2.slots ≤ rm.slots) (z : ∀ w : va_W, post w → sv_V X nL (k + rm2.cells) (n + rm2.slots) w (pc + 3) lv st) : sv_V X nL k n ws pc lv (As.reverse ++ st) := by
  obtain ⟨⟨p, l0, e, R⟩, ⟨s, m, args, below⟩, ⟨meth, c, Q⟩, g0, A⟩ := X
  obtain ⟨rfl, rfl, rfl, hx, hb, hml, hown, hts, hK, hA, hZ, hin⟩ := C
  intro H locs ls hP hD hS hl
  have hF : ∀ q : Nat, va_A ws H.size q → A q := by
    intro q h
    rcases h with ⟨j, e1, h⟩ | h
    · exact hD.2 j _ h
    · exact hA q (Nat.le_trans hS.1 h)
  obtain ⟨h1, h2, h3, h4, h5⟩ := hk
  exact va_callv (va_runS (As := As) (rest := st) ⟨hx, hb, hml, hown, hts⟩ (M H.size) ⟨(callB_of As.length hts (sv_goodIn h2) rfl rfl rfl (hts _ h3) (hts _ h1) h4 hroom), hts _ h5⟩ ⟨sv_blind, fun U hU hW => ⟨rfl, by rw [hU], by rw [hU]; exact hP, va_K.moved hW.alike hK, hD.weaken (fun _ _ _ _ => trivial), sv_Str.call hZ hS hF hU hW⟩⟩ rfl rfl hl.1 rfl (lv_room hst) hd hcs) hS (fun q _ h => hF q h) hF (fun u t H1 locs1 ht hvm hw hB hz1 hk1 hS1 => z u hw H1 locs1 ls (by rw [← ht]; exact hB.1) (hB.2.weaken (fun _ q _ h => hF q.1 h)) hS1 hl)
theorem sv_callSq (C : sv_C X l cc nL own rm g)  {As : List Value} {ix : Nat}  {post : Option Nat → va_W → Prop} (M : sv_Mq l y cc2 mL ret rm2 g As ws post) (hk : sv_LK 1 own ix y cc2 mL ret As.length)  (hd : decode cc pc = .ok (.invokestatic ix, 3)) (hroom : rm2.frames + 1 ≤ rm.frames ∧ 8 + (mL + 11) + rm2.locals ≤ rm.locals) (hst : (st.map fun v => v.category).sum ≤ 8) (hcs : k + rm2.cells ≤ rm.cells ∧ n + rm2.slots ≤ rm.slots) (z : ∀ (r : Option Nat) (w : va_W), post r w → sv_V X nL (k + rm2.cells) (n + rm2.slots) w (pc + 3) lv (va_rf r :: st)) : sv_V X nL k n ws pc lv (As.reverse ++ st) := by
  obtain ⟨⟨p, l0, e, R⟩, ⟨s, m, args, below⟩, ⟨meth, c, Q⟩, g0, A⟩ := X
  obtain ⟨rfl, rfl, rfl, hx, hb, hml, hown, hts, hK, hA, hZ, hin⟩ := C
  intro H locs ls hP hD hS hl
  have hF : ∀ q : Nat, va_A ws H.size q → A q := by
    intro q h
    rcases h with ⟨j, e1, h⟩ | h
    · exact hD.2 j _ h
    · exact hA q (Nat.le_trans hS.1 h)
  obtain ⟨h1, h2, h3, h4, h5⟩ := hk
  exact va_callq (va_runS (As := As) (rest := st) ⟨hx, hb, hml, hown, hts⟩ (M H.size) ⟨(callB_of As.length hts (sv_goodIn h2) rfl rfl rfl (hts _ h3) (hts _ h1) h4 hroom), hts _ h5⟩ ⟨sv_blind, fun U hU hW => ⟨rfl, by rw [hU], by rw [hU]; exact hP, va_K.moved hW.alike hK, hD.weaken (fun _ _ _ _ => trivial), sv_Str.call hZ hS hF hU hW⟩⟩ rfl rfl hl.1 rfl (lv_room hst) hd hcs) hS (fun q _ h => hF q h) hF (fun r u t H1 locs1 ht hvm hw hB hz1 hk1 hS1 => z r u hw H1 locs1 ls (by rw [← ht]; exact hB.1) (hB.2.weaken (fun _ q _ h => hF q.1 h)) hS1 hl)
theorem sv_callIv (C : sv_C X l cc nL own rm g) {b : Nat} {As : List Value} {ix : Nat}  {post : va_W → Prop} (M : sv_Mv l y cc2 mL none rm2 g (.ref b :: As) ws post) (hk : sv_LK 2 own ix y cc2 mL none As.length)  (hd : decode cc pc = .ok (.invokespecial ix, 3)) (hroom : rm2.frames + 1 ≤ rm.frames ∧ 8 + (mL + 11) + rm2.locals ≤ rm.locals) (hst : (st.map fun v => v.category).sum ≤ 8) (hcs : k + rm2.cells ≤ rm.cells ∧ n + rm2.slots ≤ rm.slots) (z : ∀ w : va_W, post w → sv_V X nL (k + rm2.cells) (n + rm2.slots) w (pc + 3) lv st) : sv_V X nL k n ws pc lv (As.reverse ++ .ref b :: st) := by
  obtain ⟨⟨p, l0, e, R⟩, ⟨s, m, args, below⟩, ⟨meth, c, Q⟩, g0, A⟩ := X
  obtain ⟨rfl, rfl, rfl, hx, hb, hml, hown, hts, hK, hA, hZ, hin⟩ := C
  intro H locs ls hP hD hS hl
  have hF : ∀ q : Nat, va_A ws H.size q → A q := by
    intro q h
    rcases h with ⟨j, e1, h⟩ | h
    · exact hD.2 j _ h
    · exact hA q (Nat.le_trans hS.1 h)
  obtain ⟨h1, h2, h3, h4, h5⟩ := hk
  exact va_callv (va_runI (As := As) (rest := st) ⟨hx, hb, hml, hown, hts⟩ (M H.size) ⟨(callB_of As.length hts (sv_goodIn h2) rfl rfl rfl (hts _ h3) (hts _ h1) h4 hroom), h5.1, hts _ h5.2⟩ ⟨sv_blind, fun U hU hW => ⟨rfl, by rw [hU], by rw [hU]; exact hP, va_K.moved hW.alike hK, hD.weaken (fun _ _ _ _ => trivial), sv_Str.call hZ hS hF hU hW⟩⟩ rfl rfl hl.1 rfl (lv_room hst) hd hcs) hS (fun q _ h => hF q h) hF (fun u t H1 locs1 ht hvm hw hB hz1 hk1 hS1 => z u hw H1 locs1 ls (by rw [← ht]; exact hB.1) (hB.2.weaken (fun _ q _ h => hF q.1 h)) hS1 hl)
end SVC
end
section
/-! ROWS OVER NATURAL NUMBERS, CONSTANTS, BOOLEANS -/
section SVN
variable {X : sv_X} {l : Launch} {cc : ByteArray} {nL k n pc : Nat} {own : String} {rm : Room} {g : sv_G} {ws : va_W} {lv : List (Option Value)} {st : List Value}
theorem sv_iaddN (C : sv_C X l cc nL own rm g) (a b : Nat) (hd : decode cc pc = .ok (.iadd, 1)) (z : sv_V X nL k n ws (pc + 1) lv (.int (nI (a + b)) :: st)) : sv_V X nL k n ws pc lv (.int (nI b) :: .int (nI a) :: st) := sv_iadd C hd (by rw [nI_add]; exact z)
theorem sv_isubN (C : sv_C X l cc nL own rm g) (a b : Nat) (h : b ≤ a) (hd : decode cc pc = .ok (.isub, 1)) (z : sv_V X nL k n ws (pc + 1) lv (.int (nI (a - b)) :: st)) : sv_V X nL k n ws pc lv (.int (nI b) :: .int (nI a) :: st) := sv_isub C hd (by rw [pk_sub h]; exact z)
theorem sv_imulN (C : sv_C X l cc nL own rm g) (a b : Nat) (hd : decode cc pc = .ok (.imul, 1)) (z : sv_V X nL k n ws (pc + 1) lv (.int (nI (a * b)) :: st)) : sv_V X nL k n ws pc lv (.int (nI b) :: .int (nI a) :: st) := sv_imul C hd (by rw [pk_mul]; exact z)
theorem sv_iremN (C : sv_C X l cc nL own rm g) (a b : Nat) (ha : a < 2 ^ 31) (h0 : 0 < b) (hb : b < 2 ^ 31) (hd : decode cc pc = .ok (.irem, 1)) (z : sv_V X nL k n ws (pc + 1) lv (.int (nI (a % b)) :: st)) : sv_V X nL k n ws pc lv (.int (nI b) :: .int (nI a) :: st) := sv_irem C (nI_ne0 h0 hb) hd (by rw [pk_rem ha h0 hb]; exact z)
theorem sv_iincN (C : sv_C X l cc nL own rm g) (j : Nat) {i : Nat} (a : Nat) (hx0 : lv[i]? = some (some (.int (nI a)))) (lv' : List (Option Value)) (hlv : lv.set i (some (.int (nI (a + j)))) = lv') (hd : decode cc pc = .ok (.iinc i (j : Int), 3)) (z : sv_V X nL k n ws (pc + 3) lv' st) : sv_V X nL k n ws pc lv st := sv_iinc C hx0 (v := nI (a + j)) (by rw [show Int32.ofInt (j : Int) = nI j from rfl, nI_add]) lv' hlv hd z
theorem sv_icmpN_eq (C : sv_C X l cc nL own rm g) (a b : Nat) (ha : a < 2 ^ 31) (hb : b < 2 ^ 31) {off : Int} (tgt : Nat) (ht : (pc : Int) + off = (tgt : Int)) (hd : decode cc pc = .ok (.if_icmp .eq off, 3)) (zt : a = b → sv_V X nL k n ws tgt lv st) (zf : a ≠ b → sv_V X nL k n ws (pc + 3) lv st) : sv_V X nL k n ws pc lv (.int (nI b) :: .int (nI a) :: st) := sv_icmp_eq C tgt ht hd (fun q => zt ((nI_eq ha hb).mp q)) (fun q => zf (fun r => q ((nI_eq ha hb).mpr r)))
theorem sv_icmpN_ne (C : sv_C X l cc nL own rm g) (a b : Nat) (ha : a < 2 ^ 31) (hb : b < 2 ^ 31) {off : Int} (tgt : Nat) (ht : (pc : Int) + off = (tgt : Int)) (hd : decode cc pc = .ok (.if_icmp .ne off, 3)) (zt : a ≠ b → sv_V X nL k n ws tgt lv st) (zf : a = b → sv_V X nL k n ws (pc + 3) lv st) : sv_V X nL k n ws pc lv (.int (nI b) :: .int (nI a) :: st) := sv_icmp_ne C tgt ht hd (fun q => zt (fun r => q ((nI_eq ha hb).mpr r))) (fun q => zf ((nI_eq ha hb).mp q))
theorem sv_icmpN_lt (C : sv_C X l cc nL own rm g) (a b : Nat) (ha : a < 2 ^ 31) (hb : b < 2 ^ 31) {off : Int} (tgt : Nat) (ht : (pc : Int) + off = (tgt : Int)) (hd : decode cc pc = .ok (.if_icmp .lt off, 3)) (zt : a < b → sv_V X nL k n ws tgt lv st) (zf : b ≤ a → sv_V X nL k n ws (pc + 3) lv st) : sv_V X nL k n ws pc lv (.int (nI b) :: .int (nI a) :: st) := sv_icmp_lt C tgt ht hd (fun q => zt ((nI_ltI ha hb).mp q)) (fun q => zf (by have q2 : ¬ (a < b) := fun r => q ((nI_ltI ha hb).mpr r); omega))
theorem sv_icmpN_ge (C : sv_C X l cc nL own rm g) (a b : Nat) (ha : a < 2 ^ 31) (hb : b < 2 ^ 31) {off : Int} (tgt : Nat) (ht : (pc : Int) + off = (tgt : Int)) (hd : decode cc pc = .ok (.if_icmp .ge off, 3)) (zt : b ≤ a → sv_V X nL k n ws tgt lv st) (zf : a < b → sv_V X nL k n ws (pc + 3) lv st) : sv_V X nL k n ws pc lv (.int (nI b) :: .int (nI a) :: st) := sv_icmp_ge C tgt ht hd (fun q => zt ((nI_leI hb ha).mp q)) (fun q => zf (by have q2 : ¬ (b ≤ a) := fun r => q ((nI_leI hb ha).mpr r); omega))
theorem sv_icmpN_gt (C : sv_C X l cc nL own rm g) (a b : Nat) (ha : a < 2 ^ 31) (hb : b < 2 ^ 31) {off : Int} (tgt : Nat) (ht : (pc : Int) + off = (tgt : Int)) (hd : decode cc pc = .ok (.if_icmp .gt off, 3)) (zt : b < a → sv_V X nL k n ws tgt lv st) (zf : a ≤ b → sv_V X nL k n ws (pc + 3) lv st) : sv_V X nL k n ws pc lv (.int (nI b) :: .int (nI a) :: st) := sv_icmp_gt C tgt ht hd (fun q => zt ((nI_ltI hb ha).mp q)) (fun q => zf (by have q2 : ¬ (b < a) := fun r => q ((nI_ltI hb ha).mpr r); omega))
theorem sv_icmpN_le (C : sv_C X l cc nL own rm g) (a b : Nat) (ha : a < 2 ^ 31) (hb : b < 2 ^ 31) {off : Int} (tgt : Nat) (ht : (pc : Int) + off = (tgt : Int)) (hd : decode cc pc = .ok (.if_icmp .le off, 3)) (zt : a ≤ b → sv_V X nL k n ws tgt lv st) (zf : b < a → sv_V X nL k n ws (pc + 3) lv st) : sv_V X nL k n ws pc lv (.int (nI b) :: .int (nI a) :: st) := sv_icmp_le C tgt ht hd (fun q => zt ((nI_leI ha hb).mp q)) (fun q => zf (by have q2 : ¬ (a ≤ b) := fun r => q ((nI_leI ha hb).mpr r); omega))
theorem sv_icmpK_eq (C : sv_C X l cc nL own rm g) {x y : Int32} (b : Int) (hb : y.toInt = b) {off : Int} (tgt : Nat) (ht : (pc : Int) + off = (tgt : Int)) (hd : decode cc pc = .ok (.if_icmp .eq off, 3)) (zt : x.toInt = b → sv_V X nL k n ws tgt lv st) (zf : x.toInt ≠ b → sv_V X nL k n ws (pc + 3) lv st) : sv_V X nL k n ws pc lv (.int y :: .int x :: st) := sv_icmp_eq C tgt ht hd (fun q => zt (by rw [q]; exact hb)) (fun q => zf (fun r => q (Int32.toInt_inj.mp (r.trans hb.symm))))
theorem sv_ifZ_eq (C : sv_C X l cc nL own rm g) {x : Int32} {off : Int} (tgt : Nat) (ht : (pc : Int) + off = (tgt : Int)) (hd : decode cc pc = .ok (.ifCond .eq off, 3)) (zt : x.toInt = 0 → sv_V X nL k n ws tgt lv st) (zf : x.toInt ≠ 0 → sv_V X nL k n ws (pc + 3) lv st) : sv_V X nL k n ws pc lv (.int x :: st) := by
  have hb : (0 : Int32).toInt = 0 := rfl
  exact sv_if_eq C tgt ht hd (fun q => zt (by rw [q]; exact hb)) (fun q => zf (fun r => q (Int32.toInt_inj.mp (r.trans hb.symm))))
theorem sv_icmpK_ne (C : sv_C X l cc nL own rm g) {x y : Int32} (b : Int) (hb : y.toInt = b) {off : Int} (tgt : Nat) (ht : (pc : Int) + off = (tgt : Int)) (hd : decode cc pc = .ok (.if_icmp .ne off, 3)) (zt : x.toInt ≠ b → sv_V X nL k n ws tgt lv st) (zf : x.toInt = b → sv_V X nL k n ws (pc + 3) lv st) : sv_V X nL k n ws pc lv (.int y :: .int x :: st) := sv_icmp_ne C tgt ht hd (fun q => zt (fun r => q (Int32.toInt_inj.mp (r.trans hb.symm)))) (fun q => zf (by rw [q]; exact hb))
theorem sv_ifZ_ne (C : sv_C X l cc nL own rm g) {x : Int32} {off : Int} (tgt : Nat) (ht : (pc : Int) + off = (tgt : Int)) (hd : decode cc pc = .ok (.ifCond .ne off, 3)) (zt : x.toInt ≠ 0 → sv_V X nL k n ws tgt lv st) (zf : x.toInt = 0 → sv_V X nL k n ws (pc + 3) lv st) : sv_V X nL k n ws pc lv (.int x :: st) := by
  have hb : (0 : Int32).toInt = 0 := rfl
  exact sv_if_ne C tgt ht hd (fun q => zt (fun r => q (Int32.toInt_inj.mp (r.trans hb.symm)))) (fun q => zf (by rw [q]; exact hb))
theorem sv_icmpK_lt (C : sv_C X l cc nL own rm g) {x y : Int32} (b : Int) (hb : y.toInt = b) {off : Int} (tgt : Nat) (ht : (pc : Int) + off = (tgt : Int)) (hd : decode cc pc = .ok (.if_icmp .lt off, 3)) (zt : x.toInt < b → sv_V X nL k n ws tgt lv st) (zf : b ≤ x.toInt → sv_V X nL k n ws (pc + 3) lv st) : sv_V X nL k n ws pc lv (.int y :: .int x :: st) := sv_icmp_lt C tgt ht hd (fun q => zt (by have q2 := Int32.lt_iff_toInt_lt.mp q; omega)) (fun q => zf (by have q2 : ¬ (x.toInt < y.toInt) := fun r => q (Int32.lt_iff_toInt_lt.mpr r); omega))
theorem sv_ifZ_lt (C : sv_C X l cc nL own rm g) {x : Int32} {off : Int} (tgt : Nat) (ht : (pc : Int) + off = (tgt : Int)) (hd : decode cc pc = .ok (.ifCond .lt off, 3)) (zt : x.toInt < 0 → sv_V X nL k n ws tgt lv st) (zf : 0 ≤ x.toInt → sv_V X nL k n ws (pc + 3) lv st) : sv_V X nL k n ws pc lv (.int x :: st) := by
  have hb : (0 : Int32).toInt = 0 := rfl
  exact sv_if_lt C tgt ht hd (fun q => zt (by have q2 := Int32.lt_iff_toInt_lt.mp q; omega)) (fun q => zf (by have q2 : ¬ (x.toInt < (0 : Int32).toInt) := fun r => q (Int32.lt_iff_toInt_lt.mpr r); omega))
theorem sv_icmpK_ge (C : sv_C X l cc nL own rm g) {x y : Int32} (b : Int) (hb : y.toInt = b) {off : Int} (tgt : Nat) (ht : (pc : Int) + off = (tgt : Int)) (hd : decode cc pc = .ok (.if_icmp .ge off, 3)) (zt : b ≤ x.toInt → sv_V X nL k n ws tgt lv st) (zf : x.toInt < b → sv_V X nL k n ws (pc + 3) lv st) : sv_V X nL k n ws pc lv (.int y :: .int x :: st) := sv_icmp_ge C tgt ht hd (fun q => zt (by have q2 := Int32.le_iff_toInt_le.mp q; omega)) (fun q => zf (by have q2 : ¬ (y.toInt ≤ x.toInt) := fun r => q (Int32.le_iff_toInt_le.mpr r); omega))
theorem sv_ifZ_ge (C : sv_C X l cc nL own rm g) {x : Int32} {off : Int} (tgt : Nat) (ht : (pc : Int) + off = (tgt : Int)) (hd : decode cc pc = .ok (.ifCond .ge off, 3)) (zt : 0 ≤ x.toInt → sv_V X nL k n ws tgt lv st) (zf : x.toInt < 0 → sv_V X nL k n ws (pc + 3) lv st) : sv_V X nL k n ws pc lv (.int x :: st) := by
  have hb : (0 : Int32).toInt = 0 := rfl
  exact sv_if_ge C tgt ht hd (fun q => zt (by have q2 := Int32.le_iff_toInt_le.mp q; omega)) (fun q => zf (by have q2 : ¬ ((0 : Int32).toInt ≤ x.toInt) := fun r => q (Int32.le_iff_toInt_le.mpr r); omega))
theorem sv_icmpK_gt (C : sv_C X l cc nL own rm g) {x y : Int32} (b : Int) (hb : y.toInt = b) {off : Int} (tgt : Nat) (ht : (pc : Int) + off = (tgt : Int)) (hd : decode cc pc = .ok (.if_icmp .gt off, 3)) (zt : b < x.toInt → sv_V X nL k n ws tgt lv st) (zf : x.toInt ≤ b → sv_V X nL k n ws (pc + 3) lv st) : sv_V X nL k n ws pc lv (.int y :: .int x :: st) := sv_icmp_gt C tgt ht hd (fun q => zt (by have q2 := Int32.lt_iff_toInt_lt.mp q; omega)) (fun q => zf (by have q2 : ¬ (y.toInt < x.toInt) := fun r => q (Int32.lt_iff_toInt_lt.mpr r); omega))
theorem sv_ifZ_gt (C : sv_C X l cc nL own rm g) {x : Int32} {off : Int} (tgt : Nat) (ht : (pc : Int) + off = (tgt : Int)) (hd : decode cc pc = .ok (.ifCond .gt off, 3)) (zt : 0 < x.toInt → sv_V X nL k n ws tgt lv st) (zf : x.toInt ≤ 0 → sv_V X nL k n ws (pc + 3) lv st) : sv_V X nL k n ws pc lv (.int x :: st) := by
  have hb : (0 : Int32).toInt = 0 := rfl
  exact sv_if_gt C tgt ht hd (fun q => zt (by have q2 := Int32.lt_iff_toInt_lt.mp q; omega)) (fun q => zf (by have q2 : ¬ ((0 : Int32).toInt < x.toInt) := fun r => q (Int32.lt_iff_toInt_lt.mpr r); omega))
theorem sv_icmpK_le (C : sv_C X l cc nL own rm g) {x y : Int32} (b : Int) (hb : y.toInt = b) {off : Int} (tgt : Nat) (ht : (pc : Int) + off = (tgt : Int)) (hd : decode cc pc = .ok (.if_icmp .le off, 3)) (zt : x.toInt ≤ b → sv_V X nL k n ws tgt lv st) (zf : b < x.toInt → sv_V X nL k n ws (pc + 3) lv st) : sv_V X nL k n ws pc lv (.int y :: .int x :: st) := sv_icmp_le C tgt ht hd (fun q => zt (by have q2 := Int32.le_iff_toInt_le.mp q; omega)) (fun q => zf (by have q2 : ¬ (x.toInt ≤ y.toInt) := fun r => q (Int32.le_iff_toInt_le.mpr r); omega))
theorem sv_ifZ_le (C : sv_C X l cc nL own rm g) {x : Int32} {off : Int} (tgt : Nat) (ht : (pc : Int) + off = (tgt : Int)) (hd : decode cc pc = .ok (.ifCond .le off, 3)) (zt : x.toInt ≤ 0 → sv_V X nL k n ws tgt lv st) (zf : 0 < x.toInt → sv_V X nL k n ws (pc + 3) lv st) : sv_V X nL k n ws pc lv (.int x :: st) := by
  have hb : (0 : Int32).toInt = 0 := rfl
  exact sv_if_le C tgt ht hd (fun q => zt (by have q2 := Int32.le_iff_toInt_le.mp q; omega)) (fun q => zf (by have q2 : ¬ (x.toInt ≤ (0 : Int32).toInt) := fun r => q (Int32.le_iff_toInt_le.mpr r); omega))
theorem sv_ifN_eq (C : sv_C X l cc nL own rm g) (a : Nat) (ha : a < 2 ^ 31) {off : Int} (tgt : Nat) (ht : (pc : Int) + off = (tgt : Int)) (hd : decode cc pc = .ok (.ifCond .eq off, 3)) (zt : a = 0 → sv_V X nL k n ws tgt lv st) (zf : 0 < a → sv_V X nL k n ws (pc + 3) lv st) : sv_V X nL k n ws pc lv (.int (nI a) :: st) := by
  have h0 := nI_toInt ha
  exact sv_ifZ_eq C tgt ht hd (fun q => zt (by omega)) (fun q => zf (by omega))
theorem sv_ifN_ne (C : sv_C X l cc nL own rm g) (a : Nat) (ha : a < 2 ^ 31) {off : Int} (tgt : Nat) (ht : (pc : Int) + off = (tgt : Int)) (hd : decode cc pc = .ok (.ifCond .ne off, 3)) (zt : 0 < a → sv_V X nL k n ws tgt lv st) (zf : a = 0 → sv_V X nL k n ws (pc + 3) lv st) : sv_V X nL k n ws pc lv (.int (nI a) :: st) := by
  have h0 := nI_toInt ha
  exact sv_ifZ_ne C tgt ht hd (fun q => zt (by omega)) (fun q => zf (by omega))
theorem sv_ifN_gt (C : sv_C X l cc nL own rm g) (a : Nat) (ha : a < 2 ^ 31) {off : Int} (tgt : Nat) (ht : (pc : Int) + off = (tgt : Int)) (hd : decode cc pc = .ok (.ifCond .gt off, 3)) (zt : 0 < a → sv_V X nL k n ws tgt lv st) (zf : a = 0 → sv_V X nL k n ws (pc + 3) lv st) : sv_V X nL k n ws pc lv (.int (nI a) :: st) := by
  have h0 := nI_toInt ha
  exact sv_ifZ_gt C tgt ht hd (fun q => zt (by omega)) (fun q => zf (by omega))
theorem sv_ifN_le (C : sv_C X l cc nL own rm g) (a : Nat) (ha : a < 2 ^ 31) {off : Int} (tgt : Nat) (ht : (pc : Int) + off = (tgt : Int)) (hd : decode cc pc = .ok (.ifCond .le off, 3)) (zt : a = 0 → sv_V X nL k n ws tgt lv st) (zf : 0 < a → sv_V X nL k n ws (pc + 3) lv st) : sv_V X nL k n ws pc lv (.int (nI a) :: st) := by
  have h0 := nI_toInt ha
  exact sv_ifZ_le C tgt ht hd (fun q => zt (by omega)) (fun q => zf (by omega))
theorem sv_ifB_eq (C : sv_C X l cc nL own rm g) (P : Prop) [Decidable P] {off : Int} (tgt : Nat) (ht : (pc : Int) + off = (tgt : Int)) (hd : decode cc pc = .ok (.ifCond .eq off, 3)) (zt : ¬ P → sv_V X nL k n ws tgt lv st) (zf : P → sv_V X nL k n ws (pc + 3) lv st) : sv_V X nL k n ws pc lv (.int (if P then 1 else 0) :: st) := sv_if_eq C tgt ht hd (fun q => zt (fun r => by rw [if_pos r] at q; exact absurd q (by decide))) (fun q => zf (Decidable.byContradiction fun r => q (if_neg r)))
theorem sv_ifB_ne (C : sv_C X l cc nL own rm g) (P : Prop) [Decidable P] {off : Int} (tgt : Nat) (ht : (pc : Int) + off = (tgt : Int)) (hd : decode cc pc = .ok (.ifCond .ne off, 3)) (zt : P → sv_V X nL k n ws tgt lv st) (zf : ¬ P → sv_V X nL k n ws (pc + 3) lv st) : sv_V X nL k n ws pc lv (.int (if P then 1 else 0) :: st) := sv_if_ne C tgt ht hd (fun q => zt (Decidable.byContradiction fun r => q (if_neg r))) (fun q => zf (fun r => by rw [if_pos r] at q; exact absurd q (by decide)))
theorem sv_ialdN (C : sv_C X l cc nL own rm g) {a N : Nat} {f : Nat → Int32} (i : Nat) (q0 : Nat) (ha : ws[q0]? = some (a, .inl (g.2.1 0, N, .inl f))) (hi : i < N) (hN : N < 2 ^ 31) (hd : decode cc pc = .ok (.iaload, 1)) (z : sv_V X nL k n ws (pc + 1) lv (.int (f i) :: st)) : sv_V X nL k n ws pc lv (.int (nI i) :: .ref a :: st) := sv_iald C q0 ha (vp_in_nI hi hN) hd (by rw [nI_clamp (Nat.lt_trans hi hN)]; exact z)
theorem sv_baldN (C : sv_C X l cc nL own rm g) {a N : Nat} {f : Nat → Int32} (i : Nat) (q0 : Nat) (ha : ws[q0]? = some (a, .inl (g.2.1 1, N, .inl f))) (hi : i < N) (hN : N < 2 ^ 31) (hd : decode cc pc = .ok (.baload, 1)) (z : sv_V X nL k n ws (pc + 1) lv (.int (f i) :: st)) : sv_V X nL k n ws pc lv (.int (nI i) :: .ref a :: st) := sv_bald C q0 ha (vp_in_nI hi hN) hd (by rw [nI_clamp (Nat.lt_trans hi hN)]; exact z)
theorem sv_zaldN (C : sv_C X l cc nL own rm g) {a N : Nat} {f : Nat → Int32} (i : Nat) (q0 : Nat) (ha : ws[q0]? = some (a, .inl (g.2.1 2, N, .inl f))) (hi : i < N) (hN : N < 2 ^ 31) (hd : decode cc pc = .ok (.baload, 1)) (z : sv_V X nL k n ws (pc + 1) lv (.int (f i) :: st)) : sv_V X nL k n ws pc lv (.int (nI i) :: .ref a :: st) := sv_zald C q0 ha (vp_in_nI hi hN) hd (by rw [nI_clamp (Nat.lt_trans hi hN)]; exact z)
theorem sv_iastN (C : sv_C X l cc nL own rm g) {a N : Nat} {f : Nat → Int32} {x : Int32} (i : Nat) (q0 : Nat) (ha : ws[q0]? = some (a, .inl (g.2.1 0, N, .inl f))) (hi : i < N) (hN : N < 2 ^ 31) (ws' : va_W) (hws : ws.set q0 (a, .inl (g.2.1 0, N, .inl (upd f i x))) = ws') (hd : decode cc pc = .ok (.iastore, 1)) (z : sv_V X nL k n ws' (pc + 1) lv st) : sv_V X nL k n ws pc lv (.int x :: .int (nI i) :: .ref a :: st) := sv_iast C q0 ha (vp_in_nI hi hN) ws' (by rw [nI_clamp (Nat.lt_trans hi hN)]; exact hws) hd z
theorem sv_bastN (C : sv_C X l cc nL own rm g) {a N : Nat} {f : Nat → Int32} {x : Int32} (i : Nat) (q0 : Nat) (ha : ws[q0]? = some (a, .inl (g.2.1 1, N, .inl f))) (hi : i < N) (hN : N < 2 ^ 31) (ws' : va_W) (hws : ws.set q0 (a, .inl (g.2.1 1, N, .inl (upd f i (vp_nar .byte x)))) = ws') (hd : decode cc pc = .ok (.bastore, 1)) (z : sv_V X nL k n ws' (pc + 1) lv st) : sv_V X nL k n ws pc lv (.int x :: .int (nI i) :: .ref a :: st) := sv_bast C q0 ha (vp_in_nI hi hN) ws' (by rw [nI_clamp (Nat.lt_trans hi hN)]; exact hws) hd z
theorem sv_zastN (C : sv_C X l cc nL own rm g) {a N : Nat} {f : Nat → Int32} {x : Int32} (i : Nat) (q0 : Nat) (ha : ws[q0]? = some (a, .inl (g.2.1 2, N, .inl f))) (hi : i < N) (hN : N < 2 ^ 31) (ws' : va_W) (hws : ws.set q0 (a, .inl (g.2.1 2, N, .inl (upd f i (vp_nar .boolean x)))) = ws') (hd : decode cc pc = .ok (.bastore, 1)) (z : sv_V X nL k n ws' (pc + 1) lv st) : sv_V X nL k n ws pc lv (.int x :: .int (nI i) :: .ref a :: st) := sv_zast C q0 ha (vp_in_nI hi hN) ws' (by rw [nI_clamp (Nat.lt_trans hi hN)]; exact hws) hd z
theorem sv_aaldEN (C : sv_C X l cc nL own rm g) {a N : Nat} {f : Nat → Option Nat} (i : Nat) (ha : (a, .inl (g.2.1 4, N, .inr (.inr (.inr (.inr f))))) ∈ ws) (hi : i < N) (hN : N < 2 ^ 31) (hd : decode cc pc = .ok (.aaload, 1)) (z : sv_V X nL k n ws (pc + 1) lv (va_rf (f i) :: st)) : sv_V X nL k n ws pc lv (.int (nI i) :: .ref a :: st) := sv_aaldE C ha (vp_in_nI hi hN) hd (by rw [nI_clamp (Nat.lt_trans hi hN)]; exact z)
theorem sv_aaldSN (C : sv_C X l cc nL own rm g) {a N : Nat} {f : Nat → Option Nat} (i : Nat) (ha : (a, .inl (g.2.1 5, N, .inr (.inr (.inr (.inr f))))) ∈ ws) (hi : i < N) (hN : N < 2 ^ 31) (hd : decode cc pc = .ok (.aaload, 1)) (z : sv_V X nL k n ws (pc + 1) lv (va_rf (f i) :: st)) : sv_V X nL k n ws pc lv (.int (nI i) :: .ref a :: st) := sv_aaldS C ha (vp_in_nI hi hN) hd (by rw [nI_clamp (Nat.lt_trans hi hN)]; exact z)
end SVN
end
section
/-! ROWS OVER STRINGS -/
section SVS
variable {X : sv_X} {l : Launch} {cc : ByteArray} {nL k n pc : Nat} {own : String} {rm : Room} {g : sv_G} {ws : va_W} {lv : List (Option Value)} {st : List Value}
theorem sv_getsC (C : sv_C X l cc nL own rm g) {ix : Nat} (h1 : Cond.fieldLink own ix "java/lang/String" "COMPACT_STRINGS" "Z" ∈ sv_tbl) (hd : decode cc pc = .ok (.getstatic ix, 3)) (z : sv_V X nL k n ws (pc + 3) lv (.int 1 :: st)) : sv_V X nL k n ws pc lv st := by
  obtain ⟨⟨p, l0, e, R⟩, ⟨s, m, args, below⟩, ⟨meth, c, Q⟩, g0, A⟩ := X
  obtain ⟨rfl, rfl, rfl, hx, hb, hml, hown, hts, hK, hA, hZ, hin⟩ := C
  intro H locs ls hP hD hS hl
  exact va_gets hx hb hZ.2.2.1 hS hown (hts _ h1) (fun _ h => h) hd (z H locs ls hP hD hS hl)
theorem sv_getsF (C : sv_C X l cc nL own rm g) {ix : Nat} (h1 : Cond.fieldLink own ix "jdk/internal/util/Preconditions" "SIOOBE_FORMATTER" "Ljava/util/function/BiFunction;" ∈ sv_tbl) (hd : decode cc pc = .ok (.getstatic ix, 3)) (z : ∀ v : Option Nat, sv_V X nL k n ws (pc + 3) lv (va_rf v :: st)) : sv_V X nL k n ws pc lv st := by
  obtain ⟨⟨p, l0, e, R⟩, ⟨s, m, args, below⟩, ⟨meth, c, Q⟩, g0, A⟩ := X
  obtain ⟨rfl, rfl, rfl, hx, hb, hml, hown, hts, hK, hA, hZ, hin⟩ := C
  intro H locs ls hP hD hS hl
  obtain ⟨v, hv⟩ := hZ.2.2.2.2.2
  exact va_gets hx hb hv hS hown (hts _ h1) (fun _ h => h) hd (z v H locs ls hP hD hS hl)
theorem sv_getSc (C : sv_C X l cc nL own rm g) {ix : Nat} (i : Nat) (hi : i < sv_nS) (h1 : Cond.fieldLink own ix "java/lang/String" "coder" "B" ∈ sv_tbl) (hd : decode cc pc = .ok (.getfield ix, 3)) (z : sv_V X nL k n ws (pc + 3) lv (.int 0 :: st)) : sv_V X nL k n ws pc lv (.ref (g.2.2.1 i) :: st) := by
  obtain ⟨⟨p, l0, e, R⟩, ⟨s, m, args, below⟩, ⟨meth, c, Q⟩, g0, A⟩ := X
  obtain ⟨rfl, rfl, rfl, hx, hb, hml, hown, hts, hK, hA, hZ, hin⟩ := C
  intro H locs ls hP hD hS hl
  exact vk_getf hx hb (hZ.1 i hi).2.1 hS hown (hts _ h1) (fun _ h => h) hd (z H locs ls hP hD hS hl)
theorem sv_getSv (C : sv_C X l cc nL own rm g) {ix : Nat} (i : Nat) (hi : i < sv_nS) (h1 : Cond.fieldLink own ix "java/lang/String" "value" "[B" ∈ sv_tbl) (hd : decode cc pc = .ok (.getfield ix, 3)) (z : sv_V X nL k n ws (pc + 3) lv (.ref (g.2.2.2 i) :: st)) : sv_V X nL k n ws pc lv (.ref (g.2.2.1 i) :: st) := by
  obtain ⟨⟨p, l0, e, R⟩, ⟨s, m, args, below⟩, ⟨meth, c, Q⟩, g0, A⟩ := X
  obtain ⟨rfl, rfl, rfl, hx, hb, hml, hown, hts, hK, hA, hZ, hin⟩ := C
  intro H locs ls hP hD hS hl
  exact vk_getf hx hb (hZ.1 i hi).2.2.1 hS hown (hts _ h1) (fun _ h => h) hd (z H locs ls hP hD hS hl)
theorem sv_lenS (C : sv_C X l cc nL own rm g) (i : Nat) (hi : i < sv_nS) (hd : decode cc pc = .ok (.arraylength, 1)) (z : sv_V X nL k n ws (pc + 1) lv (.int (nI (sv_txt i).length) :: st)) : sv_V X nL k n ws pc lv (.ref (g.2.2.2 i) :: st) := by
  obtain ⟨⟨p, l0, e, R⟩, ⟨s, m, args, below⟩, ⟨meth, c, Q⟩, g0, A⟩ := X
  obtain ⟨rfl, rfl, rfl, hx, hb, hml, hown, hts, hK, hA, hZ, hin⟩ := C
  intro H locs ls hP hD hS hl
  exact va_tlen hx hb (hZ.1 i hi).2.2.2 hS rfl hd (z H locs ls hP hD hS hl)
theorem sv_baldS (C : sv_C X l cc nL own rm g) (i j : Nat) (hi : i < sv_nS) (hj : j < (sv_txt i).length) (hj2 : j < 2 ^ 30) (hd : decode cc pc = .ok (.baload, 1)) (z : sv_V X nL k n ws (pc + 1) lv (.int ((sv_txt i).getD j 0) :: st)) : sv_V X nL k n ws pc lv (.int (nI j) :: .ref (g.2.2.2 i) :: st) := by
  obtain ⟨⟨p, l0, e, R⟩, ⟨s, m, args, below⟩, ⟨meth, c, Q⟩, g0, A⟩ := X
  obtain ⟨rfl, rfl, rfl, hx, hb, hml, hown, hts, hK, hA, hZ, hin⟩ := C
  intro H locs ls hP hD hS hl
  refine va_tb hx hb (hZ.1 i hi).2.2.2 hS (v := .int ((sv_txt i).getD j 0)) ?_ (by rw [nI_clamp (by omega)]) hd (z H locs ls hP hD hS hl)
  intro h9
  rcases h9 with h9 | h9
  · exact nI_pos (by omega) h9
  · rw [nI_clamp (by omega)] at h9; omega
theorem sv_instS (C : sv_C X l cc nL own rm g) {ix : Nat} (i : Nat) (hi : i < sv_nS) (h1 : Cond.classLink own ix "java/lang/String" ∈ sv_tbl) (hd : decode cc pc = .ok (.instanceof ix, 3)) (z : sv_V X nL k n ws (pc + 3) lv (.int 1 :: st)) : sv_V X nL k n ws pc lv (.ref (g.2.2.1 i) :: st) := by
  obtain ⟨⟨p, l0, e, R⟩, ⟨s, m, args, below⟩, ⟨meth, c, Q⟩, g0, A⟩ := X
  obtain ⟨rfl, rfl, rfl, hx, hb, hml, hown, hts, hK, hA, hZ, hin⟩ := C
  intro H locs ls hP hD hS hl
  exact va_instE hx hb hown (hts _ h1) (va_Orecv (hZ.1 i hi).1 hS) hd (z H locs ls hP hD hS hl)
theorem sv_castS (C : sv_C X l cc nL own rm g) {ix : Nat} (i : Nat) (hi : i < sv_nS) (h1 : Cond.classLink own ix "java/lang/String" ∈ sv_tbl) (hd : decode cc pc = .ok (.checkcast ix, 3)) (z : sv_V X nL k n ws (pc + 3) lv (.ref (g.2.2.1 i) :: st)) : sv_V X nL k n ws pc lv (.ref (g.2.2.1 i) :: st) := by
  obtain ⟨⟨p, l0, e, R⟩, ⟨s, m, args, below⟩, ⟨meth, c, Q⟩, g0, A⟩ := X
  obtain ⟨rfl, rfl, rfl, hx, hb, hml, hown, hts, hK, hA, hZ, hin⟩ := C
  intro H locs ls hP hD hS hl
  exact va_castE hx hb hown (hts _ h1) (va_Orecv (hZ.1 i hi).1 hS) hd (z H locs ls hP hD hS hl)
theorem sv_acmp_ne (C : sv_C X l cc nL own rm g) {a b : Nat} {off : Int} (tgt : Nat) (ht : (pc : Int) + off = (tgt : Int)) (hd : decode cc pc = .ok (.if_acmp .ne off, 3)) (zt : ¬ a = b → sv_V X nL k n ws tgt lv st) (zf : a = b → sv_V X nL k n ws (pc + 3) lv st) : sv_V X nL k n ws pc lv (.ref b :: .ref a :: st) := by
  obtain ⟨⟨p, l0, e, R⟩, ⟨s, m, args, below⟩, ⟨meth, c, Q⟩, g0, A⟩ := X
  obtain ⟨rfl, rfl, rfl, hx, hb, hml, hown, hts, hK, hA, hZ, hin⟩ := C
  intro H locs ls hP hD hS hl
  exact lv_acmp_ne (rx := some a) (ry := some b) hx hb hd ht (fun q => zt (fun h => q (by rw [h])) H locs ls hP hD hS hl) (fun q => zf (Option.some.inj q) H locs ls hP hD hS hl)
/-- the same address, the same text -/
theorem sv_strEq (C : sv_C X l cc nL own rm g) {i j : Nat} (hi : i < sv_nS) (hj : j < sv_nS) (li : (sv_txt i).length < 2 ^ 30) (lj : (sv_txt j).length < 2 ^ 30) (h : g.2.2.1 i = g.2.2.1 j) : sv_txt i = sv_txt j := by
  obtain ⟨⟨p, l0, e, R⟩, ⟨s, m, args, below⟩, ⟨meth, c, Q⟩, g0, A⟩ := X
  obtain ⟨rfl, rfl, rfl, hx, hb, hml, hown, hts, hK, hA, hZ, hin⟩ := C
  obtain ⟨-, -, ⟨cf, kc, fi, f, cell, a1, a2, a3, a4, a5, a6⟩, ⟨t1, b1, b2, b3, b4, b5, b6, b7⟩⟩ := hZ.1 i hi
  obtain ⟨-, -, ⟨cf', kc', fi', f', cell', a1', a2', a3', a4', a5', a6'⟩, ⟨t1', b1', b2', b3', b4', b5', b6', b7'⟩⟩ := hZ.1 j hj
  have e1 := Option.some.inj (a1.symm.trans a1')
  have e2 : f = f' := by simpa using congrArg (fun q => q.2.2.2) e1
  subst e2
  rw [← h] at a3'
  have e3 := Option.some.inj (a3.symm.trans a3')
  subst e3
  have e4 := Option.some.inj (a5.symm.trans a5')
  have e5 : g.2.2.2 i = g.2.2.2 j := by simpa using e4
  rw [← e5] at b1'
  have e6 := Option.some.inj (b1.symm.trans b1')
  subst e6
  have e7 : (sv_txt i).length = (sv_txt j).length := (nI_eq (by omega) (by omega)).mp (b5.symm.trans b5')
  apply List.ext_getElem e7
  intro q h1 h2
  have c1 := (b6 q h1).symm.trans (b6' q h2)
  simpa [List.getD_eq_getElem?_getD, h1, h2] using c1
theorem sv_callVsi (C : sv_C X l cc nL own rm g) {y : MethodName} {cc2 : ByteArray} {mL : Nat} {ret : Option FieldType} {rm2 : Room} {As : List Value} {ix : Nat} {post : Int32 → va_W → Prop} (i : Nat) (hi : i < sv_nS) (M : sv_Mi l y cc2 mL ret rm2 g (.ref (g.2.2.1 i) :: As) ws post) (hk : sv_LK 0 own ix y cc2 mL ret As.length) (hc : y.cls = "java/lang/String") (hd : decode cc pc = .ok (.invokevirtual ix, 3)) (hroom : rm2.frames + 1 ≤ rm.frames ∧ 8 + (mL + 11) + rm2.locals ≤ rm.locals) (hst : (st.map fun v => v.category).sum ≤ 8) (hcs : k + rm2.cells ≤ rm.cells ∧ n + rm2.slots ≤ rm.slots) (z : ∀ (r : Int32) (w : va_W), post r w → sv_V X nL (k + rm2.cells) (n + rm2.slots) w (pc + 3) lv (.int r :: st)) : sv_V X nL k n ws pc lv (As.reverse ++ .ref (g.2.2.1 i) :: st) := by
  obtain ⟨⟨p, l0, e, R⟩, ⟨s, m, args, below⟩, ⟨meth, c, Q⟩, g0, A⟩ := X
  obtain ⟨rfl, rfl, rfl, hx, hb, hml, hown, hts, hK, hA, hZ, hin⟩ := C
  intro H locs ls hP hD hS hl
  have hF : ∀ q : Nat, va_A ws H.size q → A q := by
    intro q h
    rcases h with ⟨j, e1, h⟩ | h
    · exact hD.2 j _ h
    · exact hA q (Nat.le_trans hS.1 h)
  obtain ⟨h1, h2, h3, h4, h5⟩ := hk
  have hrecv := va_Orecv (hZ.1 i hi).1 hS
  rw [← hc] at hrecv
  exact va_calli (va_runV (As := As) (rest := st) ⟨hx, hb, hml, hown, hts⟩ (M H.size) ⟨(callB_of As.length hts (sv_goodIn h2) rfl rfl rfl (hts _ h3) (hts _ h1) h4 hroom), hts _ h5.1, hts _ h5.2⟩ ⟨sv_blind, hrecv, fun U hU hW => ⟨rfl, by rw [hU], by rw [hU]; exact hP, va_K.moved hW.alike hK, hD.weaken (fun _ _ _ _ => trivial), sv_Str.call hZ hS hF hU hW⟩⟩ rfl rfl hl.1 rfl (lv_room hst) hd hcs) hS (fun q _ h => hF q h) hF (fun r u t H1 locs1 ht hvm hw hB hz1 hk1 hS1 => z r u hw H1 locs1 ls (by rw [← ht]; exact hB.1) (hB.2.weaken (fun _ q _ h => hF q.1 h)) hS1 hl)
end SVS
end
section
/-! WORDS: fields, calls, constants, makings -/
set_option maxRecDepth 100000 in
theorem i_En : ∀ w ∈ u_ws R_En F_En 2, w ∈ sv_tbl := (List.forall_mem_cons.mpr ⟨(sv_at 166 rfl rfl), List.forall_mem_cons.mpr ⟨(sv_at 168 rfl rfl), fun _ h => absurd h List.not_mem_nil⟩⟩ : ∀ w ∈ [Cond.laysFinal "WordChain$Ending" "WordChain$Ending" "text" "Ljava/lang/String;", Cond.laysFinal "WordChain$Ending" "WordChain$Ending" "substitute" "Ljava/lang/String;"], w ∈ sv_tbl)
set_option maxRecDepth 100000 in
theorem i_Si : ∀ w ∈ u_ws R_Si F_Si 1, w ∈ sv_tbl := (List.forall_mem_cons.mpr ⟨(sv_at 144 rfl rfl), fun _ h => absurd h List.not_mem_nil⟩ : ∀ w ∈ [Cond.laysFinal "WordChain$SilentWords" "WordChain$SilentWords" "keys" "[I"], w ∈ sv_tbl)
set_option maxRecDepth 100000 in
theorem i_Sm : ∀ w ∈ u_ws R_Sm F_Sm 7, w ∈ sv_tbl := (List.forall_mem_cons.mpr ⟨(sv_at 255 rfl rfl), List.forall_mem_cons.mpr ⟨(sv_at 257 rfl rfl), List.forall_mem_cons.mpr ⟨(sv_at 259 rfl rfl), List.forall_mem_cons.mpr ⟨(sv_at 261 rfl rfl), List.forall_mem_cons.mpr ⟨(sv_at 263 rfl rfl), List.forall_mem_cons.mpr ⟨(sv_at 265 rfl rfl), List.forall_mem_cons.mpr ⟨(sv_at 267 rfl rfl), fun _ h => absurd h List.not_mem_nil⟩⟩⟩⟩⟩⟩⟩ : ∀ w ∈ [Cond.laysFinal "WordChain$Stemmer" "WordChain$Stemmer" "word" "LWordChain$Word;", Cond.laysFinal "WordChain$Stemmer" "WordChain$Stemmer" "vowels" "[Z", Cond.laysFinal "WordChain$Stemmer" "WordChain$Stemmer" "endings1a" "[LWordChain$Ending;", Cond.laysFinal "WordChain$Stemmer" "WordChain$Stemmer" "endings1b" "[LWordChain$Ending;", Cond.laysFinal "WordChain$Stemmer" "WordChain$Stemmer" "endings2" "[LWordChain$Ending;", Cond.laysFinal "WordChain$Stemmer" "WordChain$Stemmer" "endings3" "[LWordChain$Ending;", Cond.laysFinal "WordChain$Stemmer" "WordChain$Stemmer" "endings4" "[LWordChain$Ending;"], w ∈ sv_tbl)
set_option maxRecDepth 100000 in
theorem i_Te : ∀ w ∈ u_ws R_Te F_Te 2, w ∈ sv_tbl := (List.forall_mem_cons.mpr ⟨(sv_at 78 rfl rfl), List.forall_mem_cons.mpr ⟨(sv_at 80 rfl rfl), fun _ h => absurd h List.not_mem_nil⟩⟩ : ∀ w ∈ [Cond.laysFinal "WordChain$Text" "WordChain$Text" "characters" "[I", Cond.lays "WordChain$Text" "WordChain$Text" "length" "I"], w ∈ sv_tbl)
set_option maxRecDepth 100000 in
theorem i_To : ∀ w ∈ u_ws R_To F_To 4, w ∈ sv_tbl := (List.forall_mem_cons.mpr ⟨(sv_at 285 rfl rfl), List.forall_mem_cons.mpr ⟨(sv_at 287 rfl rfl), List.forall_mem_cons.mpr ⟨(sv_at 289 rfl rfl), List.forall_mem_cons.mpr ⟨(sv_at 291 rfl rfl), fun _ h => absurd h List.not_mem_nil⟩⟩⟩⟩ : ∀ w ∈ [Cond.laysFinal "WordChain$Tokens" "WordChain$Tokens" "characters" "[I", Cond.laysFinal "WordChain$Tokens" "WordChain$Tokens" "positions" "[I", Cond.laysFinal "WordChain$Tokens" "WordChain$Tokens" "starts" "[I", Cond.lays "WordChain$Tokens" "WordChain$Tokens" "size" "I"], w ∈ sv_tbl)
set_option maxRecDepth 100000 in
theorem i_Wo : ∀ w ∈ u_ws R_Wo F_Wo 2, w ∈ sv_tbl := (List.forall_mem_cons.mpr ⟨(sv_at 242 rfl rfl), List.forall_mem_cons.mpr ⟨(sv_at 244 rfl rfl), fun _ h => absurd h List.not_mem_nil⟩⟩ : ∀ w ∈ [Cond.laysFinal "WordChain$Word" "WordChain$Word" "characters" "[I", Cond.lays "WordChain$Word" "WordChain$Word" "length" "I"], w ∈ sv_tbl)
set_option maxRecDepth 100000 in
theorem i_X : ∀ w ∈ u_ws R_X F_X 7, w ∈ sv_tbl := (List.forall_mem_cons.mpr ⟨(sv_at 301 rfl rfl), List.forall_mem_cons.mpr ⟨(sv_at 303 rfl rfl), List.forall_mem_cons.mpr ⟨(sv_at 305 rfl rfl), List.forall_mem_cons.mpr ⟨(sv_at 307 rfl rfl), List.forall_mem_cons.mpr ⟨(sv_at 309 rfl rfl), List.forall_mem_cons.mpr ⟨(sv_at 311 rfl rfl), List.forall_mem_cons.mpr ⟨(sv_at 313 rfl rfl), fun _ h => absurd h List.not_mem_nil⟩⟩⟩⟩⟩⟩⟩ : ∀ w ∈ [Cond.laysFinal "WordChain" "WordChain" "input" "[B", Cond.lays "WordChain" "WordChain" "inputLength" "I", Cond.laysFinal "WordChain" "WordChain" "text" "LWordChain$Text;", Cond.laysFinal "WordChain" "WordChain" "silentWords" "LWordChain$SilentWords;", Cond.laysFinal "WordChain" "WordChain" "stemmer" "LWordChain$Stemmer;", Cond.laysFinal "WordChain" "WordChain" "tokens" "LWordChain$Tokens;", Cond.lays "WordChain" "WordChain" "words" "I"], w ∈ sv_tbl)
set_option maxRecDepth 100000 in
theorem i_M : ∀ w ∈ u_ws R_M F_M 16, w ∈ sv_tbl := (List.forall_mem_cons.mpr ⟨(sv_at 789 rfl rfl), List.forall_mem_cons.mpr ⟨(sv_at 791 rfl rfl), List.forall_mem_cons.mpr ⟨(sv_at 793 rfl rfl), List.forall_mem_cons.mpr ⟨(sv_at 795 rfl rfl), List.forall_mem_cons.mpr ⟨(sv_at 797 rfl rfl), List.forall_mem_cons.mpr ⟨(sv_at 799 rfl rfl), List.forall_mem_cons.mpr ⟨(sv_at 801 rfl rfl), List.forall_mem_cons.mpr ⟨(sv_at 803 rfl rfl), List.forall_mem_cons.mpr ⟨(sv_at 805 rfl rfl), List.forall_mem_cons.mpr ⟨(sv_at 807 rfl rfl), List.forall_mem_cons.mpr ⟨(sv_at 809 rfl rfl), List.forall_mem_cons.mpr ⟨(sv_at 811 rfl rfl), List.forall_mem_cons.mpr ⟨(sv_at 813 rfl rfl), List.forall_mem_cons.mpr ⟨(sv_at 815 rfl rfl), List.forall_mem_cons.mpr ⟨(sv_at 817 rfl rfl), List.forall_mem_cons.mpr ⟨(sv_at 819 rfl rfl), fun _ h => absurd h List.not_mem_nil⟩⟩⟩⟩⟩⟩⟩⟩⟩⟩⟩⟩⟩⟩⟩⟩ : ∀ w ∈ [Cond.laysFinal "WordChainModel" "WordChainModel" "STOPS" "[Ljava/lang/String;", Cond.laysFinal "WordChainModel" "WordChainModel" "TWO" "[Ljava/lang/String;", Cond.laysFinal "WordChainModel" "WordChainModel" "THREE" "[Ljava/lang/String;", Cond.laysFinal "WordChainModel" "WordChainModel" "FOUR" "[Ljava/lang/String;", Cond.laysFinal "WordChainModel" "WordChainModel" "input" "[B", Cond.lays "WordChainModel" "WordChainModel" "inputSize" "I", Cond.lays "WordChainModel" "WordChainModel" "thrown" "I", Cond.laysFinal "WordChainModel" "WordChainModel" "chars" "[I", Cond.lays "WordChainModel" "WordChainModel" "charMany" "I", Cond.laysFinal "WordChainModel" "WordChainModel" "cutChars" "[I", Cond.laysFinal "WordChainModel" "WordChainModel" "cutAt" "[I", Cond.laysFinal "WordChainModel" "WordChainModel" "cutPosition" "[I", Cond.lays "WordChainModel" "WordChainModel" "cutMany" "I", Cond.lays "WordChainModel" "WordChainModel" "cutWords" "I", Cond.laysFinal "WordChainModel" "WordChainModel" "word" "[I", Cond.lays "WordChainModel" "WordChainModel" "wordMany" "I"], w ∈ sv_tbl)
set_option maxRecDepth 100000 in
theorem w_Te_13 : Cond.fieldLink "WordChain$Text" 13 "WordChain$Text" "characters" "[I" ∈ sv_tbl := (sv_at 74 rfl rfl)
set_option maxRecDepth 100000 in
theorem fg_Te_13 : sv_FL "WordChain$Text" 13 3 0 := ⟨R_Te, F_Te, 2, rfl, by decide, i_Te, w_Te_13⟩
set_option maxRecDepth 100000 in
theorem fp_Te_13 : sv_FP "WordChain$Text" 13 3 0 (.array .int) true := ⟨R_Te, F_Te, 2, t_Te, rfl, by decide, i_Te, w_Te_13, t_Te_ok, n_Te, rfl, fun _ => rfl, by decide +kernel⟩
set_option maxRecDepth 100000 in
theorem w_X_137 : Cond.fieldLink "WordChain" 137 "WordChain$Text" "characters" "[I" ∈ sv_tbl := (sv_at 75 rfl rfl)
set_option maxRecDepth 100000 in
theorem fg_X_137 : sv_FL "WordChain" 137 3 0 := ⟨R_Te, F_Te, 2, rfl, by decide, i_Te, w_X_137⟩
set_option maxRecDepth 100000 in
theorem w_Te_7 : Cond.fieldLink "WordChain$Text" 7 "WordChain$Text" "length" "I" ∈ sv_tbl := (sv_at 76 rfl rfl)
set_option maxRecDepth 100000 in
theorem fg_Te_7 : sv_FL "WordChain$Text" 7 3 1 := ⟨R_Te, F_Te, 2, rfl, by decide, i_Te, w_Te_7⟩
set_option maxRecDepth 100000 in
theorem fp_Te_7 : sv_FP "WordChain$Text" 7 3 1 (.int) false := ⟨R_Te, F_Te, 2, t_Te, rfl, by decide, i_Te, w_Te_7, t_Te_ok, n_Te, rfl, fun _ => rfl, by decide +kernel⟩
set_option maxRecDepth 100000 in
theorem w_X_72 : Cond.fieldLink "WordChain" 72 "WordChain$Text" "length" "I" ∈ sv_tbl := (sv_at 77 rfl rfl)
set_option maxRecDepth 100000 in
theorem fg_X_72 : sv_FL "WordChain" 72 3 1 := ⟨R_Te, F_Te, 2, rfl, by decide, i_Te, w_X_72⟩
set_option maxRecDepth 100000 in
theorem fp_X_72 : sv_FP "WordChain" 72 3 1 (.int) false := ⟨R_Te, F_Te, 2, t_Te, rfl, by decide, i_Te, w_X_72, t_Te_ok, n_Te, rfl, (fun h => by cases h), by decide +kernel⟩
set_option maxRecDepth 100000 in
theorem w_Si_9 : Cond.fieldLink "WordChain$SilentWords" 9 "WordChain$SilentWords" "keys" "[I" ∈ sv_tbl := (sv_at 143 rfl rfl)
set_option maxRecDepth 100000 in
theorem fg_Si_9 : sv_FL "WordChain$SilentWords" 9 1 0 := ⟨R_Si, F_Si, 1, rfl, by decide, i_Si, w_Si_9⟩
set_option maxRecDepth 100000 in
theorem fp_Si_9 : sv_FP "WordChain$SilentWords" 9 1 0 (.array .int) true := ⟨R_Si, F_Si, 1, t_Si, rfl, by decide, i_Si, w_Si_9, t_Si_ok, n_Si, rfl, fun _ => rfl, by decide +kernel⟩
set_option maxRecDepth 100000 in
theorem w_En_7 : Cond.fieldLink "WordChain$Ending" 7 "WordChain$Ending" "text" "Ljava/lang/String;" ∈ sv_tbl := (sv_at 162 rfl rfl)
set_option maxRecDepth 100000 in
theorem fg_En_7 : sv_FL "WordChain$Ending" 7 0 0 := ⟨R_En, F_En, 2, rfl, by decide, i_En, w_En_7⟩
set_option maxRecDepth 100000 in
theorem fp_En_7 : sv_FP "WordChain$Ending" 7 0 0 (.object "java/lang/String") true := ⟨R_En, F_En, 2, t_En, rfl, by decide, i_En, w_En_7, t_En_ok, n_En, rfl, fun _ => rfl, by decide +kernel⟩
set_option maxRecDepth 100000 in
theorem w_Sm_210 : Cond.fieldLink "WordChain$Stemmer" 210 "WordChain$Ending" "text" "Ljava/lang/String;" ∈ sv_tbl := (sv_at 163 rfl rfl)
set_option maxRecDepth 100000 in
theorem fg_Sm_210 : sv_FL "WordChain$Stemmer" 210 0 0 := ⟨R_En, F_En, 2, rfl, by decide, i_En, w_Sm_210⟩
set_option maxRecDepth 100000 in
theorem w_En_13 : Cond.fieldLink "WordChain$Ending" 13 "WordChain$Ending" "substitute" "Ljava/lang/String;" ∈ sv_tbl := (sv_at 164 rfl rfl)
set_option maxRecDepth 100000 in
theorem fg_En_13 : sv_FL "WordChain$Ending" 13 0 1 := ⟨R_En, F_En, 2, rfl, by decide, i_En, w_En_13⟩
set_option maxRecDepth 100000 in
theorem fp_En_13 : sv_FP "WordChain$Ending" 13 0 1 (.object "java/lang/String") true := ⟨R_En, F_En, 2, t_En, rfl, by decide, i_En, w_En_13, t_En_ok, n_En, rfl, fun _ => rfl, by decide +kernel⟩
set_option maxRecDepth 100000 in
theorem w_Sm_202 : Cond.fieldLink "WordChain$Stemmer" 202 "WordChain$Ending" "substitute" "Ljava/lang/String;" ∈ sv_tbl := (sv_at 165 rfl rfl)
set_option maxRecDepth 100000 in
theorem fg_Sm_202 : sv_FL "WordChain$Stemmer" 202 0 1 := ⟨R_En, F_En, 2, rfl, by decide, i_En, w_Sm_202⟩
set_option maxRecDepth 100000 in
theorem w_Wo_13 : Cond.fieldLink "WordChain$Word" 13 "WordChain$Word" "characters" "[I" ∈ sv_tbl := (sv_at 234 rfl rfl)
set_option maxRecDepth 100000 in
theorem fg_Wo_13 : sv_FL "WordChain$Word" 13 5 0 := ⟨R_Wo, F_Wo, 2, rfl, by decide, i_Wo, w_Wo_13⟩
set_option maxRecDepth 100000 in
theorem fp_Wo_13 : sv_FP "WordChain$Word" 13 5 0 (.array .int) true := ⟨R_Wo, F_Wo, 2, t_Wo, rfl, by decide, i_Wo, w_Wo_13, t_Wo_ok, n_Wo, rfl, fun _ => rfl, by decide +kernel⟩
set_option maxRecDepth 100000 in
theorem w_Si_38 : Cond.fieldLink "WordChain$SilentWords" 38 "WordChain$Word" "characters" "[I" ∈ sv_tbl := (sv_at 235 rfl rfl)
set_option maxRecDepth 100000 in
theorem fg_Si_38 : sv_FL "WordChain$SilentWords" 38 5 0 := ⟨R_Wo, F_Wo, 2, rfl, by decide, i_Wo, w_Si_38⟩
set_option maxRecDepth 100000 in
theorem w_To_23 : Cond.fieldLink "WordChain$Tokens" 23 "WordChain$Word" "characters" "[I" ∈ sv_tbl := (sv_at 236 rfl rfl)
set_option maxRecDepth 100000 in
theorem fg_To_23 : sv_FL "WordChain$Tokens" 23 5 0 := ⟨R_Wo, F_Wo, 2, rfl, by decide, i_Wo, w_To_23⟩
set_option maxRecDepth 100000 in
theorem w_Sm_263 : Cond.fieldLink "WordChain$Stemmer" 263 "WordChain$Word" "characters" "[I" ∈ sv_tbl := (sv_at 237 rfl rfl)
set_option maxRecDepth 100000 in
theorem fg_Sm_263 : sv_FL "WordChain$Stemmer" 263 5 0 := ⟨R_Wo, F_Wo, 2, rfl, by decide, i_Wo, w_Sm_263⟩
set_option maxRecDepth 100000 in
theorem w_Wo_7 : Cond.fieldLink "WordChain$Word" 7 "WordChain$Word" "length" "I" ∈ sv_tbl := (sv_at 238 rfl rfl)
set_option maxRecDepth 100000 in
theorem fg_Wo_7 : sv_FL "WordChain$Word" 7 5 1 := ⟨R_Wo, F_Wo, 2, rfl, by decide, i_Wo, w_Wo_7⟩
set_option maxRecDepth 100000 in
theorem fp_Wo_7 : sv_FP "WordChain$Word" 7 5 1 (.int) false := ⟨R_Wo, F_Wo, 2, t_Wo, rfl, by decide, i_Wo, w_Wo_7, t_Wo_ok, n_Wo, rfl, fun _ => rfl, by decide +kernel⟩
set_option maxRecDepth 100000 in
theorem w_Si_29 : Cond.fieldLink "WordChain$SilentWords" 29 "WordChain$Word" "length" "I" ∈ sv_tbl := (sv_at 239 rfl rfl)
set_option maxRecDepth 100000 in
theorem fg_Si_29 : sv_FL "WordChain$SilentWords" 29 5 1 := ⟨R_Wo, F_Wo, 2, rfl, by decide, i_Wo, w_Si_29⟩
set_option maxRecDepth 100000 in
theorem fp_Si_29 : sv_FP "WordChain$SilentWords" 29 5 1 (.int) false := ⟨R_Wo, F_Wo, 2, t_Wo, rfl, by decide, i_Wo, w_Si_29, t_Wo_ok, n_Wo, rfl, (fun h => by cases h), by decide +kernel⟩
set_option maxRecDepth 100000 in
theorem w_Sm_161 : Cond.fieldLink "WordChain$Stemmer" 161 "WordChain$Word" "length" "I" ∈ sv_tbl := (sv_at 240 rfl rfl)
set_option maxRecDepth 100000 in
theorem fg_Sm_161 : sv_FL "WordChain$Stemmer" 161 5 1 := ⟨R_Wo, F_Wo, 2, rfl, by decide, i_Wo, w_Sm_161⟩
set_option maxRecDepth 100000 in
theorem fp_Sm_161 : sv_FP "WordChain$Stemmer" 161 5 1 (.int) false := ⟨R_Wo, F_Wo, 2, t_Wo, rfl, by decide, i_Wo, w_Sm_161, t_Wo_ok, n_Wo, rfl, (fun h => by cases h), by decide +kernel⟩
set_option maxRecDepth 100000 in
theorem w_To_26 : Cond.fieldLink "WordChain$Tokens" 26 "WordChain$Word" "length" "I" ∈ sv_tbl := (sv_at 241 rfl rfl)
set_option maxRecDepth 100000 in
theorem fg_To_26 : sv_FL "WordChain$Tokens" 26 5 1 := ⟨R_Wo, F_Wo, 2, rfl, by decide, i_Wo, w_To_26⟩
set_option maxRecDepth 100000 in
theorem fp_To_26 : sv_FP "WordChain$Tokens" 26 5 1 (.int) false := ⟨R_Wo, F_Wo, 2, t_Wo, rfl, by decide, i_Wo, w_To_26, t_Wo_ok, n_Wo, rfl, (fun h => by cases h), by decide +kernel⟩
set_option maxRecDepth 100000 in
theorem w_Sm_153 : Cond.fieldLink "WordChain$Stemmer" 153 "WordChain$Stemmer" "word" "LWordChain$Word;" ∈ sv_tbl := (sv_at 247 rfl rfl)
set_option maxRecDepth 100000 in
theorem fg_Sm_153 : sv_FL "WordChain$Stemmer" 153 2 0 := ⟨R_Sm, F_Sm, 7, rfl, by decide, i_Sm, w_Sm_153⟩
set_option maxRecDepth 100000 in
theorem fp_Sm_153 : sv_FP "WordChain$Stemmer" 153 2 0 (.object "WordChain$Word") true := ⟨R_Sm, F_Sm, 7, t_Sm, rfl, by decide, i_Sm, w_Sm_153, t_Sm_ok, n_Sm, rfl, fun _ => rfl, by decide +kernel⟩
set_option maxRecDepth 100000 in
theorem w_X_133 : Cond.fieldLink "WordChain" 133 "WordChain$Stemmer" "word" "LWordChain$Word;" ∈ sv_tbl := (sv_at 248 rfl rfl)
set_option maxRecDepth 100000 in
theorem fg_X_133 : sv_FL "WordChain" 133 2 0 := ⟨R_Sm, F_Sm, 7, rfl, by decide, i_Sm, w_X_133⟩
set_option maxRecDepth 100000 in
theorem w_Sm_157 : Cond.fieldLink "WordChain$Stemmer" 157 "WordChain$Stemmer" "vowels" "[Z" ∈ sv_tbl := (sv_at 249 rfl rfl)
set_option maxRecDepth 100000 in
theorem fg_Sm_157 : sv_FL "WordChain$Stemmer" 157 2 1 := ⟨R_Sm, F_Sm, 7, rfl, by decide, i_Sm, w_Sm_157⟩
set_option maxRecDepth 100000 in
theorem fp_Sm_157 : sv_FP "WordChain$Stemmer" 157 2 1 (.array .boolean) true := ⟨R_Sm, F_Sm, 7, t_Sm, rfl, by decide, i_Sm, w_Sm_157, t_Sm_ok, n_Sm, rfl, fun _ => rfl, by decide +kernel⟩
set_option maxRecDepth 100000 in
theorem w_Sm_24 : Cond.fieldLink "WordChain$Stemmer" 24 "WordChain$Stemmer" "endings1a" "[LWordChain$Ending;" ∈ sv_tbl := (sv_at 250 rfl rfl)
set_option maxRecDepth 100000 in
theorem fg_Sm_24 : sv_FL "WordChain$Stemmer" 24 2 2 := ⟨R_Sm, F_Sm, 7, rfl, by decide, i_Sm, w_Sm_24⟩
set_option maxRecDepth 100000 in
theorem fp_Sm_24 : sv_FP "WordChain$Stemmer" 24 2 2 (.array (.object "WordChain$Ending")) true := ⟨R_Sm, F_Sm, 7, t_Sm, rfl, by decide, i_Sm, w_Sm_24, t_Sm_ok, n_Sm, rfl, fun _ => rfl, by decide +kernel⟩
set_option maxRecDepth 100000 in
theorem w_Sm_38 : Cond.fieldLink "WordChain$Stemmer" 38 "WordChain$Stemmer" "endings1b" "[LWordChain$Ending;" ∈ sv_tbl := (sv_at 251 rfl rfl)
set_option maxRecDepth 100000 in
theorem fg_Sm_38 : sv_FL "WordChain$Stemmer" 38 2 3 := ⟨R_Sm, F_Sm, 7, rfl, by decide, i_Sm, w_Sm_38⟩
set_option maxRecDepth 100000 in
theorem fp_Sm_38 : sv_FP "WordChain$Stemmer" 38 2 3 (.array (.object "WordChain$Ending")) true := ⟨R_Sm, F_Sm, 7, t_Sm, rfl, by decide, i_Sm, w_Sm_38, t_Sm_ok, n_Sm, rfl, fun _ => rfl, by decide +kernel⟩
set_option maxRecDepth 100000 in
theorem w_Sm_107 : Cond.fieldLink "WordChain$Stemmer" 107 "WordChain$Stemmer" "endings2" "[LWordChain$Ending;" ∈ sv_tbl := (sv_at 252 rfl rfl)
set_option maxRecDepth 100000 in
theorem fg_Sm_107 : sv_FL "WordChain$Stemmer" 107 2 4 := ⟨R_Sm, F_Sm, 7, rfl, by decide, i_Sm, w_Sm_107⟩
set_option maxRecDepth 100000 in
theorem fp_Sm_107 : sv_FP "WordChain$Stemmer" 107 2 4 (.array (.object "WordChain$Ending")) true := ⟨R_Sm, F_Sm, 7, t_Sm, rfl, by decide, i_Sm, w_Sm_107, t_Sm_ok, n_Sm, rfl, fun _ => rfl, by decide +kernel⟩
set_option maxRecDepth 100000 in
theorem w_Sm_124 : Cond.fieldLink "WordChain$Stemmer" 124 "WordChain$Stemmer" "endings3" "[LWordChain$Ending;" ∈ sv_tbl := (sv_at 253 rfl rfl)
set_option maxRecDepth 100000 in
theorem fg_Sm_124 : sv_FL "WordChain$Stemmer" 124 2 5 := ⟨R_Sm, F_Sm, 7, rfl, by decide, i_Sm, w_Sm_124⟩
set_option maxRecDepth 100000 in
theorem fp_Sm_124 : sv_FP "WordChain$Stemmer" 124 2 5 (.array (.object "WordChain$Ending")) true := ⟨R_Sm, F_Sm, 7, t_Sm, rfl, by decide, i_Sm, w_Sm_124, t_Sm_ok, n_Sm, rfl, fun _ => rfl, by decide +kernel⟩
set_option maxRecDepth 100000 in
theorem w_Sm_145 : Cond.fieldLink "WordChain$Stemmer" 145 "WordChain$Stemmer" "endings4" "[LWordChain$Ending;" ∈ sv_tbl := (sv_at 254 rfl rfl)
set_option maxRecDepth 100000 in
theorem fg_Sm_145 : sv_FL "WordChain$Stemmer" 145 2 6 := ⟨R_Sm, F_Sm, 7, rfl, by decide, i_Sm, w_Sm_145⟩
set_option maxRecDepth 100000 in
theorem fp_Sm_145 : sv_FP "WordChain$Stemmer" 145 2 6 (.array (.object "WordChain$Ending")) true := ⟨R_Sm, F_Sm, 7, t_Sm, rfl, by decide, i_Sm, w_Sm_145, t_Sm_ok, n_Sm, rfl, fun _ => rfl, by decide +kernel⟩
set_option maxRecDepth 100000 in
theorem w_To_13 : Cond.fieldLink "WordChain$Tokens" 13 "WordChain$Tokens" "characters" "[I" ∈ sv_tbl := (sv_at 277 rfl rfl)
set_option maxRecDepth 100000 in
theorem fg_To_13 : sv_FL "WordChain$Tokens" 13 4 0 := ⟨R_To, F_To, 4, rfl, by decide, i_To, w_To_13⟩
set_option maxRecDepth 100000 in
theorem fp_To_13 : sv_FP "WordChain$Tokens" 13 4 0 (.array .int) true := ⟨R_To, F_To, 4, t_To, rfl, by decide, i_To, w_To_13, t_To_ok, n_To, rfl, fun _ => rfl, by decide +kernel⟩
set_option maxRecDepth 100000 in
theorem w_X_116 : Cond.fieldLink "WordChain" 116 "WordChain$Tokens" "characters" "[I" ∈ sv_tbl := (sv_at 278 rfl rfl)
set_option maxRecDepth 100000 in
theorem fg_X_116 : sv_FL "WordChain" 116 4 0 := ⟨R_To, F_To, 4, rfl, by decide, i_To, w_X_116⟩
set_option maxRecDepth 100000 in
theorem w_To_17 : Cond.fieldLink "WordChain$Tokens" 17 "WordChain$Tokens" "positions" "[I" ∈ sv_tbl := (sv_at 279 rfl rfl)
set_option maxRecDepth 100000 in
theorem fg_To_17 : sv_FL "WordChain$Tokens" 17 4 1 := ⟨R_To, F_To, 4, rfl, by decide, i_To, w_To_17⟩
set_option maxRecDepth 100000 in
theorem fp_To_17 : sv_FP "WordChain$Tokens" 17 4 1 (.array .int) true := ⟨R_To, F_To, 4, t_To, rfl, by decide, i_To, w_To_17, t_To_ok, n_To, rfl, fun _ => rfl, by decide +kernel⟩
set_option maxRecDepth 100000 in
theorem w_X_107 : Cond.fieldLink "WordChain" 107 "WordChain$Tokens" "positions" "[I" ∈ sv_tbl := (sv_at 280 rfl rfl)
set_option maxRecDepth 100000 in
theorem fg_X_107 : sv_FL "WordChain" 107 4 1 := ⟨R_To, F_To, 4, rfl, by decide, i_To, w_X_107⟩
set_option maxRecDepth 100000 in
theorem w_To_20 : Cond.fieldLink "WordChain$Tokens" 20 "WordChain$Tokens" "starts" "[I" ∈ sv_tbl := (sv_at 281 rfl rfl)
set_option maxRecDepth 100000 in
theorem fg_To_20 : sv_FL "WordChain$Tokens" 20 4 2 := ⟨R_To, F_To, 4, rfl, by decide, i_To, w_To_20⟩
set_option maxRecDepth 100000 in
theorem fp_To_20 : sv_FP "WordChain$Tokens" 20 4 2 (.array .int) true := ⟨R_To, F_To, 4, t_To, rfl, by decide, i_To, w_To_20, t_To_ok, n_To, rfl, fun _ => rfl, by decide +kernel⟩
set_option maxRecDepth 100000 in
theorem w_X_119 : Cond.fieldLink "WordChain" 119 "WordChain$Tokens" "starts" "[I" ∈ sv_tbl := (sv_at 282 rfl rfl)
set_option maxRecDepth 100000 in
theorem fg_X_119 : sv_FL "WordChain" 119 4 2 := ⟨R_To, F_To, 4, rfl, by decide, i_To, w_X_119⟩
set_option maxRecDepth 100000 in
theorem w_To_7 : Cond.fieldLink "WordChain$Tokens" 7 "WordChain$Tokens" "size" "I" ∈ sv_tbl := (sv_at 283 rfl rfl)
set_option maxRecDepth 100000 in
theorem fg_To_7 : sv_FL "WordChain$Tokens" 7 4 3 := ⟨R_To, F_To, 4, rfl, by decide, i_To, w_To_7⟩
set_option maxRecDepth 100000 in
theorem fp_To_7 : sv_FP "WordChain$Tokens" 7 4 3 (.int) false := ⟨R_To, F_To, 4, t_To, rfl, by decide, i_To, w_To_7, t_To_ok, n_To, rfl, fun _ => rfl, by decide +kernel⟩
set_option maxRecDepth 100000 in
theorem w_X_93 : Cond.fieldLink "WordChain" 93 "WordChain$Tokens" "size" "I" ∈ sv_tbl := (sv_at 284 rfl rfl)
set_option maxRecDepth 100000 in
theorem fg_X_93 : sv_FL "WordChain" 93 4 3 := ⟨R_To, F_To, 4, rfl, by decide, i_To, w_X_93⟩
set_option maxRecDepth 100000 in
theorem fp_X_93 : sv_FP "WordChain" 93 4 3 (.int) false := ⟨R_To, F_To, 4, t_To, rfl, by decide, i_To, w_X_93, t_To_ok, n_To, rfl, (fun h => by cases h), by decide +kernel⟩
set_option maxRecDepth 100000 in
theorem w_X_9 : Cond.fieldLink "WordChain" 9 "WordChain" "input" "[B" ∈ sv_tbl := (sv_at 294 rfl rfl)
set_option maxRecDepth 100000 in
theorem fg_X_9 : sv_FL "WordChain" 9 6 0 := ⟨R_X, F_X, 7, rfl, by decide, i_X, w_X_9⟩
set_option maxRecDepth 100000 in
theorem fp_X_9 : sv_FP "WordChain" 9 6 0 (.array .byte) true := ⟨R_X, F_X, 7, t_X, rfl, by decide, i_X, w_X_9, t_X_ok, n_X, rfl, fun _ => rfl, by decide +kernel⟩
set_option maxRecDepth 100000 in
theorem w_X_13 : Cond.fieldLink "WordChain" 13 "WordChain" "inputLength" "I" ∈ sv_tbl := (sv_at 295 rfl rfl)
set_option maxRecDepth 100000 in
theorem fg_X_13 : sv_FL "WordChain" 13 6 1 := ⟨R_X, F_X, 7, rfl, by decide, i_X, w_X_13⟩
set_option maxRecDepth 100000 in
theorem fp_X_13 : sv_FP "WordChain" 13 6 1 (.int) false := ⟨R_X, F_X, 7, t_X, rfl, by decide, i_X, w_X_13, t_X_ok, n_X, rfl, fun _ => rfl, by decide +kernel⟩
set_option maxRecDepth 100000 in
theorem w_X_22 : Cond.fieldLink "WordChain" 22 "WordChain" "text" "LWordChain$Text;" ∈ sv_tbl := (sv_at 296 rfl rfl)
set_option maxRecDepth 100000 in
theorem fg_X_22 : sv_FL "WordChain" 22 6 2 := ⟨R_X, F_X, 7, rfl, by decide, i_X, w_X_22⟩
set_option maxRecDepth 100000 in
theorem fp_X_22 : sv_FP "WordChain" 22 6 2 (.object "WordChain$Text") true := ⟨R_X, F_X, 7, t_X, rfl, by decide, i_X, w_X_22, t_X_ok, n_X, rfl, fun _ => rfl, by decide +kernel⟩
set_option maxRecDepth 100000 in
theorem w_X_29 : Cond.fieldLink "WordChain" 29 "WordChain" "silentWords" "LWordChain$SilentWords;" ∈ sv_tbl := (sv_at 297 rfl rfl)
set_option maxRecDepth 100000 in
theorem fg_X_29 : sv_FL "WordChain" 29 6 3 := ⟨R_X, F_X, 7, rfl, by decide, i_X, w_X_29⟩
set_option maxRecDepth 100000 in
theorem fp_X_29 : sv_FP "WordChain" 29 6 3 (.object "WordChain$SilentWords") true := ⟨R_X, F_X, 7, t_X, rfl, by decide, i_X, w_X_29, t_X_ok, n_X, rfl, fun _ => rfl, by decide +kernel⟩
set_option maxRecDepth 100000 in
theorem w_X_36 : Cond.fieldLink "WordChain" 36 "WordChain" "stemmer" "LWordChain$Stemmer;" ∈ sv_tbl := (sv_at 298 rfl rfl)
set_option maxRecDepth 100000 in
theorem fg_X_36 : sv_FL "WordChain" 36 6 4 := ⟨R_X, F_X, 7, rfl, by decide, i_X, w_X_36⟩
set_option maxRecDepth 100000 in
theorem fp_X_36 : sv_FP "WordChain" 36 6 4 (.object "WordChain$Stemmer") true := ⟨R_X, F_X, 7, t_X, rfl, by decide, i_X, w_X_36, t_X_ok, n_X, rfl, fun _ => rfl, by decide +kernel⟩
set_option maxRecDepth 100000 in
theorem w_X_43 : Cond.fieldLink "WordChain" 43 "WordChain" "tokens" "LWordChain$Tokens;" ∈ sv_tbl := (sv_at 299 rfl rfl)
set_option maxRecDepth 100000 in
theorem fg_X_43 : sv_FL "WordChain" 43 6 5 := ⟨R_X, F_X, 7, rfl, by decide, i_X, w_X_43⟩
set_option maxRecDepth 100000 in
theorem fp_X_43 : sv_FP "WordChain" 43 6 5 (.object "WordChain$Tokens") true := ⟨R_X, F_X, 7, t_X, rfl, by decide, i_X, w_X_43, t_X_ok, n_X, rfl, fun _ => rfl, by decide +kernel⟩
set_option maxRecDepth 100000 in
theorem w_X_47 : Cond.fieldLink "WordChain" 47 "WordChain" "words" "I" ∈ sv_tbl := (sv_at 300 rfl rfl)
set_option maxRecDepth 100000 in
theorem fg_X_47 : sv_FL "WordChain" 47 6 6 := ⟨R_X, F_X, 7, rfl, by decide, i_X, w_X_47⟩
set_option maxRecDepth 100000 in
theorem fp_X_47 : sv_FP "WordChain" 47 6 6 (.int) false := ⟨R_X, F_X, 7, t_X, rfl, by decide, i_X, w_X_47, t_X_ok, n_X, rfl, fun _ => rfl, by decide +kernel⟩
set_option maxRecDepth 100000 in
theorem w_M_75 : Cond.fieldLink "WordChainModel" 75 "WordChainModel" "STOPS" "[Ljava/lang/String;" ∈ sv_tbl := (sv_at 773 rfl rfl)
set_option maxRecDepth 100000 in
theorem fg_M_75 : sv_FL "WordChainModel" 75 7 0 := ⟨R_M, F_M, 16, rfl, by decide, i_M, w_M_75⟩
set_option maxRecDepth 100000 in
theorem fp_M_75 : sv_FP "WordChainModel" 75 7 0 (.array (.object "java/lang/String")) true := ⟨R_M, F_M, 16, t_M, rfl, by decide, i_M, w_M_75, t_M_ok, n_M, rfl, fun _ => rfl, by decide +kernel⟩
set_option maxRecDepth 100000 in
theorem w_M_147 : Cond.fieldLink "WordChainModel" 147 "WordChainModel" "TWO" "[Ljava/lang/String;" ∈ sv_tbl := (sv_at 774 rfl rfl)
set_option maxRecDepth 100000 in
theorem fg_M_147 : sv_FL "WordChainModel" 147 7 1 := ⟨R_M, F_M, 16, rfl, by decide, i_M, w_M_147⟩
set_option maxRecDepth 100000 in
theorem fp_M_147 : sv_FP "WordChainModel" 147 7 1 (.array (.object "java/lang/String")) true := ⟨R_M, F_M, 16, t_M, rfl, by decide, i_M, w_M_147, t_M_ok, n_M, rfl, fun _ => rfl, by decide +kernel⟩
set_option maxRecDepth 100000 in
theorem w_M_166 : Cond.fieldLink "WordChainModel" 166 "WordChainModel" "THREE" "[Ljava/lang/String;" ∈ sv_tbl := (sv_at 775 rfl rfl)
set_option maxRecDepth 100000 in
theorem fg_M_166 : sv_FL "WordChainModel" 166 7 2 := ⟨R_M, F_M, 16, rfl, by decide, i_M, w_M_166⟩
set_option maxRecDepth 100000 in
theorem fp_M_166 : sv_FP "WordChainModel" 166 7 2 (.array (.object "java/lang/String")) true := ⟨R_M, F_M, 16, t_M, rfl, by decide, i_M, w_M_166, t_M_ok, n_M, rfl, fun _ => rfl, by decide +kernel⟩
set_option maxRecDepth 100000 in
theorem w_M_187 : Cond.fieldLink "WordChainModel" 187 "WordChainModel" "FOUR" "[Ljava/lang/String;" ∈ sv_tbl := (sv_at 776 rfl rfl)
set_option maxRecDepth 100000 in
theorem fg_M_187 : sv_FL "WordChainModel" 187 7 3 := ⟨R_M, F_M, 16, rfl, by decide, i_M, w_M_187⟩
set_option maxRecDepth 100000 in
theorem fp_M_187 : sv_FP "WordChainModel" 187 7 3 (.array (.object "java/lang/String")) true := ⟨R_M, F_M, 16, t_M, rfl, by decide, i_M, w_M_187, t_M_ok, n_M, rfl, fun _ => rfl, by decide +kernel⟩
set_option maxRecDepth 100000 in
theorem w_M_190 : Cond.fieldLink "WordChainModel" 190 "WordChainModel" "input" "[B" ∈ sv_tbl := (sv_at 777 rfl rfl)
set_option maxRecDepth 100000 in
theorem fg_M_190 : sv_FL "WordChainModel" 190 7 4 := ⟨R_M, F_M, 16, rfl, by decide, i_M, w_M_190⟩
set_option maxRecDepth 100000 in
theorem fp_M_190 : sv_FP "WordChainModel" 190 7 4 (.array .byte) true := ⟨R_M, F_M, 16, t_M, rfl, by decide, i_M, w_M_190, t_M_ok, n_M, rfl, fun _ => rfl, by decide +kernel⟩
set_option maxRecDepth 100000 in
theorem w_M_326 : Cond.fieldLink "WordChainModel" 326 "WordChainModel" "inputSize" "I" ∈ sv_tbl := (sv_at 778 rfl rfl)
set_option maxRecDepth 100000 in
theorem fg_M_326 : sv_FL "WordChainModel" 326 7 5 := ⟨R_M, F_M, 16, rfl, by decide, i_M, w_M_326⟩
set_option maxRecDepth 100000 in
theorem fp_M_326 : sv_FP "WordChainModel" 326 7 5 (.int) false := ⟨R_M, F_M, 16, t_M, rfl, by decide, i_M, w_M_326, t_M_ok, n_M, rfl, fun _ => rfl, by decide +kernel⟩
set_option maxRecDepth 100000 in
theorem w_M_210 : Cond.fieldLink "WordChainModel" 210 "WordChainModel" "thrown" "I" ∈ sv_tbl := (sv_at 779 rfl rfl)
set_option maxRecDepth 100000 in
theorem fg_M_210 : sv_FL "WordChainModel" 210 7 6 := ⟨R_M, F_M, 16, rfl, by decide, i_M, w_M_210⟩
set_option maxRecDepth 100000 in
theorem fp_M_210 : sv_FP "WordChainModel" 210 7 6 (.int) false := ⟨R_M, F_M, 16, t_M, rfl, by decide, i_M, w_M_210, t_M_ok, n_M, rfl, fun _ => rfl, by decide +kernel⟩
set_option maxRecDepth 100000 in
theorem w_M_194 : Cond.fieldLink "WordChainModel" 194 "WordChainModel" "chars" "[I" ∈ sv_tbl := (sv_at 780 rfl rfl)
set_option maxRecDepth 100000 in
theorem fg_M_194 : sv_FL "WordChainModel" 194 7 7 := ⟨R_M, F_M, 16, rfl, by decide, i_M, w_M_194⟩
set_option maxRecDepth 100000 in
theorem fp_M_194 : sv_FP "WordChainModel" 194 7 7 (.array .int) true := ⟨R_M, F_M, 16, t_M, rfl, by decide, i_M, w_M_194, t_M_ok, n_M, rfl, fun _ => rfl, by decide +kernel⟩
set_option maxRecDepth 100000 in
theorem w_M_218 : Cond.fieldLink "WordChainModel" 218 "WordChainModel" "charMany" "I" ∈ sv_tbl := (sv_at 781 rfl rfl)
set_option maxRecDepth 100000 in
theorem fg_M_218 : sv_FL "WordChainModel" 218 7 8 := ⟨R_M, F_M, 16, rfl, by decide, i_M, w_M_218⟩
set_option maxRecDepth 100000 in
theorem fp_M_218 : sv_FP "WordChainModel" 218 7 8 (.int) false := ⟨R_M, F_M, 16, t_M, rfl, by decide, i_M, w_M_218, t_M_ok, n_M, rfl, fun _ => rfl, by decide +kernel⟩
set_option maxRecDepth 100000 in
theorem w_M_198 : Cond.fieldLink "WordChainModel" 198 "WordChainModel" "cutChars" "[I" ∈ sv_tbl := (sv_at 782 rfl rfl)
set_option maxRecDepth 100000 in
theorem fg_M_198 : sv_FL "WordChainModel" 198 7 9 := ⟨R_M, F_M, 16, rfl, by decide, i_M, w_M_198⟩
set_option maxRecDepth 100000 in
theorem fp_M_198 : sv_FP "WordChainModel" 198 7 9 (.array .int) true := ⟨R_M, F_M, 16, t_M, rfl, by decide, i_M, w_M_198, t_M_ok, n_M, rfl, fun _ => rfl, by decide +kernel⟩
set_option maxRecDepth 100000 in
theorem w_M_201 : Cond.fieldLink "WordChainModel" 201 "WordChainModel" "cutAt" "[I" ∈ sv_tbl := (sv_at 783 rfl rfl)
set_option maxRecDepth 100000 in
theorem fg_M_201 : sv_FL "WordChainModel" 201 7 10 := ⟨R_M, F_M, 16, rfl, by decide, i_M, w_M_201⟩
set_option maxRecDepth 100000 in
theorem fp_M_201 : sv_FP "WordChainModel" 201 7 10 (.array .int) true := ⟨R_M, F_M, 16, t_M, rfl, by decide, i_M, w_M_201, t_M_ok, n_M, rfl, fun _ => rfl, by decide +kernel⟩
set_option maxRecDepth 100000 in
theorem w_M_204 : Cond.fieldLink "WordChainModel" 204 "WordChainModel" "cutPosition" "[I" ∈ sv_tbl := (sv_at 784 rfl rfl)
set_option maxRecDepth 100000 in
theorem fg_M_204 : sv_FL "WordChainModel" 204 7 11 := ⟨R_M, F_M, 16, rfl, by decide, i_M, w_M_204⟩
set_option maxRecDepth 100000 in
theorem fp_M_204 : sv_FP "WordChainModel" 204 7 11 (.array .int) true := ⟨R_M, F_M, 16, t_M, rfl, by decide, i_M, w_M_204, t_M_ok, n_M, rfl, fun _ => rfl, by decide +kernel⟩
set_option maxRecDepth 100000 in
theorem w_M_234 : Cond.fieldLink "WordChainModel" 234 "WordChainModel" "cutMany" "I" ∈ sv_tbl := (sv_at 785 rfl rfl)
set_option maxRecDepth 100000 in
theorem fg_M_234 : sv_FL "WordChainModel" 234 7 12 := ⟨R_M, F_M, 16, rfl, by decide, i_M, w_M_234⟩
set_option maxRecDepth 100000 in
theorem fp_M_234 : sv_FP "WordChainModel" 234 7 12 (.int) false := ⟨R_M, F_M, 16, t_M, rfl, by decide, i_M, w_M_234, t_M_ok, n_M, rfl, fun _ => rfl, by decide +kernel⟩
set_option maxRecDepth 100000 in
theorem w_M_237 : Cond.fieldLink "WordChainModel" 237 "WordChainModel" "cutWords" "I" ∈ sv_tbl := (sv_at 786 rfl rfl)
set_option maxRecDepth 100000 in
theorem fg_M_237 : sv_FL "WordChainModel" 237 7 13 := ⟨R_M, F_M, 16, rfl, by decide, i_M, w_M_237⟩
set_option maxRecDepth 100000 in
theorem fp_M_237 : sv_FP "WordChainModel" 237 7 13 (.int) false := ⟨R_M, F_M, 16, t_M, rfl, by decide, i_M, w_M_237, t_M_ok, n_M, rfl, fun _ => rfl, by decide +kernel⟩
set_option maxRecDepth 100000 in
theorem w_M_207 : Cond.fieldLink "WordChainModel" 207 "WordChainModel" "word" "[I" ∈ sv_tbl := (sv_at 787 rfl rfl)
set_option maxRecDepth 100000 in
theorem fg_M_207 : sv_FL "WordChainModel" 207 7 14 := ⟨R_M, F_M, 16, rfl, by decide, i_M, w_M_207⟩
set_option maxRecDepth 100000 in
theorem fp_M_207 : sv_FP "WordChainModel" 207 7 14 (.array .int) true := ⟨R_M, F_M, 16, t_M, rfl, by decide, i_M, w_M_207, t_M_ok, n_M, rfl, fun _ => rfl, by decide +kernel⟩
set_option maxRecDepth 100000 in
theorem w_M_254 : Cond.fieldLink "WordChainModel" 254 "WordChainModel" "wordMany" "I" ∈ sv_tbl := (sv_at 788 rfl rfl)
set_option maxRecDepth 100000 in
theorem fg_M_254 : sv_FL "WordChainModel" 254 7 15 := ⟨R_M, F_M, 16, rfl, by decide, i_M, w_M_254⟩
set_option maxRecDepth 100000 in
theorem fp_M_254 : sv_FP "WordChainModel" 254 7 15 (.int) false := ⟨R_M, F_M, 16, t_M, rfl, by decide, i_M, w_M_254, t_M_ok, n_M, rfl, fun _ => rfl, by decide +kernel⟩
set_option maxRecDepth 100000 in
theorem lk_L_36 : sv_LK 2 "WordChainLaw" 36 y_X_init b_X_init 1 none 0 := ⟨(sv_at 62 rfl rfl), (sv_at 64 rfl rfl), (sv_at 38 rfl rfl), by decide +kernel, ⟨rfl, (sv_at 63 rfl rfl)⟩⟩
set_option maxRecDepth 100000 in
theorem lk_X_19 : sv_LK 2 "WordChain" 19 y_Te_init b_Te_init 2 none 1 := ⟨(sv_at 70 rfl rfl), (sv_at 72 rfl rfl), (sv_at 39 rfl rfl), by decide +kernel, ⟨rfl, (sv_at 71 rfl rfl)⟩⟩
set_option maxRecDepth 100000 in
theorem lk_X_28 : sv_LK 2 "WordChain" 28 y_Si_init b_Si_init 4 none 0 := ⟨(sv_at 87 rfl rfl), (sv_at 89 rfl rfl), (sv_at 40 rfl rfl), by decide +kernel, ⟨rfl, (sv_at 88 rfl rfl)⟩⟩
set_option maxRecDepth 100000 in
theorem lk_Si_15 : sv_LK 0 "WordChain$SilentWords" 15 y_Str_length b_Str_length 1 (some (.int)) 0 := ⟨(sv_at 92 rfl rfl), (sv_at 95 rfl rfl), (sv_at 41 rfl rfl), by decide +kernel, ⟨(sv_at 93 rfl rfl), (sv_at 94 rfl rfl)⟩⟩
set_option maxRecDepth 100000 in
theorem lk_Str_335 : sv_LK 0 "java/lang/String" 335 y_Str_coder b_Str_coder 1 (some (.byte)) 0 := ⟨(sv_at 96 rfl rfl), (sv_at 99 rfl rfl), (sv_at 41 rfl rfl), by decide +kernel, ⟨(sv_at 97 rfl rfl), (sv_at 98 rfl rfl)⟩⟩
set_option maxRecDepth 100000 in
theorem lk_Si_21 : sv_LK 0 "WordChain$SilentWords" 21 y_Str_charAt b_Str_charAt 2 (some (.char)) 1 := ⟨(sv_at 102 rfl rfl), (sv_at 105 rfl rfl), (sv_at 41 rfl rfl), by decide +kernel, ⟨(sv_at 103 rfl rfl), (sv_at 104 rfl rfl)⟩⟩
set_option maxRecDepth 100000 in
theorem lk_Str_492 : sv_LK 0 "java/lang/String" 492 y_Str_isLatin1 b_Str_isLatin1 1 (some (.boolean)) 0 := ⟨(sv_at 106 rfl rfl), (sv_at 109 rfl rfl), (sv_at 41 rfl rfl), by decide +kernel, ⟨(sv_at 107 rfl rfl), (sv_at 108 rfl rfl)⟩⟩
set_option maxRecDepth 100000 in
theorem lk_Str_495 : sv_LK 1 "java/lang/String" 495 y_Lat_charAt b_Lat_charAt 2 (some (.char)) 2 := ⟨(sv_at 110 rfl rfl), (sv_at 112 rfl rfl), (sv_at 42 rfl rfl), by decide +kernel, (sv_at 111 rfl rfl)⟩
set_option maxRecDepth 100000 in
theorem lk_Lat_9 : sv_LK 1 "java/lang/StringLatin1" 9 y_Str_checkIndex b_Str_checkIndex 2 none 2 := ⟨(sv_at 113 rfl rfl), (sv_at 115 rfl rfl), (sv_at 41 rfl rfl), by decide +kernel, (sv_at 114 rfl rfl)⟩
set_option maxRecDepth 100000 in
theorem lk_Str_1059 : sv_LK 1 "java/lang/String" 1059 y_Pre_checkIndex b_Pre_checkIndex 3 (some (.int)) 3 := ⟨(sv_at 118 rfl rfl), (sv_at 120 rfl rfl), (sv_at 43 rfl rfl), by decide +kernel, (sv_at 119 rfl rfl)⟩
set_option maxRecDepth 100000 in
theorem lk_Str_498 : sv_LK 1 "java/lang/String" 498 y_U16_charAt b_U16_charAt 2 (some (.char)) 2 := ⟨(sv_at 121 rfl rfl), (sv_at 123 rfl rfl), (sv_at 44 rfl rfl), by decide +kernel, (sv_at 122 rfl rfl)⟩
set_option maxRecDepth 100000 in
theorem lk_U16_67 : sv_LK 1 "java/lang/StringUTF16" 67 y_U16_checkIndex b_U16_checkIndex 2 none 2 := ⟨(sv_at 124 rfl rfl), (sv_at 126 rfl rfl), (sv_at 44 rfl rfl), by decide +kernel, (sv_at 125 rfl rfl)⟩
set_option maxRecDepth 100000 in
theorem lk_U16_48 : sv_LK 1 "java/lang/StringUTF16" 48 y_U16_length b_U16_length 1 (some (.int)) 1 := ⟨(sv_at 127 rfl rfl), (sv_at 129 rfl rfl), (sv_at 44 rfl rfl), by decide +kernel, (sv_at 128 rfl rfl)⟩
set_option maxRecDepth 100000 in
theorem lk_U16_414 : sv_LK 1 "java/lang/StringUTF16" 414 y_Str_checkIndex b_Str_checkIndex 2 none 2 := ⟨(sv_at 130 rfl rfl), (sv_at 115 rfl rfl), (sv_at 41 rfl rfl), by decide +kernel, (sv_at 114 rfl rfl)⟩
set_option maxRecDepth 100000 in
theorem lk_U16_71 : sv_LK 1 "java/lang/StringUTF16" 71 y_U16_getChar b_U16_getChar 2 (some (.char)) 2 := ⟨(sv_at 131 rfl rfl), (sv_at 133 rfl rfl), (sv_at 44 rfl rfl), by decide +kernel, (sv_at 132 rfl rfl)⟩
set_option maxRecDepth 100000 in
theorem lk_Si_25 : sv_LK 1 "WordChain$SilentWords" 25 y_Si_withLetter b_Si_withLetter 2 (some (.int)) 2 := ⟨(sv_at 140 rfl rfl), (sv_at 142 rfl rfl), (sv_at 40 rfl rfl), by decide +kernel, (sv_at 141 rfl rfl)⟩
set_option maxRecDepth 100000 in
theorem lk_X_35 : sv_LK 2 "WordChain" 35 y_Sm_init b_Sm_init 2 none 1 := ⟨(sv_at 149 rfl rfl), (sv_at 151 rfl rfl), (sv_at 45 rfl rfl), by decide +kernel, ⟨rfl, (sv_at 150 rfl rfl)⟩⟩
set_option maxRecDepth 100000 in
theorem lk_Sm_13 : sv_LK 2 "WordChain$Stemmer" 13 y_En_init b_En_init 3 none 2 := ⟨(sv_at 158 rfl rfl), (sv_at 160 rfl rfl), (sv_at 46 rfl rfl), by decide +kernel, ⟨rfl, (sv_at 159 rfl rfl)⟩⟩
set_option maxRecDepth 100000 in
theorem lk_Sm_150 : sv_LK 2 "WordChain$Stemmer" 150 y_Wo_init b_Wo_init 2 none 1 := ⟨(sv_at 230 rfl rfl), (sv_at 232 rfl rfl), (sv_at 47 rfl rfl), by decide +kernel, ⟨rfl, (sv_at 231 rfl rfl)⟩⟩
set_option maxRecDepth 100000 in
theorem lk_X_42 : sv_LK 2 "WordChain" 42 y_To_init b_To_init 2 none 1 := ⟨(sv_at 273 rfl rfl), (sv_at 275 rfl rfl), (sv_at 48 rfl rfl), by decide +kernel, ⟨rfl, (sv_at 274 rfl rfl)⟩⟩
set_option maxRecDepth 100000 in
theorem lk_L_54 : sv_LK 0 "WordChainLaw" 54 y_X_cut b_X_cut 3 (some (.int)) 0 := ⟨(sv_at 316 rfl rfl), (sv_at 319 rfl rfl), (sv_at 38 rfl rfl), by decide +kernel, ⟨(sv_at 317 rfl rfl), (sv_at 318 rfl rfl)⟩⟩
set_option maxRecDepth 100000 in
theorem lk_X_65 : sv_LK 0 "WordChain" 65 y_Te_read b_Te_read 5 none 2 := ⟨(sv_at 320 rfl rfl), (sv_at 323 rfl rfl), (sv_at 39 rfl rfl), by decide +kernel, ⟨(sv_at 321 rfl rfl), (sv_at 322 rfl rfl)⟩⟩
set_option maxRecDepth 100000 in
theorem lk_Te_17 : sv_LK 1 "WordChain$Text" 17 y_Ut_sizeAt b_Ut_sizeAt 6 (some (.int)) 3 := ⟨(sv_at 324 rfl rfl), (sv_at 326 rfl rfl), (sv_at 55 rfl rfl), by decide +kernel, (sv_at 325 rfl rfl)⟩
set_option maxRecDepth 100000 in
theorem lk_Ut_7 : sv_LK 1 "WordChain$Utf8" 7 y_Ut_sizeByLead b_Ut_sizeByLead 1 (some (.int)) 1 := ⟨(sv_at 327 rfl rfl), (sv_at 329 rfl rfl), (sv_at 55 rfl rfl), by decide +kernel, (sv_at 328 rfl rfl)⟩
set_option maxRecDepth 100000 in
theorem lk_Ut_13 : sv_LK 1 "WordChain$Utf8" 13 y_Ut_isSecond b_Ut_isSecond 4 (some (.boolean)) 2 := ⟨(sv_at 330 rfl rfl), (sv_at 332 rfl rfl), (sv_at 55 rfl rfl), by decide +kernel, (sv_at 331 rfl rfl)⟩
set_option maxRecDepth 100000 in
theorem lk_Te_24 : sv_LK 1 "WordChain$Text" 24 y_Ut_valueAt b_Ut_valueAt 5 (some (.int)) 3 := ⟨(sv_at 334 rfl rfl), (sv_at 336 rfl rfl), (sv_at 55 rfl rfl), by decide +kernel, (sv_at 335 rfl rfl)⟩
set_option maxRecDepth 100000 in
theorem lk_X_69 : sv_LK 0 "WordChain" 69 y_To_clear b_To_clear 1 none 0 := ⟨(sv_at 340 rfl rfl), (sv_at 343 rfl rfl), (sv_at 48 rfl rfl), by decide +kernel, ⟨(sv_at 341 rfl rfl), (sv_at 342 rfl rfl)⟩⟩
set_option maxRecDepth 100000 in
theorem lk_X_75 : sv_LK 0 "WordChain" 75 y_Te_spanEnd b_Te_spanEnd 3 (some (.int)) 1 := ⟨(sv_at 344 rfl rfl), (sv_at 347 rfl rfl), (sv_at 39 rfl rfl), by decide +kernel, ⟨(sv_at 345 rfl rfl), (sv_at 346 rfl rfl)⟩⟩
set_option maxRecDepth 100000 in
theorem lk_Te_33 : sv_LK 0 "WordChain$Text" 33 y_Te_sortAt b_Te_sortAt 2 (some (.int)) 1 := ⟨(sv_at 348 rfl rfl), (sv_at 351 rfl rfl), (sv_at 39 rfl rfl), by decide +kernel, ⟨(sv_at 350 rfl rfl), (sv_at 0 rfl rfl)⟩⟩
set_option maxRecDepth 100000 in
theorem lk_Te_50 : sv_LK 1 "WordChain$Text" 50 y_So_of b_So_of 1 (some (.int)) 1 := ⟨(sv_at 352 rfl rfl), (sv_at 354 rfl rfl), (sv_at 57 rfl rfl), by decide +kernel, (sv_at 353 rfl rfl)⟩
set_option maxRecDepth 100000 in
theorem lk_So_7 : sv_LK 1 "WordChain$Sorts" 7 y_So_isLetter b_So_isLetter 1 (some (.boolean)) 1 := ⟨(sv_at 355 rfl rfl), (sv_at 357 rfl rfl), (sv_at 57 rfl rfl), by decide +kernel, (sv_at 356 rfl rfl)⟩
set_option maxRecDepth 100000 in
theorem lk_Te_37 : sv_LK 1 "WordChain$Text" 37 y_So_isInner b_So_isInner 1 (some (.boolean)) 1 := ⟨(sv_at 359 rfl rfl), (sv_at 361 rfl rfl), (sv_at 57 rfl rfl), by decide +kernel, (sv_at 360 rfl rfl)⟩
set_option maxRecDepth 100000 in
theorem lk_Te_43 : sv_LK 0 "WordChain$Text" 43 y_Te_isTie b_Te_isTie 3 (some (.boolean)) 1 := ⟨(sv_at 362 rfl rfl), (sv_at 365 rfl rfl), (sv_at 39 rfl rfl), by decide +kernel, ⟨(sv_at 364 rfl rfl), (sv_at 1 rfl rfl)⟩⟩
set_option maxRecDepth 100000 in
theorem lk_Te_46 : sv_LK 1 "WordChain$Text" 46 y_So_ties b_So_ties 2 (some (.boolean)) 2 := ⟨(sv_at 366 rfl rfl), (sv_at 368 rfl rfl), (sv_at 57 rfl rfl), by decide +kernel, (sv_at 367 rfl rfl)⟩
set_option maxRecDepth 100000 in
theorem lk_X_79 : sv_LK 0 "WordChain" 79 y_Te_isWord b_Te_isWord 5 (some (.boolean)) 2 := ⟨(sv_at 369 rfl rfl), (sv_at 372 rfl rfl), (sv_at 39 rfl rfl), by decide +kernel, ⟨(sv_at 370 rfl rfl), (sv_at 371 rfl rfl)⟩⟩
set_option maxRecDepth 100000 in
theorem lk_X_83 : sv_LK 0 "WordChain" 83 y_X_takeWords b_X_takeWords 5 none 2 := ⟨(sv_at 373 rfl rfl), (sv_at 376 rfl rfl), (sv_at 38 rfl rfl), by decide +kernel, ⟨(sv_at 375 rfl rfl), (sv_at 2 rfl rfl)⟩⟩
set_option maxRecDepth 100000 in
theorem lk_X_141 : sv_LK 0 "WordChain" 141 y_Wo_take b_Wo_take 4 none 3 := ⟨(sv_at 380 rfl rfl), (sv_at 383 rfl rfl), (sv_at 47 rfl rfl), by decide +kernel, ⟨(sv_at 381 rfl rfl), (sv_at 382 rfl rfl)⟩⟩
set_option maxRecDepth 100000 in
theorem lk_X_147 : sv_LK 0 "WordChain" 147 y_Wo_dropOwnersEnding b_Wo_dropOwnersEnding 3 none 0 := ⟨(sv_at 387 rfl rfl), (sv_at 390 rfl rfl), (sv_at 47 rfl rfl), by decide +kernel, ⟨(sv_at 388 rfl rfl), (sv_at 389 rfl rfl)⟩⟩
set_option maxRecDepth 100000 in
theorem lk_X_150 : sv_LK 0 "WordChain" 150 y_Wo_lower b_Wo_lower 2 none 0 := ⟨(sv_at 391 rfl rfl), (sv_at 394 rfl rfl), (sv_at 47 rfl rfl), by decide +kernel, ⟨(sv_at 392 rfl rfl), (sv_at 393 rfl rfl)⟩⟩
set_option maxRecDepth 100000 in
theorem lk_Wo_23 : sv_LK 1 "WordChain$Word" 23 y_Wo_lowered b_Wo_lowered 1 (some (.int)) 1 := ⟨(sv_at 395 rfl rfl), (sv_at 397 rfl rfl), (sv_at 47 rfl rfl), by decide +kernel, (sv_at 396 rfl rfl)⟩
set_option maxRecDepth 100000 in
theorem lk_X_153 : sv_LK 0 "WordChain" 153 y_Si_have b_Si_have 4 (some (.boolean)) 1 := ⟨(sv_at 398 rfl rfl), (sv_at 401 rfl rfl), (sv_at 40 rfl rfl), by decide +kernel, ⟨(sv_at 399 rfl rfl), (sv_at 400 rfl rfl)⟩⟩
set_option maxRecDepth 100000 in
theorem lk_Si_34 : sv_LK 0 "WordChain$SilentWords" 34 y_Wo_isSmallLetters b_Wo_isSmallLetters 2 (some (.boolean)) 0 := ⟨(sv_at 402 rfl rfl), (sv_at 405 rfl rfl), (sv_at 47 rfl rfl), by decide +kernel, ⟨(sv_at 403 rfl rfl), (sv_at 404 rfl rfl)⟩⟩
set_option maxRecDepth 100000 in
theorem lk_X_157 : sv_LK 0 "WordChain" 157 y_Sm_stemIfFit b_Sm_stemIfFit 1 none 0 := ⟨(sv_at 406 rfl rfl), (sv_at 409 rfl rfl), (sv_at 45 rfl rfl), by decide +kernel, ⟨(sv_at 407 rfl rfl), (sv_at 408 rfl rfl)⟩⟩
set_option maxRecDepth 100000 in
theorem lk_Sm_165 : sv_LK 0 "WordChain$Stemmer" 165 y_Wo_isSmallLetters b_Wo_isSmallLetters 2 (some (.boolean)) 0 := ⟨(sv_at 410 rfl rfl), (sv_at 405 rfl rfl), (sv_at 47 rfl rfl), by decide +kernel, ⟨(sv_at 403 rfl rfl), (sv_at 404 rfl rfl)⟩⟩
set_option maxRecDepth 100000 in
theorem lk_Sm_169 : sv_LK 0 "WordChain$Stemmer" 169 y_Sm_markVowels b_Sm_markVowels 4 none 0 := ⟨(sv_at 411 rfl rfl), (sv_at 414 rfl rfl), (sv_at 45 rfl rfl), by decide +kernel, ⟨(sv_at 413 rfl rfl), (sv_at 3 rfl rfl)⟩⟩
set_option maxRecDepth 100000 in
theorem lk_Sm_172 : sv_LK 0 "WordChain$Stemmer" 172 y_Sm_step1a b_Sm_step1a 2 none 0 := ⟨(sv_at 415 rfl rfl), (sv_at 418 rfl rfl), (sv_at 45 rfl rfl), by decide +kernel, ⟨(sv_at 417 rfl rfl), (sv_at 4 rfl rfl)⟩⟩
set_option maxRecDepth 100000 in
theorem lk_Sm_194 : sv_LK 0 "WordChain$Stemmer" 194 y_Sm_longest b_Sm_longest 6 (some (.object "WordChain$Ending")) 1 := ⟨(sv_at 419 rfl rfl), (sv_at 422 rfl rfl), (sv_at 45 rfl rfl), by decide +kernel, ⟨(sv_at 421 rfl rfl), (sv_at 5 rfl rfl)⟩⟩
set_option maxRecDepth 100000 in
theorem lk_Sm_256 : sv_LK 0 "WordChain$Stemmer" 256 y_Str_length b_Str_length 1 (some (.int)) 0 := ⟨(sv_at 423 rfl rfl), (sv_at 95 rfl rfl), (sv_at 41 rfl rfl), by decide +kernel, ⟨(sv_at 93 rfl rfl), (sv_at 94 rfl rfl)⟩⟩
set_option maxRecDepth 100000 in
theorem lk_Sm_232 : sv_LK 0 "WordChain$Stemmer" 232 y_Wo_endsWith b_Wo_endsWith 4 (some (.boolean)) 1 := ⟨(sv_at 424 rfl rfl), (sv_at 427 rfl rfl), (sv_at 47 rfl rfl), by decide +kernel, ⟨(sv_at 425 rfl rfl), (sv_at 426 rfl rfl)⟩⟩
set_option maxRecDepth 100000 in
theorem lk_Wo_27 : sv_LK 0 "WordChain$Word" 27 y_Str_length b_Str_length 1 (some (.int)) 0 := ⟨(sv_at 428 rfl rfl), (sv_at 95 rfl rfl), (sv_at 41 rfl rfl), by decide +kernel, ⟨(sv_at 93 rfl rfl), (sv_at 94 rfl rfl)⟩⟩
set_option maxRecDepth 100000 in
theorem lk_Wo_32 : sv_LK 0 "WordChain$Word" 32 y_Str_charAt b_Str_charAt 2 (some (.char)) 1 := ⟨(sv_at 429 rfl rfl), (sv_at 105 rfl rfl), (sv_at 41 rfl rfl), by decide +kernel, ⟨(sv_at 103 rfl rfl), (sv_at 104 rfl rfl)⟩⟩
set_option maxRecDepth 100000 in
theorem lk_Sm_198 : sv_LK 0 "WordChain$Stemmer" 198 y_Sm_stemBefore b_Sm_stemBefore 2 (some (.int)) 1 := ⟨(sv_at 430 rfl rfl), (sv_at 433 rfl rfl), (sv_at 45 rfl rfl), by decide +kernel, ⟨(sv_at 432 rfl rfl), (sv_at 6 rfl rfl)⟩⟩
set_option maxRecDepth 100000 in
theorem lk_Sm_206 : sv_LK 0 "WordChain$Stemmer" 206 y_Sm_become b_Sm_become 3 none 2 := ⟨(sv_at 434 rfl rfl), (sv_at 437 rfl rfl), (sv_at 45 rfl rfl), by decide +kernel, ⟨(sv_at 436 rfl rfl), (sv_at 7 rfl rfl)⟩⟩
set_option maxRecDepth 100000 in
theorem lk_Sm_259 : sv_LK 0 "WordChain$Stemmer" 259 y_Wo_append b_Wo_append 3 none 1 := ⟨(sv_at 438 rfl rfl), (sv_at 441 rfl rfl), (sv_at 47 rfl rfl), by decide +kernel, ⟨(sv_at 439 rfl rfl), (sv_at 440 rfl rfl)⟩⟩
set_option maxRecDepth 100000 in
theorem lk_Sm_175 : sv_LK 0 "WordChain$Stemmer" 175 y_Sm_step1b b_Sm_step1b 3 none 0 := ⟨(sv_at 442 rfl rfl), (sv_at 445 rfl rfl), (sv_at 45 rfl rfl), by decide +kernel, ⟨(sv_at 444 rfl rfl), (sv_at 8 rfl rfl)⟩⟩
set_option maxRecDepth 100000 in
theorem lk_Sm_213 : sv_LK 0 "WordChain$Stemmer" 213 y_Str_equals b_Str_equals 3 (some (.boolean)) 1 := ⟨(sv_at 446 rfl rfl), (sv_at 449 rfl rfl), (sv_at 41 rfl rfl), by decide +kernel, ⟨(sv_at 447 rfl rfl), (sv_at 448 rfl rfl)⟩⟩
set_option maxRecDepth 100000 in
theorem lk_Str_541 : sv_LK 1 "java/lang/String" 541 y_Lat_equals b_Lat_equals 3 (some (.boolean)) 2 := ⟨(sv_at 451 rfl rfl), (sv_at 453 rfl rfl), (sv_at 42 rfl rfl), by decide +kernel, (sv_at 452 rfl rfl)⟩
set_option maxRecDepth 100000 in
theorem lk_Sm_219 : sv_LK 0 "WordChain$Stemmer" 219 y_Sm_measure b_Sm_measure 4 (some (.int)) 1 := ⟨(sv_at 454 rfl rfl), (sv_at 457 rfl rfl), (sv_at 45 rfl rfl), by decide +kernel, ⟨(sv_at 456 rfl rfl), (sv_at 9 rfl rfl)⟩⟩
set_option maxRecDepth 100000 in
theorem lk_Sm_223 : sv_LK 0 "WordChain$Stemmer" 223 y_Sm_hasVowel b_Sm_hasVowel 3 (some (.boolean)) 1 := ⟨(sv_at 458 rfl rfl), (sv_at 461 rfl rfl), (sv_at 45 rfl rfl), by decide +kernel, ⟨(sv_at 460 rfl rfl), (sv_at 10 rfl rfl)⟩⟩
set_option maxRecDepth 100000 in
theorem lk_Sm_227 : sv_LK 0 "WordChain$Stemmer" 227 y_Sm_mendAfter1b b_Sm_mendAfter1b 1 none 0 := ⟨(sv_at 462 rfl rfl), (sv_at 465 rfl rfl), (sv_at 45 rfl rfl), by decide +kernel, ⟨(sv_at 464 rfl rfl), (sv_at 11 rfl rfl)⟩⟩
set_option maxRecDepth 100000 in
theorem lk_Sm_240 : sv_LK 0 "WordChain$Stemmer" 240 y_Sm_isDouble b_Sm_isDouble 2 (some (.boolean)) 0 := ⟨(sv_at 469 rfl rfl), (sv_at 472 rfl rfl), (sv_at 45 rfl rfl), by decide +kernel, ⟨(sv_at 471 rfl rfl), (sv_at 12 rfl rfl)⟩⟩
set_option maxRecDepth 100000 in
theorem lk_Sm_247 : sv_LK 0 "WordChain$Stemmer" 247 y_Sm_isCvc b_Sm_isCvc 3 (some (.boolean)) 1 := ⟨(sv_at 475 rfl rfl), (sv_at 478 rfl rfl), (sv_at 45 rfl rfl), by decide +kernel, ⟨(sv_at 477 rfl rfl), (sv_at 13 rfl rfl)⟩⟩
set_option maxRecDepth 100000 in
theorem lk_Sm_178 : sv_LK 0 "WordChain$Stemmer" 178 y_Sm_step1c b_Sm_step1c 2 none 0 := ⟨(sv_at 479 rfl rfl), (sv_at 482 rfl rfl), (sv_at 45 rfl rfl), by decide +kernel, ⟨(sv_at 481 rfl rfl), (sv_at 14 rfl rfl)⟩⟩
set_option maxRecDepth 100000 in
theorem lk_Sm_181 : sv_LK 0 "WordChain$Stemmer" 181 y_Sm_replaceIfAbove b_Sm_replaceIfAbove 4 none 2 := ⟨(sv_at 484 rfl rfl), (sv_at 487 rfl rfl), (sv_at 45 rfl rfl), by decide +kernel, ⟨(sv_at 486 rfl rfl), (sv_at 15 rfl rfl)⟩⟩
set_option maxRecDepth 100000 in
theorem lk_Sm_185 : sv_LK 0 "WordChain$Stemmer" 185 y_Sm_step4 b_Sm_step4 2 none 0 := ⟨(sv_at 488 rfl rfl), (sv_at 491 rfl rfl), (sv_at 45 rfl rfl), by decide +kernel, ⟨(sv_at 490 rfl rfl), (sv_at 16 rfl rfl)⟩⟩
set_option maxRecDepth 100000 in
theorem lk_Sm_188 : sv_LK 0 "WordChain$Stemmer" 188 y_Sm_step5a b_Sm_step5a 3 none 0 := ⟨(sv_at 493 rfl rfl), (sv_at 496 rfl rfl), (sv_at 45 rfl rfl), by decide +kernel, ⟨(sv_at 495 rfl rfl), (sv_at 17 rfl rfl)⟩⟩
set_option maxRecDepth 100000 in
theorem lk_Sm_191 : sv_LK 0 "WordChain$Stemmer" 191 y_Sm_step5b b_Sm_step5b 1 none 0 := ⟨(sv_at 497 rfl rfl), (sv_at 500 rfl rfl), (sv_at 45 rfl rfl), by decide +kernel, ⟨(sv_at 499 rfl rfl), (sv_at 18 rfl rfl)⟩⟩
set_option maxRecDepth 100000 in
theorem lk_X_160 : sv_LK 0 "WordChain" 160 y_To_add b_To_add 4 none 2 := ⟨(sv_at 502 rfl rfl), (sv_at 505 rfl rfl), (sv_at 48 rfl rfl), by decide +kernel, ⟨(sv_at 503 rfl rfl), (sv_at 504 rfl rfl)⟩⟩
set_option maxRecDepth 100000 in
theorem lk_L_71 : sv_LK 0 "WordChainLaw" 71 y_X_count b_X_count 2 (some (.int)) 1 := ⟨(sv_at 508 rfl rfl), (sv_at 511 rfl rfl), (sv_at 38 rfl rfl), by decide +kernel, ⟨(sv_at 509 rfl rfl), (sv_at 510 rfl rfl)⟩⟩
set_option maxRecDepth 100000 in
theorem lk_L_7 : sv_LK 0 "WordChainLaw" 7 y_X_feed b_X_feed 6 (some (.int)) 5 := ⟨(sv_at 516 rfl rfl), (sv_at 519 rfl rfl), (sv_at 38 rfl rfl), by decide +kernel, ⟨(sv_at 517 rfl rfl), (sv_at 518 rfl rfl)⟩⟩
set_option maxRecDepth 100000 in
theorem lk_X_57 : sv_LK 0 "WordChain" 57 y_X_append b_X_append 3 none 1 := ⟨(sv_at 587 rfl rfl), (sv_at 590 rfl rfl), (sv_at 38 rfl rfl), by decide +kernel, ⟨(sv_at 589 rfl rfl), (sv_at 20 rfl rfl)⟩⟩
set_option maxRecDepth 100000 in
theorem lk_L_15 : sv_LK 0 "WordChainLaw" 15 y_X_end b_X_end 2 (some (.int)) 1 := ⟨(sv_at 595 rfl rfl), (sv_at 598 rfl rfl), (sv_at 38 rfl rfl), by decide +kernel, ⟨(sv_at 596 rfl rfl), (sv_at 597 rfl rfl)⟩⟩
set_option maxRecDepth 100000 in
theorem lk_L_21 : sv_LK 0 "WordChainLaw" 21 y_X_token b_X_token 3 (some (.int)) 2 := ⟨(sv_at 619 rfl rfl), (sv_at 622 rfl rfl), (sv_at 38 rfl rfl), by decide +kernel, ⟨(sv_at 620 rfl rfl), (sv_at 621 rfl rfl)⟩⟩
set_option maxRecDepth 100000 in
theorem lk_X_98 : sv_LK 0 "WordChain" 98 y_To_has b_To_has 2 (some (.boolean)) 1 := ⟨(sv_at 624 rfl rfl), (sv_at 627 rfl rfl), (sv_at 48 rfl rfl), by decide +kernel, ⟨(sv_at 625 rfl rfl), (sv_at 626 rfl rfl)⟩⟩
set_option maxRecDepth 100000 in
theorem lk_X_111 : sv_LK 0 "WordChain" 111 y_To_lengthOf b_To_lengthOf 2 (some (.int)) 1 := ⟨(sv_at 644 rfl rfl), (sv_at 647 rfl rfl), (sv_at 48 rfl rfl), by decide +kernel, ⟨(sv_at 645 rfl rfl), (sv_at 646 rfl rfl)⟩⟩
set_option maxRecDepth 100000 in
theorem lk_L_27 : sv_LK 0 "WordChainLaw" 27 y_X_character b_X_character 3 (some (.int)) 2 := ⟨(sv_at 651 rfl rfl), (sv_at 654 rfl rfl), (sv_at 38 rfl rfl), by decide +kernel, ⟨(sv_at 652 rfl rfl), (sv_at 653 rfl rfl)⟩⟩
set_option maxRecDepth 100000 in
theorem lk_L_30 : sv_LK 0 "WordChainLaw" 30 y_X_first b_X_first 2 (some (.int)) 1 := ⟨(sv_at 659 rfl rfl), (sv_at 662 rfl rfl), (sv_at 38 rfl rfl), by decide +kernel, ⟨(sv_at 660 rfl rfl), (sv_at 661 rfl rfl)⟩⟩
set_option maxRecDepth 100000 in
theorem lk_X_122 : sv_LK 0 "WordChain" 122 y_To_firstLike b_To_firstLike 3 (some (.int)) 1 := ⟨(sv_at 663 rfl rfl), (sv_at 666 rfl rfl), (sv_at 48 rfl rfl), by decide +kernel, ⟨(sv_at 664 rfl rfl), (sv_at 665 rfl rfl)⟩⟩
set_option maxRecDepth 100000 in
theorem lk_To_35 : sv_LK 0 "WordChain$Tokens" 35 y_To_areAlike b_To_areAlike 5 (some (.boolean)) 2 := ⟨(sv_at 667 rfl rfl), (sv_at 670 rfl rfl), (sv_at 48 rfl rfl), by decide +kernel, ⟨(sv_at 669 rfl rfl), (sv_at 21 rfl rfl)⟩⟩
set_option maxRecDepth 100000 in
theorem lk_To_39 : sv_LK 0 "WordChain$Tokens" 39 y_To_lengthOf b_To_lengthOf 2 (some (.int)) 1 := ⟨(sv_at 671 rfl rfl), (sv_at 647 rfl rfl), (sv_at 48 rfl rfl), by decide +kernel, ⟨(sv_at 645 rfl rfl), (sv_at 646 rfl rfl)⟩⟩
set_option maxRecDepth 100000 in
theorem lk_L_33 : sv_LK 0 "WordChainLaw" 33 y_X_sort b_X_sort 2 (some (.int)) 1 := ⟨(sv_at 675 rfl rfl), (sv_at 678 rfl rfl), (sv_at 38 rfl rfl), by decide +kernel, ⟨(sv_at 676 rfl rfl), (sv_at 677 rfl rfl)⟩⟩
set_option maxRecDepth 100000 in
theorem lk_X_128 : sv_LK 1 "WordChain" 128 y_So_of b_So_of 1 (some (.int)) 1 := ⟨(sv_at 681 rfl rfl), (sv_at 354 rfl rfl), (sv_at 57 rfl rfl), by decide +kernel, (sv_at 353 rfl rfl)⟩
set_option maxRecDepth 100000 in
theorem lk_L_39 : sv_LK 2 "WordChainLaw" 39 y_M_init b_M_init 1 none 0 := ⟨(sv_at 684 rfl rfl), (sv_at 686 rfl rfl), (sv_at 49 rfl rfl), by decide +kernel, ⟨rfl, (sv_at 685 rfl rfl)⟩⟩
set_option maxRecDepth 100000 in
theorem lk_L_46 : sv_LK 0 "WordChainLaw" 46 y_M_thrown b_M_thrown 1 (some (.int)) 0 := ⟨(sv_at 822 rfl rfl), (sv_at 825 rfl rfl), (sv_at 49 rfl rfl), by decide +kernel, ⟨(sv_at 823 rfl rfl), (sv_at 824 rfl rfl)⟩⟩
set_option maxRecDepth 100000 in
theorem lk_L_45 : sv_LK 0 "WordChainLaw" 45 y_M_feed b_M_feed 8 (some (.int)) 5 := ⟨(sv_at 826 rfl rfl), (sv_at 829 rfl rfl), (sv_at 49 rfl rfl), by decide +kernel, ⟨(sv_at 827 rfl rfl), (sv_at 828 rfl rfl)⟩⟩
set_option maxRecDepth 100000 in
theorem lk_L_53 : sv_LK 0 "WordChainLaw" 53 y_M_end b_M_end 2 (some (.int)) 1 := ⟨(sv_at 830 rfl rfl), (sv_at 833 rfl rfl), (sv_at 49 rfl rfl), by decide +kernel, ⟨(sv_at 831 rfl rfl), (sv_at 832 rfl rfl)⟩⟩
set_option maxRecDepth 100000 in
theorem lk_L_57 : sv_LK 0 "WordChainLaw" 57 y_M_cut_v b_M_cut_v 1 (some (.int)) 0 := ⟨(sv_at 834 rfl rfl), (sv_at 837 rfl rfl), (sv_at 49 rfl rfl), by decide +kernel, ⟨(sv_at 835 rfl rfl), (sv_at 836 rfl rfl)⟩⟩
set_option maxRecDepth 100000 in
theorem lk_M_329 : sv_LK 0 "WordChainModel" 329 y_M_decode b_M_decode 7 none 3 := ⟨(sv_at 838 rfl rfl), (sv_at 841 rfl rfl), (sv_at 49 rfl rfl), by decide +kernel, ⟨(sv_at 840 rfl rfl), (sv_at 22 rfl rfl)⟩⟩
set_option maxRecDepth 100000 in
theorem lk_M_221 : sv_LK 1 "WordChainModel" 221 y_M_formed b_M_formed 7 (some (.int)) 3 := ⟨(sv_at 842 rfl rfl), (sv_at 844 rfl rfl), (sv_at 49 rfl rfl), by decide +kernel, (sv_at 843 rfl rfl)⟩
set_option maxRecDepth 100000 in
theorem lk_M_214 : sv_LK 1 "WordChainModel" 214 y_M_tail b_M_tail 1 (some (.boolean)) 1 := ⟨(sv_at 845 rfl rfl), (sv_at 847 rfl rfl), (sv_at 49 rfl rfl), by decide +kernel, (sv_at 846 rfl rfl)⟩
set_option maxRecDepth 100000 in
theorem lk_M_333 : sv_LK 0 "WordChainModel" 333 y_M_cut_aIII b_M_cut_aIII 10 none 3 := ⟨(sv_at 849 rfl rfl), (sv_at 852 rfl rfl), (sv_at 49 rfl rfl), by decide +kernel, ⟨(sv_at 851 rfl rfl), (sv_at 23 rfl rfl)⟩⟩
set_option maxRecDepth 100000 in
theorem lk_M_227 : sv_LK 1 "WordChainModel" 227 y_M_sortOf b_M_sortOf 1 (some (.int)) 1 := ⟨(sv_at 853 rfl rfl), (sv_at 855 rfl rfl), (sv_at 49 rfl rfl), by decide +kernel, (sv_at 854 rfl rfl)⟩
set_option maxRecDepth 100000 in
theorem lk_M_231 : sv_LK 1 "WordChainModel" 231 y_M_inWord b_M_inWord 1 (some (.boolean)) 1 := ⟨(sv_at 857 rfl rfl), (sv_at 859 rfl rfl), (sv_at 49 rfl rfl), by decide +kernel, (sv_at 858 rfl rfl)⟩
set_option maxRecDepth 100000 in
theorem lk_M_240 : sv_LK 1 "WordChainModel" 240 y_M_further b_M_further 6 (some (.int)) 3 := ⟨(sv_at 860 rfl rfl), (sv_at 862 rfl rfl), (sv_at 49 rfl rfl), by decide +kernel, (sv_at 861 rfl rfl)⟩
set_option maxRecDepth 100000 in
theorem lk_M_250 : sv_LK 0 "WordChainModel" 250 y_M_token_aIII b_M_token_aIII 10 none 3 := ⟨(sv_at 864 rfl rfl), (sv_at 867 rfl rfl), (sv_at 49 rfl rfl), by decide +kernel, ⟨(sv_at 866 rfl rfl), (sv_at 24 rfl rfl)⟩⟩
set_option maxRecDepth 100000 in
theorem lk_M_257 : sv_LK 1 "WordChainModel" 257 y_M_lowered b_M_lowered 1 (some (.int)) 1 := ⟨(sv_at 868 rfl rfl), (sv_at 870 rfl rfl), (sv_at 49 rfl rfl), by decide +kernel, (sv_at 869 rfl rfl)⟩
set_option maxRecDepth 100000 in
theorem lk_M_260 : sv_LK 0 "WordChainModel" 260 y_M_is b_M_is 2 (some (.boolean)) 1 := ⟨(sv_at 871 rfl rfl), (sv_at 874 rfl rfl), (sv_at 49 rfl rfl), by decide +kernel, ⟨(sv_at 873 rfl rfl), (sv_at 25 rfl rfl)⟩⟩
set_option maxRecDepth 100000 in
theorem lk_M_266 : sv_LK 0 "WordChainModel" 266 y_Str_length b_Str_length 1 (some (.int)) 0 := ⟨(sv_at 875 rfl rfl), (sv_at 95 rfl rfl), (sv_at 41 rfl rfl), by decide +kernel, ⟨(sv_at 93 rfl rfl), (sv_at 94 rfl rfl)⟩⟩
set_option maxRecDepth 100000 in
theorem lk_M_270 : sv_LK 0 "WordChainModel" 270 y_M_ends b_M_ends 3 (some (.boolean)) 1 := ⟨(sv_at 876 rfl rfl), (sv_at 879 rfl rfl), (sv_at 49 rfl rfl), by decide +kernel, ⟨(sv_at 878 rfl rfl), (sv_at 26 rfl rfl)⟩⟩
set_option maxRecDepth 100000 in
theorem lk_M_273 : sv_LK 0 "WordChainModel" 273 y_Str_charAt b_Str_charAt 2 (some (.char)) 1 := ⟨(sv_at 880 rfl rfl), (sv_at 105 rfl rfl), (sv_at 41 rfl rfl), by decide +kernel, ⟨(sv_at 103 rfl rfl), (sv_at 104 rfl rfl)⟩⟩
set_option maxRecDepth 100000 in
theorem lk_M_263 : sv_LK 0 "WordChainModel" 263 y_M_stem b_M_stem 4 none 0 := ⟨(sv_at 881 rfl rfl), (sv_at 884 rfl rfl), (sv_at 49 rfl rfl), by decide +kernel, ⟨(sv_at 883 rfl rfl), (sv_at 27 rfl rfl)⟩⟩
set_option maxRecDepth 100000 in
theorem lk_M_288 : sv_LK 0 "WordChainModel" 288 y_M_stemOneB b_M_stemOneB 3 none 0 := ⟨(sv_at 889 rfl rfl), (sv_at 892 rfl rfl), (sv_at 49 rfl rfl), by decide +kernel, ⟨(sv_at 891 rfl rfl), (sv_at 28 rfl rfl)⟩⟩
set_option maxRecDepth 100000 in
theorem lk_M_300 : sv_LK 0 "WordChainModel" 300 y_M_measure b_M_measure 4 (some (.int)) 1 := ⟨(sv_at 894 rfl rfl), (sv_at 897 rfl rfl), (sv_at 49 rfl rfl), by decide +kernel, ⟨(sv_at 896 rfl rfl), (sv_at 29 rfl rfl)⟩⟩
set_option maxRecDepth 100000 in
theorem lk_M_277 : sv_LK 0 "WordChainModel" 277 y_M_vowel b_M_vowel 5 (some (.boolean)) 1 := ⟨(sv_at 898 rfl rfl), (sv_at 901 rfl rfl), (sv_at 49 rfl rfl), by decide +kernel, ⟨(sv_at 900 rfl rfl), (sv_at 30 rfl rfl)⟩⟩
set_option maxRecDepth 100000 in
theorem lk_M_293 : sv_LK 0 "WordChainModel" 293 y_M_anyVowel b_M_anyVowel 3 (some (.boolean)) 1 := ⟨(sv_at 904 rfl rfl), (sv_at 907 rfl rfl), (sv_at 49 rfl rfl), by decide +kernel, ⟨(sv_at 906 rfl rfl), (sv_at 31 rfl rfl)⟩⟩
set_option maxRecDepth 100000 in
theorem lk_M_303 : sv_LK 0 "WordChainModel" 303 y_M_instead b_M_instead 4 none 2 := ⟨(sv_at 910 rfl rfl), (sv_at 913 rfl rfl), (sv_at 49 rfl rfl), by decide +kernel, ⟨(sv_at 912 rfl rfl), (sv_at 32 rfl rfl)⟩⟩
set_option maxRecDepth 100000 in
theorem lk_M_311 : sv_LK 0 "WordChainModel" 311 y_M_cvc b_M_cvc 2 (some (.boolean)) 1 := ⟨(sv_at 914 rfl rfl), (sv_at 917 rfl rfl), (sv_at 49 rfl rfl), by decide +kernel, ⟨(sv_at 916 rfl rfl), (sv_at 33 rfl rfl)⟩⟩
set_option maxRecDepth 100000 in
theorem lk_M_296 : sv_LK 0 "WordChainModel" 296 y_M_longest b_M_longest 4 (some (.int)) 1 := ⟨(sv_at 919 rfl rfl), (sv_at 922 rfl rfl), (sv_at 49 rfl rfl), by decide +kernel, ⟨(sv_at 921 rfl rfl), (sv_at 34 rfl rfl)⟩⟩
set_option maxRecDepth 100000 in
theorem lk_M_307 : sv_LK 0 "WordChainModel" 307 y_Str_equals b_Str_equals 3 (some (.boolean)) 1 := ⟨(sv_at 923 rfl rfl), (sv_at 449 rfl rfl), (sv_at 41 rfl rfl), by decide +kernel, ⟨(sv_at 447 rfl rfl), (sv_at 448 rfl rfl)⟩⟩
set_option maxRecDepth 100000 in
theorem lk_L_61 : sv_LK 0 "WordChainLaw" 61 y_M_token_II b_M_token_II 3 (some (.int)) 2 := ⟨(sv_at 925 rfl rfl), (sv_at 928 rfl rfl), (sv_at 49 rfl rfl), by decide +kernel, ⟨(sv_at 926 rfl rfl), (sv_at 927 rfl rfl)⟩⟩
set_option maxRecDepth 100000 in
theorem lk_M_336 : sv_LK 0 "WordChainModel" 336 y_M_there b_M_there 2 (some (.boolean)) 1 := ⟨(sv_at 929 rfl rfl), (sv_at 932 rfl rfl), (sv_at 49 rfl rfl), by decide +kernel, ⟨(sv_at 931 rfl rfl), (sv_at 35 rfl rfl)⟩⟩
set_option maxRecDepth 100000 in
theorem lk_L_64 : sv_LK 0 "WordChainLaw" 64 y_M_character b_M_character 3 (some (.int)) 2 := ⟨(sv_at 933 rfl rfl), (sv_at 936 rfl rfl), (sv_at 49 rfl rfl), by decide +kernel, ⟨(sv_at 934 rfl rfl), (sv_at 935 rfl rfl)⟩⟩
set_option maxRecDepth 100000 in
theorem lk_L_67 : sv_LK 0 "WordChainLaw" 67 y_M_first b_M_first 3 (some (.int)) 1 := ⟨(sv_at 937 rfl rfl), (sv_at 940 rfl rfl), (sv_at 49 rfl rfl), by decide +kernel, ⟨(sv_at 938 rfl rfl), (sv_at 939 rfl rfl)⟩⟩
set_option maxRecDepth 100000 in
theorem lk_M_338 : sv_LK 0 "WordChainModel" 338 y_M_same b_M_same 5 (some (.boolean)) 2 := ⟨(sv_at 941 rfl rfl), (sv_at 944 rfl rfl), (sv_at 49 rfl rfl), by decide +kernel, ⟨(sv_at 943 rfl rfl), (sv_at 36 rfl rfl)⟩⟩
set_option maxRecDepth 100000 in
theorem lk_L_70 : sv_LK 0 "WordChainLaw" 70 y_M_sort b_M_sort 2 (some (.int)) 1 := ⟨(sv_at 945 rfl rfl), (sv_at 948 rfl rfl), (sv_at 49 rfl rfl), by decide +kernel, ⟨(sv_at 946 rfl rfl), (sv_at 947 rfl rfl)⟩⟩
set_option maxRecDepth 100000 in
theorem lk_L_74 : sv_LK 0 "WordChainLaw" 74 y_M_count b_M_count 2 (some (.int)) 1 := ⟨(sv_at 950 rfl rfl), (sv_at 953 rfl rfl), (sv_at 49 rfl rfl), by decide +kernel, ⟨(sv_at 951 rfl rfl), (sv_at 952 rfl rfl)⟩⟩
set_option maxRecDepth 100000 in
theorem wo_2 : Cond.instanceMethod Lib.objectInit ∈ sv_tbl := (sv_at 66 rfl rfl)
set_option maxRecDepth 100000 in
theorem wo_3 : Cond.code Lib.objectInit ⟨#[0xb1]⟩ 1 none ∈ sv_tbl := (sv_at 67 rfl rfl)
set_option maxRecDepth 100000 in
theorem wo_X : Cond.methodLink "WordChain" 1 Lib.objectInit ∈ sv_tbl := (sv_at 65 rfl rfl)
set_option maxRecDepth 100000 in
theorem wo_Te : Cond.methodLink "WordChain$Text" 1 Lib.objectInit ∈ sv_tbl := (sv_at 73 rfl rfl)
set_option maxRecDepth 100000 in
theorem wo_Si : Cond.methodLink "WordChain$SilentWords" 1 Lib.objectInit ∈ sv_tbl := (sv_at 90 rfl rfl)
set_option maxRecDepth 100000 in
theorem wo_Sm : Cond.methodLink "WordChain$Stemmer" 1 Lib.objectInit ∈ sv_tbl := (sv_at 152 rfl rfl)
set_option maxRecDepth 100000 in
theorem wo_En : Cond.methodLink "WordChain$Ending" 1 Lib.objectInit ∈ sv_tbl := (sv_at 161 rfl rfl)
set_option maxRecDepth 100000 in
theorem wo_Wo : Cond.methodLink "WordChain$Word" 1 Lib.objectInit ∈ sv_tbl := (sv_at 233 rfl rfl)
set_option maxRecDepth 100000 in
theorem wo_To : Cond.methodLink "WordChain$Tokens" 1 Lib.objectInit ∈ sv_tbl := (sv_at 276 rfl rfl)
set_option maxRecDepth 100000 in
theorem wm_max_Te : Cond.methodLink "WordChain$Text" 27 Lib.Math.max.name ∈ sv_tbl := (sv_at 337 rfl rfl)
set_option maxRecDepth 100000 in
theorem wm_min_X : Cond.methodLink "WordChain" 138 Lib.Math.min.name ∈ sv_tbl := (sv_at 377 rfl rfl)
set_option maxRecDepth 100000 in
theorem wa_Wo : Cond.methodLink "WordChain$Word" 17 arraycopyName ∈ sv_tbl := (sv_at 384 rfl rfl)
set_option maxRecDepth 100000 in
theorem wa_To : Cond.methodLink "WordChain$Tokens" 29 arraycopyName ∈ sv_tbl := (sv_at 506 rfl rfl)
set_option maxRecDepth 100000 in
theorem wm_max_X : Cond.methodLink "WordChain" 87 Lib.Math.max.name ∈ sv_tbl := (sv_at 507 rfl rfl)
set_option maxRecDepth 100000 in
theorem wo_M : Cond.methodLink "WordChainModel" 1 Lib.objectInit ∈ sv_tbl := (sv_at 687 rfl rfl)
set_option maxRecDepth 100000 in
theorem wm_min_M : Cond.methodLink "WordChainModel" 244 Lib.Math.min.name ∈ sv_tbl := (sv_at 863 rfl rfl)
set_option maxRecDepth 100000 in
theorem wm_max_2 : Cond.static Lib.Math.max.name ∈ sv_tbl := (sv_at 338 rfl rfl)
set_option maxRecDepth 100000 in
theorem wm_max_4 : Cond.code Lib.Math.max.name Lib.Math.max.code 2 (some .int) ∈ sv_tbl := (sv_at 339 rfl rfl)
set_option maxRecDepth 100000 in
theorem wm_min_2 : Cond.static Lib.Math.min.name ∈ sv_tbl := (sv_at 378 rfl rfl)
set_option maxRecDepth 100000 in
theorem wm_min_4 : Cond.code Lib.Math.min.name Lib.Math.min.code 2 (some .int) ∈ sv_tbl := (sv_at 379 rfl rfl)
set_option maxRecDepth 100000 in
theorem wm_3 : Cond.initialized "java/lang/Math" ∈ sv_tbl := (sv_at 56 rfl rfl)
set_option maxRecDepth 100000 in
theorem wa_2 : Cond.native arraycopyName ∈ sv_tbl := (sv_at 386 rfl rfl)
set_option maxRecDepth 100000 in
theorem wa_3 : Cond.static arraycopyName ∈ sv_tbl := (sv_at 385 rfl rfl)
set_option maxRecDepth 100000 in
theorem wa_4 : Cond.initialized "java/lang/System" ∈ sv_tbl := (sv_at 58 rfl rfl)
set_option maxRecDepth 100000 in
theorem wz_38 : Cond.fieldLink "java/lang/String" 38 "java/lang/String" "COMPACT_STRINGS" "Z" ∈ sv_tbl := (sv_at 100 rfl rfl)
set_option maxRecDepth 100000 in
theorem wz_1053 : Cond.fieldLink "java/lang/String" 1053 "jdk/internal/util/Preconditions" "SIOOBE_FORMATTER" "Ljava/util/function/BiFunction;" ∈ sv_tbl := (sv_at 116 rfl rfl)
set_option maxRecDepth 100000 in
theorem wz_9 : Cond.fieldLink "java/lang/String" 9 "java/lang/String" "value" "[B" ∈ sv_tbl := (sv_at 956 rfl rfl)
set_option maxRecDepth 100000 in
theorem wz_15 : Cond.fieldLink "java/lang/String" 15 "java/lang/String" "coder" "B" ∈ sv_tbl := (sv_at 957 rfl rfl)
set_option maxRecDepth 100000 in
theorem wc_Te_23 : Cond.constant "WordChain$Text" 23 65533 ∈ sv_tbl := (sv_at 333 rfl rfl)
set_option maxRecDepth 100000 in
theorem wc_So_13 : Cond.constant "WordChain$Sorts" 13 40959 ∈ sv_tbl := (sv_at 358 rfl rfl)
set_option maxRecDepth 100000 in
theorem wc_X_125 : Cond.constant "WordChain" 125 1114111 ∈ sv_tbl := (sv_at 679 rfl rfl)
set_option maxRecDepth 100000 in
theorem wc_M_225 : Cond.constant "WordChainModel" 225 65533 ∈ sv_tbl := (sv_at 848 rfl rfl)
set_option maxRecDepth 100000 in
theorem wc_M_226 : Cond.constant "WordChainModel" 226 40959 ∈ sv_tbl := (sv_at 856 rfl rfl)
set_option maxRecDepth 100000 in
theorem wc_M_342 : Cond.constant "WordChainModel" 342 1114111 ∈ sv_tbl := (sv_at 949 rfl rfl)
set_option maxRecDepth 100000 in
theorem ws_0 : ("WordChain$SilentWords", 13, "a an and are as at be but by for if in into is it no not of on or such that the their then there these they this to was will with ", 0) ∈ sv_lits := List.mem_of_getElem? (i := 0) (by decide +kernel)
set_option maxRecDepth 100000 in
theorem ws_1 : ("WordChain$Stemmer", 9, "sses", 1) ∈ sv_lits := List.mem_of_getElem? (i := 1) (by decide +kernel)
set_option maxRecDepth 100000 in
theorem ws_2 : ("WordChain$Stemmer", 11, "ss", 2) ∈ sv_lits := List.mem_of_getElem? (i := 2) (by decide +kernel)
set_option maxRecDepth 100000 in
theorem ws_3 : ("WordChain$Stemmer", 16, "ies", 3) ∈ sv_lits := List.mem_of_getElem? (i := 3) (by decide +kernel)
set_option maxRecDepth 100000 in
theorem ws_4 : ("WordChain$Stemmer", 18, "i", 4) ∈ sv_lits := List.mem_of_getElem? (i := 4) (by decide +kernel)
set_option maxRecDepth 100000 in
theorem ws_5 : ("WordChain$Stemmer", 20, "s", 5) ∈ sv_lits := List.mem_of_getElem? (i := 5) (by decide +kernel)
set_option maxRecDepth 100000 in
theorem ws_6 : ("WordChain$Stemmer", 22, "", 6) ∈ sv_lits := List.mem_of_getElem? (i := 6) (by decide +kernel)
set_option maxRecDepth 100000 in
theorem ws_7 : ("WordChain$Stemmer", 30, "eed", 7) ∈ sv_lits := List.mem_of_getElem? (i := 7) (by decide +kernel)
set_option maxRecDepth 100000 in
theorem ws_8 : ("WordChain$Stemmer", 32, "ee", 8) ∈ sv_lits := List.mem_of_getElem? (i := 8) (by decide +kernel)
set_option maxRecDepth 100000 in
theorem ws_9 : ("WordChain$Stemmer", 34, "ed", 9) ∈ sv_lits := List.mem_of_getElem? (i := 9) (by decide +kernel)
set_option maxRecDepth 100000 in
theorem ws_10 : ("WordChain$Stemmer", 36, "ing", 10) ∈ sv_lits := List.mem_of_getElem? (i := 10) (by decide +kernel)
set_option maxRecDepth 100000 in
theorem ws_11 : ("WordChain$Stemmer", 41, "ational", 11) ∈ sv_lits := List.mem_of_getElem? (i := 11) (by decide +kernel)
set_option maxRecDepth 100000 in
theorem ws_12 : ("WordChain$Stemmer", 43, "ate", 12) ∈ sv_lits := List.mem_of_getElem? (i := 12) (by decide +kernel)
set_option maxRecDepth 100000 in
theorem ws_13 : ("WordChain$Stemmer", 45, "tional", 13) ∈ sv_lits := List.mem_of_getElem? (i := 13) (by decide +kernel)
set_option maxRecDepth 100000 in
theorem ws_14 : ("WordChain$Stemmer", 47, "tion", 14) ∈ sv_lits := List.mem_of_getElem? (i := 14) (by decide +kernel)
set_option maxRecDepth 100000 in
theorem ws_15 : ("WordChain$Stemmer", 49, "enci", 15) ∈ sv_lits := List.mem_of_getElem? (i := 15) (by decide +kernel)
set_option maxRecDepth 100000 in
theorem ws_16 : ("WordChain$Stemmer", 51, "ence", 16) ∈ sv_lits := List.mem_of_getElem? (i := 16) (by decide +kernel)
set_option maxRecDepth 100000 in
theorem ws_17 : ("WordChain$Stemmer", 53, "anci", 17) ∈ sv_lits := List.mem_of_getElem? (i := 17) (by decide +kernel)
set_option maxRecDepth 100000 in
theorem ws_18 : ("WordChain$Stemmer", 55, "ance", 18) ∈ sv_lits := List.mem_of_getElem? (i := 18) (by decide +kernel)
set_option maxRecDepth 100000 in
theorem ws_19 : ("WordChain$Stemmer", 57, "izer", 19) ∈ sv_lits := List.mem_of_getElem? (i := 19) (by decide +kernel)
set_option maxRecDepth 100000 in
theorem ws_20 : ("WordChain$Stemmer", 59, "ize", 20) ∈ sv_lits := List.mem_of_getElem? (i := 20) (by decide +kernel)
set_option maxRecDepth 100000 in
theorem ws_21 : ("WordChain$Stemmer", 61, "abli", 21) ∈ sv_lits := List.mem_of_getElem? (i := 21) (by decide +kernel)
set_option maxRecDepth 100000 in
theorem ws_22 : ("WordChain$Stemmer", 63, "able", 22) ∈ sv_lits := List.mem_of_getElem? (i := 22) (by decide +kernel)
set_option maxRecDepth 100000 in
theorem ws_23 : ("WordChain$Stemmer", 65, "alli", 23) ∈ sv_lits := List.mem_of_getElem? (i := 23) (by decide +kernel)
set_option maxRecDepth 100000 in
theorem ws_24 : ("WordChain$Stemmer", 67, "al", 24) ∈ sv_lits := List.mem_of_getElem? (i := 24) (by decide +kernel)
set_option maxRecDepth 100000 in
theorem ws_25 : ("WordChain$Stemmer", 69, "entli", 25) ∈ sv_lits := List.mem_of_getElem? (i := 25) (by decide +kernel)
set_option maxRecDepth 100000 in
theorem ws_26 : ("WordChain$Stemmer", 71, "ent", 26) ∈ sv_lits := List.mem_of_getElem? (i := 26) (by decide +kernel)
set_option maxRecDepth 100000 in
theorem ws_27 : ("WordChain$Stemmer", 73, "eli", 27) ∈ sv_lits := List.mem_of_getElem? (i := 27) (by decide +kernel)
set_option maxRecDepth 100000 in
theorem ws_28 : ("WordChain$Stemmer", 75, "e", 28) ∈ sv_lits := List.mem_of_getElem? (i := 28) (by decide +kernel)
set_option maxRecDepth 100000 in
theorem ws_29 : ("WordChain$Stemmer", 77, "ousli", 29) ∈ sv_lits := List.mem_of_getElem? (i := 29) (by decide +kernel)
set_option maxRecDepth 100000 in
theorem ws_30 : ("WordChain$Stemmer", 79, "ous", 30) ∈ sv_lits := List.mem_of_getElem? (i := 30) (by decide +kernel)
set_option maxRecDepth 100000 in
theorem ws_31 : ("WordChain$Stemmer", 81, "ization", 31) ∈ sv_lits := List.mem_of_getElem? (i := 31) (by decide +kernel)
set_option maxRecDepth 100000 in
theorem ws_32 : ("WordChain$Stemmer", 83, "ation", 32) ∈ sv_lits := List.mem_of_getElem? (i := 32) (by decide +kernel)
set_option maxRecDepth 100000 in
theorem ws_33 : ("WordChain$Stemmer", 85, "ator", 33) ∈ sv_lits := List.mem_of_getElem? (i := 33) (by decide +kernel)
set_option maxRecDepth 100000 in
theorem ws_34 : ("WordChain$Stemmer", 87, "alism", 34) ∈ sv_lits := List.mem_of_getElem? (i := 34) (by decide +kernel)
set_option maxRecDepth 100000 in
theorem ws_35 : ("WordChain$Stemmer", 89, "iveness", 35) ∈ sv_lits := List.mem_of_getElem? (i := 35) (by decide +kernel)
set_option maxRecDepth 100000 in
theorem ws_36 : ("WordChain$Stemmer", 91, "ive", 36) ∈ sv_lits := List.mem_of_getElem? (i := 36) (by decide +kernel)
set_option maxRecDepth 100000 in
theorem ws_37 : ("WordChain$Stemmer", 93, "fulness", 37) ∈ sv_lits := List.mem_of_getElem? (i := 37) (by decide +kernel)
set_option maxRecDepth 100000 in
theorem ws_38 : ("WordChain$Stemmer", 95, "ful", 38) ∈ sv_lits := List.mem_of_getElem? (i := 38) (by decide +kernel)
set_option maxRecDepth 100000 in
theorem ws_39 : ("WordChain$Stemmer", 97, "ousness", 39) ∈ sv_lits := List.mem_of_getElem? (i := 39) (by decide +kernel)
set_option maxRecDepth 100000 in
theorem ws_40 : ("WordChain$Stemmer", 99, "aliti", 40) ∈ sv_lits := List.mem_of_getElem? (i := 40) (by decide +kernel)
set_option maxRecDepth 100000 in
theorem ws_41 : ("WordChain$Stemmer", 101, "iviti", 41) ∈ sv_lits := List.mem_of_getElem? (i := 41) (by decide +kernel)
set_option maxRecDepth 100000 in
theorem ws_42 : ("WordChain$Stemmer", 103, "biliti", 42) ∈ sv_lits := List.mem_of_getElem? (i := 42) (by decide +kernel)
set_option maxRecDepth 100000 in
theorem ws_43 : ("WordChain$Stemmer", 105, "ble", 43) ∈ sv_lits := List.mem_of_getElem? (i := 43) (by decide +kernel)
set_option maxRecDepth 100000 in
theorem ws_44 : ("WordChain$Stemmer", 110, "icate", 44) ∈ sv_lits := List.mem_of_getElem? (i := 44) (by decide +kernel)
set_option maxRecDepth 100000 in
theorem ws_45 : ("WordChain$Stemmer", 112, "ic", 45) ∈ sv_lits := List.mem_of_getElem? (i := 45) (by decide +kernel)
set_option maxRecDepth 100000 in
theorem ws_46 : ("WordChain$Stemmer", 114, "ative", 46) ∈ sv_lits := List.mem_of_getElem? (i := 46) (by decide +kernel)
set_option maxRecDepth 100000 in
theorem ws_47 : ("WordChain$Stemmer", 116, "alize", 47) ∈ sv_lits := List.mem_of_getElem? (i := 47) (by decide +kernel)
set_option maxRecDepth 100000 in
theorem ws_48 : ("WordChain$Stemmer", 118, "iciti", 48) ∈ sv_lits := List.mem_of_getElem? (i := 48) (by decide +kernel)
set_option maxRecDepth 100000 in
theorem ws_49 : ("WordChain$Stemmer", 120, "ical", 49) ∈ sv_lits := List.mem_of_getElem? (i := 49) (by decide +kernel)
set_option maxRecDepth 100000 in
theorem ws_50 : ("WordChain$Stemmer", 122, "ness", 50) ∈ sv_lits := List.mem_of_getElem? (i := 50) (by decide +kernel)
set_option maxRecDepth 100000 in
theorem ws_51 : ("WordChain$Stemmer", 127, "er", 51) ∈ sv_lits := List.mem_of_getElem? (i := 51) (by decide +kernel)
set_option maxRecDepth 100000 in
theorem ws_52 : ("WordChain$Stemmer", 129, "ible", 52) ∈ sv_lits := List.mem_of_getElem? (i := 52) (by decide +kernel)
set_option maxRecDepth 100000 in
theorem ws_53 : ("WordChain$Stemmer", 131, "ant", 53) ∈ sv_lits := List.mem_of_getElem? (i := 53) (by decide +kernel)
set_option maxRecDepth 100000 in
theorem ws_54 : ("WordChain$Stemmer", 133, "ement", 54) ∈ sv_lits := List.mem_of_getElem? (i := 54) (by decide +kernel)
set_option maxRecDepth 100000 in
theorem ws_55 : ("WordChain$Stemmer", 135, "ment", 55) ∈ sv_lits := List.mem_of_getElem? (i := 55) (by decide +kernel)
set_option maxRecDepth 100000 in
theorem ws_56 : ("WordChain$Stemmer", 137, "ion", 56) ∈ sv_lits := List.mem_of_getElem? (i := 56) (by decide +kernel)
set_option maxRecDepth 100000 in
theorem ws_57 : ("WordChain$Stemmer", 139, "ou", 57) ∈ sv_lits := List.mem_of_getElem? (i := 57) (by decide +kernel)
set_option maxRecDepth 100000 in
theorem ws_58 : ("WordChain$Stemmer", 141, "ism", 58) ∈ sv_lits := List.mem_of_getElem? (i := 58) (by decide +kernel)
set_option maxRecDepth 100000 in
theorem ws_59 : ("WordChain$Stemmer", 143, "iti", 59) ∈ sv_lits := List.mem_of_getElem? (i := 59) (by decide +kernel)
set_option maxRecDepth 100000 in
theorem ws_60 : ("WordChain$Stemmer", 230, "at", 60) ∈ sv_lits := List.mem_of_getElem? (i := 60) (by decide +kernel)
set_option maxRecDepth 100000 in
theorem ws_61 : ("WordChain$Stemmer", 236, "bl", 61) ∈ sv_lits := List.mem_of_getElem? (i := 61) (by decide +kernel)
set_option maxRecDepth 100000 in
theorem ws_62 : ("WordChain$Stemmer", 238, "iz", 62) ∈ sv_lits := List.mem_of_getElem? (i := 62) (by decide +kernel)
set_option maxRecDepth 100000 in
theorem ws_63 : ("WordChain$Stemmer", 243, "l", 63) ∈ sv_lits := List.mem_of_getElem? (i := 63) (by decide +kernel)
set_option maxRecDepth 100000 in
theorem ws_64 : ("WordChain$Stemmer", 245, "z", 64) ∈ sv_lits := List.mem_of_getElem? (i := 64) (by decide +kernel)
set_option maxRecDepth 100000 in
theorem ws_65 : ("WordChain$Stemmer", 250, "y", 65) ∈ sv_lits := List.mem_of_getElem? (i := 65) (by decide +kernel)
set_option maxRecDepth 100000 in
theorem ws_66 : ("WordChain$Stemmer", 252, "sion", 66) ∈ sv_lits := List.mem_of_getElem? (i := 66) (by decide +kernel)
set_option maxRecDepth 100000 in
theorem ws_67 : ("WordChain$Stemmer", 254, "ll", 67) ∈ sv_lits := List.mem_of_getElem? (i := 67) (by decide +kernel)
set_option maxRecDepth 100000 in
theorem ws_68 : ("WordChain", 52, "INPUT is full", 68) ∈ sv_lits := List.mem_of_getElem? (i := 68) (by decide +kernel)
set_option maxRecDepth 100000 in
theorem ws_69 : ("WordChain", 62, "as many bytes can't go", 69) ∈ sv_lits := List.mem_of_getElem? (i := 69) (by decide +kernel)
set_option maxRecDepth 100000 in
theorem ws_70 : ("WordChain", 96, "what is 0 or 1", 70) ∈ sv_lits := List.mem_of_getElem? (i := 70) (by decide +kernel)
set_option maxRecDepth 100000 in
theorem ws_71 : ("WordChain", 104, "no such TOKEN", 71) ∈ sv_lits := List.mem_of_getElem? (i := 71) (by decide +kernel)
set_option maxRecDepth 100000 in
theorem ws_72 : ("WordChain", 114, "no such CHARACTER", 72) ∈ sv_lits := List.mem_of_getElem? (i := 72) (by decide +kernel)
set_option maxRecDepth 100000 in
theorem ws_73 : ("WordChain", 126, "no CHARACTER", 73) ∈ sv_lits := List.mem_of_getElem? (i := 73) (by decide +kernel)
set_option maxRecDepth 100000 in
theorem ws_74 : ("WordChainModel", 9, "a", 74) ∈ sv_lits := List.mem_of_getElem? (i := 74) (by decide +kernel)
set_option maxRecDepth 100000 in
theorem ws_75 : ("WordChainModel", 11, "an", 75) ∈ sv_lits := List.mem_of_getElem? (i := 75) (by decide +kernel)
set_option maxRecDepth 100000 in
theorem ws_76 : ("WordChainModel", 13, "and", 76) ∈ sv_lits := List.mem_of_getElem? (i := 76) (by decide +kernel)
set_option maxRecDepth 100000 in
theorem ws_77 : ("WordChainModel", 15, "are", 77) ∈ sv_lits := List.mem_of_getElem? (i := 77) (by decide +kernel)
set_option maxRecDepth 100000 in
theorem ws_78 : ("WordChainModel", 17, "as", 78) ∈ sv_lits := List.mem_of_getElem? (i := 78) (by decide +kernel)
set_option maxRecDepth 100000 in
theorem ws_79 : ("WordChainModel", 19, "at", 79) ∈ sv_lits := List.mem_of_getElem? (i := 79) (by decide +kernel)
set_option maxRecDepth 100000 in
theorem ws_80 : ("WordChainModel", 21, "be", 80) ∈ sv_lits := List.mem_of_getElem? (i := 80) (by decide +kernel)
set_option maxRecDepth 100000 in
theorem ws_81 : ("WordChainModel", 23, "but", 81) ∈ sv_lits := List.mem_of_getElem? (i := 81) (by decide +kernel)
set_option maxRecDepth 100000 in
theorem ws_82 : ("WordChainModel", 25, "by", 82) ∈ sv_lits := List.mem_of_getElem? (i := 82) (by decide +kernel)
set_option maxRecDepth 100000 in
theorem ws_83 : ("WordChainModel", 27, "for", 83) ∈ sv_lits := List.mem_of_getElem? (i := 83) (by decide +kernel)
set_option maxRecDepth 100000 in
theorem ws_84 : ("WordChainModel", 29, "if", 84) ∈ sv_lits := List.mem_of_getElem? (i := 84) (by decide +kernel)
set_option maxRecDepth 100000 in
theorem ws_85 : ("WordChainModel", 31, "in", 85) ∈ sv_lits := List.mem_of_getElem? (i := 85) (by decide +kernel)
set_option maxRecDepth 100000 in
theorem ws_86 : ("WordChainModel", 33, "into", 86) ∈ sv_lits := List.mem_of_getElem? (i := 86) (by decide +kernel)
set_option maxRecDepth 100000 in
theorem ws_87 : ("WordChainModel", 35, "is", 87) ∈ sv_lits := List.mem_of_getElem? (i := 87) (by decide +kernel)
set_option maxRecDepth 100000 in
theorem ws_88 : ("WordChainModel", 37, "it", 88) ∈ sv_lits := List.mem_of_getElem? (i := 88) (by decide +kernel)
set_option maxRecDepth 100000 in
theorem ws_89 : ("WordChainModel", 39, "no", 89) ∈ sv_lits := List.mem_of_getElem? (i := 89) (by decide +kernel)
set_option maxRecDepth 100000 in
theorem ws_90 : ("WordChainModel", 41, "not", 90) ∈ sv_lits := List.mem_of_getElem? (i := 90) (by decide +kernel)
set_option maxRecDepth 100000 in
theorem ws_91 : ("WordChainModel", 43, "of", 91) ∈ sv_lits := List.mem_of_getElem? (i := 91) (by decide +kernel)
set_option maxRecDepth 100000 in
theorem ws_92 : ("WordChainModel", 45, "on", 92) ∈ sv_lits := List.mem_of_getElem? (i := 92) (by decide +kernel)
set_option maxRecDepth 100000 in
theorem ws_93 : ("WordChainModel", 47, "or", 93) ∈ sv_lits := List.mem_of_getElem? (i := 93) (by decide +kernel)
set_option maxRecDepth 100000 in
theorem ws_94 : ("WordChainModel", 49, "such", 94) ∈ sv_lits := List.mem_of_getElem? (i := 94) (by decide +kernel)
set_option maxRecDepth 100000 in
theorem ws_95 : ("WordChainModel", 51, "that", 95) ∈ sv_lits := List.mem_of_getElem? (i := 95) (by decide +kernel)
set_option maxRecDepth 100000 in
theorem ws_96 : ("WordChainModel", 53, "the", 96) ∈ sv_lits := List.mem_of_getElem? (i := 96) (by decide +kernel)
set_option maxRecDepth 100000 in
theorem ws_97 : ("WordChainModel", 55, "their", 97) ∈ sv_lits := List.mem_of_getElem? (i := 97) (by decide +kernel)
set_option maxRecDepth 100000 in
theorem ws_98 : ("WordChainModel", 57, "then", 98) ∈ sv_lits := List.mem_of_getElem? (i := 98) (by decide +kernel)
set_option maxRecDepth 100000 in
theorem ws_99 : ("WordChainModel", 59, "there", 99) ∈ sv_lits := List.mem_of_getElem? (i := 99) (by decide +kernel)
set_option maxRecDepth 100000 in
theorem ws_100 : ("WordChainModel", 61, "these", 100) ∈ sv_lits := List.mem_of_getElem? (i := 100) (by decide +kernel)
set_option maxRecDepth 100000 in
theorem ws_101 : ("WordChainModel", 63, "they", 101) ∈ sv_lits := List.mem_of_getElem? (i := 101) (by decide +kernel)
set_option maxRecDepth 100000 in
theorem ws_102 : ("WordChainModel", 65, "this", 102) ∈ sv_lits := List.mem_of_getElem? (i := 102) (by decide +kernel)
set_option maxRecDepth 100000 in
theorem ws_103 : ("WordChainModel", 67, "to", 103) ∈ sv_lits := List.mem_of_getElem? (i := 103) (by decide +kernel)
set_option maxRecDepth 100000 in
theorem ws_104 : ("WordChainModel", 69, "was", 104) ∈ sv_lits := List.mem_of_getElem? (i := 104) (by decide +kernel)
set_option maxRecDepth 100000 in
theorem ws_105 : ("WordChainModel", 71, "will", 105) ∈ sv_lits := List.mem_of_getElem? (i := 105) (by decide +kernel)
set_option maxRecDepth 100000 in
theorem ws_106 : ("WordChainModel", 73, "with", 106) ∈ sv_lits := List.mem_of_getElem? (i := 106) (by decide +kernel)
set_option maxRecDepth 100000 in
theorem ws_107 : ("WordChainModel", 81, "ational", 107) ∈ sv_lits := List.mem_of_getElem? (i := 107) (by decide +kernel)
set_option maxRecDepth 100000 in
theorem ws_108 : ("WordChainModel", 83, "ate", 108) ∈ sv_lits := List.mem_of_getElem? (i := 108) (by decide +kernel)
set_option maxRecDepth 100000 in
theorem ws_109 : ("WordChainModel", 85, "tional", 109) ∈ sv_lits := List.mem_of_getElem? (i := 109) (by decide +kernel)
set_option maxRecDepth 100000 in
theorem ws_110 : ("WordChainModel", 87, "tion", 110) ∈ sv_lits := List.mem_of_getElem? (i := 110) (by decide +kernel)
set_option maxRecDepth 100000 in
theorem ws_111 : ("WordChainModel", 89, "enci", 111) ∈ sv_lits := List.mem_of_getElem? (i := 111) (by decide +kernel)
set_option maxRecDepth 100000 in
theorem ws_112 : ("WordChainModel", 91, "ence", 112) ∈ sv_lits := List.mem_of_getElem? (i := 112) (by decide +kernel)
set_option maxRecDepth 100000 in
theorem ws_113 : ("WordChainModel", 93, "anci", 113) ∈ sv_lits := List.mem_of_getElem? (i := 113) (by decide +kernel)
set_option maxRecDepth 100000 in
theorem ws_114 : ("WordChainModel", 95, "ance", 114) ∈ sv_lits := List.mem_of_getElem? (i := 114) (by decide +kernel)
set_option maxRecDepth 100000 in
theorem ws_115 : ("WordChainModel", 97, "izer", 115) ∈ sv_lits := List.mem_of_getElem? (i := 115) (by decide +kernel)
set_option maxRecDepth 100000 in
theorem ws_116 : ("WordChainModel", 99, "ize", 116) ∈ sv_lits := List.mem_of_getElem? (i := 116) (by decide +kernel)
set_option maxRecDepth 100000 in
theorem ws_117 : ("WordChainModel", 101, "abli", 117) ∈ sv_lits := List.mem_of_getElem? (i := 117) (by decide +kernel)
set_option maxRecDepth 100000 in
theorem ws_118 : ("WordChainModel", 103, "able", 118) ∈ sv_lits := List.mem_of_getElem? (i := 118) (by decide +kernel)
set_option maxRecDepth 100000 in
theorem ws_119 : ("WordChainModel", 105, "alli", 119) ∈ sv_lits := List.mem_of_getElem? (i := 119) (by decide +kernel)
set_option maxRecDepth 100000 in
theorem ws_120 : ("WordChainModel", 107, "al", 120) ∈ sv_lits := List.mem_of_getElem? (i := 120) (by decide +kernel)
set_option maxRecDepth 100000 in
theorem ws_121 : ("WordChainModel", 109, "entli", 121) ∈ sv_lits := List.mem_of_getElem? (i := 121) (by decide +kernel)
set_option maxRecDepth 100000 in
theorem ws_122 : ("WordChainModel", 111, "ent", 122) ∈ sv_lits := List.mem_of_getElem? (i := 122) (by decide +kernel)
set_option maxRecDepth 100000 in
theorem ws_123 : ("WordChainModel", 113, "eli", 123) ∈ sv_lits := List.mem_of_getElem? (i := 123) (by decide +kernel)
set_option maxRecDepth 100000 in
theorem ws_124 : ("WordChainModel", 115, "e", 124) ∈ sv_lits := List.mem_of_getElem? (i := 124) (by decide +kernel)
set_option maxRecDepth 100000 in
theorem ws_125 : ("WordChainModel", 117, "ousli", 125) ∈ sv_lits := List.mem_of_getElem? (i := 125) (by decide +kernel)
set_option maxRecDepth 100000 in
theorem ws_126 : ("WordChainModel", 119, "ous", 126) ∈ sv_lits := List.mem_of_getElem? (i := 126) (by decide +kernel)
set_option maxRecDepth 100000 in
theorem ws_127 : ("WordChainModel", 121, "ization", 127) ∈ sv_lits := List.mem_of_getElem? (i := 127) (by decide +kernel)
set_option maxRecDepth 100000 in
theorem ws_128 : ("WordChainModel", 123, "ation", 128) ∈ sv_lits := List.mem_of_getElem? (i := 128) (by decide +kernel)
set_option maxRecDepth 100000 in
theorem ws_129 : ("WordChainModel", 125, "ator", 129) ∈ sv_lits := List.mem_of_getElem? (i := 129) (by decide +kernel)
set_option maxRecDepth 100000 in
theorem ws_130 : ("WordChainModel", 127, "alism", 130) ∈ sv_lits := List.mem_of_getElem? (i := 130) (by decide +kernel)
set_option maxRecDepth 100000 in
theorem ws_131 : ("WordChainModel", 129, "iveness", 131) ∈ sv_lits := List.mem_of_getElem? (i := 131) (by decide +kernel)
set_option maxRecDepth 100000 in
theorem ws_132 : ("WordChainModel", 131, "ive", 132) ∈ sv_lits := List.mem_of_getElem? (i := 132) (by decide +kernel)
set_option maxRecDepth 100000 in
theorem ws_133 : ("WordChainModel", 133, "fulness", 133) ∈ sv_lits := List.mem_of_getElem? (i := 133) (by decide +kernel)
set_option maxRecDepth 100000 in
theorem ws_134 : ("WordChainModel", 135, "ful", 134) ∈ sv_lits := List.mem_of_getElem? (i := 134) (by decide +kernel)
set_option maxRecDepth 100000 in
theorem ws_135 : ("WordChainModel", 137, "ousness", 135) ∈ sv_lits := List.mem_of_getElem? (i := 135) (by decide +kernel)
set_option maxRecDepth 100000 in
theorem ws_136 : ("WordChainModel", 139, "aliti", 136) ∈ sv_lits := List.mem_of_getElem? (i := 136) (by decide +kernel)
set_option maxRecDepth 100000 in
theorem ws_137 : ("WordChainModel", 141, "iviti", 137) ∈ sv_lits := List.mem_of_getElem? (i := 137) (by decide +kernel)
set_option maxRecDepth 100000 in
theorem ws_138 : ("WordChainModel", 143, "biliti", 138) ∈ sv_lits := List.mem_of_getElem? (i := 138) (by decide +kernel)
set_option maxRecDepth 100000 in
theorem ws_139 : ("WordChainModel", 145, "ble", 139) ∈ sv_lits := List.mem_of_getElem? (i := 139) (by decide +kernel)
set_option maxRecDepth 100000 in
theorem ws_140 : ("WordChainModel", 150, "icate", 140) ∈ sv_lits := List.mem_of_getElem? (i := 140) (by decide +kernel)
set_option maxRecDepth 100000 in
theorem ws_141 : ("WordChainModel", 152, "ic", 141) ∈ sv_lits := List.mem_of_getElem? (i := 141) (by decide +kernel)
set_option maxRecDepth 100000 in
theorem ws_142 : ("WordChainModel", 154, "ative", 142) ∈ sv_lits := List.mem_of_getElem? (i := 142) (by decide +kernel)
set_option maxRecDepth 100000 in
theorem ws_143 : ("WordChainModel", 156, "", 143) ∈ sv_lits := List.mem_of_getElem? (i := 143) (by decide +kernel)
set_option maxRecDepth 100000 in
theorem ws_144 : ("WordChainModel", 158, "alize", 144) ∈ sv_lits := List.mem_of_getElem? (i := 144) (by decide +kernel)
set_option maxRecDepth 100000 in
theorem ws_145 : ("WordChainModel", 160, "iciti", 145) ∈ sv_lits := List.mem_of_getElem? (i := 145) (by decide +kernel)
set_option maxRecDepth 100000 in
theorem ws_146 : ("WordChainModel", 162, "ical", 146) ∈ sv_lits := List.mem_of_getElem? (i := 146) (by decide +kernel)
set_option maxRecDepth 100000 in
theorem ws_147 : ("WordChainModel", 164, "ness", 147) ∈ sv_lits := List.mem_of_getElem? (i := 147) (by decide +kernel)
set_option maxRecDepth 100000 in
theorem ws_148 : ("WordChainModel", 169, "er", 148) ∈ sv_lits := List.mem_of_getElem? (i := 148) (by decide +kernel)
set_option maxRecDepth 100000 in
theorem ws_149 : ("WordChainModel", 171, "ible", 149) ∈ sv_lits := List.mem_of_getElem? (i := 149) (by decide +kernel)
set_option maxRecDepth 100000 in
theorem ws_150 : ("WordChainModel", 173, "ant", 150) ∈ sv_lits := List.mem_of_getElem? (i := 150) (by decide +kernel)
set_option maxRecDepth 100000 in
theorem ws_151 : ("WordChainModel", 175, "ement", 151) ∈ sv_lits := List.mem_of_getElem? (i := 151) (by decide +kernel)
set_option maxRecDepth 100000 in
theorem ws_152 : ("WordChainModel", 177, "ment", 152) ∈ sv_lits := List.mem_of_getElem? (i := 152) (by decide +kernel)
set_option maxRecDepth 100000 in
theorem ws_153 : ("WordChainModel", 179, "ou", 153) ∈ sv_lits := List.mem_of_getElem? (i := 153) (by decide +kernel)
set_option maxRecDepth 100000 in
theorem ws_154 : ("WordChainModel", 181, "ism", 154) ∈ sv_lits := List.mem_of_getElem? (i := 154) (by decide +kernel)
set_option maxRecDepth 100000 in
theorem ws_155 : ("WordChainModel", 183, "iti", 155) ∈ sv_lits := List.mem_of_getElem? (i := 155) (by decide +kernel)
set_option maxRecDepth 100000 in
theorem ws_156 : ("WordChainModel", 185, "ion", 156) ∈ sv_lits := List.mem_of_getElem? (i := 156) (by decide +kernel)
set_option maxRecDepth 100000 in
theorem ws_157 : ("WordChainModel", 280, "sses", 157) ∈ sv_lits := List.mem_of_getElem? (i := 157) (by decide +kernel)
set_option maxRecDepth 100000 in
theorem ws_158 : ("WordChainModel", 282, "ies", 158) ∈ sv_lits := List.mem_of_getElem? (i := 158) (by decide +kernel)
set_option maxRecDepth 100000 in
theorem ws_159 : ("WordChainModel", 284, "s", 159) ∈ sv_lits := List.mem_of_getElem? (i := 159) (by decide +kernel)
set_option maxRecDepth 100000 in
theorem ws_160 : ("WordChainModel", 286, "ss", 160) ∈ sv_lits := List.mem_of_getElem? (i := 160) (by decide +kernel)
set_option maxRecDepth 100000 in
theorem ws_161 : ("WordChainModel", 316, "eed", 161) ∈ sv_lits := List.mem_of_getElem? (i := 161) (by decide +kernel)
set_option maxRecDepth 100000 in
theorem ws_162 : ("WordChainModel", 318, "ed", 162) ∈ sv_lits := List.mem_of_getElem? (i := 162) (by decide +kernel)
set_option maxRecDepth 100000 in
theorem ws_163 : ("WordChainModel", 320, "ing", 163) ∈ sv_lits := List.mem_of_getElem? (i := 163) (by decide +kernel)
set_option maxRecDepth 100000 in
theorem ws_164 : ("WordChainModel", 322, "bl", 164) ∈ sv_lits := List.mem_of_getElem? (i := 164) (by decide +kernel)
set_option maxRecDepth 100000 in
theorem ws_165 : ("WordChainModel", 324, "iz", 165) ∈ sv_lits := List.mem_of_getElem? (i := 165) (by decide +kernel)
set_option maxRecDepth 100000 in
theorem ws_166 : ("WordChainModel", 291, "y", 166) ∈ sv_lits := List.mem_of_getElem? (i := 166) (by decide +kernel)
set_option maxRecDepth 100000 in
theorem ws_167 : ("WordChainModel", 314, "ll", 167) ∈ sv_lits := List.mem_of_getElem? (i := 167) (by decide +kernel)
set_option maxRecDepth 100000 in
theorem wn_En : Cond.instantiable R_En 2 ∈ sv_tbl := (sv_at 155 rfl rfl)
set_option maxRecDepth 100000 in
theorem wi_En : Cond.initialized R_En ∈ sv_tbl := (sv_at 46 rfl rfl)
set_option maxRecDepth 100000 in
theorem wn_Si : Cond.instantiable R_Si 1 ∈ sv_tbl := (sv_at 86 rfl rfl)
set_option maxRecDepth 100000 in
theorem wi_Si : Cond.initialized R_Si ∈ sv_tbl := (sv_at 40 rfl rfl)
set_option maxRecDepth 100000 in
theorem wn_Sm : Cond.instantiable R_Sm 7 ∈ sv_tbl := (sv_at 148 rfl rfl)
set_option maxRecDepth 100000 in
theorem wi_Sm : Cond.initialized R_Sm ∈ sv_tbl := (sv_at 45 rfl rfl)
set_option maxRecDepth 100000 in
theorem wn_Te : Cond.instantiable R_Te 2 ∈ sv_tbl := (sv_at 69 rfl rfl)
set_option maxRecDepth 100000 in
theorem wi_Te : Cond.initialized R_Te ∈ sv_tbl := (sv_at 39 rfl rfl)
set_option maxRecDepth 100000 in
theorem wn_To : Cond.instantiable R_To 4 ∈ sv_tbl := (sv_at 272 rfl rfl)
set_option maxRecDepth 100000 in
theorem wi_To : Cond.initialized R_To ∈ sv_tbl := (sv_at 48 rfl rfl)
set_option maxRecDepth 100000 in
theorem wn_Wo : Cond.instantiable R_Wo 2 ∈ sv_tbl := (sv_at 229 rfl rfl)
set_option maxRecDepth 100000 in
theorem wi_Wo : Cond.initialized R_Wo ∈ sv_tbl := (sv_at 47 rfl rfl)
set_option maxRecDepth 100000 in
theorem wn_X : Cond.instantiable R_X 7 ∈ sv_tbl := (sv_at 61 rfl rfl)
set_option maxRecDepth 100000 in
theorem wi_X : Cond.initialized R_X ∈ sv_tbl := (sv_at 38 rfl rfl)
set_option maxRecDepth 100000 in
theorem wn_M : Cond.instantiable R_M 16 ∈ sv_tbl := (sv_at 683 rfl rfl)
set_option maxRecDepth 100000 in
theorem wi_M : Cond.initialized R_M ∈ sv_tbl := (sv_at 49 rfl rfl)
set_option maxRecDepth 100000 in
theorem wk_L_8 : Cond.classLink "WordChainLaw" 8 "WordChain" ∈ sv_tbl := (sv_at 60 rfl rfl)
set_option maxRecDepth 100000 in
theorem wk_X_17 : Cond.classLink "WordChain" 17 "WordChain$Text" ∈ sv_tbl := (sv_at 68 rfl rfl)
set_option maxRecDepth 100000 in
theorem wk_X_26 : Cond.classLink "WordChain" 26 "WordChain$SilentWords" ∈ sv_tbl := (sv_at 85 rfl rfl)
set_option maxRecDepth 100000 in
theorem wk_X_33 : Cond.classLink "WordChain" 33 "WordChain$Stemmer" ∈ sv_tbl := (sv_at 147 rfl rfl)
set_option maxRecDepth 100000 in
theorem wk_Sm_7 : Cond.classLink "WordChain$Stemmer" 7 "WordChain$Ending" ∈ sv_tbl := (sv_at 153 rfl rfl)
set_option maxRecDepth 100000 in
theorem wk_Sm_148 : Cond.classLink "WordChain$Stemmer" 148 "WordChain$Word" ∈ sv_tbl := (sv_at 228 rfl rfl)
set_option maxRecDepth 100000 in
theorem wk_X_40 : Cond.classLink "WordChain" 40 "WordChain$Tokens" ∈ sv_tbl := (sv_at 271 rfl rfl)
set_option maxRecDepth 100000 in
theorem wk_Str_10 : Cond.classLink "java/lang/String" 10 "java/lang/String" ∈ sv_tbl := (sv_at 450 rfl rfl)
set_option maxRecDepth 100000 in
theorem wk_L_13 : Cond.classLink "WordChainLaw" 13 "java/lang/IndexOutOfBoundsException" ∈ sv_tbl := (sv_at 515 rfl rfl)
set_option maxRecDepth 100000 in
theorem wk_X_50 : Cond.classLink "WordChain" 50 "java/lang/IndexOutOfBoundsException" ∈ sv_tbl := (sv_at 520 rfl rfl)
set_option maxRecDepth 100000 in
theorem wk_L_19 : Cond.classLink "WordChainLaw" 19 "java/lang/IllegalArgumentException" ∈ sv_tbl := (sv_at 594 rfl rfl)
set_option maxRecDepth 100000 in
theorem wk_X_60 : Cond.classLink "WordChain" 60 "java/lang/IllegalArgumentException" ∈ sv_tbl := (sv_at 599 rfl rfl)
set_option maxRecDepth 100000 in
theorem wk_L_25 : Cond.classLink "WordChainLaw" 25 "java/util/NoSuchElementException" ∈ sv_tbl := (sv_at 618 rfl rfl)
set_option maxRecDepth 100000 in
theorem wk_X_102 : Cond.classLink "WordChain" 102 "java/util/NoSuchElementException" ∈ sv_tbl := (sv_at 628 rfl rfl)
set_option maxRecDepth 100000 in
theorem wk_L_37 : Cond.classLink "WordChainLaw" 37 "WordChainModel" ∈ sv_tbl := (sv_at 682 rfl rfl)
set_option maxRecDepth 100000 in
theorem wk_M_7 : Cond.classLink "WordChainModel" 7 "java/lang/String" ∈ sv_tbl := (sv_at 688 rfl rfl)
set_option maxRecDepth 100000 in
theorem wr_byte : Cond.arrayClass (newarray.typeOf .byte) ∈ sv_tbl := (sv_at 83 rfl rfl)
set_option maxRecDepth 100000 in
theorem wr_int : Cond.arrayClass (newarray.typeOf .int) ∈ sv_tbl := (sv_at 84 rfl rfl)
set_option maxRecDepth 100000 in
theorem wr_boolean : Cond.arrayClass (newarray.typeOf .boolean) ∈ sv_tbl := (sv_at 270 rfl rfl)
set_option maxRecDepth 100000 in
theorem wr_long : Cond.arrayClass (newarray.typeOf .long) ∈ sv_tbl := (sv_at 954 rfl rfl)
end
section
/-! CONTRACTS: Sorts -/
def rm_So_isLetter : Room := { frames := 0, cells := 0, slots := 0, locals := 0 }
set_option maxHeartbeats 4000000 in
set_option maxRecDepth 100000 in
theorem c_So_isLetter (l : Launch) (g : sv_G) (ws : va_W) (c : Int32) : sv_Mi l y_So_isLetter b_So_isLetter 1 (some (.boolean)) rm_So_isLetter g [.int c] ws (fun r w => r = (if pu_letterP c.toInt then 1 else 0) ∧ w = ws) := by
  refine sv_enter_i (by decide) rfl rfl (Nat.le_of_ble_eq_true rfl) (fun X C hI hr => ?_)
  refine sv_lvE (lv' := [some _]) rfl ?_
  have j80 : pu_letterP c.toInt → sv_V X 1 0 0 ws 80 [some (.int c)] [] := by
    intro hj
    refine sv_iconst C (v := 1) (by decide) d_So_isLetter_80 ?_
    refine sv_goto C 85 (by decide) d_So_isLetter_81 ?_
    exact hr _ _ _ _ d_So_isLetter_85 rfl ⟨(if_pos hj).symm, rfl⟩
  have j84 : ¬ pu_letterP c.toInt → sv_V X 1 0 0 ws 84 [some (.int c)] [] := by
    intro hj
    refine sv_iconst C (v := 0) (by decide) d_So_isLetter_84 ?_
    exact hr _ _ _ _ d_So_isLetter_85 rfl ⟨(if_neg hj).symm, rfl⟩
  have j66 : ¬ (97 ≤ c.toInt ∧ c.toInt ≤ 122) ∧ ¬ (65 ≤ c.toInt ∧ c.toInt ≤ 90) ∧ ¬ (192 ≤ c.toInt ∧ c.toInt ≤ 591 ∧ c.toInt ≠ 215 ∧ c.toInt ≠ 247) ∧ ¬ (913 ≤ c.toInt ∧ c.toInt ≤ 1023) → sv_V X 1 0 0 ws 66 [some (.int c)] [] := by
    intro hj
    refine sv_iload_n C rfl rfl d_So_isLetter_66 ?_
    refine sv_sipush C (v := 1024) (by decide) d_So_isLetter_67 ?_
    refine sv_icmpK_lt C (1024) (by decide) 84 (by decide) d_So_isLetter_70 (fun c70 => ?_) (fun c70 => ?_)
    · skip
      exact j84 (by omega)
    · skip
      refine sv_iload_n C rfl rfl d_So_isLetter_73 ?_
      refine sv_sipush C (v := 1279) (by decide) d_So_isLetter_74 ?_
      refine sv_icmpK_gt C (1279) (by decide) 84 (by decide) d_So_isLetter_77 (fun c77 => ?_) (fun c77 => ?_)
      · skip
        exact j84 (by omega)
      · skip
        exact j80 (by omega)
  have j52 : ¬ (97 ≤ c.toInt ∧ c.toInt ≤ 122) ∧ ¬ (65 ≤ c.toInt ∧ c.toInt ≤ 90) ∧ ¬ (192 ≤ c.toInt ∧ c.toInt ≤ 591 ∧ c.toInt ≠ 215 ∧ c.toInt ≠ 247) → sv_V X 1 0 0 ws 52 [some (.int c)] [] := by
    intro hj
    refine sv_iload_n C rfl rfl d_So_isLetter_52 ?_
    refine sv_sipush C (v := 913) (by decide) d_So_isLetter_53 ?_
    refine sv_icmpK_lt C (913) (by decide) 66 (by decide) d_So_isLetter_56 (fun c56 => ?_) (fun c56 => ?_)
    · skip
      exact j66 (by omega)
    · skip
      refine sv_iload_n C rfl rfl d_So_isLetter_59 ?_
      refine sv_sipush C (v := 1023) (by decide) d_So_isLetter_60 ?_
      refine sv_icmpK_le C (1023) (by decide) 80 (by decide) d_So_isLetter_63 (fun c63 => ?_) (fun c63 => ?_)
      · skip
        exact j80 (by omega)
      · skip
        exact j66 (by omega)
  have j24 : ¬ (97 ≤ c.toInt ∧ c.toInt ≤ 122) ∧ ¬ (65 ≤ c.toInt ∧ c.toInt ≤ 90) → sv_V X 1 0 0 ws 24 [some (.int c)] [] := by
    intro hj
    refine sv_iload_n C rfl rfl d_So_isLetter_24 ?_
    refine sv_sipush C (v := 192) (by decide) d_So_isLetter_25 ?_
    refine sv_icmpK_lt C (192) (by decide) 52 (by decide) d_So_isLetter_28 (fun c28 => ?_) (fun c28 => ?_)
    · skip
      exact j52 (by omega)
    · skip
      refine sv_iload_n C rfl rfl d_So_isLetter_31 ?_
      refine sv_sipush C (v := 591) (by decide) d_So_isLetter_32 ?_
      refine sv_icmpK_gt C (591) (by decide) 52 (by decide) d_So_isLetter_35 (fun c35 => ?_) (fun c35 => ?_)
      · skip
        exact j52 (by omega)
      · skip
        refine sv_iload_n C rfl rfl d_So_isLetter_38 ?_
        refine sv_sipush C (v := 215) (by decide) d_So_isLetter_39 ?_
        refine sv_icmpK_eq C (215) (by decide) 52 (by decide) d_So_isLetter_42 (fun c42 => ?_) (fun c42 => ?_)
        · skip
          exact j52 (by omega)
        · skip
          refine sv_iload_n C rfl rfl d_So_isLetter_45 ?_
          refine sv_sipush C (v := 247) (by decide) d_So_isLetter_46 ?_
          refine sv_icmpK_ne C (247) (by decide) 80 (by decide) d_So_isLetter_49 (fun c49 => ?_) (fun c49 => ?_)
          · skip
            exact j80 (by omega)
          · skip
            exact j52 (by omega)
  have j12 : ¬ (97 ≤ c.toInt ∧ c.toInt ≤ 122) → sv_V X 1 0 0 ws 12 [some (.int c)] [] := by
    intro hj
    refine sv_iload_n C rfl rfl d_So_isLetter_12 ?_
    refine sv_bipush C (v := 65) (by decide) d_So_isLetter_13 ?_
    refine sv_icmpK_lt C (65) (by decide) 24 (by decide) d_So_isLetter_15 (fun c15 => ?_) (fun c15 => ?_)
    · skip
      exact j24 (by omega)
    · skip
      refine sv_iload_n C rfl rfl d_So_isLetter_18 ?_
      refine sv_bipush C (v := 90) (by decide) d_So_isLetter_19 ?_
      refine sv_icmpK_le C (90) (by decide) 80 (by decide) d_So_isLetter_21 (fun c21 => ?_) (fun c21 => ?_)
      · skip
        exact j80 (by omega)
      · skip
        exact j24 (by omega)
  refine sv_iload_n C rfl rfl d_So_isLetter_0 ?_
  refine sv_bipush C (v := 97) (by decide) d_So_isLetter_1 ?_
  refine sv_icmpK_lt C (97) (by decide) 12 (by decide) d_So_isLetter_3 (fun c3 => ?_) (fun c3 => ?_)
  · skip
    exact j12 (by omega)
  · skip
    refine sv_iload_n C rfl rfl d_So_isLetter_6 ?_
    refine sv_bipush C (v := 122) (by decide) d_So_isLetter_7 ?_
    refine sv_icmpK_le C (122) (by decide) 80 (by decide) d_So_isLetter_9 (fun c9 => ?_) (fun c9 => ?_)
    · skip
      exact j80 (by omega)
    · skip
      exact j12 (by omega)

def rm_So_isInner : Room := { frames := 0, cells := 0, slots := 0, locals := 0 }
set_option maxHeartbeats 4000000 in
set_option maxRecDepth 100000 in
theorem c_So_isInner (l : Launch) (g : sv_G) (ws : va_W) (s : Nat) (hs : s < 8) : sv_Mi l y_So_isInner b_So_isInner 1 (some (.boolean)) rm_So_isInner g [.int (nI s)] ws (fun r w => r = (if pu_inn s then 1 else 0) ∧ w = ws) := by
  refine sv_enter_i (by decide) rfl rfl (Nat.le_of_ble_eq_true rfl) (fun X C hI hr => ?_)
  refine sv_lvE (lv' := [some _]) rfl ?_
  refine sv_iload_n C rfl rfl d_So_isInner_0 ?_
  refine sv_iconst C (v := 1) (by decide) d_So_isInner_1 ?_
  refine sv_icmpN_eq C _ 1 (by omega) (by omega) 15 (by decide) d_So_isInner_2 (fun c2 => ?_) (fun c2 => ?_)
  · skip
    refine sv_iconst C (v := 1) (by decide) d_So_isInner_15 ?_
    refine sv_goto C 20 (by decide) d_So_isInner_16 ?_
    exact hr _ _ _ _ d_So_isInner_20 rfl ⟨(if_pos (by omega)).symm, rfl⟩
  · skip
    refine sv_iload_n C rfl rfl d_So_isInner_5 ?_
    refine sv_iconst C (v := 2) (by decide) d_So_isInner_6 ?_
    refine sv_icmpN_eq C _ 2 (by omega) (by omega) 15 (by decide) d_So_isInner_7 (fun c7 => ?_) (fun c7 => ?_)
    · skip
      refine sv_iconst C (v := 1) (by decide) d_So_isInner_15 ?_
      refine sv_goto C 20 (by decide) d_So_isInner_16 ?_
      exact hr _ _ _ _ d_So_isInner_20 rfl ⟨(if_pos (by omega)).symm, rfl⟩
    · skip
      refine sv_iload_n C rfl rfl d_So_isInner_10 ?_
      refine sv_iconst C (v := 3) (by decide) d_So_isInner_11 ?_
      refine sv_icmpN_ne C _ 3 (by omega) (by omega) 19 (by decide) d_So_isInner_12 (fun c12 => ?_) (fun c12 => ?_)
      · skip
        refine sv_iconst C (v := 0) (by decide) d_So_isInner_19 ?_
        exact hr _ _ _ _ d_So_isInner_20 rfl ⟨(if_neg (by omega)).symm, rfl⟩
      · skip
        refine sv_iconst C (v := 1) (by decide) d_So_isInner_15 ?_
        refine sv_goto C 20 (by decide) d_So_isInner_16 ?_
        exact hr _ _ _ _ d_So_isInner_20 rfl ⟨(if_pos (by omega)).symm, rfl⟩

def rm_So_ties : Room := { frames := 0, cells := 0, slots := 0, locals := 0 }
set_option maxHeartbeats 4000000 in
set_option maxRecDepth 100000 in
theorem c_So_ties (l : Launch) (g : sv_G) (ws : va_W) (m o : Nat) (hm : m < 8) (ho : o < 8) : sv_Mi l y_So_ties b_So_ties 2 (some (.boolean)) rm_So_ties g [.int (nI m), .int (nI o)] ws (fun r w => r = (if pu_ties m o then 1 else 0) ∧ w = ws) := by
  refine sv_enter_i (by decide) rfl rfl (Nat.le_of_ble_eq_true rfl) (fun X C hI hr => ?_)
  refine sv_lvE (lv' := [some _, some _]) rfl ?_
  refine sv_iload_n C rfl rfl d_So_ties_0 ?_
  refine sv_iconst C (v := 1) (by decide) d_So_ties_1 ?_
  refine sv_icmpN_ne C _ 1 (by omega) (by omega) 22 (by decide) d_So_ties_2 (fun c2 => ?_) (fun c2 => ?_)
  · skip
    refine sv_iload_n C rfl rfl d_So_ties_22 ?_
    refine sv_iconst C (v := 2) (by decide) d_So_ties_23 ?_
    refine sv_icmpN_ne C _ 2 (by omega) (by omega) 42 (by decide) d_So_ties_24 (fun c24 => ?_) (fun c24 => ?_)
    · skip
      refine sv_iconst C (v := 0) (by decide) d_So_ties_42 ?_
      exact hr _ _ _ _ d_So_ties_43 rfl ⟨(if_neg (by omega)).symm, rfl⟩
    · skip
      refine sv_iload_n C rfl rfl d_So_ties_27 ?_
      refine sv_iconst C (v := 5) (by decide) d_So_ties_28 ?_
      refine sv_icmpN_eq C _ 5 (by omega) (by omega) 38 (by decide) d_So_ties_29 (fun c29 => ?_) (fun c29 => ?_)
      · skip
        refine sv_iconst C (v := 1) (by decide) d_So_ties_38 ?_
        refine sv_goto C 43 (by decide) d_So_ties_39 ?_
        exact hr _ _ _ _ d_So_ties_43 rfl ⟨(if_pos (by omega)).symm, rfl⟩
      · skip
        refine sv_iload_n C rfl rfl d_So_ties_32 ?_
        refine sv_bipush C (v := 6) (by decide) d_So_ties_33 ?_
        refine sv_icmpN_ne C _ 6 (by omega) (by omega) 42 (by decide) d_So_ties_35 (fun c35 => ?_) (fun c35 => ?_)
        · skip
          refine sv_iconst C (v := 0) (by decide) d_So_ties_42 ?_
          exact hr _ _ _ _ d_So_ties_43 rfl ⟨(if_neg (by omega)).symm, rfl⟩
        · skip
          refine sv_iconst C (v := 1) (by decide) d_So_ties_38 ?_
          refine sv_goto C 43 (by decide) d_So_ties_39 ?_
          exact hr _ _ _ _ d_So_ties_43 rfl ⟨(if_pos (by omega)).symm, rfl⟩
  · skip
    refine sv_iload_n C rfl rfl d_So_ties_5 ?_
    refine sv_iconst C (v := 4) (by decide) d_So_ties_6 ?_
    refine sv_icmpN_eq C _ 4 (by omega) (by omega) 16 (by decide) d_So_ties_7 (fun c7 => ?_) (fun c7 => ?_)
    · skip
      refine sv_iconst C (v := 1) (by decide) d_So_ties_16 ?_
      refine sv_goto C 21 (by decide) d_So_ties_17 ?_
      exact hr _ _ _ _ d_So_ties_21 rfl ⟨(if_pos (by omega)).symm, rfl⟩
    · skip
      refine sv_iload_n C rfl rfl d_So_ties_10 ?_
      refine sv_bipush C (v := 6) (by decide) d_So_ties_11 ?_
      refine sv_icmpN_ne C _ 6 (by omega) (by omega) 20 (by decide) d_So_ties_13 (fun c13 => ?_) (fun c13 => ?_)
      · skip
        refine sv_iconst C (v := 0) (by decide) d_So_ties_20 ?_
        exact hr _ _ _ _ d_So_ties_21 rfl ⟨(if_neg (by omega)).symm, rfl⟩
      · skip
        refine sv_iconst C (v := 1) (by decide) d_So_ties_16 ?_
        refine sv_goto C 21 (by decide) d_So_ties_17 ?_
        exact hr _ _ _ _ d_So_ties_21 rfl ⟨(if_pos (by omega)).symm, rfl⟩

def rm_So_of : Room := { frames := 1, cells := 0, slots := 0, locals := 20 }
set_option maxHeartbeats 4000000 in
set_option maxRecDepth 100000 in
theorem c_So_of (l : Launch) (g : sv_G) (ws : va_W) (c : Int32) : sv_Mi l y_So_of b_So_of 1 (some (.int)) rm_So_of g [.int c] ws (fun r w => r = nI (pu_sort c.toInt) ∧ w = ws) := by
  refine sv_enter_i (by decide) rfl rfl (Nat.le_of_ble_eq_true rfl) (fun X C hI hr => ?_)
  refine sv_lvE (lv' := [some _]) rfl ?_
  have j39 : ¬ pu_letterP c.toInt ∧ ¬ (48 ≤ c.toInt ∧ c.toInt ≤ 57) ∧ ¬ (19968 ≤ c.toInt ∧ c.toInt ≤ 40959) → sv_V X 1 0 0 ws 39 [some (.int c)] [] := by
    intro hj
    refine sv_iload_n C rfl rfl d_So_of_39 ?_
    rcases Decidable.em (c = 39) with e39 | e39
    · have x39 : c.toInt = 39 := by rw [e39]; rfl
      refine sv_lookup C 114 d_So_of_40 (by decide) (off := 74) (by rw [x39]; rfl) (by decide) ?_
      refine sv_bipush C (v := 6) (by decide) d_So_of_114 ?_
      exact hr _ _ _ _ d_So_of_116 rfl ⟨(show (6 : Int32) = nI 6 from rfl).trans (congrArg nI (by unfold pu_sort; (repeat' split) <;> first | rfl | (exfalso; omega))), rfl⟩
    · have x39 : c.toInt ≠ 39 := lv_neT (k := 39) e39 rfl
      rcases Decidable.em (c = 44) with e44 | e44
      · have x44 : c.toInt = 44 := by rw [e44]; rfl
        refine sv_lookup C 112 d_So_of_40 (by decide) (off := 72) (by rw [x44]; rfl) (by decide) ?_
        refine sv_iconst C (v := 5) (by decide) d_So_of_112 ?_
        exact hr _ _ _ _ d_So_of_113 rfl ⟨(show (5 : Int32) = nI 5 from rfl).trans (congrArg nI (by unfold pu_sort; (repeat' split) <;> first | rfl | (exfalso; omega))), rfl⟩
      · have x44 : c.toInt ≠ 44 := lv_neT (k := 44) e44 rfl
        rcases Decidable.em (c = 46) with e46 | e46
        · have x46 : c.toInt = 46 := by rw [e46]; rfl
          refine sv_lookup C 114 d_So_of_40 (by decide) (off := 74) (by rw [x46]; rfl) (by decide) ?_
          refine sv_bipush C (v := 6) (by decide) d_So_of_114 ?_
          exact hr _ _ _ _ d_So_of_116 rfl ⟨(show (6 : Int32) = nI 6 from rfl).trans (congrArg nI (by unfold pu_sort; (repeat' split) <;> first | rfl | (exfalso; omega))), rfl⟩
        · have x46 : c.toInt ≠ 46 := lv_neT (k := 46) e46 rfl
          rcases Decidable.em (c = 59) with e59 | e59
          · have x59 : c.toInt = 59 := by rw [e59]; rfl
            refine sv_lookup C 112 d_So_of_40 (by decide) (off := 72) (by rw [x59]; rfl) (by decide) ?_
            refine sv_iconst C (v := 5) (by decide) d_So_of_112 ?_
            exact hr _ _ _ _ d_So_of_113 rfl ⟨(show (5 : Int32) = nI 5 from rfl).trans (congrArg nI (by unfold pu_sort; (repeat' split) <;> first | rfl | (exfalso; omega))), rfl⟩
          · have x59 : c.toInt ≠ 59 := lv_neT (k := 59) e59 rfl
            rcases Decidable.em (c = 95) with e95 | e95
            · have x95 : c.toInt = 95 := by rw [e95]; rfl
              refine sv_lookup C 108 d_So_of_40 (by decide) (off := 68) (by rw [x95]; rfl) (by decide) ?_
              refine sv_iconst C (v := 3) (by decide) d_So_of_108 ?_
              exact hr _ _ _ _ d_So_of_109 rfl ⟨(show (3 : Int32) = nI 3 from rfl).trans (congrArg nI (by unfold pu_sort; (repeat' split) <;> first | rfl | (exfalso; omega))), rfl⟩
            · have x95 : c.toInt ≠ 95 := lv_neT (k := 95) e95 rfl
              rcases Decidable.em (c = 183) with e183 | e183
              · have x183 : c.toInt = 183 := by rw [e183]; rfl
                refine sv_lookup C 110 d_So_of_40 (by decide) (off := 70) (by rw [x183]; rfl) (by decide) ?_
                refine sv_iconst C (v := 4) (by decide) d_So_of_110 ?_
                exact hr _ _ _ _ d_So_of_111 rfl ⟨(show (4 : Int32) = nI 4 from rfl).trans (congrArg nI (by unfold pu_sort; (repeat' split) <;> first | rfl | (exfalso; omega))), rfl⟩
              · have x183 : c.toInt ≠ 183 := lv_neT (k := 183) e183 rfl
                rcases Decidable.em (c = 8217) with e8217 | e8217
                · have x8217 : c.toInt = 8217 := by rw [e8217]; rfl
                  refine sv_lookup C 114 d_So_of_40 (by decide) (off := 74) (by rw [x8217]; rfl) (by decide) ?_
                  refine sv_bipush C (v := 6) (by decide) d_So_of_114 ?_
                  exact hr _ _ _ _ d_So_of_116 rfl ⟨(show (6 : Int32) = nI 6 from rfl).trans (congrArg nI (by unfold pu_sort; (repeat' split) <;> first | rfl | (exfalso; omega))), rfl⟩
                · have x8217 : c.toInt ≠ 8217 := lv_neT (k := 8217) e8217 rfl
                  refine sv_lookup C 117 d_So_of_40 (by decide) (off := 77) ((lv_osw (k := 39) (a := 39) e39 rfl).trans ((lv_osw (k := 44) (a := 44) e44 rfl).trans ((lv_osw (k := 46) (a := 46) e46 rfl).trans ((lv_osw (k := 59) (a := 59) e59 rfl).trans ((lv_osw (k := 95) (a := 95) e95 rfl).trans ((lv_osw (k := 183) (a := 183) e183 rfl).trans ((lv_osw (k := 8217) (a := 8217) e8217 rfl).trans (rfl)))))))) (by decide) ?_
                  refine sv_iconst C (v := 0) (by decide) d_So_of_117 ?_
                  exact hr _ _ _ _ d_So_of_118 rfl ⟨(show (0 : Int32) = nI 0 from rfl).trans (congrArg nI (by unfold pu_sort; (repeat' split) <;> first | rfl | (exfalso; omega))), rfl⟩
  have j23 : ¬ pu_letterP c.toInt ∧ ¬ (48 ≤ c.toInt ∧ c.toInt ≤ 57) → sv_V X 1 0 0 ws 23 [some (.int c)] [] := by
    intro hj
    refine sv_iload_n C rfl rfl d_So_of_23 ?_
    refine sv_sipush C (v := 19968) (by decide) d_So_of_24 ?_
    refine sv_icmpK_lt C (19968) (by decide) 39 (by decide) d_So_of_27 (fun c27 => ?_) (fun c27 => ?_)
    · skip
      exact j39 (by omega)
    · skip
      refine sv_iload_n C rfl rfl d_So_of_30 ?_
      refine sv_ldc C wc_So_13 d_So_of_31 ?_
      refine sv_icmpK_gt C (40959) (by decide) 39 (by decide) d_So_of_33 (fun c33 => ?_) (fun c33 => ?_)
      · skip
        exact j39 (by omega)
      · skip
        refine sv_bipush C (v := 7) (by decide) d_So_of_36 ?_
        exact hr _ _ _ _ d_So_of_38 rfl ⟨(show (7 : Int32) = nI 7 from rfl).trans (congrArg nI (by unfold pu_sort; (repeat' split) <;> first | rfl | (exfalso; omega))), rfl⟩
  refine sv_iload_n C rfl rfl d_So_of_0 ?_
  refine sv_callSi C (c_So_isLetter l g _ c) lk_So_7  d_So_of_1 (by decide) (Nat.le_of_ble_eq_true rfl) (by decide) (fun r w hw => ?_)
  obtain ⟨rfl, rfl⟩ := hw
  refine sv_ifB_eq C _ 9 (by decide) d_So_of_4 (fun c4 => ?_) (fun c4 => ?_)
  · skip
    refine sv_iload_n C rfl rfl d_So_of_9 ?_
    refine sv_bipush C (v := 48) (by decide) d_So_of_10 ?_
    refine sv_icmpK_lt C (48) (by decide) 23 (by decide) d_So_of_12 (fun c12 => ?_) (fun c12 => ?_)
    · skip
      exact j23 (by omega)
    · skip
      refine sv_iload_n C rfl rfl d_So_of_15 ?_
      refine sv_bipush C (v := 57) (by decide) d_So_of_16 ?_
      refine sv_icmpK_gt C (57) (by decide) 23 (by decide) d_So_of_18 (fun c18 => ?_) (fun c18 => ?_)
      · skip
        exact j23 (by omega)
      · skip
        refine sv_iconst C (v := 2) (by decide) d_So_of_21 ?_
        exact hr _ _ _ _ d_So_of_22 rfl ⟨(show (2 : Int32) = nI 2 from rfl).trans (congrArg nI (by unfold pu_sort; (repeat' split) <;> first | rfl | (exfalso; omega))), rfl⟩
  · skip
    refine sv_iconst C (v := 1) (by decide) d_So_of_7 ?_
    exact hr _ _ _ _ d_So_of_8 rfl ⟨(show (1 : Int32) = nI 1 from rfl).trans (congrArg nI (by unfold pu_sort; (repeat' split) <;> first | rfl | (exfalso; omega))), rfl⟩
end
section
/-! CONTRACTS: the JDK's strings -/
theorem sv_ascii : ∀ i, i < sv_nS → (sv_txt i).length < 200 ∧ ∀ c ∈ sv_txt i, 0 ≤ c.toInt ∧ c.toInt < 128 := by decide +kernel
theorem sv_len {i : Nat} (hi : i < sv_nS) : (sv_txt i).length < 200 := (sv_ascii i hi).1
theorem sv_ch {i j : Nat} (hi : i < sv_nS) (hj : j < (sv_txt i).length) : ∃ q : Nat, q < 128 ∧ (sv_txt i).getD j 0 = nI q := by
  have h1 : (sv_txt i).getD j 0 ∈ sv_txt i := by
    rw [List.getD_eq_getElem?_getD, List.getElem?_eq_getElem hj]
    exact List.getElem_mem _
  obtain ⟨h2, h3⟩ := (sv_ascii i hi).2 _ h1
  refine ⟨((sv_txt i).getD j 0).toInt.toNat, by omega, ?_⟩
  apply Int32.toInt_inj.mp
  rw [nI_toInt (by omega)]
  omega
theorem sv_ch8 : ∀ q, q < 128 → ((nI q &&& 255).toUInt32 % 65536).toInt32 = nI q := by decide +kernel
theorem sv_chE {i j : Nat} (hi : i < sv_nS) (hj : j < (sv_txt i).length) : (((sv_txt i).getD j 0 &&& 255).toUInt32 % 65536).toInt32 = (sv_txt i).getD j 0 := by
  obtain ⟨q, hq, e⟩ := sv_ch hi hj
  rw [e]
  exact sv_ch8 q hq
theorem sv_chN {i j : Nat} (hi : i < sv_nS) (hj : j < (sv_txt i).length) : narrow .char (.int ((sv_txt i).getD j 0)) = .int ((sv_txt i).getD j 0) := by
  obtain ⟨q, hq, e⟩ := sv_ch hi hj
  rw [e]
  exact (pk_charN (by omega)).1
def rm_Pre_checkIndex : Room := { frames := 1, cells := 0, slots := 0, locals := 80 }
set_option maxHeartbeats 4000000 in
set_option maxRecDepth 100000 in
theorem c_Pre_checkIndex (l : Launch) (g : sv_G) (ws : va_W) (a b : Nat) (v : Option Nat) (hab : a < b) (hb : b < 2 ^ 30) : sv_Mi l y_Pre_checkIndex b_Pre_checkIndex 3 (some (.int)) rm_Pre_checkIndex g [.int (nI a), .int (nI b), va_rf v] ws (fun r w => r = nI a ∧ w = ws) := by
  refine sv_enter_i (by decide) rfl (by cases v <;> rfl) (Nat.le_of_ble_eq_true rfl) (fun X C hI hr => ?_)
  refine sv_lvE (lv' := [some _, some _, some _]) rfl ?_
  refine sv_iload_n C rfl rfl d_Pre_checkIndex_0 ?_
  refine sv_ifZ_lt C 9 (by decide) d_Pre_checkIndex_1 (fun c1 => ?_) (fun c1 => ?_)
  · skip
    exact absurd c1 (by rw [nI_toInt (by omega)]; omega)
  · skip
    refine sv_iload_n C rfl rfl d_Pre_checkIndex_4 ?_
    refine sv_iload_n C rfl rfl d_Pre_checkIndex_5 ?_
    refine sv_icmpN_lt C _ _ (by omega) (by omega) 16 (by decide) d_Pre_checkIndex_6 (fun c6 => ?_) (fun c6 => ?_)
    · skip
      refine sv_iload_n C rfl rfl d_Pre_checkIndex_16 ?_
      exact hr _ _ _ _ d_Pre_checkIndex_17 rfl ⟨rfl, rfl⟩
    · skip
      exact absurd c6 (by omega)

def rm_Str_checkIndex : Room := { frames := 2, cells := 0, slots := 0, locals := 102 }
set_option maxHeartbeats 4000000 in
set_option maxRecDepth 100000 in
theorem c_Str_checkIndex (l : Launch) (g : sv_G) (ws : va_W) (a b : Nat) (hab : a < b) (hb : b < 2 ^ 30) : sv_Mv l y_Str_checkIndex b_Str_checkIndex 2 none rm_Str_checkIndex g [.int (nI a), .int (nI b)] ws (fun w => w = ws) := by
  refine sv_enter_v (by decide) rfl rfl (Nat.le_of_ble_eq_true rfl) (fun X C hI hr => ?_)
  refine sv_lvE (lv' := [some _, some _]) rfl ?_
  refine sv_iload_n C rfl rfl d_Str_checkIndex_0 ?_
  refine sv_iload_n C rfl rfl d_Str_checkIndex_1 ?_
  refine sv_getsF C wz_1053 d_Str_checkIndex_2 (fun v => ?_)
  refine sv_callSi C (c_Pre_checkIndex l g _ a b v hab hb) lk_Str_1059  d_Str_checkIndex_5 (by decide) (Nat.le_of_ble_eq_true rfl) (by decide) (fun r w hw => ?_)
  obtain ⟨rfl, rfl⟩ := hw
  refine sv_pop C rfl d_Str_checkIndex_8 ?_
  exact hr _ _ _ d_Str_checkIndex_9 rfl

def rm_Lat_charAt : Room := { frames := 3, cells := 0, slots := 0, locals := 123 }
set_option maxHeartbeats 4000000 in
set_option maxRecDepth 100000 in
theorem c_Lat_charAt (l : Launch) (g : sv_G) (ws : va_W) (i j : Nat) (hi : i < sv_nS) (hj : j < (sv_txt i).length) : sv_Mi l y_Lat_charAt b_Lat_charAt 2 (some (.char)) rm_Lat_charAt g [.ref (g.2.2.2 i), .int (nI j)] ws (fun r w => r = (sv_txt i).getD j 0 ∧ w = ws) := by
  have hl := sv_len hi
  refine sv_enter_i (by decide) rfl rfl (Nat.le_of_ble_eq_true rfl) (fun X C hI hr => ?_)
  refine sv_lvE (lv' := [some _, some _]) rfl ?_
  refine sv_iload_n C rfl rfl d_Lat_charAt_0 ?_
  refine sv_aload_n C rfl rfl d_Lat_charAt_1 ?_
  refine sv_lenS C i hi d_Lat_charAt_2 ?_
  refine sv_callSv C (c_Str_checkIndex l g _ j _ hj (by omega)) lk_Lat_9  d_Lat_charAt_3 (by decide) (Nat.le_of_ble_eq_true rfl) (by decide) (fun w hw => ?_)
  obtain rfl := hw
  refine sv_aload_n C rfl rfl d_Lat_charAt_6 ?_
  refine sv_iload_n C rfl rfl d_Lat_charAt_7 ?_
  refine sv_baldS C i j hi hj (by omega) d_Lat_charAt_8 ?_
  refine sv_sipush C (v := 255) (by decide) d_Lat_charAt_9 ?_
  refine sv_iand C d_Lat_charAt_12 ?_
  refine sv_i2c C d_Lat_charAt_13 ?_
  refine sv_eqi (sv_chE hi hj) ?_
  exact hr _ _ _ _ d_Lat_charAt_14 (sv_chN hi hj) ⟨rfl, rfl⟩

def rm_Str_isLatin1 : Room := { frames := 0, cells := 0, slots := 0, locals := 0 }
set_option maxHeartbeats 4000000 in
set_option maxRecDepth 100000 in
theorem c_Str_isLatin1 (l : Launch) (g : sv_G) (ws : va_W) (i : Nat) (hi : i < sv_nS) : sv_Mi l y_Str_isLatin1 b_Str_isLatin1 1 (some (.boolean)) rm_Str_isLatin1 g [.ref (g.2.2.1 i)] ws (fun r w => r = 1 ∧ w = ws) := by
  refine sv_enter_i (by decide) rfl rfl (Nat.le_of_ble_eq_true rfl) (fun X C hI hr => ?_)
  refine sv_lvE (lv' := [some _]) rfl ?_
  refine sv_getsC C wz_38 d_Str_isLatin1_0 ?_
  refine sv_ifZ_eq C 17 (by decide) d_Str_isLatin1_3 (fun c3 => ?_) (fun c3 => ?_)
  · skip
    exact absurd c3 (by decide)
  · skip
    refine sv_aload_n C rfl rfl d_Str_isLatin1_6 ?_
    refine sv_getSc C i hi wz_15 d_Str_isLatin1_7 ?_
    refine sv_ifZ_ne C 17 (by decide) d_Str_isLatin1_10 (fun c10 => ?_) (fun c10 => ?_)
    · skip
      exact absurd (show (0 : Int32).toInt = 0 from rfl) c10
    · skip
      refine sv_iconst C (v := 1) (by decide) d_Str_isLatin1_13 ?_
      refine sv_goto C 18 (by decide) d_Str_isLatin1_14 ?_
      exact hr _ _ _ _ d_Str_isLatin1_18 rfl ⟨rfl, rfl⟩

def rm_Str_charAt : Room := { frames := 5, cells := 0, slots := 0, locals := 165 }
set_option maxHeartbeats 4000000 in
set_option maxRecDepth 100000 in
theorem c_Str_charAt (l : Launch) (g : sv_G) (ws : va_W) (i j : Nat) (hi : i < sv_nS) (hj : j < (sv_txt i).length) : sv_Mi l y_Str_charAt b_Str_charAt 2 (some (.char)) rm_Str_charAt g [.ref (g.2.2.1 i), .int (nI j)] ws (fun r w => r = (sv_txt i).getD j 0 ∧ w = ws) := by
  refine sv_enter_i (by decide) rfl rfl (Nat.le_of_ble_eq_true rfl) (fun X C hI hr => ?_)
  refine sv_lvE (lv' := [some _, some _]) rfl ?_
  refine sv_aload_n C rfl rfl d_Str_charAt_0 ?_
  refine sv_callVsi C i hi (c_Str_isLatin1 l g _ i hi) lk_Str_492 rfl d_Str_charAt_1 (by decide) (Nat.le_of_ble_eq_true rfl) (by decide) (fun r w hw => ?_)
  obtain ⟨rfl, rfl⟩ := hw
  refine sv_ifZ_eq C 16 (by decide) d_Str_charAt_4 (fun c4 => ?_) (fun c4 => ?_)
  · skip
    exact absurd c4 (by decide)
  · skip
    refine sv_aload_n C rfl rfl d_Str_charAt_7 ?_
    refine sv_getSv C i hi wz_9 d_Str_charAt_8 ?_
    refine sv_iload_n C rfl rfl d_Str_charAt_11 ?_
    refine sv_callSi C (c_Lat_charAt l g _ i j hi hj) lk_Str_495  d_Str_charAt_12 (by decide) (Nat.le_of_ble_eq_true rfl) (by decide) (fun r w hw => ?_)
    obtain ⟨rfl, rfl⟩ := hw
    exact hr _ _ _ _ d_Str_charAt_15 (sv_chN hi hj) ⟨rfl, rfl⟩

def rm_Str_coder : Room := { frames := 0, cells := 0, slots := 0, locals := 0 }
set_option maxHeartbeats 4000000 in
set_option maxRecDepth 100000 in
theorem c_Str_coder (l : Launch) (g : sv_G) (ws : va_W) (i : Nat) (hi : i < sv_nS) : sv_Mi l y_Str_coder b_Str_coder 1 (some (.byte)) rm_Str_coder g [.ref (g.2.2.1 i)] ws (fun r w => r = 0 ∧ w = ws) := by
  refine sv_enter_i (by decide) rfl rfl (Nat.le_of_ble_eq_true rfl) (fun X C hI hr => ?_)
  refine sv_lvE (lv' := [some _]) rfl ?_
  refine sv_getsC C wz_38 d_Str_coder_0 ?_
  refine sv_ifZ_eq C 13 (by decide) d_Str_coder_3 (fun c3 => ?_) (fun c3 => ?_)
  · skip
    exact absurd c3 (by decide)
  · skip
    refine sv_aload_n C rfl rfl d_Str_coder_6 ?_
    refine sv_getSc C i hi wz_15 d_Str_coder_7 ?_
    refine sv_goto C 14 (by decide) d_Str_coder_10 ?_
    exact hr _ _ _ _ d_Str_coder_14 rfl ⟨rfl, rfl⟩

def rm_Str_length : Room := { frames := 1, cells := 0, slots := 0, locals := 20 }
set_option maxHeartbeats 4000000 in
set_option maxRecDepth 100000 in
theorem c_Str_length (l : Launch) (g : sv_G) (ws : va_W) (i : Nat) (hi : i < sv_nS) : sv_Mi l y_Str_length b_Str_length 1 (some (.int)) rm_Str_length g [.ref (g.2.2.1 i)] ws (fun r w => r = nI (sv_txt i).length ∧ w = ws) := by
  have hl := sv_len hi
  refine sv_enter_i (by decide) rfl rfl (Nat.le_of_ble_eq_true rfl) (fun X C hI hr => ?_)
  refine sv_lvE (lv' := [some _]) rfl ?_
  refine sv_aload_n C rfl rfl d_Str_length_0 ?_
  refine sv_getSv C i hi wz_9 d_Str_length_1 ?_
  refine sv_lenS C i hi d_Str_length_4 ?_
  refine sv_aload_n C rfl rfl d_Str_length_5 ?_
  refine sv_callVsi C i hi (c_Str_coder l g _ i hi) lk_Str_335 rfl d_Str_length_6 (by decide) (Nat.le_of_ble_eq_true rfl) (by decide) (fun r w hw => ?_)
  obtain ⟨rfl, rfl⟩ := hw
  refine sv_ishr C d_Str_length_9 ?_
  refine sv_eqi (sc_shr0 (by omega)) ?_
  exact hr _ _ _ _ d_Str_length_10 rfl ⟨rfl, rfl⟩
end
section
/-! CONTRACTS: Utf8, Text -/
theorem pu_size1 {u : Nat → Nat} {a e : Nat} (h : pu_size u a e = 1) : u a < 128 ∧ pu_char u a e = u a := by
  refine ⟨?_, ?_⟩
  · unfold pu_size at h
    (repeat' split at h) <;> omega
  · unfold pu_char
    rw [if_neg (by omega), if_pos h]
theorem pu_vl_succ {u : Nat → Nat} {a s j : Nat} (h : 1 ≤ j) : pu_vl u a s j * 64 + u (a + j) % 64 = pu_vl u a s (j + 1) := by
  cases j with
  | zero => omega
  | succ j => rfl
theorem pu_vl_end {u : Nat → Nat} {a e s j : Nat} (hs : pu_size u a e = s) (h2 : 2 ≤ s) (hj : j = s) : pu_vl u a s j = pu_char u a e := by
  subst hj; subst hs
  exact (pu_char_val h2).symm
theorem pu_max1 {s : Nat} (h : s < 2 ^ 31) : (if (1 : Int32) < nI s then nI s else 1) = nI (if s = 0 then 1 else s) := by
  have h1 : ((1 : Int32) < nI s) ↔ 1 < s := nI_ltI (a := 1) (by decide) h
  by_cases h2 : 1 < s
  · rw [if_pos (h1.mpr h2), if_neg (by omega)]
  · rw [if_neg (fun z => h2 (h1.mp z))]
    by_cases h3 : s = 0
    · rw [if_pos h3]; rfl
    · have : s = 1 := by omega
      subst this
      rfl
def rm_Ut_sizeByLead : Room := { frames := 0, cells := 0, slots := 0, locals := 0 }
set_option maxHeartbeats 4000000 in
set_option maxRecDepth 100000 in
theorem c_Ut_sizeByLead (l : Launch) (g : sv_G) (ws : va_W) (u : Nat) (hu : u < 256) : sv_Mi l y_Ut_sizeByLead b_Ut_sizeByLead 1 (some (.int)) rm_Ut_sizeByLead g [.int (nI u)] ws (fun r w => r = nI (pu_lead u) ∧ w = ws) := by
  refine sv_enter_i (by decide) rfl rfl (Nat.le_of_ble_eq_true rfl) (fun X C hI hr => ?_)
  refine sv_lvE (lv' := [some _]) rfl ?_
  refine sv_iload_n C rfl rfl d_Ut_sizeByLead_0 ?_
  refine sv_sipush C (v := 128) (by decide) d_Ut_sizeByLead_1 ?_
  refine sv_icmpN_ge C _ 128 (by omega) (by omega) 9 (by decide) d_Ut_sizeByLead_4 (fun c4 => ?_) (fun c4 => ?_)
  · skip
    refine sv_iload_n C rfl rfl d_Ut_sizeByLead_9 ?_
    refine sv_sipush C (v := 194) (by decide) d_Ut_sizeByLead_10 ?_
    refine sv_icmpN_lt C _ 194 (by omega) (by omega) 23 (by decide) d_Ut_sizeByLead_13 (fun c13 => ?_) (fun c13 => ?_)
    · skip
      refine sv_iconst C (v := 0) (by decide) d_Ut_sizeByLead_23 ?_
      exact hr _ _ _ _ d_Ut_sizeByLead_24 rfl ⟨(show (0 : Int32) = nI 0 from rfl).trans (congrArg nI (by unfold pu_lead; (repeat' split) <;> omega)), rfl⟩
    · skip
      refine sv_iload_n C rfl rfl d_Ut_sizeByLead_16 ?_
      refine sv_sipush C (v := 244) (by decide) d_Ut_sizeByLead_17 ?_
      refine sv_icmpN_le C _ 244 (by omega) (by omega) 25 (by decide) d_Ut_sizeByLead_20 (fun c20 => ?_) (fun c20 => ?_)
      · skip
        refine sv_iload_n C rfl rfl d_Ut_sizeByLead_25 ?_
        refine sv_sipush C (v := 224) (by decide) d_Ut_sizeByLead_26 ?_
        refine sv_icmpN_ge C _ 224 (by omega) (by omega) 36 (by decide) d_Ut_sizeByLead_29 (fun c29 => ?_) (fun c29 => ?_)
        · skip
          refine sv_iload_n C rfl rfl d_Ut_sizeByLead_36 ?_
          refine sv_sipush C (v := 240) (by decide) d_Ut_sizeByLead_37 ?_
          refine sv_icmpN_ge C _ 240 (by omega) (by omega) 47 (by decide) d_Ut_sizeByLead_40 (fun c40 => ?_) (fun c40 => ?_)
          · skip
            refine sv_iconst C (v := 4) (by decide) d_Ut_sizeByLead_47 ?_
            exact hr _ _ _ _ d_Ut_sizeByLead_48 rfl ⟨(show (4 : Int32) = nI 4 from rfl).trans (congrArg nI (by unfold pu_lead; (repeat' split) <;> omega)), rfl⟩
          · skip
            refine sv_iconst C (v := 3) (by decide) d_Ut_sizeByLead_43 ?_
            refine sv_goto C 48 (by decide) d_Ut_sizeByLead_44 ?_
            exact hr _ _ _ _ d_Ut_sizeByLead_48 rfl ⟨(show (3 : Int32) = nI 3 from rfl).trans (congrArg nI (by unfold pu_lead; (repeat' split) <;> omega)), rfl⟩
        · skip
          refine sv_iconst C (v := 2) (by decide) d_Ut_sizeByLead_32 ?_
          refine sv_goto C 48 (by decide) d_Ut_sizeByLead_33 ?_
          exact hr _ _ _ _ d_Ut_sizeByLead_48 rfl ⟨(show (2 : Int32) = nI 2 from rfl).trans (congrArg nI (by unfold pu_lead; (repeat' split) <;> omega)), rfl⟩
      · skip
        refine sv_iconst C (v := 0) (by decide) d_Ut_sizeByLead_23 ?_
        exact hr _ _ _ _ d_Ut_sizeByLead_24 rfl ⟨(show (0 : Int32) = nI 0 from rfl).trans (congrArg nI (by unfold pu_lead; (repeat' split) <;> omega)), rfl⟩
  · skip
    refine sv_iconst C (v := 1) (by decide) d_Ut_sizeByLead_7 ?_
    exact hr _ _ _ _ d_Ut_sizeByLead_8 rfl ⟨(show (1 : Int32) = nI 1 from rfl).trans (congrArg nI (by unfold pu_lead; (repeat' split) <;> omega)), rfl⟩

def rm_Ut_isSecond : Room := { frames := 0, cells := 0, slots := 0, locals := 0 }
set_option maxHeartbeats 4000000 in
set_option maxRecDepth 100000 in
theorem c_Ut_isSecond (l : Launch) (g : sv_G) (ws : va_W) (u v : Nat) (hu : u < 256) (hv : v < 256) : sv_Mi l y_Ut_isSecond b_Ut_isSecond 4 (some (.boolean)) rm_Ut_isSecond g [.int (nI u), .int (nI v)] ws (fun r w => r = (if pu_sec u v then 1 else 0) ∧ w = ws) := by
  refine sv_enter_i (by decide) rfl rfl (Nat.le_of_ble_eq_true rfl) (fun X C hI hr => ?_)
  refine sv_lvE (lv' := [some _, some _, none, none]) rfl ?_
  refine sv_iload_n C rfl rfl d_Ut_isSecond_0 ?_
  refine sv_sipush C (v := 224) (by decide) d_Ut_isSecond_1 ?_
  refine sv_icmpN_ne C _ 224 (by omega) (by omega) 13 (by decide) d_Ut_isSecond_4 (fun c4 => ?_) (fun c4 => ?_)
  · skip
    refine sv_iload_n C rfl rfl d_Ut_isSecond_13 ?_
    refine sv_sipush C (v := 240) (by decide) d_Ut_isSecond_14 ?_
    refine sv_icmpN_ne C _ 240 (by omega) (by omega) 26 (by decide) d_Ut_isSecond_17 (fun c17 => ?_) (fun c17 => ?_)
    · skip
      refine sv_sipush C (v := 128) (by decide) d_Ut_isSecond_26 ?_
      refine sv_istore_n C rfl (by decide) [some _, some _, some _, none] rfl d_Ut_isSecond_29 ?_
      refine sv_iload_n C rfl rfl d_Ut_isSecond_30 ?_
      refine sv_sipush C (v := 237) (by decide) d_Ut_isSecond_31 ?_
      refine sv_icmpN_ne C _ 237 (by omega) (by omega) 43 (by decide) d_Ut_isSecond_34 (fun c34 => ?_) (fun c34 => ?_)
      · skip
        refine sv_iload_n C rfl rfl d_Ut_isSecond_43 ?_
        refine sv_sipush C (v := 244) (by decide) d_Ut_isSecond_44 ?_
        refine sv_icmpN_ne C _ 244 (by omega) (by omega) 56 (by decide) d_Ut_isSecond_47 (fun c47 => ?_) (fun c47 => ?_)
        · skip
          refine sv_sipush C (v := 191) (by decide) d_Ut_isSecond_56 ?_
          refine sv_istore_n C rfl (by decide) [some _, some _, some _, some _] rfl d_Ut_isSecond_59 ?_
          refine sv_iload_n C rfl rfl d_Ut_isSecond_60 ?_
          refine sv_iload_n C rfl rfl d_Ut_isSecond_61 ?_
          refine sv_icmpN_lt C _ 128 (by omega) (by omega) 74 (by decide) d_Ut_isSecond_62 (fun c62 => ?_) (fun c62 => ?_)
          · skip
            refine sv_iconst C (v := 0) (by decide) d_Ut_isSecond_74 ?_
            exact hr _ _ _ _ d_Ut_isSecond_75 rfl ⟨(if_neg (by unfold pu_sec; (repeat' split) <;> omega)).symm, rfl⟩
          · skip
            refine sv_iload_n C rfl rfl d_Ut_isSecond_65 ?_
            refine sv_iload_n C rfl rfl d_Ut_isSecond_66 ?_
            refine sv_icmpN_gt C _ 191 (by omega) (by omega) 74 (by decide) d_Ut_isSecond_67 (fun c67 => ?_) (fun c67 => ?_)
            · skip
              refine sv_iconst C (v := 0) (by decide) d_Ut_isSecond_74 ?_
              exact hr _ _ _ _ d_Ut_isSecond_75 rfl ⟨(if_neg (by unfold pu_sec; (repeat' split) <;> omega)).symm, rfl⟩
            · skip
              refine sv_iconst C (v := 1) (by decide) d_Ut_isSecond_70 ?_
              refine sv_goto C 75 (by decide) d_Ut_isSecond_71 ?_
              exact hr _ _ _ _ d_Ut_isSecond_75 rfl ⟨(if_pos (by unfold pu_sec; (repeat' split) <;> omega)).symm, rfl⟩
        · skip
          refine sv_sipush C (v := 143) (by decide) d_Ut_isSecond_50 ?_
          refine sv_goto C 59 (by decide) d_Ut_isSecond_53 ?_
          refine sv_istore_n C rfl (by decide) [some _, some _, some _, some _] rfl d_Ut_isSecond_59 ?_
          refine sv_iload_n C rfl rfl d_Ut_isSecond_60 ?_
          refine sv_iload_n C rfl rfl d_Ut_isSecond_61 ?_
          refine sv_icmpN_lt C _ 128 (by omega) (by omega) 74 (by decide) d_Ut_isSecond_62 (fun c62 => ?_) (fun c62 => ?_)
          · skip
            refine sv_iconst C (v := 0) (by decide) d_Ut_isSecond_74 ?_
            exact hr _ _ _ _ d_Ut_isSecond_75 rfl ⟨(if_neg (by unfold pu_sec; (repeat' split) <;> omega)).symm, rfl⟩
          · skip
            refine sv_iload_n C rfl rfl d_Ut_isSecond_65 ?_
            refine sv_iload_n C rfl rfl d_Ut_isSecond_66 ?_
            refine sv_icmpN_gt C _ 143 (by omega) (by omega) 74 (by decide) d_Ut_isSecond_67 (fun c67 => ?_) (fun c67 => ?_)
            · skip
              refine sv_iconst C (v := 0) (by decide) d_Ut_isSecond_74 ?_
              exact hr _ _ _ _ d_Ut_isSecond_75 rfl ⟨(if_neg (by unfold pu_sec; (repeat' split) <;> omega)).symm, rfl⟩
            · skip
              refine sv_iconst C (v := 1) (by decide) d_Ut_isSecond_70 ?_
              refine sv_goto C 75 (by decide) d_Ut_isSecond_71 ?_
              exact hr _ _ _ _ d_Ut_isSecond_75 rfl ⟨(if_pos (by unfold pu_sec; (repeat' split) <;> omega)).symm, rfl⟩
      · skip
        refine sv_sipush C (v := 159) (by decide) d_Ut_isSecond_37 ?_
        refine sv_goto C 59 (by decide) d_Ut_isSecond_40 ?_
        refine sv_istore_n C rfl (by decide) [some _, some _, some _, some _] rfl d_Ut_isSecond_59 ?_
        refine sv_iload_n C rfl rfl d_Ut_isSecond_60 ?_
        refine sv_iload_n C rfl rfl d_Ut_isSecond_61 ?_
        refine sv_icmpN_lt C _ 128 (by omega) (by omega) 74 (by decide) d_Ut_isSecond_62 (fun c62 => ?_) (fun c62 => ?_)
        · skip
          refine sv_iconst C (v := 0) (by decide) d_Ut_isSecond_74 ?_
          exact hr _ _ _ _ d_Ut_isSecond_75 rfl ⟨(if_neg (by unfold pu_sec; (repeat' split) <;> omega)).symm, rfl⟩
        · skip
          refine sv_iload_n C rfl rfl d_Ut_isSecond_65 ?_
          refine sv_iload_n C rfl rfl d_Ut_isSecond_66 ?_
          refine sv_icmpN_gt C _ 159 (by omega) (by omega) 74 (by decide) d_Ut_isSecond_67 (fun c67 => ?_) (fun c67 => ?_)
          · skip
            refine sv_iconst C (v := 0) (by decide) d_Ut_isSecond_74 ?_
            exact hr _ _ _ _ d_Ut_isSecond_75 rfl ⟨(if_neg (by unfold pu_sec; (repeat' split) <;> omega)).symm, rfl⟩
          · skip
            refine sv_iconst C (v := 1) (by decide) d_Ut_isSecond_70 ?_
            refine sv_goto C 75 (by decide) d_Ut_isSecond_71 ?_
            exact hr _ _ _ _ d_Ut_isSecond_75 rfl ⟨(if_pos (by unfold pu_sec; (repeat' split) <;> omega)).symm, rfl⟩
    · skip
      refine sv_sipush C (v := 144) (by decide) d_Ut_isSecond_20 ?_
      refine sv_goto C 29 (by decide) d_Ut_isSecond_23 ?_
      refine sv_istore_n C rfl (by decide) [some _, some _, some _, none] rfl d_Ut_isSecond_29 ?_
      refine sv_iload_n C rfl rfl d_Ut_isSecond_30 ?_
      refine sv_sipush C (v := 237) (by decide) d_Ut_isSecond_31 ?_
      refine sv_icmpN_ne C _ 237 (by omega) (by omega) 43 (by decide) d_Ut_isSecond_34 (fun c34 => ?_) (fun c34 => ?_)
      · skip
        refine sv_iload_n C rfl rfl d_Ut_isSecond_43 ?_
        refine sv_sipush C (v := 244) (by decide) d_Ut_isSecond_44 ?_
        refine sv_icmpN_ne C _ 244 (by omega) (by omega) 56 (by decide) d_Ut_isSecond_47 (fun c47 => ?_) (fun c47 => ?_)
        · skip
          refine sv_sipush C (v := 191) (by decide) d_Ut_isSecond_56 ?_
          refine sv_istore_n C rfl (by decide) [some _, some _, some _, some _] rfl d_Ut_isSecond_59 ?_
          refine sv_iload_n C rfl rfl d_Ut_isSecond_60 ?_
          refine sv_iload_n C rfl rfl d_Ut_isSecond_61 ?_
          refine sv_icmpN_lt C _ 144 (by omega) (by omega) 74 (by decide) d_Ut_isSecond_62 (fun c62 => ?_) (fun c62 => ?_)
          · skip
            refine sv_iconst C (v := 0) (by decide) d_Ut_isSecond_74 ?_
            exact hr _ _ _ _ d_Ut_isSecond_75 rfl ⟨(if_neg (by unfold pu_sec; (repeat' split) <;> omega)).symm, rfl⟩
          · skip
            refine sv_iload_n C rfl rfl d_Ut_isSecond_65 ?_
            refine sv_iload_n C rfl rfl d_Ut_isSecond_66 ?_
            refine sv_icmpN_gt C _ 191 (by omega) (by omega) 74 (by decide) d_Ut_isSecond_67 (fun c67 => ?_) (fun c67 => ?_)
            · skip
              refine sv_iconst C (v := 0) (by decide) d_Ut_isSecond_74 ?_
              exact hr _ _ _ _ d_Ut_isSecond_75 rfl ⟨(if_neg (by unfold pu_sec; (repeat' split) <;> omega)).symm, rfl⟩
            · skip
              refine sv_iconst C (v := 1) (by decide) d_Ut_isSecond_70 ?_
              refine sv_goto C 75 (by decide) d_Ut_isSecond_71 ?_
              exact hr _ _ _ _ d_Ut_isSecond_75 rfl ⟨(if_pos (by unfold pu_sec; (repeat' split) <;> omega)).symm, rfl⟩
        · skip
          refine sv_sipush C (v := 143) (by decide) d_Ut_isSecond_50 ?_
          refine sv_goto C 59 (by decide) d_Ut_isSecond_53 ?_
          refine sv_istore_n C rfl (by decide) [some _, some _, some _, some _] rfl d_Ut_isSecond_59 ?_
          refine sv_iload_n C rfl rfl d_Ut_isSecond_60 ?_
          refine sv_iload_n C rfl rfl d_Ut_isSecond_61 ?_
          refine sv_icmpN_lt C _ 144 (by omega) (by omega) 74 (by decide) d_Ut_isSecond_62 (fun c62 => ?_) (fun c62 => ?_)
          · skip
            refine sv_iconst C (v := 0) (by decide) d_Ut_isSecond_74 ?_
            exact hr _ _ _ _ d_Ut_isSecond_75 rfl ⟨(if_neg (by unfold pu_sec; (repeat' split) <;> omega)).symm, rfl⟩
          · skip
            refine sv_iload_n C rfl rfl d_Ut_isSecond_65 ?_
            refine sv_iload_n C rfl rfl d_Ut_isSecond_66 ?_
            refine sv_icmpN_gt C _ 143 (by omega) (by omega) 74 (by decide) d_Ut_isSecond_67 (fun c67 => ?_) (fun c67 => ?_)
            · skip
              refine sv_iconst C (v := 0) (by decide) d_Ut_isSecond_74 ?_
              exact hr _ _ _ _ d_Ut_isSecond_75 rfl ⟨(if_neg (by unfold pu_sec; (repeat' split) <;> omega)).symm, rfl⟩
            · skip
              refine sv_iconst C (v := 1) (by decide) d_Ut_isSecond_70 ?_
              refine sv_goto C 75 (by decide) d_Ut_isSecond_71 ?_
              exact hr _ _ _ _ d_Ut_isSecond_75 rfl ⟨(if_pos (by unfold pu_sec; (repeat' split) <;> omega)).symm, rfl⟩
      · skip
        refine sv_sipush C (v := 159) (by decide) d_Ut_isSecond_37 ?_
        refine sv_goto C 59 (by decide) d_Ut_isSecond_40 ?_
        refine sv_istore_n C rfl (by decide) [some _, some _, some _, some _] rfl d_Ut_isSecond_59 ?_
        refine sv_iload_n C rfl rfl d_Ut_isSecond_60 ?_
        refine sv_iload_n C rfl rfl d_Ut_isSecond_61 ?_
        refine sv_icmpN_lt C _ 144 (by omega) (by omega) 74 (by decide) d_Ut_isSecond_62 (fun c62 => ?_) (fun c62 => ?_)
        · skip
          refine sv_iconst C (v := 0) (by decide) d_Ut_isSecond_74 ?_
          exact hr _ _ _ _ d_Ut_isSecond_75 rfl ⟨(if_neg (by unfold pu_sec; (repeat' split) <;> omega)).symm, rfl⟩
        · skip
          refine sv_iload_n C rfl rfl d_Ut_isSecond_65 ?_
          refine sv_iload_n C rfl rfl d_Ut_isSecond_66 ?_
          refine sv_icmpN_gt C _ 159 (by omega) (by omega) 74 (by decide) d_Ut_isSecond_67 (fun c67 => ?_) (fun c67 => ?_)
          · skip
            refine sv_iconst C (v := 0) (by decide) d_Ut_isSecond_74 ?_
            exact hr _ _ _ _ d_Ut_isSecond_75 rfl ⟨(if_neg (by unfold pu_sec; (repeat' split) <;> omega)).symm, rfl⟩
          · skip
            refine sv_iconst C (v := 1) (by decide) d_Ut_isSecond_70 ?_
            refine sv_goto C 75 (by decide) d_Ut_isSecond_71 ?_
            exact hr _ _ _ _ d_Ut_isSecond_75 rfl ⟨(if_pos (by unfold pu_sec; (repeat' split) <;> omega)).symm, rfl⟩
  · skip
    refine sv_sipush C (v := 160) (by decide) d_Ut_isSecond_7 ?_
    refine sv_goto C 29 (by decide) d_Ut_isSecond_10 ?_
    refine sv_istore_n C rfl (by decide) [some _, some _, some _, none] rfl d_Ut_isSecond_29 ?_
    refine sv_iload_n C rfl rfl d_Ut_isSecond_30 ?_
    refine sv_sipush C (v := 237) (by decide) d_Ut_isSecond_31 ?_
    refine sv_icmpN_ne C _ 237 (by omega) (by omega) 43 (by decide) d_Ut_isSecond_34 (fun c34 => ?_) (fun c34 => ?_)
    · skip
      refine sv_iload_n C rfl rfl d_Ut_isSecond_43 ?_
      refine sv_sipush C (v := 244) (by decide) d_Ut_isSecond_44 ?_
      refine sv_icmpN_ne C _ 244 (by omega) (by omega) 56 (by decide) d_Ut_isSecond_47 (fun c47 => ?_) (fun c47 => ?_)
      · skip
        refine sv_sipush C (v := 191) (by decide) d_Ut_isSecond_56 ?_
        refine sv_istore_n C rfl (by decide) [some _, some _, some _, some _] rfl d_Ut_isSecond_59 ?_
        refine sv_iload_n C rfl rfl d_Ut_isSecond_60 ?_
        refine sv_iload_n C rfl rfl d_Ut_isSecond_61 ?_
        refine sv_icmpN_lt C _ 160 (by omega) (by omega) 74 (by decide) d_Ut_isSecond_62 (fun c62 => ?_) (fun c62 => ?_)
        · skip
          refine sv_iconst C (v := 0) (by decide) d_Ut_isSecond_74 ?_
          exact hr _ _ _ _ d_Ut_isSecond_75 rfl ⟨(if_neg (by unfold pu_sec; (repeat' split) <;> omega)).symm, rfl⟩
        · skip
          refine sv_iload_n C rfl rfl d_Ut_isSecond_65 ?_
          refine sv_iload_n C rfl rfl d_Ut_isSecond_66 ?_
          refine sv_icmpN_gt C _ 191 (by omega) (by omega) 74 (by decide) d_Ut_isSecond_67 (fun c67 => ?_) (fun c67 => ?_)
          · skip
            refine sv_iconst C (v := 0) (by decide) d_Ut_isSecond_74 ?_
            exact hr _ _ _ _ d_Ut_isSecond_75 rfl ⟨(if_neg (by unfold pu_sec; (repeat' split) <;> omega)).symm, rfl⟩
          · skip
            refine sv_iconst C (v := 1) (by decide) d_Ut_isSecond_70 ?_
            refine sv_goto C 75 (by decide) d_Ut_isSecond_71 ?_
            exact hr _ _ _ _ d_Ut_isSecond_75 rfl ⟨(if_pos (by unfold pu_sec; (repeat' split) <;> omega)).symm, rfl⟩
      · skip
        refine sv_sipush C (v := 143) (by decide) d_Ut_isSecond_50 ?_
        refine sv_goto C 59 (by decide) d_Ut_isSecond_53 ?_
        refine sv_istore_n C rfl (by decide) [some _, some _, some _, some _] rfl d_Ut_isSecond_59 ?_
        refine sv_iload_n C rfl rfl d_Ut_isSecond_60 ?_
        refine sv_iload_n C rfl rfl d_Ut_isSecond_61 ?_
        refine sv_icmpN_lt C _ 160 (by omega) (by omega) 74 (by decide) d_Ut_isSecond_62 (fun c62 => ?_) (fun c62 => ?_)
        · skip
          refine sv_iconst C (v := 0) (by decide) d_Ut_isSecond_74 ?_
          exact hr _ _ _ _ d_Ut_isSecond_75 rfl ⟨(if_neg (by unfold pu_sec; (repeat' split) <;> omega)).symm, rfl⟩
        · skip
          refine sv_iload_n C rfl rfl d_Ut_isSecond_65 ?_
          refine sv_iload_n C rfl rfl d_Ut_isSecond_66 ?_
          refine sv_icmpN_gt C _ 143 (by omega) (by omega) 74 (by decide) d_Ut_isSecond_67 (fun c67 => ?_) (fun c67 => ?_)
          · skip
            refine sv_iconst C (v := 0) (by decide) d_Ut_isSecond_74 ?_
            exact hr _ _ _ _ d_Ut_isSecond_75 rfl ⟨(if_neg (by unfold pu_sec; (repeat' split) <;> omega)).symm, rfl⟩
          · skip
            refine sv_iconst C (v := 1) (by decide) d_Ut_isSecond_70 ?_
            refine sv_goto C 75 (by decide) d_Ut_isSecond_71 ?_
            exact hr _ _ _ _ d_Ut_isSecond_75 rfl ⟨(if_pos (by unfold pu_sec; (repeat' split) <;> omega)).symm, rfl⟩
    · skip
      refine sv_sipush C (v := 159) (by decide) d_Ut_isSecond_37 ?_
      refine sv_goto C 59 (by decide) d_Ut_isSecond_40 ?_
      refine sv_istore_n C rfl (by decide) [some _, some _, some _, some _] rfl d_Ut_isSecond_59 ?_
      refine sv_iload_n C rfl rfl d_Ut_isSecond_60 ?_
      refine sv_iload_n C rfl rfl d_Ut_isSecond_61 ?_
      refine sv_icmpN_lt C _ 160 (by omega) (by omega) 74 (by decide) d_Ut_isSecond_62 (fun c62 => ?_) (fun c62 => ?_)
      · skip
        refine sv_iconst C (v := 0) (by decide) d_Ut_isSecond_74 ?_
        exact hr _ _ _ _ d_Ut_isSecond_75 rfl ⟨(if_neg (by unfold pu_sec; (repeat' split) <;> omega)).symm, rfl⟩
      · skip
        refine sv_iload_n C rfl rfl d_Ut_isSecond_65 ?_
        refine sv_iload_n C rfl rfl d_Ut_isSecond_66 ?_
        refine sv_icmpN_gt C _ 159 (by omega) (by omega) 74 (by decide) d_Ut_isSecond_67 (fun c67 => ?_) (fun c67 => ?_)
        · skip
          refine sv_iconst C (v := 0) (by decide) d_Ut_isSecond_74 ?_
          exact hr _ _ _ _ d_Ut_isSecond_75 rfl ⟨(if_neg (by unfold pu_sec; (repeat' split) <;> omega)).symm, rfl⟩
        · skip
          refine sv_iconst C (v := 1) (by decide) d_Ut_isSecond_70 ?_
          refine sv_goto C 75 (by decide) d_Ut_isSecond_71 ?_
          exact hr _ _ _ _ d_Ut_isSecond_75 rfl ⟨(if_pos (by unfold pu_sec; (repeat' split) <;> omega)).symm, rfl⟩

def rm_Ut_sizeAt : Room := { frames := 1, cells := 0, slots := 0, locals := 23 }
set_option maxHeartbeats 4000000 in
set_option maxRecDepth 100000 in
theorem c_Ut_sizeAt (l : Launch) (g : sv_G) (rest : va_W) (hin a e : Nat) (f : Nat → Int32) (hae : a < e) (he : e ≤ 8192) : sv_Mi l y_Ut_sizeAt b_Ut_sizeAt 6 (some (.int)) rm_Ut_sizeAt g [.ref hin, .int (nI a), .int (nI e)] ((hin, .inl (g.2.1 1, 8192, .inl f)) :: rest) (fun r w => r = nI (pu_size (fun i => pu_u (f i)) a e) ∧ w = ((hin, .inl (g.2.1 1, 8192, .inl f)) :: rest)) := by
  have hld := pu_lead_le (pu_u (f a))
  refine sv_enter_i (by decide) rfl rfl (Nat.le_of_ble_eq_true rfl) (fun X C hI hr => ?_)
  refine sv_lvE (lv' := [some _, some _, some _, none, none, none]) rfl ?_
  have L51 : ∀ (k : Nat) (j : Nat), ((1 < pu_lead (pu_u (f a)) → pu_sec (pu_u (f a)) (pu_u (f (a + 1)))) ∧ pu_lead (pu_u (f a)) ≤ e - a ∧ (2 ≤ j ∧ j ≤ 5) ∧ pu_lead (pu_u (f a)) ≤ j + k ∧ ∀ i, 2 ≤ i → i < j → i < pu_lead (pu_u (f a)) → 128 ≤ pu_u (f (a + i)) ∧ pu_u (f (a + i)) < 192) → sv_V X 6 0 0 ((hin, .inl (g.2.1 1, 8192, .inl f)) :: rest) 51 [some (.ref hin), some (.int (nI a)), some (.int (nI e)), some (.int (nI (pu_u (f a)))), some (.int (nI (pu_lead (pu_u (f a))))), some (.int (nI j))] [] := by
    intro k
    induction k with
    | zero =>
      intro j hq
      obtain ⟨q1, q2, ⟨q3, q6⟩, q4, q5⟩ := hq
      have hu := pu_u_lt (f (a + j))
      refine sv_iload C rfl d_Ut_sizeAt_51 ?_
      refine sv_iload C rfl d_Ut_sizeAt_53 ?_
      refine sv_icmpN_ge C _ _ (by omega) (by omega) 82 (by decide) d_Ut_sizeAt_55 (fun c55 => ?_) (fun c55 => ?_)
      · skip
        refine sv_iload C rfl d_Ut_sizeAt_82 ?_
        exact hr _ _ _ _ d_Ut_sizeAt_84 rfl ⟨congrArg nI (pu_sizeD (u := (fun i => pu_u (f i))) hae q2 q1 (fun i h1 h2 => q5 i h1 (by have := h2; omega) h2)).symm, rfl⟩
      · skip
        exact absurd c55 (by omega)
    | succ k ih =>
      intro j hq
      obtain ⟨q1, q2, ⟨q3, q6⟩, q4, q5⟩ := hq
      have hu := pu_u_lt (f (a + j))
      refine sv_iload C rfl d_Ut_sizeAt_51 ?_
      refine sv_iload C rfl d_Ut_sizeAt_53 ?_
      refine sv_icmpN_ge C _ _ (by omega) (by omega) 82 (by decide) d_Ut_sizeAt_55 (fun c55 => ?_) (fun c55 => ?_)
      · skip
        refine sv_iload C rfl d_Ut_sizeAt_82 ?_
        exact hr _ _ _ _ d_Ut_sizeAt_84 rfl ⟨congrArg nI (pu_sizeD (u := (fun i => pu_u (f i))) hae q2 q1 (fun i h1 h2 => q5 i h1 (by have := h2; omega) h2)).symm, rfl⟩
      · skip
        refine sv_aload_n C rfl rfl d_Ut_sizeAt_58 ?_
        refine sv_iload_n C rfl rfl d_Ut_sizeAt_59 ?_
        refine sv_iload C rfl d_Ut_sizeAt_60 ?_
        refine sv_iaddN C _ _  d_Ut_sizeAt_62 ?_
        refine sv_baldN C _ 0 rfl (by omega) (by decide) d_Ut_sizeAt_63 ?_
        refine sv_sipush C (v := 192) (by decide) d_Ut_sizeAt_64 ?_
        refine sv_iand C d_Ut_sizeAt_67 ?_
        refine sv_eqi (pu_and192 _) ?_
        refine sv_sipush C (v := 128) (by decide) d_Ut_sizeAt_68 ?_
        refine sv_icmpN_eq C _ 128 (by omega) (by omega) 76 (by decide) d_Ut_sizeAt_71 (fun c71 => ?_) (fun c71 => ?_)
        · skip
          refine sv_iincN C 1 _ rfl [some _, some _, some _, some _, some _, some _] rfl d_Ut_sizeAt_76 ?_
          refine sv_goto C 51 (by decide) d_Ut_sizeAt_79 ?_
          exact ih (j + 1) ⟨q1, q2, ⟨by omega, by omega⟩, by omega, fun i h1 h2 h3 => by
            rcases Nat.lt_or_ge i j with h | h
            · exact q5 i h1 h h3
            · have hij : i = j := by omega
              subst hij
              omega⟩
        · skip
          refine sv_iconst C (v := 0) (by decide) d_Ut_sizeAt_74 ?_
          exact hr _ _ _ _ d_Ut_sizeAt_75 rfl ⟨(show (0 : Int32) = nI 0 from rfl).trans (congrArg nI ((pu_sizeC (u := (fun i => pu_u (f i))) (k := j) q3 c55 (by show ¬ (128 ≤ pu_u (f (a + j)) ∧ pu_u (f (a + j)) < 192); omega)).symm)), rfl⟩
  have j48 : (1 < pu_lead (pu_u (f a)) → pu_sec (pu_u (f a)) (pu_u (f (a + 1)))) ∧ pu_lead (pu_u (f a)) ≤ e - a → sv_V X 6 0 0 ((hin, .inl (g.2.1 1, 8192, .inl f)) :: rest) 48 [some (.ref hin), some (.int (nI a)), some (.int (nI e)), some (.int (nI (pu_u (f a)))), some (.int (nI (pu_lead (pu_u (f a))))), none] [] := by
    intro hj
    refine sv_iconst C (v := 2) (by decide) d_Ut_sizeAt_48 ?_
    refine sv_istore C (by decide) [some _, some _, some _, some _, some _, some _] rfl d_Ut_sizeAt_49 ?_
    exact L51 4 2 ⟨hj.1, hj.2, ⟨by omega, by omega⟩, by omega, fun i h1 h2 => absurd h2 (by omega)⟩
  refine sv_aload_n C rfl rfl d_Ut_sizeAt_0 ?_
  refine sv_iload_n C rfl rfl d_Ut_sizeAt_1 ?_
  refine sv_baldN C _ 0 rfl (by omega) (by decide) d_Ut_sizeAt_2 ?_
  refine sv_sipush C (v := 255) (by decide) d_Ut_sizeAt_3 ?_
  refine sv_iand C d_Ut_sizeAt_6 ?_
  refine sv_eqi (pu_and255 _) ?_
  refine sv_istore_n C rfl (by decide) [some _, some _, some _, some _, none, none] rfl d_Ut_sizeAt_7 ?_
  refine sv_iload_n C rfl rfl d_Ut_sizeAt_8 ?_
  refine sv_callSi C (c_Ut_sizeByLead l g _ (pu_u (f a)) (pu_u_lt _)) lk_Ut_7  d_Ut_sizeAt_9 (by decide) (Nat.le_of_ble_eq_true rfl) (by decide) (fun r w hw => ?_)
  obtain ⟨rfl, rfl⟩ := hw
  refine sv_istore C (by decide) [some _, some _, some _, some _, some _, none] rfl d_Ut_sizeAt_12 ?_
  refine sv_iload C rfl d_Ut_sizeAt_14 ?_
  refine sv_iload_n C rfl rfl d_Ut_sizeAt_16 ?_
  refine sv_iload_n C rfl rfl d_Ut_sizeAt_17 ?_
  refine sv_isubN C _ _ (by omega) d_Ut_sizeAt_18 ?_
  refine sv_icmpN_le C _ _ (by omega) (by omega) 24 (by decide) d_Ut_sizeAt_19 (fun c19 => ?_) (fun c19 => ?_)
  · skip
    refine sv_iload C rfl d_Ut_sizeAt_24 ?_
    refine sv_iconst C (v := 1) (by decide) d_Ut_sizeAt_26 ?_
    refine sv_icmpN_le C _ 1 (by omega) (by omega) 48 (by decide) d_Ut_sizeAt_27 (fun c27 => ?_) (fun c27 => ?_)
    · skip
      exact j48 ⟨fun z => by first | exact absurd z (by omega) | assumption, by omega⟩
    · skip
      refine sv_iload_n C rfl rfl d_Ut_sizeAt_30 ?_
      refine sv_aload_n C rfl rfl d_Ut_sizeAt_31 ?_
      refine sv_iload_n C rfl rfl d_Ut_sizeAt_32 ?_
      refine sv_iconst C (v := 1) (by decide) d_Ut_sizeAt_33 ?_
      refine sv_iaddN C _ 1  d_Ut_sizeAt_34 ?_
      refine sv_baldN C _ 0 rfl (by omega) (by decide) d_Ut_sizeAt_35 ?_
      refine sv_sipush C (v := 255) (by decide) d_Ut_sizeAt_36 ?_
      refine sv_iand C d_Ut_sizeAt_39 ?_
      refine sv_eqi (pu_and255 _) ?_
      refine sv_callSi C (c_Ut_isSecond l g _ (pu_u (f a)) (pu_u (f (a + 1))) (pu_u_lt _) (pu_u_lt _)) lk_Ut_13  d_Ut_sizeAt_40 (by decide) (Nat.le_of_ble_eq_true rfl) (by decide) (fun r w hw => ?_)
      obtain ⟨rfl, rfl⟩ := hw
      refine sv_ifB_ne C _ 48 (by decide) d_Ut_sizeAt_43 (fun c43 => ?_) (fun c43 => ?_)
      · skip
        exact j48 ⟨fun z => by first | exact absurd z (by omega) | assumption, by omega⟩
      · skip
        refine sv_iconst C (v := 0) (by decide) d_Ut_sizeAt_46 ?_
        exact hr _ _ _ _ d_Ut_sizeAt_47 rfl ⟨(show (0 : Int32) = nI 0 from rfl).trans (congrArg nI ((pu_sizeB (u := (fun i => pu_u (f i))) (by show 1 < pu_lead (pu_u (f a)); omega) c43).symm)), rfl⟩
  · skip
    refine sv_iconst C (v := 0) (by decide) d_Ut_sizeAt_22 ?_
    exact hr _ _ _ _ d_Ut_sizeAt_23 rfl ⟨(show (0 : Int32) = nI 0 from rfl).trans (congrArg nI ((pu_sizeA (u := (fun i => pu_u (f i))) hae (by show e - a < pu_lead (pu_u (f a)); omega)).symm)), rfl⟩

def rm_Ut_valueAt : Room := { frames := 0, cells := 0, slots := 0, locals := 0 }
set_option maxHeartbeats 4000000 in
set_option maxRecDepth 100000 in
theorem c_Ut_valueAt (l : Launch) (g : sv_G) (rest : va_W) (hin a e s : Nat) (f : Nat → Int32) (hs : pu_size (fun i => pu_u (f i)) a e = s) (h1 : 1 ≤ s) (h2 : a + s ≤ 8192) (hby : ∀ i, (f i).toInt8.toInt32 = f i) : sv_Mi l y_Ut_valueAt b_Ut_valueAt 5 (some (.int)) rm_Ut_valueAt g [.ref hin, .int (nI a), .int (nI s)] ((hin, .inl (g.2.1 1, 8192, .inl f)) :: rest) (fun r w => r = nI (pu_char (fun i => pu_u (f i)) a e) ∧ w = ((hin, .inl (g.2.1 1, 8192, .inl f)) :: rest)) := by
  have h4 := pu_size_le (fun i => pu_u (f i)) a e
  refine sv_enter_i (by decide) rfl rfl (Nat.le_of_ble_eq_true rfl) (fun X C hI hr => ?_)
  refine sv_lvE (lv' := [some _, some _, some _, none, none]) rfl ?_
  have L24 : ∀ (k : Nat) (j : Nat), (2 ≤ s ∧ 1 ≤ j ∧ j ≤ s ∧ s ≤ j + k) → sv_V X 5 0 0 ((hin, .inl (g.2.1 1, 8192, .inl f)) :: rest) 24 [some (.ref hin), some (.int (nI a)), some (.int (nI s)), some (.int (nI (pu_vl (fun i => pu_u (f i)) a s j))), some (.int (nI j))] [] := by
    intro k
    induction k with
    | zero =>
      intro j hq
      obtain ⟨q1, q2, q3, q4⟩ := hq
      refine sv_iload C rfl d_Ut_valueAt_24 ?_
      refine sv_iload_n C rfl rfl d_Ut_valueAt_26 ?_
      refine sv_icmpN_ge C _ _ (by omega) (by omega) 51 (by decide) d_Ut_valueAt_27 (fun c27 => ?_) (fun c27 => ?_)
      · skip
        refine sv_iload_n C rfl rfl d_Ut_valueAt_51 ?_
        exact hr _ _ _ _ d_Ut_valueAt_52 rfl ⟨congrArg nI (pu_vl_end (u := (fun i => pu_u (f i))) hs q1 (by omega)), rfl⟩
      · skip
        exact absurd c27 (by omega)
    | succ k ih =>
      intro j hq
      obtain ⟨q1, q2, q3, q4⟩ := hq
      refine sv_iload C rfl d_Ut_valueAt_24 ?_
      refine sv_iload_n C rfl rfl d_Ut_valueAt_26 ?_
      refine sv_icmpN_ge C _ _ (by omega) (by omega) 51 (by decide) d_Ut_valueAt_27 (fun c27 => ?_) (fun c27 => ?_)
      · skip
        refine sv_iload_n C rfl rfl d_Ut_valueAt_51 ?_
        exact hr _ _ _ _ d_Ut_valueAt_52 rfl ⟨congrArg nI (pu_vl_end (u := (fun i => pu_u (f i))) hs q1 (by omega)), rfl⟩
      · skip
        refine sv_iload_n C rfl rfl d_Ut_valueAt_30 ?_
        refine sv_bipush C (v := 6) (by decide) d_Ut_valueAt_31 ?_
        refine sv_ishl C d_Ut_valueAt_33 ?_
        refine sv_eqi (pu_shl6 (by have := pu_vl_lt (fun i => pu_u (f i)) a q1 j (by omega); omega)) ?_
        refine sv_aload_n C rfl rfl d_Ut_valueAt_34 ?_
        refine sv_iload_n C rfl rfl d_Ut_valueAt_35 ?_
        refine sv_iload C rfl d_Ut_valueAt_36 ?_
        refine sv_iaddN C _ _  d_Ut_valueAt_38 ?_
        refine sv_baldN C _ 0 rfl (by omega) (by decide) d_Ut_valueAt_39 ?_
        refine sv_bipush C (v := 63) (by decide) d_Ut_valueAt_40 ?_
        refine sv_iand C d_Ut_valueAt_42 ?_
        refine sv_eqi (pu_and63 _) ?_
        refine sv_ior C d_Ut_valueAt_43 ?_
        refine sv_eqi ((pu_or6 (Nat.mod_lt _ (by decide))).trans (congrArg nI (pu_vl_succ (u := (fun i => pu_u (f i))) q2))) ?_
        refine sv_istore_n C rfl (by decide) [some _, some _, some _, some _, some _] rfl d_Ut_valueAt_44 ?_
        refine sv_iincN C 1 _ rfl [some _, some _, some _, some _, some _] rfl d_Ut_valueAt_45 ?_
        refine sv_goto C 24 (by decide) d_Ut_valueAt_48 ?_
        exact ih (j + 1) ⟨q1, by omega, by omega, by omega⟩
  refine sv_iload_n C rfl rfl d_Ut_valueAt_0 ?_
  refine sv_iconst C (v := 1) (by decide) d_Ut_valueAt_1 ?_
  refine sv_icmpN_ne C _ 1 (by omega) (by omega) 9 (by decide) d_Ut_valueAt_2 (fun c2 => ?_) (fun c2 => ?_)
  · skip
    refine sv_aload_n C rfl rfl d_Ut_valueAt_9 ?_
    refine sv_iload_n C rfl rfl d_Ut_valueAt_10 ?_
    refine sv_baldN C _ 0 rfl (by omega) (by decide) d_Ut_valueAt_11 ?_
    refine sv_sipush C (v := 255) (by decide) d_Ut_valueAt_12 ?_
    refine sv_iload_n C rfl rfl d_Ut_valueAt_15 ?_
    refine sv_iconst C (v := 1) (by decide) d_Ut_valueAt_16 ?_
    refine sv_iaddN C _ 1  d_Ut_valueAt_17 ?_
    refine sv_ishr C d_Ut_valueAt_18 ?_
    refine sv_iand C d_Ut_valueAt_19 ?_
    refine sv_eqi (pu_mask (f a) (by omega)) ?_
    refine sv_istore_n C rfl (by decide) [some _, some _, some _, some _, none] rfl d_Ut_valueAt_20 ?_
    refine sv_iconst C (v := 1) (by decide) d_Ut_valueAt_21 ?_
    refine sv_istore C (by decide) [some _, some _, some _, some _, some _] rfl d_Ut_valueAt_22 ?_
    exact L24 s 1 ⟨by omega, by omega, by omega, by omega⟩
  · skip
    refine sv_aload_n C rfl rfl d_Ut_valueAt_5 ?_
    refine sv_iload_n C rfl rfl d_Ut_valueAt_6 ?_
    refine sv_baldN C _ 0 rfl (by omega) (by decide) d_Ut_valueAt_7 ?_
    exact hr _ _ _ _ d_Ut_valueAt_8 rfl ⟨by subst c2; exact (pu_neg (hby a) (pu_size1 (u := (fun i => pu_u (f i))) hs).1).trans (congrArg nI (pu_size1 (u := (fun i => pu_u (f i))) hs).2.symm), rfl⟩

def rm_Te_sortAt : Room := { frames := 2, cells := 0, slots := 0, locals := 40 }
set_option maxHeartbeats 4000000 in
set_option maxRecDepth 100000 in
theorem c_Te_sortAt (l : Launch) (g : sv_G) (rest : va_W) (hT hc n : Nat) (f : Nat → Int32) (hn : n ≤ 8192) (i : Nat) (hi : i < 8192) : sv_Mi l y_Te_sortAt b_Te_sortAt 2 (some (.int)) rm_Te_sortAt g [.ref hT, .int (nI i)] ((hT, .inr (3, [.ref hc, .int (nI n)])) :: (hc, .inl (g.2.1 0, 8192, .inl f)) :: rest) (fun r w => r = nI (pu_st f i) ∧ w = ((hT, .inr (3, [.ref hc, .int (nI n)])) :: (hc, .inl (g.2.1 0, 8192, .inl f)) :: rest)) := by
  refine sv_enter_i (by decide) rfl rfl (Nat.le_of_ble_eq_true rfl) (fun X C hI hr => ?_)
  refine sv_lvE (lv' := [some _, some _]) rfl ?_
  refine sv_aload_n C rfl rfl d_Te_sortAt_0 ?_
  refine sv_get C fg_Te_13 0 rfl rfl d_Te_sortAt_1 ?_
  refine sv_iload_n C rfl rfl d_Te_sortAt_4 ?_
  refine sv_ialdN C _ 1 rfl (by omega) (by decide) d_Te_sortAt_5 ?_
  refine sv_callSi C (c_So_of l g _ (f i)) lk_Te_50  d_Te_sortAt_6 (by decide) (Nat.le_of_ble_eq_true rfl) (by decide) (fun r w hw => ?_)
  obtain ⟨rfl, rfl⟩ := hw
  exact hr _ _ _ _ d_Te_sortAt_9 rfl ⟨rfl, rfl⟩

def rm_Te_isTie : Room := { frames := 3, cells := 0, slots := 0, locals := 61 }
set_option maxHeartbeats 4000000 in
set_option maxRecDepth 100000 in
theorem c_Te_isTie (l : Launch) (g : sv_G) (rest : va_W) (hT hc n : Nat) (f : Nat → Int32) (hn : n ≤ 8192) (m : Nat) (hm : m ≤ 8192) : sv_Mi l y_Te_isTie b_Te_isTie 3 (some (.boolean)) rm_Te_isTie g [.ref hT, .int (nI m)] ((hT, .inr (3, [.ref hc, .int (nI n)])) :: (hc, .inl (g.2.1 0, 8192, .inl f)) :: rest) (fun r w => r = (if pu_tie f n m then 1 else 0) ∧ w = ((hT, .inr (3, [.ref hc, .int (nI n)])) :: (hc, .inl (g.2.1 0, 8192, .inl f)) :: rest)) := by
  have s1 := pu_sort_lt (f (m - 1)).toInt
  have s2 := pu_sort_lt (f m).toInt
  have s3 := pu_sort_lt (f (m + 1)).toInt
  have e1 : pu_st f (m - 1) < 8 := s1
  have e2 : pu_st f m < 8 := s2
  have e3 : pu_st f (m + 1) < 8 := s3
  refine sv_enter_i (by decide) rfl rfl (Nat.le_of_ble_eq_true rfl) (fun X C hI hr => ?_)
  refine sv_lvE (lv' := [some _, some _, none]) rfl ?_
  refine sv_iload_n C rfl rfl d_Te_isTie_0 ?_
  refine sv_iconst C (v := 1) (by decide) d_Te_isTie_1 ?_
  refine sv_icmpN_lt C _ 1 (by omega) (by omega) 15 (by decide) d_Te_isTie_2 (fun c2 => ?_) (fun c2 => ?_)
  · skip
    refine sv_iconst C (v := 0) (by decide) d_Te_isTie_15 ?_
    exact hr _ _ _ _ d_Te_isTie_16 rfl ⟨(if_neg (fun z => by have := z.1; have := z.2.1; omega)).symm, rfl⟩
  · skip
    refine sv_iload_n C rfl rfl d_Te_isTie_5 ?_
    refine sv_iconst C (v := 1) (by decide) d_Te_isTie_6 ?_
    refine sv_iaddN C _ 1  d_Te_isTie_7 ?_
    refine sv_aload_n C rfl rfl d_Te_isTie_8 ?_
    refine sv_get C fg_Te_7 0 rfl rfl d_Te_isTie_9 ?_
    refine sv_icmpN_lt C _ _ (by omega) (by omega) 17 (by decide) d_Te_isTie_12 (fun c12 => ?_) (fun c12 => ?_)
    · skip
      refine sv_aload_n C rfl rfl d_Te_isTie_17 ?_
      refine sv_iload_n C rfl rfl d_Te_isTie_18 ?_
      refine sv_iconst C (v := 1) (by decide) d_Te_isTie_19 ?_
      refine sv_isubN C _ 1 (by omega) d_Te_isTie_20 ?_
      refine sv_callVi C (c_Te_sortAt l g rest hT hc n f hn (m - 1) (by omega)) lk_Te_33 List.mem_cons_self rfl d_Te_isTie_21 (by decide) (Nat.le_of_ble_eq_true rfl) (by decide) (fun r w hw => ?_)
      obtain ⟨rfl, rfl⟩ := hw
      refine sv_istore_n C rfl (by decide) [some _, some _, some _] rfl d_Te_isTie_24 ?_
      refine sv_aload_n C rfl rfl d_Te_isTie_25 ?_
      refine sv_iload_n C rfl rfl d_Te_isTie_26 ?_
      refine sv_iconst C (v := 1) (by decide) d_Te_isTie_27 ?_
      refine sv_iaddN C _ 1  d_Te_isTie_28 ?_
      refine sv_callVi C (c_Te_sortAt l g rest hT hc n f hn (m + 1) (by omega)) lk_Te_33 List.mem_cons_self rfl d_Te_isTie_29 (by decide) (Nat.le_of_ble_eq_true rfl) (by decide) (fun r w hw => ?_)
      obtain ⟨rfl, rfl⟩ := hw
      refine sv_iload_n C rfl rfl d_Te_isTie_32 ?_
      refine sv_icmpN_ne C _ _ (by omega) (by omega) 52 (by decide) d_Te_isTie_33 (fun c33 => ?_) (fun c33 => ?_)
      · skip
        refine sv_iconst C (v := 0) (by decide) d_Te_isTie_52 ?_
        exact hr _ _ _ _ d_Te_isTie_53 rfl ⟨(if_neg (fun z => by first | exact absurd z.2.2.1 c33 | exact c45 z.2.2.2)).symm, rfl⟩
      · skip
        refine sv_aload_n C rfl rfl d_Te_isTie_36 ?_
        refine sv_iload_n C rfl rfl d_Te_isTie_37 ?_
        refine sv_callVi C (c_Te_sortAt l g rest hT hc n f hn m (by omega)) lk_Te_33 List.mem_cons_self rfl d_Te_isTie_38 (by decide) (Nat.le_of_ble_eq_true rfl) (by decide) (fun r w hw => ?_)
        obtain ⟨rfl, rfl⟩ := hw
        refine sv_iload_n C rfl rfl d_Te_isTie_41 ?_
        refine sv_callSi C (c_So_ties l g _ (pu_st f m) (pu_st f (m - 1)) e2 e1) lk_Te_46  d_Te_isTie_42 (by decide) (Nat.le_of_ble_eq_true rfl) (by decide) (fun r w hw => ?_)
        obtain ⟨rfl, rfl⟩ := hw
        refine sv_ifB_eq C _ 52 (by decide) d_Te_isTie_45 (fun c45 => ?_) (fun c45 => ?_)
        · skip
          refine sv_iconst C (v := 0) (by decide) d_Te_isTie_52 ?_
          exact hr _ _ _ _ d_Te_isTie_53 rfl ⟨(if_neg (fun z => by first | exact absurd z.2.2.1 c33 | exact c45 z.2.2.2)).symm, rfl⟩
        · skip
          refine sv_iconst C (v := 1) (by decide) d_Te_isTie_48 ?_
          refine sv_goto C 53 (by decide) d_Te_isTie_49 ?_
          exact hr _ _ _ _ d_Te_isTie_53 rfl ⟨(if_pos ⟨by omega, by omega, c33, c45⟩).symm, rfl⟩
    · skip
      refine sv_iconst C (v := 0) (by decide) d_Te_isTie_15 ?_
      exact hr _ _ _ _ d_Te_isTie_16 rfl ⟨(if_neg (fun z => by have := z.1; have := z.2.1; omega)).symm, rfl⟩

def rm_Te_isWord : Room := { frames := 3, cells := 0, slots := 0, locals := 61 }
set_option maxHeartbeats 4000000 in
set_option maxRecDepth 100000 in
theorem c_Te_isWord (l : Launch) (g : sv_G) (rest : va_W) (hT hc n : Nat) (f : Nat → Int32) (hn : n ≤ 8192) (a e : Nat) (hae : a ≤ e) (he : e ≤ 8192) : sv_Mi l y_Te_isWord b_Te_isWord 5 (some (.boolean)) rm_Te_isWord g [.ref hT, .int (nI a), .int (nI e)] ((hT, .inr (3, [.ref hc, .int (nI n)])) :: (hc, .inl (g.2.1 0, 8192, .inl f)) :: rest) (fun r w => r = (if pu_any f (e - a) a = true then 1 else 0) ∧ w = ((hT, .inr (3, [.ref hc, .int (nI n)])) :: (hc, .inl (g.2.1 0, 8192, .inl f)) :: rest)) := by
  refine sv_enter_i (by decide) rfl rfl (Nat.le_of_ble_eq_true rfl) (fun X C hI hr => ?_)
  refine sv_lvE (lv' := [some _, some _, some _, none, none]) rfl ?_
  have L2 : ∀ (k : Nat) (b : Nat) (o : Option Value), (b ≤ e ∧ e - b = k ∧ pu_any f (e - a) a = pu_any f k b) → sv_V X 5 0 0 ((hT, .inr (3, [.ref hc, .int (nI n)])) :: (hc, .inl (g.2.1 0, 8192, .inl f)) :: rest) 2 [some (.ref hT), some (.int (nI a)), some (.int (nI e)), some (.int (nI b)), o] [] := by
    intro k
    induction k with
    | zero =>
      intro b o hq
      obtain ⟨q1, q2, q3⟩ := hq
      have s1 : pu_st f b < 8 := pu_sort_lt _
      refine sv_iload_n C rfl rfl d_Te_isWord_2 ?_
      refine sv_iload_n C rfl rfl d_Te_isWord_3 ?_
      refine sv_icmpN_ge C _ _ (by omega) (by omega) 41 (by decide) d_Te_isWord_4 (fun c4 => ?_) (fun c4 => ?_)
      · skip
        refine sv_iconst C (v := 0) (by decide) d_Te_isWord_41 ?_
        exact hr _ _ _ _ d_Te_isWord_42 rfl ⟨(if_neg (by rw [q3]; exact Bool.false_ne_true)).symm, rfl⟩
      · skip
        exact absurd c4 (by omega)
    | succ k ih =>
      intro b o hq
      obtain ⟨q1, q2, q3⟩ := hq
      have s1 : pu_st f b < 8 := pu_sort_lt _
      refine sv_iload_n C rfl rfl d_Te_isWord_2 ?_
      refine sv_iload_n C rfl rfl d_Te_isWord_3 ?_
      refine sv_icmpN_ge C _ _ (by omega) (by omega) 41 (by decide) d_Te_isWord_4 (fun c4 => ?_) (fun c4 => ?_)
      · skip
        exact absurd c4 (by omega)
      · skip
        refine sv_aload_n C rfl rfl d_Te_isWord_7 ?_
        refine sv_iload_n C rfl rfl d_Te_isWord_8 ?_
        refine sv_callVi C (c_Te_sortAt l g rest hT hc n f hn b (by omega)) lk_Te_33 List.mem_cons_self rfl d_Te_isWord_9 (by decide) (Nat.le_of_ble_eq_true rfl) (by decide) (fun r w hw => ?_)
        obtain ⟨rfl, rfl⟩ := hw
        refine sv_istore C (by decide) [some _, some _, some _, some _, some _] rfl d_Te_isWord_12 ?_
        refine sv_iload C rfl d_Te_isWord_14 ?_
        refine sv_iconst C (v := 1) (by decide) d_Te_isWord_16 ?_
        refine sv_icmpN_eq C _ 1 (by omega) (by omega) 33 (by decide) d_Te_isWord_17 (fun c17 => ?_) (fun c17 => ?_)
        · skip
          refine sv_iconst C (v := 1) (by decide) d_Te_isWord_33 ?_
          exact hr _ _ _ _ d_Te_isWord_34 rfl ⟨(if_pos (by rw [q3, pu_any, if_pos (by omega)])).symm, rfl⟩
        · skip
          refine sv_iload C rfl d_Te_isWord_20 ?_
          refine sv_iconst C (v := 2) (by decide) d_Te_isWord_22 ?_
          refine sv_icmpN_eq C _ 2 (by omega) (by omega) 33 (by decide) d_Te_isWord_23 (fun c23 => ?_) (fun c23 => ?_)
          · skip
            refine sv_iconst C (v := 1) (by decide) d_Te_isWord_33 ?_
            exact hr _ _ _ _ d_Te_isWord_34 rfl ⟨(if_pos (by rw [q3, pu_any, if_pos (by omega)])).symm, rfl⟩
          · skip
            refine sv_iload C rfl d_Te_isWord_26 ?_
            refine sv_bipush C (v := 7) (by decide) d_Te_isWord_28 ?_
            refine sv_icmpN_ne C _ 7 (by omega) (by omega) 35 (by decide) d_Te_isWord_30 (fun c30 => ?_) (fun c30 => ?_)
            · skip
              refine sv_iincN C 1 _ rfl [some _, some _, some _, some _, some _] rfl d_Te_isWord_35 ?_
              refine sv_goto C 2 (by decide) d_Te_isWord_38 ?_
              exact ih (b + 1) _ ⟨by omega, by omega, by rw [q3, pu_any, if_neg (by omega)]⟩
            · skip
              refine sv_iconst C (v := 1) (by decide) d_Te_isWord_33 ?_
              exact hr _ _ _ _ d_Te_isWord_34 rfl ⟨(if_pos (by rw [q3, pu_any, if_pos (by omega)])).symm, rfl⟩
  refine sv_iload_n C rfl rfl d_Te_isWord_0 ?_
  refine sv_istore_n C rfl (by decide) [some _, some _, some _, some _, none] rfl d_Te_isWord_1 ?_
  exact L2 (e - a) a none ⟨hae, rfl, rfl⟩

def rm_Te_spanEnd : Room := { frames := 4, cells := 0, slots := 0, locals := 83 }
set_option maxHeartbeats 4000000 in
set_option maxRecDepth 100000 in
theorem c_Te_spanEnd (l : Launch) (g : sv_G) (rest : va_W) (hT hc n : Nat) (f : Nat → Int32) (hn : n ≤ 8192) (a : Nat) (ha : a < n) : sv_Mi l y_Te_spanEnd b_Te_spanEnd 3 (some (.int)) rm_Te_spanEnd g [.ref hT, .int (nI a)] ((hT, .inr (3, [.ref hc, .int (nI n)])) :: (hc, .inl (g.2.1 0, 8192, .inl f)) :: rest) (fun r w => r = nI (pu_spanEnd f n a) ∧ w = ((hT, .inr (3, [.ref hc, .int (nI n)])) :: (hc, .inl (g.2.1 0, 8192, .inl f)) :: rest)) := by
  refine sv_enter_i (by decide) rfl rfl (Nat.le_of_ble_eq_true rfl) (fun X C hI hr => ?_)
  refine sv_lvE (lv' := [some _, some _, none]) rfl ?_
  have L17 : ∀ (k : Nat) (e : Nat), (e ≤ n ∧ n ≤ e + k ∧ pu_spanEnd f n a = pu_span f n k e) → sv_V X 3 0 0 ((hT, .inr (3, [.ref hc, .int (nI n)])) :: (hc, .inl (g.2.1 0, 8192, .inl f)) :: rest) 17 [some (.ref hT), some (.int (nI a)), some (.int (nI e))] [] := by
    intro k
    induction k with
    | zero =>
      intro e hq
      obtain ⟨q1, q2, q3⟩ := hq
      have s1 : pu_st f e < 8 := pu_sort_lt _
      refine sv_iload_n C rfl rfl d_Te_spanEnd_17 ?_
      refine sv_aload_n C rfl rfl d_Te_spanEnd_18 ?_
      refine sv_get C fg_Te_7 0 rfl rfl d_Te_spanEnd_19 ?_
      refine sv_icmpN_ge C _ _ (by omega) (by omega) 58 (by decide) d_Te_spanEnd_22 (fun c22 => ?_) (fun c22 => ?_)
      · skip
        refine sv_iload_n C rfl rfl d_Te_spanEnd_58 ?_
        exact hr _ _ _ _ d_Te_spanEnd_59 rfl ⟨congrArg nI q3.symm, rfl⟩
      · skip
        exact absurd c22 (by omega)
    | succ k ih =>
      intro e hq
      obtain ⟨q1, q2, q3⟩ := hq
      have s1 : pu_st f e < 8 := pu_sort_lt _
      refine sv_iload_n C rfl rfl d_Te_spanEnd_17 ?_
      refine sv_aload_n C rfl rfl d_Te_spanEnd_18 ?_
      refine sv_get C fg_Te_7 0 rfl rfl d_Te_spanEnd_19 ?_
      refine sv_icmpN_ge C _ _ (by omega) (by omega) 58 (by decide) d_Te_spanEnd_22 (fun c22 => ?_) (fun c22 => ?_)
      · skip
        refine sv_iload_n C rfl rfl d_Te_spanEnd_58 ?_
        exact hr _ _ _ _ d_Te_spanEnd_59 rfl ⟨congrArg nI (by rw [q3, pu_span, if_neg (by omega)]), rfl⟩
      · skip
        refine sv_aload_n C rfl rfl d_Te_spanEnd_25 ?_
        refine sv_iload_n C rfl rfl d_Te_spanEnd_26 ?_
        refine sv_callVi C (c_Te_sortAt l g rest hT hc n f hn e (by omega)) lk_Te_33 List.mem_cons_self rfl d_Te_spanEnd_27 (by decide) (Nat.le_of_ble_eq_true rfl) (by decide) (fun r w hw => ?_)
        obtain ⟨rfl, rfl⟩ := hw
        refine sv_callSi C (c_So_isInner l g _ (pu_st f e) s1) lk_Te_37  d_Te_spanEnd_30 (by decide) (Nat.le_of_ble_eq_true rfl) (by decide) (fun r w hw => ?_)
        obtain ⟨rfl, rfl⟩ := hw
        refine sv_ifB_eq C _ 42 (by decide) d_Te_spanEnd_33 (fun c33 => ?_) (fun c33 => ?_)
        · skip
          refine sv_aload_n C rfl rfl d_Te_spanEnd_42 ?_
          refine sv_iload_n C rfl rfl d_Te_spanEnd_43 ?_
          refine sv_callVi C (c_Te_isTie l g rest hT hc n f hn e (by omega)) lk_Te_43 List.mem_cons_self rfl d_Te_spanEnd_44 (by decide) (Nat.le_of_ble_eq_true rfl) (by decide) (fun r w hw => ?_)
          obtain ⟨rfl, rfl⟩ := hw
          refine sv_ifB_eq C _ 56 (by decide) d_Te_spanEnd_47 (fun c47 => ?_) (fun c47 => ?_)
          · skip
            refine sv_iload_n C rfl rfl d_Te_spanEnd_56 ?_
            exact hr _ _ _ _ d_Te_spanEnd_57 rfl ⟨congrArg nI (by rw [q3, pu_span, if_pos c22, if_neg c33, if_neg c47]), rfl⟩
          · skip
            have c48 := c47.2.1
            refine sv_iincN C 2 _ rfl [some _, some _, some _] rfl d_Te_spanEnd_50 ?_
            refine sv_goto C 17 (by decide) d_Te_spanEnd_53 ?_
            first | exact ih (e + 1) ⟨by omega, by omega, by rw [q3, pu_span, if_pos c22, if_pos c33]⟩ | exact ih (e + 2) ⟨by omega, by omega, by rw [q3, pu_span, if_pos c22, if_neg c33, if_pos c47]⟩
        · skip
          refine sv_iincN C 1 _ rfl [some _, some _, some _] rfl d_Te_spanEnd_36 ?_
          refine sv_goto C 17 (by decide) d_Te_spanEnd_39 ?_
          first | exact ih (e + 1) ⟨by omega, by omega, by rw [q3, pu_span, if_pos c22, if_pos c33]⟩ | exact ih (e + 2) ⟨by omega, by omega, by rw [q3, pu_span, if_pos c22, if_neg c33, if_pos c47]⟩
  refine sv_iload_n C rfl rfl d_Te_spanEnd_0 ?_
  refine sv_iconst C (v := 1) (by decide) d_Te_spanEnd_1 ?_
  refine sv_iaddN C _ 1  d_Te_spanEnd_2 ?_
  refine sv_istore_n C rfl (by decide) [some _, some _, some _] rfl d_Te_spanEnd_3 ?_
  refine sv_aload_n C rfl rfl d_Te_spanEnd_4 ?_
  refine sv_iload_n C rfl rfl d_Te_spanEnd_5 ?_
  refine sv_callVi C (c_Te_sortAt l g rest hT hc n f hn a (by omega)) lk_Te_33 List.mem_cons_self rfl d_Te_spanEnd_6 (by decide) (Nat.le_of_ble_eq_true rfl) (by decide) (fun r w hw => ?_)
  obtain ⟨rfl, rfl⟩ := hw
  refine sv_callSi C (c_So_isInner l g _ (pu_st f a) (pu_sort_lt _)) lk_Te_37  d_Te_spanEnd_9 (by decide) (Nat.le_of_ble_eq_true rfl) (by decide) (fun r w hw => ?_)
  obtain ⟨rfl, rfl⟩ := hw
  refine sv_ifB_ne C _ 17 (by decide) d_Te_spanEnd_12 (fun c12 => ?_) (fun c12 => ?_)
  · skip
    exact L17 n (a + 1) ⟨by omega, by omega, by rw [pu_spanEnd, if_pos c12]⟩
  · skip
    refine sv_iload_n C rfl rfl d_Te_spanEnd_15 ?_
    exact hr _ _ _ _ d_Te_spanEnd_16 rfl ⟨congrArg nI (by rw [pu_spanEnd, if_neg c12]), rfl⟩
end
section
/-! CONTRACTS: Text.read -/
theorem pu_chars_go {u : Nat → Nat} {e k a : Nat} (h : a < e) : pu_chars u e (k + 1) a = pu_char u a e :: pu_chars u e k (a + pu_step u a e) := by
  rw [pu_chars, if_pos h]
theorem pu_chars_end {u : Nat → Nat} {e k a : Nat} (h : ¬ a < e) : pu_chars u e k a = [] := by
  cases k with
  | zero => rfl
  | succ k => rw [pu_chars, if_neg h]
theorem pu_step_in {u : Nat → Nat} {a e : Nat} (h : a < e) : a + pu_step u a e ≤ e := by
  have := pu_size_in (u := u) h
  unfold pu_step
  split <;> omega
theorem pu_snocF {f : Nat → Int32} {D : List Nat} {n c : Nat} {v : Int32} (hn : n = D.length) (h : ∀ i, i < n → f i = nI (D.getD i 0)) (hv : v = nI c) : ∀ i, i < n + 1 → upd f n v i = nI ((D ++ [c]).getD i 0) := by
  subst hn
  intro i hi
  rcases Nat.lt_or_ge i D.length with h1 | h1
  · rw [pk_un (by omega), h i h1, List.getD_eq_getElem?_getD, List.getD_eq_getElem?_getD, List.getElem?_append_left h1]
  · have : i = D.length := by omega
    subst this
    rw [pk_us, hv, List.getD_eq_getElem?_getD, List.getElem?_append_right (Nat.le_refl _), Nat.sub_self]
    rfl
def rm_Te_read : Room := { frames := 2, cells := 0, slots := 0, locals := 80 }
set_option maxHeartbeats 4000000 in
set_option maxRecDepth 100000 in
theorem c_Te_read (l : Launch) (g : sv_G) (rest : va_W) (hT hc hin e : Nat) (n0 : Int32) (f b : Nat → Int32) (he : e ≤ 8192) (hby : ∀ i, (b i).toInt8.toInt32 = b i) : sv_Mv l y_Te_read b_Te_read 5 none rm_Te_read g [.ref hT, .ref hin, .int (nI e)] ((hT, .inr (3, [.ref hc, .int n0])) :: (hc, .inl (g.2.1 0, 8192, .inl f)) :: (hin, .inl (g.2.1 1, 8192, .inl b)) :: rest) (fun w => ∃ f2 : Nat → Int32, w = ((hT, .inr (3, [.ref hc, .int (nI (pu_chars (fun i => pu_u (b i)) e e 0).length)])) :: (hc, .inl (g.2.1 0, 8192, .inl f2)) :: (hin, .inl (g.2.1 1, 8192, .inl b)) :: rest) ∧ ∀ i, i < (pu_chars (fun i => pu_u (b i)) e e 0).length → f2 i = nI ((pu_chars (fun i => pu_u (b i)) e e 0).getD i 0)) := by
  refine sv_enter_v (by decide) rfl rfl (Nat.le_of_ble_eq_true rfl) (fun X C hI hr => ?_)
  refine sv_lvE (lv' := [some _, some _, some _, none, none]) rfl ?_
  have L7 : ∀ (k : Nat) (a n : Nat) (f2 : Nat → Int32) (Dn : List Nat) (o : Option Value), (a ≤ e ∧ e ≤ a + k ∧ n = Dn.length ∧ n ≤ a ∧ (∀ i, i < n → f2 i = nI (Dn.getD i 0)) ∧ pu_chars (fun i => pu_u (b i)) e e 0 = Dn ++ pu_chars (fun i => pu_u (b i)) e k a) → sv_V X 5 0 0 ((hT, .inr (3, [.ref hc, .int (nI n)])) :: (hc, .inl (g.2.1 0, 8192, .inl f2)) :: (hin, .inl (g.2.1 1, 8192, .inl b)) :: rest) 7 [some (.ref hT), some (.ref hin), some (.int (nI e)), some (.int (nI a)), o] [] := by
    intro k
    induction k with
    | zero =>
      intro a n f2 Dn o hq
      obtain ⟨q1, q2, q3, q4, q5, q6⟩ := hq
      have s4 := pu_size_le (fun i => pu_u (b i)) a e
      refine sv_iload_n C rfl rfl d_Te_read_7 ?_
      refine sv_iload_n C rfl rfl d_Te_read_8 ?_
      refine sv_icmpN_ge C _ _ (by omega) (by omega) 68 (by decide) d_Te_read_9 (fun c9 => ?_) (fun c9 => ?_)
      · skip
        have e9 := q6.trans (by rw [pu_chars_end (by omega), List.append_nil])
        rw [← e9] at q3
        subst q3
        exact hr _ _ _ d_Te_read_68 ⟨f2, rfl, fun i hi => by rw [e9]; exact q5 i hi⟩
      · skip
        exact absurd c9 (by omega)
    | succ k ih =>
      intro a n f2 Dn o hq
      obtain ⟨q1, q2, q3, q4, q5, q6⟩ := hq
      have s4 := pu_size_le (fun i => pu_u (b i)) a e
      refine sv_iload_n C rfl rfl d_Te_read_7 ?_
      refine sv_iload_n C rfl rfl d_Te_read_8 ?_
      refine sv_icmpN_ge C _ _ (by omega) (by omega) 68 (by decide) d_Te_read_9 (fun c9 => ?_) (fun c9 => ?_)
      · skip
        have e9 := q6.trans (by rw [pu_chars_end (by omega), List.append_nil])
        rw [← e9] at q3
        subst q3
        exact hr _ _ _ d_Te_read_68 ⟨f2, rfl, fun i hi => by rw [e9]; exact q5 i hi⟩
      · skip
        refine sv_aload_n C rfl rfl d_Te_read_12 ?_
        refine sv_iload_n C rfl rfl d_Te_read_13 ?_
        refine sv_iload_n C rfl rfl d_Te_read_14 ?_
        refine sv_rot [2, 0, 1] [_, _, _] [_, _, _] _ (_ :: _ :: _ :: _) rfl rfl rfl rfl ?_
        refine sv_callSi C (c_Ut_sizeAt l g ((hT, .inr (3, [.ref hc, .int (nI n)])) :: (hc, .inl (g.2.1 0, 8192, .inl f2)) :: rest) hin a e b c9 he) lk_Te_17  d_Te_read_15 (by decide) (Nat.le_of_ble_eq_true rfl) (by decide) (fun r w hw => ?_)
        obtain ⟨rfl, rfl⟩ := hw
        refine sv_istore C (by decide) [some _, some _, some _, some _, some _] rfl d_Te_read_18 ?_
        refine sv_aload_n C rfl rfl d_Te_read_20 ?_
        refine sv_get C fg_Te_13 1 rfl rfl d_Te_read_21 ?_
        refine sv_aload_n C rfl rfl d_Te_read_24 ?_
        refine sv_get C fg_Te_7 1 rfl rfl d_Te_read_25 ?_
        refine sv_iload C rfl d_Te_read_28 ?_
        refine sv_ifN_ne C _ (by omega) 38 (by decide) d_Te_read_30 (fun c30 => ?_) (fun c30 => ?_)
        · skip
          refine sv_aload_n C rfl rfl d_Te_read_38 ?_
          refine sv_iload_n C rfl rfl d_Te_read_39 ?_
          refine sv_iload C rfl d_Te_read_40 ?_
          refine sv_callSi C (c_Ut_valueAt l g ((hT, .inr (3, [.ref hc, .int (nI n)])) :: (hc, .inl (g.2.1 0, 8192, .inl f2)) :: rest) hin a e _ b rfl (by omega) (by have := pu_size_in (u := (fun i => pu_u (b i))) c9; omega) hby) lk_Te_24  d_Te_read_42 (by decide) (Nat.le_of_ble_eq_true rfl) (by decide) (fun r w hw => ?_)
          obtain ⟨rfl, rfl⟩ := hw
          refine sv_iastN C _ 2 rfl (by omega) (by decide) (_ :: _ :: _ :: _) rfl d_Te_read_45 ?_
          refine sv_aload_n C rfl rfl d_Te_read_46 ?_
          refine sv_dup C rfl d_Te_read_47 ?_
          refine sv_get C fg_Te_7 1 rfl rfl d_Te_read_48 ?_
          refine sv_iconst C (v := 1) (by decide) d_Te_read_51 ?_
          refine sv_iaddN C _ 1  d_Te_read_52 ?_
          refine sv_put C fp_Te_7 1 rfl rfl rfl (Nat.le_of_ble_eq_true rfl) (_ :: (_, .inr (_, [_, _])) :: _ :: _) rfl d_Te_read_53 ?_
          refine sv_iload_n C rfl rfl d_Te_read_56 ?_
          refine sv_iconst C (v := 1) (by decide) d_Te_read_57 ?_
          refine sv_iload C rfl d_Te_read_58 ?_
          refine sv_mmax C wm_max_Te wm_max_2 wm_3 wm_max_4 (by decide) (Nat.le_of_ble_eq_true rfl) (by decide) (by decide) d_Te_read_60 ?_
          refine sv_eqi (pu_max1 (by omega)) ?_
          refine sv_iaddN C _ _  d_Te_read_63 ?_
          refine sv_istore_n C rfl (by decide) [some _, some _, some _, some _, some _] rfl d_Te_read_64 ?_
          refine sv_goto C 7 (by decide) d_Te_read_65 ?_
          refine sv_rot [1, 2, 0] [_, _, _] [_, _, _] _ (_ :: _ :: _ :: _) rfl rfl rfl rfl ?_
          exact ih (a + pu_step (fun i => pu_u (b i)) a e) (n + 1) _ (Dn ++ [pu_char (fun i => pu_u (b i)) a e]) _ ⟨pu_step_in c9, by have := pu_step_pos (fun i => pu_u (b i)) a e; omega, by rw [List.length_append, ← q3]; rfl, by have := pu_step_pos (fun i => pu_u (b i)) a e; omega, pu_snocF q3 q5 (by first | rfl | exact hz), by rw [q6, pu_chars_go c9, List.append_assoc]; rfl⟩
        · skip
          have hz : (65533 : Int32) = nI (pu_char (fun i => pu_u (b i)) a e) := by unfold pu_char; rw [if_pos c30]; rfl
          refine sv_ldc C wc_Te_23 d_Te_read_33 ?_
          refine sv_goto C 45 (by decide) d_Te_read_35 ?_
          refine sv_iastN C _ 2 rfl (by omega) (by decide) (_ :: _ :: _ :: _) rfl d_Te_read_45 ?_
          refine sv_aload_n C rfl rfl d_Te_read_46 ?_
          refine sv_dup C rfl d_Te_read_47 ?_
          refine sv_get C fg_Te_7 1 rfl rfl d_Te_read_48 ?_
          refine sv_iconst C (v := 1) (by decide) d_Te_read_51 ?_
          refine sv_iaddN C _ 1  d_Te_read_52 ?_
          refine sv_put C fp_Te_7 1 rfl rfl rfl (Nat.le_of_ble_eq_true rfl) (_ :: (_, .inr (_, [_, _])) :: _ :: _) rfl d_Te_read_53 ?_
          refine sv_iload_n C rfl rfl d_Te_read_56 ?_
          refine sv_iconst C (v := 1) (by decide) d_Te_read_57 ?_
          refine sv_iload C rfl d_Te_read_58 ?_
          refine sv_mmax C wm_max_Te wm_max_2 wm_3 wm_max_4 (by decide) (Nat.le_of_ble_eq_true rfl) (by decide) (by decide) d_Te_read_60 ?_
          refine sv_eqi (pu_max1 (by omega)) ?_
          refine sv_iaddN C _ _  d_Te_read_63 ?_
          refine sv_istore_n C rfl (by decide) [some _, some _, some _, some _, some _] rfl d_Te_read_64 ?_
          refine sv_goto C 7 (by decide) d_Te_read_65 ?_
          refine sv_rot [1, 2, 0] [_, _, _] [_, _, _] _ (_ :: _ :: _ :: _) rfl rfl rfl rfl ?_
          exact ih (a + pu_step (fun i => pu_u (b i)) a e) (n + 1) _ (Dn ++ [pu_char (fun i => pu_u (b i)) a e]) _ ⟨pu_step_in c9, by have := pu_step_pos (fun i => pu_u (b i)) a e; omega, by rw [List.length_append, ← q3]; rfl, by have := pu_step_pos (fun i => pu_u (b i)) a e; omega, pu_snocF q3 q5 (by first | rfl | exact hz), by rw [q6, pu_chars_go c9, List.append_assoc]; rfl⟩
  refine sv_aload_n C rfl rfl d_Te_read_0 ?_
  refine sv_iconst C (v := 0) (by decide) d_Te_read_1 ?_
  refine sv_put C fp_Te_7 0 rfl rfl rfl (Nat.le_of_ble_eq_true rfl) ((_, .inr (_, [_, _])) :: _ :: _ :: _) rfl d_Te_read_2 ?_
  refine sv_iconst C (v := 0) (by decide) d_Te_read_5 ?_
  refine sv_istore_n C rfl (by decide) [some _, some _, some _, some _, none] rfl d_Te_read_6 ?_
  exact L7 e 0 0 f [] none ⟨by omega, by omega, rfl, by omega, fun i hi => absurd hi (Nat.not_lt_zero i), rfl⟩
end
section
/-! CONTRACTS: Word -/
section SVN2
variable {X : sv_X} {l : Launch} {cc : ByteArray} {nL k n pc : Nat} {own : String} {rm : Room} {g : sv_G} {ws : va_W} {lv : List (Option Value)} {st : List Value}
theorem sv_copyN (C : sv_C X l cc nL own rm g) {ix a a0 n0 n1 : Nat} {f h : Nat → Int32} (sp dp len : Nat) (w1 : Cond.methodLink own ix arraycopyName ∈ sv_tbl) (w2 : Cond.native arraycopyName ∈ sv_tbl) (w3 : Cond.static arraycopyName ∈ sv_tbl) (w4 : Cond.initialized "java/lang/System" ∈ sv_tbl) (q0 q1 : Nat) (ha0 : ws[q0]? = some (a0, .inl (g.2.1 0, n0, .inl f))) (ha1 : ws[q1]? = some (a, .inl (g.2.1 0, n1, .inl h))) (h4 : sp + len ≤ n0) (h5 : dp + len ≤ n1) (b0 : n0 < 2 ^ 31) (b1 : n1 < 2 ^ 31) (hf : 1 ≤ rm.frames) (hlo : (st.map fun v => v.category).sum + (nativeFrameWords "java/lang/System" "arraycopy" 5 + 11) ≤ rm.locals) (ws' : va_W) (hws : ws.set q1 (a, .inl (g.2.1 0, n1, .inl (va_cpy f h sp dp len))) = ws') (hd : decode cc pc = .ok (.invokestatic ix, 3)) (z : sv_V X nL k n ws' (pc + 3) lv st) : sv_V X nL k n ws pc lv (.int (nI len) :: .int (nI dp) :: .ref a :: .int (nI sp) :: .ref a0 :: st) := sv_copyi C w1 w2 w3 w4 q0 q1 ha0 ha1 (nI_pos (by omega)) (nI_pos (by omega)) (nI_pos (by omega)) (by rw [nI_clamp (by omega), nI_clamp (by omega)]; exact h4) (by rw [nI_clamp (by omega), nI_clamp (by omega)]; exact h5) hf hlo ws' (by rw [nI_clamp (by omega), nI_clamp (by omega), nI_clamp (by omega)]; exact hws) hd z
end SVN2
/-- the row f holds the word L -/
def pr_W (f : Nat → Int32) (L : List Int32) : Prop := ∀ i, i < L.length → f i = L.getD i 0
theorem pr_take {f : Nat → Int32} {L : List Int32} (h : pr_W f L) (k : Nat) : pr_W f (L.take k) := by
  intro i hi
  rw [List.length_take] at hi
  rw [h i (by omega), List.getD_eq_getElem?_getD, List.getD_eq_getElem?_getD, List.getElem?_take_of_lt (by omega)]
theorem pr_own {f : Nat → Int32} {L : List Int32} (h : pr_W f L) : pr_W f (pu_own L) := by
  unfold pu_own
  split
  · exact pr_take h _
  · exact h
theorem pr_slice {t f2 : Nat → Int32} {a s : Nat} (h : ∀ i, i < s → f2 i = t (a + i)) : pr_W f2 (pu_slice t a s) := by
  intro i hi
  rw [pu_slice_len] at hi
  rw [pu_slice_get t hi, h i hi]
theorem pu_mem {L : List Int32} {i : Nat} (h : i < L.length) : L.getD i 0 ∈ L := by
  rw [List.getD_eq_getElem?_getD, List.getElem?_eq_getElem h]
  exact List.getElem_mem _
theorem pu_small_of {L : List Int32} (h : ∀ i, i < L.length → 97 ≤ (L.getD i 0).toInt ∧ (L.getD i 0).toInt ≤ 122) : pu_small L := by
  intro c hc
  obtain ⟨i, hi⟩ := List.getElem?_of_mem hc
  have h1 := h i (List.getElem?_eq_some_iff.mp hi).1
  rw [List.getD_eq_getElem?_getD, hi] at h1
  exact h1
theorem pu_ends_of {L t : List Int32} (hl : t.length ≤ L.length) (h : ∀ i, i < t.length → L.getD (L.length - t.length + i) 0 = t.getD i 0) : pu_ends L t := by
  refine ⟨hl, ?_⟩
  apply List.ext_getElem
  · rw [List.length_drop]; omega
  · intro i h1 h2
    have h3 := h i h2
    rw [List.getD_eq_getElem?_getD, List.getD_eq_getElem?_getD, List.getElem?_eq_getElem (by omega), List.getElem?_eq_getElem h2] at h3
    rw [List.getElem_drop]
    exact h3
theorem pu_ends_at {L t : List Int32} (h : pu_ends L t) {i : Nat} (hi : i < t.length) : L.getD (L.length - t.length + i) 0 = t.getD i 0 := by
  obtain ⟨h1, h2⟩ := h
  have h3 : (L.drop (L.length - t.length))[i]? = t[i]? := by rw [h2]
  rw [List.getElem?_drop] at h3
  rw [List.getD_eq_getElem?_getD, List.getD_eq_getElem?_getD, h3]
theorem pu_dec (m : Nat) : nI m + Int32.ofInt (-1) = nI m - 1 := by
  apply Int32.toBitVec_inj.mp
  show BitVec.ofNat 32 m + BitVec.ofInt 32 (-1) = BitVec.ofNat 32 m - 1#32
  rw [BitVec.sub_eq_add_neg]
  rfl
theorem pu_subI {j : Nat} (h : j < 2 ^ 30) : (nI j - 1).toInt = (j : Int) - 1 := pk_sub_toInt (b := 1) h (by decide)
theorem pr_snoc {f : Nat → Int32} {L : List Int32} {n : Nat} {c : Int32} (hn : n = L.length) (h : pr_W f L) : pr_W (upd f n c) (L ++ [c]) := by
  subst hn
  intro i hi
  rw [List.length_append, List.length_singleton] at hi
  rcases Nat.lt_or_ge i L.length with h1 | h1
  · rw [pk_un (by omega), h i h1, List.getD_eq_getElem?_getD, List.getD_eq_getElem?_getD, List.getElem?_append_left h1]
  · have : i = L.length := by omega
    subst this
    rw [pk_us, List.getD_eq_getElem?_getD, List.getElem?_append_right (Nat.le_refl _), Nat.sub_self]
    rfl
theorem pu_take_snoc {t : List Int32} {j : Nat} (h : j < t.length) : t.take (j + 1) = t.take j ++ [t.getD j 0] := by
  rw [List.take_succ, List.getElem?_eq_getElem h, List.getD_eq_getElem?_getD, List.getElem?_eq_getElem h]
  rfl
def rm_Wo_lowered : Room := { frames := 0, cells := 0, slots := 0, locals := 0 }
set_option maxHeartbeats 4000000 in
set_option maxRecDepth 100000 in
theorem c_Wo_lowered (l : Launch) (g : sv_G) (ws : va_W) (c : Int32) : sv_Mi l y_Wo_lowered b_Wo_lowered 1 (some (.int)) rm_Wo_lowered g [.int c] ws (fun r w => r = pu_low c ∧ w = ws) := by
  refine sv_enter_i (by decide) rfl rfl (Nat.le_of_ble_eq_true rfl) (fun X C hI hr => ?_)
  refine sv_lvE (lv' := [some _]) rfl ?_
  have j68 : ((65 ≤ c.toInt ∧ c.toInt ≤ 90) ∨ (192 ≤ c.toInt ∧ c.toInt ≤ 222 ∧ c.toInt ≠ 215) ∨ (913 ≤ c.toInt ∧ c.toInt ≤ 939 ∧ c.toInt ≠ 930) ∨ (1040 ≤ c.toInt ∧ c.toInt ≤ 1071)) → sv_V X 1 0 0 ws 68 [some (.int c)] [] := by
    intro hj
    refine sv_iload_n C rfl rfl d_Wo_lowered_68 ?_
    refine sv_bipush C (v := 32) (by decide) d_Wo_lowered_69 ?_
    refine sv_iadd C d_Wo_lowered_71 ?_
    exact hr _ _ _ _ d_Wo_lowered_72 rfl ⟨(if_pos hj).symm, rfl⟩
  have j73 : (¬ (65 ≤ c.toInt ∧ c.toInt ≤ 90) ∧ ¬ (192 ≤ c.toInt ∧ c.toInt ≤ 222 ∧ c.toInt ≠ 215) ∧ ¬ (913 ≤ c.toInt ∧ c.toInt ≤ 939 ∧ c.toInt ≠ 930) ∧ ¬ (1040 ≤ c.toInt ∧ c.toInt ≤ 1071)) → sv_V X 1 0 0 ws 73 [some (.int c)] [] := by
    intro hj
    refine sv_iload_n C rfl rfl d_Wo_lowered_73 ?_
    refine sv_sipush C (v := 1024) (by decide) d_Wo_lowered_74 ?_
    refine sv_icmpK_lt C (1024) (by decide) 94 (by decide) d_Wo_lowered_77 (fun c77 => ?_) (fun c77 => ?_)
    · skip
      refine sv_iload_n C rfl rfl d_Wo_lowered_94 ?_
      exact hr _ _ _ _ d_Wo_lowered_95 rfl ⟨((if_neg (by omega)).trans (by first | rw [if_pos (by omega)] | rw [if_neg (by omega)])).symm, rfl⟩
    · skip
      refine sv_iload_n C rfl rfl d_Wo_lowered_80 ?_
      refine sv_sipush C (v := 1039) (by decide) d_Wo_lowered_81 ?_
      refine sv_icmpK_gt C (1039) (by decide) 94 (by decide) d_Wo_lowered_84 (fun c84 => ?_) (fun c84 => ?_)
      · skip
        refine sv_iload_n C rfl rfl d_Wo_lowered_94 ?_
        exact hr _ _ _ _ d_Wo_lowered_95 rfl ⟨((if_neg (by omega)).trans (by first | rw [if_pos (by omega)] | rw [if_neg (by omega)])).symm, rfl⟩
      · skip
        refine sv_iload_n C rfl rfl d_Wo_lowered_87 ?_
        refine sv_bipush C (v := 80) (by decide) d_Wo_lowered_88 ?_
        refine sv_iadd C d_Wo_lowered_90 ?_
        refine sv_goto C 95 (by decide) d_Wo_lowered_91 ?_
        exact hr _ _ _ _ d_Wo_lowered_95 rfl ⟨((if_neg (by omega)).trans (by first | rw [if_pos (by omega)] | rw [if_neg (by omega)])).symm, rfl⟩
  have j54 : (¬ (65 ≤ c.toInt ∧ c.toInt ≤ 90) ∧ ¬ (192 ≤ c.toInt ∧ c.toInt ≤ 222 ∧ c.toInt ≠ 215) ∧ ¬ (913 ≤ c.toInt ∧ c.toInt ≤ 939 ∧ c.toInt ≠ 930)) → sv_V X 1 0 0 ws 54 [some (.int c)] [] := by
    intro hj
    refine sv_iload_n C rfl rfl d_Wo_lowered_54 ?_
    refine sv_sipush C (v := 1040) (by decide) d_Wo_lowered_55 ?_
    refine sv_icmpK_lt C (1040) (by decide) 73 (by decide) d_Wo_lowered_58 (fun c58 => ?_) (fun c58 => ?_)
    · skip
      exact j73 (by omega)
    · skip
      refine sv_iload_n C rfl rfl d_Wo_lowered_61 ?_
      refine sv_sipush C (v := 1071) (by decide) d_Wo_lowered_62 ?_
      refine sv_icmpK_gt C (1071) (by decide) 73 (by decide) d_Wo_lowered_65 (fun c65 => ?_) (fun c65 => ?_)
      · skip
        exact j73 (by omega)
      · skip
        exact j68 (by omega)
  have j33 : (¬ (65 ≤ c.toInt ∧ c.toInt ≤ 90) ∧ ¬ (192 ≤ c.toInt ∧ c.toInt ≤ 222 ∧ c.toInt ≠ 215)) → sv_V X 1 0 0 ws 33 [some (.int c)] [] := by
    intro hj
    refine sv_iload_n C rfl rfl d_Wo_lowered_33 ?_
    refine sv_sipush C (v := 913) (by decide) d_Wo_lowered_34 ?_
    refine sv_icmpK_lt C (913) (by decide) 54 (by decide) d_Wo_lowered_37 (fun c37 => ?_) (fun c37 => ?_)
    · skip
      exact j54 (by omega)
    · skip
      refine sv_iload_n C rfl rfl d_Wo_lowered_40 ?_
      refine sv_sipush C (v := 939) (by decide) d_Wo_lowered_41 ?_
      refine sv_icmpK_gt C (939) (by decide) 54 (by decide) d_Wo_lowered_44 (fun c44 => ?_) (fun c44 => ?_)
      · skip
        exact j54 (by omega)
      · skip
        refine sv_iload_n C rfl rfl d_Wo_lowered_47 ?_
        refine sv_sipush C (v := 930) (by decide) d_Wo_lowered_48 ?_
        refine sv_icmpK_ne C (930) (by decide) 68 (by decide) d_Wo_lowered_51 (fun c51 => ?_) (fun c51 => ?_)
        · skip
          exact j68 (by omega)
        · skip
          exact j54 (by omega)
  have j12 : (¬ (65 ≤ c.toInt ∧ c.toInt ≤ 90)) → sv_V X 1 0 0 ws 12 [some (.int c)] [] := by
    intro hj
    refine sv_iload_n C rfl rfl d_Wo_lowered_12 ?_
    refine sv_sipush C (v := 192) (by decide) d_Wo_lowered_13 ?_
    refine sv_icmpK_lt C (192) (by decide) 33 (by decide) d_Wo_lowered_16 (fun c16 => ?_) (fun c16 => ?_)
    · skip
      exact j33 (by omega)
    · skip
      refine sv_iload_n C rfl rfl d_Wo_lowered_19 ?_
      refine sv_sipush C (v := 222) (by decide) d_Wo_lowered_20 ?_
      refine sv_icmpK_gt C (222) (by decide) 33 (by decide) d_Wo_lowered_23 (fun c23 => ?_) (fun c23 => ?_)
      · skip
        exact j33 (by omega)
      · skip
        refine sv_iload_n C rfl rfl d_Wo_lowered_26 ?_
        refine sv_sipush C (v := 215) (by decide) d_Wo_lowered_27 ?_
        refine sv_icmpK_ne C (215) (by decide) 68 (by decide) d_Wo_lowered_30 (fun c30 => ?_) (fun c30 => ?_)
        · skip
          exact j68 (by omega)
        · skip
          exact j33 (by omega)
  refine sv_iload_n C rfl rfl d_Wo_lowered_0 ?_
  refine sv_bipush C (v := 65) (by decide) d_Wo_lowered_1 ?_
  refine sv_icmpK_lt C (65) (by decide) 12 (by decide) d_Wo_lowered_3 (fun c3 => ?_) (fun c3 => ?_)
  · skip
    exact j12 (by omega)
  · skip
    refine sv_iload_n C rfl rfl d_Wo_lowered_6 ?_
    refine sv_bipush C (v := 90) (by decide) d_Wo_lowered_7 ?_
    refine sv_icmpK_le C (90) (by decide) 68 (by decide) d_Wo_lowered_9 (fun c9 => ?_) (fun c9 => ?_)
    · skip
      exact j68 (by omega)
    · skip
      exact j12 (by omega)

def rm_Wo_take : Room := { frames := 1, cells := 0, slots := 0, locals := 80 }
set_option maxHeartbeats 4000000 in
set_option maxRecDepth 100000 in
theorem c_Wo_take (l : Launch) (g : sv_G) (rest : va_W) (hW hwc hr0 a s : Nat) (n0 : Int32) (f t : Nat → Int32) (h1 : a + s ≤ 8192) (h2 : s ≤ 255) : sv_Mv l y_Wo_take b_Wo_take 4 none rm_Wo_take g [.ref hW, .ref hr0, .int (nI a), .int (nI s)] ((hW, .inr (5, [.ref hwc, .int n0])) :: (hwc, .inl (g.2.1 0, 255, .inl f)) :: (hr0, .inl (g.2.1 0, 8192, .inl t)) :: rest) (fun w => ∃ f2 : Nat → Int32, w = ((hW, .inr (5, [.ref hwc, .int (nI s)])) :: (hwc, .inl (g.2.1 0, 255, .inl f2)) :: (hr0, .inl (g.2.1 0, 8192, .inl t)) :: rest) ∧ ∀ i, i < s → f2 i = t (a + i)) := by
  refine sv_enter_v (by decide) rfl rfl (Nat.le_of_ble_eq_true rfl) (fun X C hI hr => ?_)
  refine sv_lvE (lv' := [some _, some _, some _, some _]) rfl ?_
  refine sv_aload_n C rfl rfl d_Wo_take_0 ?_
  refine sv_iload_n C rfl rfl d_Wo_take_1 ?_
  refine sv_aload_n C rfl rfl d_Wo_take_2 ?_
  refine sv_get C fg_Wo_13 0 rfl rfl d_Wo_take_3 ?_
  refine sv_iconst C (v := 0) (by decide) d_Wo_take_6 ?_
  refine sv_iload_n C rfl rfl d_Wo_take_7 ?_
  refine sv_copyN C a 0 s wa_Wo wa_2 wa_3 wa_4 2 1 rfl rfl h1 (by omega) (by decide) (by decide) (by decide) (Nat.le_of_ble_eq_true rfl) (_ :: _ :: _ :: _) rfl d_Wo_take_8 ?_
  refine sv_aload_n C rfl rfl d_Wo_take_11 ?_
  refine sv_iload_n C rfl rfl d_Wo_take_12 ?_
  refine sv_put C fp_Wo_7 0 rfl rfl rfl (Nat.le_of_ble_eq_true rfl) ((_, .inr (_, [_, _])) :: _ :: _ :: _) rfl d_Wo_take_13 ?_
  exact hr _ _ _ d_Wo_take_16 ⟨_, rfl, fun i hi => by rw [pk_cpy_in (Nat.zero_le _) (by omega)]; rfl⟩

def rm_Wo_dropOwnersEnding : Room := { frames := 0, cells := 0, slots := 0, locals := 0 }
set_option maxHeartbeats 4000000 in
set_option maxRecDepth 100000 in
theorem c_Wo_dropOwnersEnding (l : Launch) (g : sv_G) (rest : va_W) (hW hwc : Nat) (f : Nat → Int32) (L : List Int32) (hL : L.length ≤ 255) (hf : pr_W f L) : sv_Mv l y_Wo_dropOwnersEnding b_Wo_dropOwnersEnding 3 none rm_Wo_dropOwnersEnding g [.ref hW] ((hW, .inr (5, [.ref hwc, .int (nI L.length)])) :: (hwc, .inl (g.2.1 0, 255, .inl f)) :: rest) (fun w => w = ((hW, .inr (5, [.ref hwc, .int (nI (pu_own L).length)])) :: (hwc, .inl (g.2.1 0, 255, .inl f)) :: rest)) := by
  refine sv_enter_v (by decide) rfl rfl (Nat.le_of_ble_eq_true rfl) (fun X C hI hr => ?_)
  refine sv_lvE (lv' := [some _, none, none]) rfl ?_
  refine sv_aload_n C rfl rfl d_Wo_dropOwnersEnding_0 ?_
  refine sv_get C fg_Wo_7 0 rfl rfl d_Wo_dropOwnersEnding_1 ?_
  refine sv_iconst C (v := 2) (by decide) d_Wo_dropOwnersEnding_4 ?_
  refine sv_icmpN_gt C _ 2 (by omega) (by omega) 9 (by decide) d_Wo_dropOwnersEnding_5 (fun c5 => ?_) (fun c5 => ?_)
  · skip
    refine sv_aload_n C rfl rfl d_Wo_dropOwnersEnding_9 ?_
    refine sv_get C fg_Wo_13 0 rfl rfl d_Wo_dropOwnersEnding_10 ?_
    refine sv_aload_n C rfl rfl d_Wo_dropOwnersEnding_13 ?_
    refine sv_get C fg_Wo_7 0 rfl rfl d_Wo_dropOwnersEnding_14 ?_
    refine sv_iconst C (v := 2) (by decide) d_Wo_dropOwnersEnding_17 ?_
    refine sv_isubN C _ 2 (by omega) d_Wo_dropOwnersEnding_18 ?_
    refine sv_ialdN C _ 1 rfl (by omega) (by decide) d_Wo_dropOwnersEnding_19 ?_
    refine sv_eqi (hf _ (by omega)) ?_
    refine sv_istore_n C rfl (by decide) [some _, some _, none] rfl d_Wo_dropOwnersEnding_20 ?_
    refine sv_aload_n C rfl rfl d_Wo_dropOwnersEnding_21 ?_
    refine sv_get C fg_Wo_13 0 rfl rfl d_Wo_dropOwnersEnding_22 ?_
    refine sv_aload_n C rfl rfl d_Wo_dropOwnersEnding_25 ?_
    refine sv_get C fg_Wo_7 0 rfl rfl d_Wo_dropOwnersEnding_26 ?_
    refine sv_iconst C (v := 1) (by decide) d_Wo_dropOwnersEnding_29 ?_
    refine sv_isubN C _ 1 (by omega) d_Wo_dropOwnersEnding_30 ?_
    refine sv_ialdN C _ 1 rfl (by omega) (by decide) d_Wo_dropOwnersEnding_31 ?_
    refine sv_eqi (hf _ (by omega)) ?_
    refine sv_istore_n C rfl (by decide) [some _, some _, some _] rfl d_Wo_dropOwnersEnding_32 ?_
    refine sv_iload_n C rfl rfl d_Wo_dropOwnersEnding_33 ?_
    refine sv_bipush C (v := 39) (by decide) d_Wo_dropOwnersEnding_34 ?_
    refine sv_icmp_eq C 46 (by decide) d_Wo_dropOwnersEnding_36 (fun c36 => ?_) (fun c36 => ?_)
    · skip
      refine sv_iload_n C rfl rfl d_Wo_dropOwnersEnding_46 ?_
      refine sv_bipush C (v := 115) (by decide) d_Wo_dropOwnersEnding_47 ?_
      refine sv_icmp_eq C 58 (by decide) d_Wo_dropOwnersEnding_49 (fun c49 => ?_) (fun c49 => ?_)
      · skip
        refine sv_aload_n C rfl rfl d_Wo_dropOwnersEnding_58 ?_
        refine sv_dup C rfl d_Wo_dropOwnersEnding_59 ?_
        refine sv_get C fg_Wo_7 0 rfl rfl d_Wo_dropOwnersEnding_60 ?_
        refine sv_iconst C (v := 2) (by decide) d_Wo_dropOwnersEnding_63 ?_
        refine sv_isubN C _ 2 (by omega) d_Wo_dropOwnersEnding_64 ?_
        refine sv_put C fp_Wo_7 0 rfl rfl rfl (Nat.le_of_ble_eq_true rfl) ((_, .inr (_, [_, _])) :: _ :: _) rfl d_Wo_dropOwnersEnding_65 ?_
        first
          | exact hr _ _ _ d_Wo_dropOwnersEnding_68 (by rw [show pu_own L = L from if_neg (fun z => by first | exact absurd z.1 (by omega) | exact z.2.1.elim c36 c43 | exact z.2.2.elim c49 c55)])
          | exact hr _ _ _ d_Wo_dropOwnersEnding_68 (by rw [show (pu_own L).length = L.length - 2 from by rw [show pu_own L = L.take (L.length - 2) from if_pos ⟨by omega, by first | exact Or.inl c36 | exact Or.inr c43, by first | exact Or.inl c49 | exact Or.inr c55⟩, List.length_take]; omega])
      · skip
        refine sv_iload_n C rfl rfl d_Wo_dropOwnersEnding_52 ?_
        refine sv_bipush C (v := 83) (by decide) d_Wo_dropOwnersEnding_53 ?_
        refine sv_icmp_ne C 68 (by decide) d_Wo_dropOwnersEnding_55 (fun c55 => ?_) (fun c55 => ?_)
        · skip
          first
            | exact hr _ _ _ d_Wo_dropOwnersEnding_68 (by rw [show pu_own L = L from if_neg (fun z => by first | exact absurd z.1 (by omega) | exact z.2.1.elim c36 c43 | exact z.2.2.elim c49 c55)])
            | exact hr _ _ _ d_Wo_dropOwnersEnding_68 (by rw [show (pu_own L).length = L.length - 2 from by rw [show pu_own L = L.take (L.length - 2) from if_pos ⟨by omega, by first | exact Or.inl c36 | exact Or.inr c43, by first | exact Or.inl c49 | exact Or.inr c55⟩, List.length_take]; omega])
        · skip
          refine sv_aload_n C rfl rfl d_Wo_dropOwnersEnding_58 ?_
          refine sv_dup C rfl d_Wo_dropOwnersEnding_59 ?_
          refine sv_get C fg_Wo_7 0 rfl rfl d_Wo_dropOwnersEnding_60 ?_
          refine sv_iconst C (v := 2) (by decide) d_Wo_dropOwnersEnding_63 ?_
          refine sv_isubN C _ 2 (by omega) d_Wo_dropOwnersEnding_64 ?_
          refine sv_put C fp_Wo_7 0 rfl rfl rfl (Nat.le_of_ble_eq_true rfl) ((_, .inr (_, [_, _])) :: _ :: _) rfl d_Wo_dropOwnersEnding_65 ?_
          first
            | exact hr _ _ _ d_Wo_dropOwnersEnding_68 (by rw [show pu_own L = L from if_neg (fun z => by first | exact absurd z.1 (by omega) | exact z.2.1.elim c36 c43 | exact z.2.2.elim c49 c55)])
            | exact hr _ _ _ d_Wo_dropOwnersEnding_68 (by rw [show (pu_own L).length = L.length - 2 from by rw [show pu_own L = L.take (L.length - 2) from if_pos ⟨by omega, by first | exact Or.inl c36 | exact Or.inr c43, by first | exact Or.inl c49 | exact Or.inr c55⟩, List.length_take]; omega])
    · skip
      refine sv_iload_n C rfl rfl d_Wo_dropOwnersEnding_39 ?_
      refine sv_sipush C (v := 8217) (by decide) d_Wo_dropOwnersEnding_40 ?_
      refine sv_icmp_ne C 68 (by decide) d_Wo_dropOwnersEnding_43 (fun c43 => ?_) (fun c43 => ?_)
      · skip
        first
          | exact hr _ _ _ d_Wo_dropOwnersEnding_68 (by rw [show pu_own L = L from if_neg (fun z => by first | exact absurd z.1 (by omega) | exact z.2.1.elim c36 c43 | exact z.2.2.elim c49 c55)])
          | exact hr _ _ _ d_Wo_dropOwnersEnding_68 (by rw [show (pu_own L).length = L.length - 2 from by rw [show pu_own L = L.take (L.length - 2) from if_pos ⟨by omega, by first | exact Or.inl c36 | exact Or.inr c43, by first | exact Or.inl c49 | exact Or.inr c55⟩, List.length_take]; omega])
      · skip
        refine sv_iload_n C rfl rfl d_Wo_dropOwnersEnding_46 ?_
        refine sv_bipush C (v := 115) (by decide) d_Wo_dropOwnersEnding_47 ?_
        refine sv_icmp_eq C 58 (by decide) d_Wo_dropOwnersEnding_49 (fun c49 => ?_) (fun c49 => ?_)
        · skip
          refine sv_aload_n C rfl rfl d_Wo_dropOwnersEnding_58 ?_
          refine sv_dup C rfl d_Wo_dropOwnersEnding_59 ?_
          refine sv_get C fg_Wo_7 0 rfl rfl d_Wo_dropOwnersEnding_60 ?_
          refine sv_iconst C (v := 2) (by decide) d_Wo_dropOwnersEnding_63 ?_
          refine sv_isubN C _ 2 (by omega) d_Wo_dropOwnersEnding_64 ?_
          refine sv_put C fp_Wo_7 0 rfl rfl rfl (Nat.le_of_ble_eq_true rfl) ((_, .inr (_, [_, _])) :: _ :: _) rfl d_Wo_dropOwnersEnding_65 ?_
          first
            | exact hr _ _ _ d_Wo_dropOwnersEnding_68 (by rw [show pu_own L = L from if_neg (fun z => by first | exact absurd z.1 (by omega) | exact z.2.1.elim c36 c43 | exact z.2.2.elim c49 c55)])
            | exact hr _ _ _ d_Wo_dropOwnersEnding_68 (by rw [show (pu_own L).length = L.length - 2 from by rw [show pu_own L = L.take (L.length - 2) from if_pos ⟨by omega, by first | exact Or.inl c36 | exact Or.inr c43, by first | exact Or.inl c49 | exact Or.inr c55⟩, List.length_take]; omega])
        · skip
          refine sv_iload_n C rfl rfl d_Wo_dropOwnersEnding_52 ?_
          refine sv_bipush C (v := 83) (by decide) d_Wo_dropOwnersEnding_53 ?_
          refine sv_icmp_ne C 68 (by decide) d_Wo_dropOwnersEnding_55 (fun c55 => ?_) (fun c55 => ?_)
          · skip
            first
              | exact hr _ _ _ d_Wo_dropOwnersEnding_68 (by rw [show pu_own L = L from if_neg (fun z => by first | exact absurd z.1 (by omega) | exact z.2.1.elim c36 c43 | exact z.2.2.elim c49 c55)])
              | exact hr _ _ _ d_Wo_dropOwnersEnding_68 (by rw [show (pu_own L).length = L.length - 2 from by rw [show pu_own L = L.take (L.length - 2) from if_pos ⟨by omega, by first | exact Or.inl c36 | exact Or.inr c43, by first | exact Or.inl c49 | exact Or.inr c55⟩, List.length_take]; omega])
          · skip
            refine sv_aload_n C rfl rfl d_Wo_dropOwnersEnding_58 ?_
            refine sv_dup C rfl d_Wo_dropOwnersEnding_59 ?_
            refine sv_get C fg_Wo_7 0 rfl rfl d_Wo_dropOwnersEnding_60 ?_
            refine sv_iconst C (v := 2) (by decide) d_Wo_dropOwnersEnding_63 ?_
            refine sv_isubN C _ 2 (by omega) d_Wo_dropOwnersEnding_64 ?_
            refine sv_put C fp_Wo_7 0 rfl rfl rfl (Nat.le_of_ble_eq_true rfl) ((_, .inr (_, [_, _])) :: _ :: _) rfl d_Wo_dropOwnersEnding_65 ?_
            first
              | exact hr _ _ _ d_Wo_dropOwnersEnding_68 (by rw [show pu_own L = L from if_neg (fun z => by first | exact absurd z.1 (by omega) | exact z.2.1.elim c36 c43 | exact z.2.2.elim c49 c55)])
              | exact hr _ _ _ d_Wo_dropOwnersEnding_68 (by rw [show (pu_own L).length = L.length - 2 from by rw [show pu_own L = L.take (L.length - 2) from if_pos ⟨by omega, by first | exact Or.inl c36 | exact Or.inr c43, by first | exact Or.inl c49 | exact Or.inr c55⟩, List.length_take]; omega])
  · skip
    exact hr _ _ _ d_Wo_dropOwnersEnding_8 (by rw [show pu_own L = L from if_neg (fun z => by first | exact absurd z.1 (by omega) | exact z.2.1.elim c36 c43 | exact z.2.2.elim c49 c55)])

def rm_Wo_lower : Room := { frames := 1, cells := 0, slots := 0, locals := 20 }
set_option maxHeartbeats 4000000 in
set_option maxRecDepth 100000 in
theorem c_Wo_lower (l : Launch) (g : sv_G) (rest : va_W) (hW hwc : Nat) (f : Nat → Int32) (L : List Int32) (hL : L.length ≤ 255) (hf : pr_W f L) : sv_Mv l y_Wo_lower b_Wo_lower 2 none rm_Wo_lower g [.ref hW] ((hW, .inr (5, [.ref hwc, .int (nI L.length)])) :: (hwc, .inl (g.2.1 0, 255, .inl f)) :: rest) (fun w => ∃ f2 : Nat → Int32, w = ((hW, .inr (5, [.ref hwc, .int (nI L.length)])) :: (hwc, .inl (g.2.1 0, 255, .inl f2)) :: rest) ∧ pr_W f2 (L.map pu_low)) := by
  refine sv_enter_v (by decide) rfl rfl (Nat.le_of_ble_eq_true rfl) (fun X C hI hr => ?_)
  refine sv_lvE (lv' := [some _, none]) rfl ?_
  have L2 : ∀ (k : Nat) (j : Nat) (f2 : Nat → Int32), (j ≤ L.length ∧ L.length ≤ j + k ∧ (∀ i, i < j → f2 i = pu_low (L.getD i 0)) ∧ ∀ i, j ≤ i → i < L.length → f2 i = L.getD i 0) → sv_V X 2 0 0 ((hW, .inr (5, [.ref hwc, .int (nI L.length)])) :: (hwc, .inl (g.2.1 0, 255, .inl f2)) :: rest) 2 [some (.ref hW), some (.int (nI j))] [] := by
    intro k
    induction k with
    | zero =>
      intro j f2 hq
      obtain ⟨q1, q2, q3, q4⟩ := hq
      refine sv_iload_n C rfl rfl d_Wo_lower_2 ?_
      refine sv_aload_n C rfl rfl d_Wo_lower_3 ?_
      refine sv_get C fg_Wo_7 0 rfl rfl d_Wo_lower_4 ?_
      refine sv_icmpN_ge C _ _ (by omega) (by omega) 31 (by decide) d_Wo_lower_7 (fun c7 => ?_) (fun c7 => ?_)
      · skip
        exact hr _ _ _ d_Wo_lower_31 ⟨f2, rfl, fun i hi => by rw [List.length_map] at hi; rw [q3 i (by omega), List.getD_eq_getElem?_getD, List.getD_eq_getElem?_getD, List.getElem?_map, List.getElem?_eq_getElem hi]; rfl⟩
      · skip
        exact absurd c7 (by omega)
    | succ k ih =>
      intro j f2 hq
      obtain ⟨q1, q2, q3, q4⟩ := hq
      refine sv_iload_n C rfl rfl d_Wo_lower_2 ?_
      refine sv_aload_n C rfl rfl d_Wo_lower_3 ?_
      refine sv_get C fg_Wo_7 0 rfl rfl d_Wo_lower_4 ?_
      refine sv_icmpN_ge C _ _ (by omega) (by omega) 31 (by decide) d_Wo_lower_7 (fun c7 => ?_) (fun c7 => ?_)
      · skip
        exact hr _ _ _ d_Wo_lower_31 ⟨f2, rfl, fun i hi => by rw [List.length_map] at hi; rw [q3 i (by omega), List.getD_eq_getElem?_getD, List.getD_eq_getElem?_getD, List.getElem?_map, List.getElem?_eq_getElem hi]; rfl⟩
      · skip
        refine sv_aload_n C rfl rfl d_Wo_lower_10 ?_
        refine sv_get C fg_Wo_13 0 rfl rfl d_Wo_lower_11 ?_
        refine sv_iload_n C rfl rfl d_Wo_lower_14 ?_
        refine sv_aload_n C rfl rfl d_Wo_lower_15 ?_
        refine sv_get C fg_Wo_13 0 rfl rfl d_Wo_lower_16 ?_
        refine sv_iload_n C rfl rfl d_Wo_lower_19 ?_
        refine sv_ialdN C _ 1 rfl (by omega) (by decide) d_Wo_lower_20 ?_
        refine sv_eqi (q4 j (Nat.le_refl _) (by omega)) ?_
        refine sv_callSi C (c_Wo_lowered l g _ (L.getD j 0)) lk_Wo_23  d_Wo_lower_21 (by decide) (Nat.le_of_ble_eq_true rfl) (by decide) (fun r w hw => ?_)
        obtain ⟨rfl, rfl⟩ := hw
        refine sv_iastN C _ 1 rfl (by omega) (by decide) (_ :: _ :: _) rfl d_Wo_lower_24 ?_
        refine sv_iincN C 1 _ rfl [some _, some _] rfl d_Wo_lower_25 ?_
        refine sv_goto C 2 (by decide) d_Wo_lower_28 ?_
        exact ih (j + 1) _ ⟨by omega, by omega, fun i hi => by
          rcases Nat.lt_or_ge i j with h | h
          · rw [pk_un (by omega), q3 i h]
          · have hij : i = j := by omega
            subst hij
            rw [pk_us], fun i h1 h2 => by rw [pk_un (by omega), q4 i (by omega) h2]⟩
  refine sv_iconst C (v := 0) (by decide) d_Wo_lower_0 ?_
  refine sv_istore_n C rfl (by decide) [some _, some _] rfl d_Wo_lower_1 ?_
  exact L2 L.length 0 f ⟨by omega, by omega, fun i hi => absurd hi (Nat.not_lt_zero i), fun i _ hi => hf i hi⟩

def rm_Wo_isSmallLetters : Room := { frames := 0, cells := 0, slots := 0, locals := 0 }
set_option maxHeartbeats 4000000 in
set_option maxRecDepth 100000 in
theorem c_Wo_isSmallLetters (l : Launch) (g : sv_G) (rest : va_W) (hW hwc : Nat) (f : Nat → Int32) (L : List Int32) (hL : L.length ≤ 255) (hf : pr_W f L) : sv_Mi l y_Wo_isSmallLetters b_Wo_isSmallLetters 2 (some (.boolean)) rm_Wo_isSmallLetters g [.ref hW] ((hW, .inr (5, [.ref hwc, .int (nI L.length)])) :: (hwc, .inl (g.2.1 0, 255, .inl f)) :: rest) (fun r w => r = (if pu_small L then 1 else 0) ∧ w = ((hW, .inr (5, [.ref hwc, .int (nI L.length)])) :: (hwc, .inl (g.2.1 0, 255, .inl f)) :: rest)) := by
  refine sv_enter_i (by decide) rfl rfl (Nat.le_of_ble_eq_true rfl) (fun X C hI hr => ?_)
  refine sv_lvE (lv' := [some _, none]) rfl ?_
  have L2 : ∀ (k : Nat) (j : Nat), (j ≤ L.length ∧ L.length ≤ j + k ∧ ∀ i, i < j → 97 ≤ (L.getD i 0).toInt ∧ (L.getD i 0).toInt ≤ 122) → sv_V X 2 0 0 ((hW, .inr (5, [.ref hwc, .int (nI L.length)])) :: (hwc, .inl (g.2.1 0, 255, .inl f)) :: rest) 2 [some (.ref hW), some (.int (nI j))] [] := by
    intro k
    induction k with
    | zero =>
      intro j hq
      obtain ⟨q1, q2, q3⟩ := hq
      refine sv_iload_n C rfl rfl d_Wo_isSmallLetters_2 ?_
      refine sv_aload_n C rfl rfl d_Wo_isSmallLetters_3 ?_
      refine sv_get C fg_Wo_7 0 rfl rfl d_Wo_isSmallLetters_4 ?_
      refine sv_icmpN_ge C _ _ (by omega) (by omega) 40 (by decide) d_Wo_isSmallLetters_7 (fun c7 => ?_) (fun c7 => ?_)
      · skip
        refine sv_iconst C (v := 1) (by decide) d_Wo_isSmallLetters_40 ?_
        exact hr _ _ _ _ d_Wo_isSmallLetters_41 rfl ⟨(if_pos (pu_small_of (fun i hi => q3 i (by omega)))).symm, rfl⟩
      · skip
        exact absurd c7 (by omega)
    | succ k ih =>
      intro j hq
      obtain ⟨q1, q2, q3⟩ := hq
      refine sv_iload_n C rfl rfl d_Wo_isSmallLetters_2 ?_
      refine sv_aload_n C rfl rfl d_Wo_isSmallLetters_3 ?_
      refine sv_get C fg_Wo_7 0 rfl rfl d_Wo_isSmallLetters_4 ?_
      refine sv_icmpN_ge C _ _ (by omega) (by omega) 40 (by decide) d_Wo_isSmallLetters_7 (fun c7 => ?_) (fun c7 => ?_)
      · skip
        refine sv_iconst C (v := 1) (by decide) d_Wo_isSmallLetters_40 ?_
        exact hr _ _ _ _ d_Wo_isSmallLetters_41 rfl ⟨(if_pos (pu_small_of (fun i hi => q3 i (by omega)))).symm, rfl⟩
      · skip
        refine sv_aload_n C rfl rfl d_Wo_isSmallLetters_10 ?_
        refine sv_get C fg_Wo_13 0 rfl rfl d_Wo_isSmallLetters_11 ?_
        refine sv_iload_n C rfl rfl d_Wo_isSmallLetters_14 ?_
        refine sv_ialdN C _ 1 rfl (by omega) (by decide) d_Wo_isSmallLetters_15 ?_
        refine sv_eqi (hf j (by omega)) ?_
        refine sv_bipush C (v := 97) (by decide) d_Wo_isSmallLetters_16 ?_
        refine sv_icmpK_lt C (97) (by decide) 32 (by decide) d_Wo_isSmallLetters_18 (fun c18 => ?_) (fun c18 => ?_)
        · skip
          refine sv_iconst C (v := 0) (by decide) d_Wo_isSmallLetters_32 ?_
          exact hr _ _ _ _ d_Wo_isSmallLetters_33 rfl ⟨(if_neg (fun z => by have := z _ (pu_mem (i := j) (by omega)); omega)).symm, rfl⟩
        · skip
          refine sv_aload_n C rfl rfl d_Wo_isSmallLetters_21 ?_
          refine sv_get C fg_Wo_13 0 rfl rfl d_Wo_isSmallLetters_22 ?_
          refine sv_iload_n C rfl rfl d_Wo_isSmallLetters_25 ?_
          refine sv_ialdN C _ 1 rfl (by omega) (by decide) d_Wo_isSmallLetters_26 ?_
          refine sv_eqi (hf j (by omega)) ?_
          refine sv_bipush C (v := 122) (by decide) d_Wo_isSmallLetters_27 ?_
          refine sv_icmpK_le C (122) (by decide) 34 (by decide) d_Wo_isSmallLetters_29 (fun c29 => ?_) (fun c29 => ?_)
          · skip
            refine sv_iincN C 1 _ rfl [some _, some _] rfl d_Wo_isSmallLetters_34 ?_
            refine sv_goto C 2 (by decide) d_Wo_isSmallLetters_37 ?_
            exact ih (j + 1) ⟨by omega, by omega, fun i hi => by
              rcases Nat.lt_or_ge i j with h | h
              · exact q3 i h
              · have hij : i = j := by omega
                subst hij
                omega⟩
          · skip
            refine sv_iconst C (v := 0) (by decide) d_Wo_isSmallLetters_32 ?_
            exact hr _ _ _ _ d_Wo_isSmallLetters_33 rfl ⟨(if_neg (fun z => by have := z _ (pu_mem (i := j) (by omega)); omega)).symm, rfl⟩
  refine sv_iconst C (v := 0) (by decide) d_Wo_isSmallLetters_0 ?_
  refine sv_istore_n C rfl (by decide) [some _, some _] rfl d_Wo_isSmallLetters_1 ?_
  exact L2 L.length 0 ⟨by omega, by omega, fun i hi => absurd hi (Nat.not_lt_zero i)⟩

def rm_Wo_endsWith : Room := { frames := 6, cells := 0, slots := 0, locals := 186 }
set_option maxHeartbeats 4000000 in
set_option maxRecDepth 100000 in
theorem c_Wo_endsWith (l : Launch) (g : sv_G) (rest : va_W) (hW hwc : Nat) (f : Nat → Int32) (L : List Int32) (hL : L.length ≤ 255) (hf : pr_W f L) (i : Nat) (hi : i < sv_nS) (h0 : 1 ≤ (sv_txt i).length) : sv_Mi l y_Wo_endsWith b_Wo_endsWith 4 (some (.boolean)) rm_Wo_endsWith g [.ref hW, .ref (g.2.2.1 i)] ((hW, .inr (5, [.ref hwc, .int (nI L.length)])) :: (hwc, .inl (g.2.1 0, 255, .inl f)) :: rest) (fun r w => r = (if pu_ends L (sv_txt i) then 1 else 0) ∧ w = ((hW, .inr (5, [.ref hwc, .int (nI L.length)])) :: (hwc, .inl (g.2.1 0, 255, .inl f)) :: rest)) := by
  have hl := sv_len hi
  have e1 := pk_sub_toInt (a := L.length) (b := (sv_txt i).length) (by omega) (by omega)
  refine sv_enter_i (by decide) rfl rfl (Nat.le_of_ble_eq_true rfl) (fun X C hI hr => ?_)
  refine sv_lvE (lv' := [some _, some _, none, none]) rfl ?_
  have L23 : ∀ (k : Nat) (j : Nat), ((sv_txt i).length ≤ L.length ∧ j ≤ (sv_txt i).length ∧ j ≤ k ∧ ∀ q, j ≤ q → q < (sv_txt i).length → L.getD (L.length - (sv_txt i).length + q) 0 = (sv_txt i).getD q 0) → sv_V X 4 0 0 ((hW, .inr (5, [.ref hwc, .int (nI L.length)])) :: (hwc, .inl (g.2.1 0, 255, .inl f)) :: rest) 23 [some (.ref hW), some (.ref (g.2.2.1 i)), some (.int (nI (L.length - (sv_txt i).length))), some (.int (nI j - 1))] [] := by
    intro k
    induction k with
    | zero =>
      intro j hq
      obtain ⟨q1, q2, q3, q4⟩ := hq
      have e2 := pu_subI (j := j) (by omega)
      refine sv_iload_n C rfl rfl d_Wo_endsWith_23 ?_
      refine sv_ifZ_lt C 51 (by decide) d_Wo_endsWith_24 (fun c24 => ?_) (fun c24 => ?_)
      · skip
        refine sv_iconst C (v := 1) (by decide) d_Wo_endsWith_51 ?_
        exact hr _ _ _ _ d_Wo_endsWith_52 rfl ⟨(if_pos (pu_ends_of q1 (fun q hq => q4 q (by omega) hq))).symm, rfl⟩
      · skip
        exact absurd c24 (by omega)
    | succ k ih =>
      intro j hq
      obtain ⟨q1, q2, q3, q4⟩ := hq
      have e2 := pu_subI (j := j) (by omega)
      refine sv_iload_n C rfl rfl d_Wo_endsWith_23 ?_
      refine sv_ifZ_lt C 51 (by decide) d_Wo_endsWith_24 (fun c24 => ?_) (fun c24 => ?_)
      · skip
        refine sv_iconst C (v := 1) (by decide) d_Wo_endsWith_51 ?_
        exact hr _ _ _ _ d_Wo_endsWith_52 rfl ⟨(if_pos (pu_ends_of q1 (fun q hq => q4 q (by omega) hq))).symm, rfl⟩
      · skip
        refine sv_lvE (lv' := [some (.ref hW), some (.ref (g.2.2.1 i)), some (.int (nI (L.length - (sv_txt i).length))), some (.int (nI (j - 1)))]) (by rw [← pk_sub (a := j) (b := 1) (by omega)]; rfl) ?_
        refine sv_aload_n C rfl rfl d_Wo_endsWith_27 ?_
        refine sv_get C fg_Wo_13 0 rfl rfl d_Wo_endsWith_28 ?_
        refine sv_iload_n C rfl rfl d_Wo_endsWith_31 ?_
        refine sv_iload_n C rfl rfl d_Wo_endsWith_32 ?_
        refine sv_iaddN C _ _  d_Wo_endsWith_33 ?_
        refine sv_ialdN C _ 1 rfl (by omega) (by decide) d_Wo_endsWith_34 ?_
        refine sv_eqi (hf _ (by omega)) ?_
        refine sv_aload_n C rfl rfl d_Wo_endsWith_35 ?_
        refine sv_iload_n C rfl rfl d_Wo_endsWith_36 ?_
        refine sv_callVsi C i hi (c_Str_charAt l g _ i (j - 1) hi (by omega)) lk_Wo_32 rfl d_Wo_endsWith_37 (by decide) (Nat.le_of_ble_eq_true rfl) (by decide) (fun r w hw => ?_)
        obtain ⟨rfl, rfl⟩ := hw
        refine sv_icmp_eq C 45 (by decide) d_Wo_endsWith_40 (fun c40 => ?_) (fun c40 => ?_)
        · skip
          refine sv_iinc C (v := nI (j - 1) - 1) rfl (pu_dec _) [some _, some _, some _, some _] rfl d_Wo_endsWith_45 ?_
          refine sv_goto C 23 (by decide) d_Wo_endsWith_48 ?_
          exact ih (j - 1) ⟨q1, by omega, by omega, fun q h1 h2 => by
            rcases Nat.lt_or_ge q j with h | h
            · have hqj : q = j - 1 := by omega
              subst hqj
              exact c40
            · exact q4 q h h2⟩
        · skip
          refine sv_iconst C (v := 0) (by decide) d_Wo_endsWith_43 ?_
          exact hr _ _ _ _ d_Wo_endsWith_44 rfl ⟨(if_neg (fun z => c40 (pu_ends_at z (by omega)))).symm, rfl⟩
  refine sv_aload_n C rfl rfl d_Wo_endsWith_0 ?_
  refine sv_get C fg_Wo_7 0 rfl rfl d_Wo_endsWith_1 ?_
  refine sv_aload_n C rfl rfl d_Wo_endsWith_4 ?_
  refine sv_callVsi C i hi (c_Str_length l g _ i hi) lk_Wo_27 rfl d_Wo_endsWith_5 (by decide) (Nat.le_of_ble_eq_true rfl) (by decide) (fun r w hw => ?_)
  obtain ⟨rfl, rfl⟩ := hw
  refine sv_isub C d_Wo_endsWith_8 ?_
  refine sv_istore_n C rfl (by decide) [some _, some _, some _, none] rfl d_Wo_endsWith_9 ?_
  refine sv_iload_n C rfl rfl d_Wo_endsWith_10 ?_
  refine sv_ifZ_ge C 16 (by decide) d_Wo_endsWith_11 (fun c11 => ?_) (fun c11 => ?_)
  · skip
    refine sv_lvE (lv' := [some (.ref hW), some (.ref (g.2.2.1 i)), some (.int (nI (L.length - (sv_txt i).length))), none]) (by rw [← pk_sub (a := L.length) (b := (sv_txt i).length) (by omega)]) ?_
    refine sv_aload_n C rfl rfl d_Wo_endsWith_16 ?_
    refine sv_callVsi C i hi (c_Str_length l g _ i hi) lk_Wo_27 rfl d_Wo_endsWith_17 (by decide) (Nat.le_of_ble_eq_true rfl) (by decide) (fun r w hw => ?_)
    obtain ⟨rfl, rfl⟩ := hw
    refine sv_iconst C (v := 1) (by decide) d_Wo_endsWith_20 ?_
    refine sv_isub C d_Wo_endsWith_21 ?_
    refine sv_istore_n C rfl (by decide) [some _, some _, some _, some _] rfl d_Wo_endsWith_22 ?_
    exact L23 _ _ ⟨by omega, Nat.le_refl _, Nat.le_refl _, fun q h1 h2 => absurd h2 (by omega)⟩
  · skip
    refine sv_iconst C (v := 0) (by decide) d_Wo_endsWith_14 ?_
    exact hr _ _ _ _ d_Wo_endsWith_15 rfl ⟨(if_neg (fun z => by have := z.1; omega)).symm, rfl⟩

def rm_Wo_append : Room := { frames := 6, cells := 0, slots := 0, locals := 186 }
set_option maxHeartbeats 4000000 in
set_option maxRecDepth 100000 in
theorem c_Wo_append (l : Launch) (g : sv_G) (rest : va_W) (hW hwc : Nat) (f : Nat → Int32) (L : List Int32) (hL : L.length ≤ 255) (hf : pr_W f L) (i : Nat) (hi : i < sv_nS) (hc : L.length + (sv_txt i).length ≤ 255) : sv_Mv l y_Wo_append b_Wo_append 3 none rm_Wo_append g [.ref hW, .ref (g.2.2.1 i)] ((hW, .inr (5, [.ref hwc, .int (nI L.length)])) :: (hwc, .inl (g.2.1 0, 255, .inl f)) :: rest) (fun w => ∃ f2 : Nat → Int32, w = ((hW, .inr (5, [.ref hwc, .int (nI (L ++ sv_txt i).length)])) :: (hwc, .inl (g.2.1 0, 255, .inl f2)) :: rest) ∧ pr_W f2 (L ++ sv_txt i)) := by
  have hl := sv_len hi
  refine sv_enter_v (by decide) rfl rfl (Nat.le_of_ble_eq_true rfl) (fun X C hI hr => ?_)
  refine sv_lvE (lv' := [some _, some _, none]) rfl ?_
  have L2 : ∀ (k : Nat) (j n : Nat) (f2 : Nat → Int32), (j ≤ (sv_txt i).length ∧ (sv_txt i).length ≤ j + k ∧ n = L.length + j ∧ pr_W f2 (L ++ (sv_txt i).take j)) → sv_V X 3 0 0 ((hW, .inr (5, [.ref hwc, .int (nI n)])) :: (hwc, .inl (g.2.1 0, 255, .inl f2)) :: rest) 2 [some (.ref hW), some (.ref (g.2.2.1 i)), some (.int (nI j))] [] := by
    intro k
    induction k with
    | zero =>
      intro j n f2 hq
      obtain ⟨q1, q2, q3, q4⟩ := hq
      refine sv_iload_n C rfl rfl d_Wo_append_2 ?_
      refine sv_aload_n C rfl rfl d_Wo_append_3 ?_
      refine sv_callVsi C i hi (c_Str_length l g _ i hi) lk_Wo_27 rfl d_Wo_append_4 (by decide) (Nat.le_of_ble_eq_true rfl) (by decide) (fun r w hw => ?_)
      obtain ⟨rfl, rfl⟩ := hw
      refine sv_icmpN_ge C _ _ (by omega) (by omega) 52 (by decide) d_Wo_append_7 (fun c7 => ?_) (fun c7 => ?_)
      · skip
        have hj : j = (sv_txt i).length := by omega
        subst hj
        rw [List.take_length] at q4
        subst q3
        exact hr _ _ _ d_Wo_append_52 ⟨f2, by rw [List.length_append], q4⟩
      · skip
        exact absurd c7 (by omega)
    | succ k ih =>
      intro j n f2 hq
      obtain ⟨q1, q2, q3, q4⟩ := hq
      refine sv_iload_n C rfl rfl d_Wo_append_2 ?_
      refine sv_aload_n C rfl rfl d_Wo_append_3 ?_
      refine sv_callVsi C i hi (c_Str_length l g _ i hi) lk_Wo_27 rfl d_Wo_append_4 (by decide) (Nat.le_of_ble_eq_true rfl) (by decide) (fun r w hw => ?_)
      obtain ⟨rfl, rfl⟩ := hw
      refine sv_icmpN_ge C _ _ (by omega) (by omega) 52 (by decide) d_Wo_append_7 (fun c7 => ?_) (fun c7 => ?_)
      · skip
        have hj : j = (sv_txt i).length := by omega
        subst hj
        rw [List.take_length] at q4
        subst q3
        exact hr _ _ _ d_Wo_append_52 ⟨f2, by rw [List.length_append], q4⟩
      · skip
        refine sv_aload_n C rfl rfl d_Wo_append_10 ?_
        refine sv_get C fg_Wo_7 0 rfl rfl d_Wo_append_11 ?_
        refine sv_aload_n C rfl rfl d_Wo_append_14 ?_
        refine sv_get C fg_Wo_13 0 rfl rfl d_Wo_append_15 ?_
        refine sv_alen C (t0 := 0) (v := nI 255) rfl (List.mem_cons_of_mem _ List.mem_cons_self) rfl d_Wo_append_18 ?_
        refine sv_icmpN_ge C _ _ (by omega) (by omega) 52 (by decide) d_Wo_append_19 (fun c19 => ?_) (fun c19 => ?_)
        · skip
          exact absurd c19 (by omega)
        · skip
          refine sv_aload_n C rfl rfl d_Wo_append_22 ?_
          refine sv_get C fg_Wo_13 0 rfl rfl d_Wo_append_23 ?_
          refine sv_aload_n C rfl rfl d_Wo_append_26 ?_
          refine sv_get C fg_Wo_7 0 rfl rfl d_Wo_append_27 ?_
          refine sv_aload_n C rfl rfl d_Wo_append_30 ?_
          refine sv_iload_n C rfl rfl d_Wo_append_31 ?_
          refine sv_callVsi C i hi (c_Str_charAt l g _ i j hi c7) lk_Wo_32 rfl d_Wo_append_32 (by decide) (Nat.le_of_ble_eq_true rfl) (by decide) (fun r w hw => ?_)
          obtain ⟨rfl, rfl⟩ := hw
          refine sv_iastN C _ 1 rfl (by omega) (by decide) (_ :: _ :: _) rfl d_Wo_append_35 ?_
          refine sv_aload_n C rfl rfl d_Wo_append_36 ?_
          refine sv_dup C rfl d_Wo_append_37 ?_
          refine sv_get C fg_Wo_7 0 rfl rfl d_Wo_append_38 ?_
          refine sv_iconst C (v := 1) (by decide) d_Wo_append_41 ?_
          refine sv_iaddN C _ 1  d_Wo_append_42 ?_
          refine sv_put C fp_Wo_7 0 rfl rfl rfl (Nat.le_of_ble_eq_true rfl) ((_, .inr (_, [_, _])) :: _ :: _) rfl d_Wo_append_43 ?_
          refine sv_iincN C 1 _ rfl [some _, some _, some _] rfl d_Wo_append_46 ?_
          refine sv_goto C 2 (by decide) d_Wo_append_49 ?_
          exact ih (j + 1) (n + 1) _ ⟨by omega, by omega, by omega, by
            rw [pu_take_snoc c7, ← List.append_assoc]
            exact pr_snoc (by rw [List.length_append, List.length_take]; omega) q4⟩
  refine sv_iconst C (v := 0) (by decide) d_Wo_append_0 ?_
  refine sv_istore_n C rfl (by decide) [some _, some _, some _] rfl d_Wo_append_1 ?_
  exact L2 (sv_txt i).length 0 L.length f ⟨by omega, by omega, rfl, by rw [List.take_zero, List.append_nil]; exact hf⟩
end
section
/-! CONTRACTS: SilentWords -/
theorem pu_wl {q : Nat} {c : Int32} (h : 97 ≤ c.toInt ∧ c.toInt ≤ 122) (hq : q < 33554432) : nI q * 32 + c - 97 + 1 = nI (q * 32 + pu_dig c) := by
  obtain ⟨d1, d2, d3⟩ := pu_dig_in h
  have e1 : c = nI (pu_dig c + 96) := by
    apply Int32.toInt_inj.mp
    rw [nI_toInt (by omega)]
    omega
  have e2 : nI q * 32 + c - 97 + 1 = nI q * nI 32 + nI (pu_dig c + 96) - nI 97 + nI 1 := by rw [← e1]; rfl
  rw [e2, pk_mul, nI_add, pk_sub (by omega), nI_add]
  congr 1
  omega
/-- the numbers of the words of a text: those behind, and the one that is at work -/
def pu_ks (s : List Nat × Nat) (c : Int32) : List Nat × Nat := if c = 32 then (s.1 ++ [s.2], 0) else (s.1, s.2 * 32 + pu_dig c)
def pu_run (t : List Int32) : List Nat × Nat := t.foldl pu_ks ([], 0)
theorem pu_run_snoc (t : List Int32) (c : Int32) : pu_run (t ++ [c]) = pu_ks (pu_run t) c := by
  unfold pu_run
  rw [List.foldl_append]
  rfl
theorem pu_run_len : (sv_txt 0).length = 130 := by decide +kernel
theorem pu_run_end : pu_run (sv_txt 0) = (pu_stops.map pu_key, 0) := by decide +kernel
theorem pu_run_in : ∀ j, j < 130 → (pu_run ((sv_txt 0).take j)).1.length < 33 ∧ (pu_run ((sv_txt 0).take j)).2 < 33554432 ∧ ((sv_txt 0).getD j 0 = 32 ∨ (97 ≤ ((sv_txt 0).getD j 0).toInt ∧ ((sv_txt 0).getD j 0).toInt ≤ 122)) := by decide +kernel
theorem pu_keys_at : ∀ i, i < 33 → (pu_stops.map pu_key).getD i 0 = pu_key (pu_stops.getD i []) := by decide +kernel
theorem pu_kr_lt : ∀ (L : List Int32), pu_small L → pu_kr L < 32 ^ L.length
  | [], _ => by decide
  | c :: L, h => by
    have h1 := pu_kr_lt L (fun x hx => h x (List.mem_cons_of_mem _ hx))
    have h2 := pu_dig_in (h c List.mem_cons_self)
    show pu_kr L * 32 + pu_dig c < 32 ^ (L.length + 1)
    rw [Nat.pow_succ]
    omega
theorem pu_key_lt {L : List Int32} (h : pu_small L) (hl : L.length ≤ 5) : pu_key L < 33554432 := by
  have h1 := pu_kr_lt L.reverse (fun x hx => h x (List.mem_reverse.mp hx))
  rw [List.length_reverse] at h1
  exact Nat.lt_of_lt_of_le h1 (Nat.pow_le_pow_right (by decide) hl)
theorem pu_key_lt4 {L : List Int32} (h : pu_small L) (hl : L.length ≤ 5) : pu_key L < 33554432 := pu_key_lt h hl
theorem pu_stops_lt : ∀ i, i < 33 → pu_key (pu_stops.getD i []) < 33554432 := by decide +kernel
def rm_Si_withLetter : Room := { frames := 0, cells := 0, slots := 0, locals := 0 }
set_option maxHeartbeats 4000000 in
set_option maxRecDepth 100000 in
theorem c_Si_withLetter (l : Launch) (g : sv_G) (ws : va_W) (q : Nat) (c : Int32) (h : 97 ≤ c.toInt ∧ c.toInt ≤ 122) (hq : q < 33554432) : sv_Mi l y_Si_withLetter b_Si_withLetter 2 (some (.int)) rm_Si_withLetter g [.int (nI q), .int c] ws (fun r w => r = nI (q * 32 + pu_dig c) ∧ w = ws) := by
  refine sv_enter_i (by decide) rfl rfl (Nat.le_of_ble_eq_true rfl) (fun X C hI hr => ?_)
  refine sv_lvE (lv' := [some _, some _]) rfl ?_
  refine sv_iload_n C rfl rfl d_Si_withLetter_0 ?_
  refine sv_bipush C (v := 32) (by decide) d_Si_withLetter_1 ?_
  refine sv_imul C d_Si_withLetter_3 ?_
  refine sv_iload_n C rfl rfl d_Si_withLetter_4 ?_
  refine sv_iadd C d_Si_withLetter_5 ?_
  refine sv_bipush C (v := 97) (by decide) d_Si_withLetter_6 ?_
  refine sv_isub C d_Si_withLetter_8 ?_
  refine sv_iconst C (v := 1) (by decide) d_Si_withLetter_9 ?_
  refine sv_iadd C d_Si_withLetter_10 ?_
  exact hr _ _ _ _ d_Si_withLetter_11 rfl ⟨pu_wl h hq, rfl⟩

def rm_Si_init : Room := { frames := 6, cells := 1, slots := 33, locals := 186 }
set_option maxHeartbeats 4000000 in
set_option maxRecDepth 100000 in
theorem c_Si_init (l : Launch) (g : sv_G) (rest : va_W) (hS : Nat) : sv_Mv l y_Si_init b_Si_init 4 none rm_Si_init g [.ref hS] ((hS, .inr (1, [.null])) :: rest) (fun w => ∃ (hk : Nat) (kf : Nat → Int32), w = ((hk, .inl (g.2.1 0, 33, .inl kf)) :: (hS, .inr (1, [.ref hk])) :: rest) ∧ ∀ i, i < 33 → kf i = nI (pu_key (pu_stops.getD i []))) := by
  refine sv_enter_v (by decide) rfl rfl (Nat.le_of_ble_eq_true rfl) (fun X C hI hr => ?_)
  refine sv_lvE (lv' := [some _, none, none, none]) rfl ?_
  have hI := hI rfl
  have hlen := pu_run_len
  have L18 : ∀ (k : Nat) (hk j w q : Nat) (kf : Nat → Int32), (j ≤ 130 ∧ 130 ≤ j + k ∧ w = (pu_run ((sv_txt 0).take j)).1.length ∧ q = (pu_run ((sv_txt 0).take j)).2 ∧ ∀ i, i < w → kf i = nI ((pu_run ((sv_txt 0).take j)).1.getD i 0)) → sv_V X 4 1 33 ((hk, .inl (g.2.1 0, 33, .inl kf)) :: (hS, .inr (1, [.ref hk])) :: rest) 18 [some (.ref hS), some (.int (nI w)), some (.int (nI q)), some (.int (nI j))] [] := by
    intro k
    induction k with
    | zero =>
      intro hk j w q kf hq
      obtain ⟨q1, q2, q3, q4, q5⟩ := hq
      refine sv_iload_n C rfl rfl d_Si_init_18 ?_
      refine sv_ldcS C ws_0 d_Si_init_19 ?_
      refine sv_callVsi C 0 (by decide) (c_Str_length l g _ 0 (by decide)) lk_Si_15 rfl d_Si_init_21 (by decide) (Nat.le_of_ble_eq_true rfl) (by decide) (fun r w hw => ?_)
      obtain ⟨rfl, rfl⟩ := hw
      refine sv_icmpN_ge C _ _ (by omega) (by omega) 76 (by decide) d_Si_init_24 (fun c24 => ?_) (fun c24 => ?_)
      · skip
        have hj : j = 130 := by omega
        have ht : (sv_txt 0).take j = (sv_txt 0) := by rw [hj, ← hlen, List.take_length]
        rw [ht, pu_run_end] at q3 q5
        refine hr _ _ _ d_Si_init_76 ⟨hk, kf, rfl, fun i hi => ?_⟩
        rw [← pu_keys_at i hi]
        exact q5 i (by rw [q3, List.length_map]; exact hi)
      · skip
        exact absurd c24 (by omega)
    | succ k ih =>
      intro hk j w q kf hq
      obtain ⟨q1, q2, q3, q4, q5⟩ := hq
      refine sv_iload_n C rfl rfl d_Si_init_18 ?_
      refine sv_ldcS C ws_0 d_Si_init_19 ?_
      refine sv_callVsi C 0 (by decide) (c_Str_length l g _ 0 (by decide)) lk_Si_15 rfl d_Si_init_21 (by decide) (Nat.le_of_ble_eq_true rfl) (by decide) (fun r w hw => ?_)
      obtain ⟨rfl, rfl⟩ := hw
      refine sv_icmpN_ge C _ _ (by omega) (by omega) 76 (by decide) d_Si_init_24 (fun c24 => ?_) (fun c24 => ?_)
      · skip
        have hj : j = 130 := by omega
        have ht : (sv_txt 0).take j = (sv_txt 0) := by rw [hj, ← hlen, List.take_length]
        rw [ht, pu_run_end] at q3 q5
        refine hr _ _ _ d_Si_init_76 ⟨hk, kf, rfl, fun i hi => ?_⟩
        rw [← pu_keys_at i hi]
        exact q5 i (by rw [q3, List.length_map]; exact hi)
      · skip
        obtain ⟨r1, r2, r3⟩ := pu_run_in j (by omega)
        have hrun : (pu_run ((sv_txt 0).take (j + 1))) = pu_ks (pu_run ((sv_txt 0).take j)) ((sv_txt 0).getD j 0) := by rw [pu_take_snoc (by omega), pu_run_snoc]
        have hw : w < 33 := by omega
        refine sv_iload_n C rfl rfl d_Si_init_27 ?_
        refine sv_bipush C (v := 33) (by decide) d_Si_init_28 ?_
        refine sv_icmpN_ge C _ 33 (by omega) (by omega) 76 (by decide) d_Si_init_30 (fun c30 => ?_) (fun c30 => ?_)
        · skip
          exact absurd c30 (by omega)
        · skip
          refine sv_ldcS C ws_0 d_Si_init_33 ?_
          refine sv_iload_n C rfl rfl d_Si_init_35 ?_
          refine sv_callVsi C 0 (by decide) (c_Str_charAt l g _ 0 j (by decide) (by omega)) lk_Si_21 rfl d_Si_init_36 (by decide) (Nat.le_of_ble_eq_true rfl) (by decide) (fun r w hw => ?_)
          obtain ⟨rfl, rfl⟩ := hw
          refine sv_bipush C (v := 32) (by decide) d_Si_init_39 ?_
          refine sv_icmp_ne C 59 (by decide) d_Si_init_41 (fun c41 => ?_) (fun c41 => ?_)
          · skip
            refine sv_iload_n C rfl rfl d_Si_init_59 ?_
            refine sv_ldcS C ws_0 d_Si_init_60 ?_
            refine sv_iload_n C rfl rfl d_Si_init_62 ?_
            refine sv_callVsi C 0 (by decide) (c_Str_charAt l g _ 0 j (by decide) (by omega)) lk_Si_21 rfl d_Si_init_63 (by decide) (Nat.le_of_ble_eq_true rfl) (by decide) (fun r w hw => ?_)
            obtain ⟨rfl, rfl⟩ := hw
            refine sv_callSi C (c_Si_withLetter l g _ q _ (r3.resolve_left c41) (by omega)) lk_Si_25  d_Si_init_66 (by decide) (Nat.le_of_ble_eq_true rfl) (by decide) (fun r w hw => ?_)
            obtain ⟨rfl, rfl⟩ := hw
            refine sv_istore_n C rfl (by decide) [some _, some _, some _, some _] rfl d_Si_init_69 ?_
            refine sv_iincN C 1 _ rfl [some _, some _, some _, some _] rfl d_Si_init_70 ?_
            refine sv_goto C 18 (by decide) d_Si_init_73 ?_
            first
              | exact ih hk (j + 1) (w + 1) 0 _ ⟨by omega, by omega, by rw [hrun, pu_ks, if_pos c41, List.length_append, ← q3]; rfl, by rw [hrun, pu_ks, if_pos c41], fun i hi => by
                  rw [hrun, pu_ks, if_pos c41]
                  show _ = nI ((_ ++ [_]).getD i 0)
                  rcases Nat.lt_or_ge i w with h | h
                  · rw [pk_un (by omega), q5 i h, List.getD_eq_getElem?_getD, List.getD_eq_getElem?_getD, List.getElem?_append_left (by omega)]
                  · have hiw : i = w := by omega
                    subst hiw
                    rw [pk_us, List.getD_eq_getElem?_getD, List.getElem?_append_right (by omega), q3, Nat.sub_self, q4]
                    rfl⟩
              | exact ih hk (j + 1) w _ kf ⟨by omega, by omega, by rw [hrun, pu_ks, if_neg c41]; exact q3, by rw [hrun, pu_ks, if_neg c41, ← q4], fun i hi => by rw [hrun, pu_ks, if_neg c41]; exact q5 i hi⟩
          · skip
            refine sv_aload_n C rfl rfl d_Si_init_44 ?_
            refine sv_get C fg_Si_9 1 rfl rfl d_Si_init_45 ?_
            refine sv_iload_n C rfl rfl d_Si_init_48 ?_
            refine sv_iload_n C rfl rfl d_Si_init_49 ?_
            refine sv_iastN C _ 0 rfl (by omega) (by decide) (_ :: _ :: _) rfl d_Si_init_50 ?_
            refine sv_iincN C 1 _ rfl [some _, some _, some _, some _] rfl d_Si_init_51 ?_
            refine sv_iconst C (v := 0) (by decide) d_Si_init_54 ?_
            refine sv_istore_n C rfl (by decide) [some _, some _, some _, some _] rfl d_Si_init_55 ?_
            refine sv_goto C 70 (by decide) d_Si_init_56 ?_
            refine sv_iincN C 1 _ rfl [some _, some _, some _, some _] rfl d_Si_init_70 ?_
            refine sv_goto C 18 (by decide) d_Si_init_73 ?_
            first
              | exact ih hk (j + 1) (w + 1) 0 _ ⟨by omega, by omega, by rw [hrun, pu_ks, if_pos c41, List.length_append, ← q3]; rfl, by rw [hrun, pu_ks, if_pos c41], fun i hi => by
                  rw [hrun, pu_ks, if_pos c41]
                  show _ = nI ((_ ++ [_]).getD i 0)
                  rcases Nat.lt_or_ge i w with h | h
                  · rw [pk_un (by omega), q5 i h, List.getD_eq_getElem?_getD, List.getD_eq_getElem?_getD, List.getElem?_append_left (by omega)]
                  · have hiw : i = w := by omega
                    subst hiw
                    rw [pk_us, List.getD_eq_getElem?_getD, List.getElem?_append_right (by omega), q3, Nat.sub_self, q4]
                    rfl⟩
              | exact ih hk (j + 1) w _ kf ⟨by omega, by omega, by rw [hrun, pu_ks, if_neg c41]; exact q3, by rw [hrun, pu_ks, if_neg c41, ← q4], fun i hi => by rw [hrun, pu_ks, if_neg c41]; exact q5 i hi⟩
  refine sv_aload_n C rfl rfl d_Si_init_0 ?_
  refine sv_objInit C wo_Si wo_2 wo_3 (by decide) (Nat.le_of_ble_eq_true rfl) d_Si_init_1 ?_
  refine sv_aload_n C rfl rfl d_Si_init_4 ?_
  refine sv_bipush C (v := 33) (by decide) d_Si_init_5 ?_
  refine sv_newI C wr_int (by decide) (N := 33) (by decide) (by decide) (by decide) (by decide) d_Si_init_7 (fun hk => ?_)
  refine sv_putF C hI fp_Si_9 1 rfl rfl rfl (Nat.le_of_ble_eq_true rfl) (_ :: (_, .inr (_, [_])) :: _) rfl d_Si_init_9 ?_
  refine sv_iconst C (v := 0) (by decide) d_Si_init_12 ?_
  refine sv_istore_n C rfl (by decide) [some _, some _, none, none] rfl d_Si_init_13 ?_
  refine sv_iconst C (v := 0) (by decide) d_Si_init_14 ?_
  refine sv_istore_n C rfl (by decide) [some _, some _, some _, none] rfl d_Si_init_15 ?_
  refine sv_iconst C (v := 0) (by decide) d_Si_init_16 ?_
  refine sv_istore_n C rfl (by decide) [some _, some _, some _, some _] rfl d_Si_init_17 ?_
  exact L18 130 hk 0 0 0 _ ⟨by omega, by omega, rfl, rfl, fun i hi => absurd hi (Nat.not_lt_zero i)⟩

def rm_Si_have : Room := { frames := 1, cells := 0, slots := 0, locals := 21 }
set_option maxHeartbeats 4000000 in
set_option maxRecDepth 100000 in
theorem c_Si_have (l : Launch) (g : sv_G) (rest : va_W) (hS hk hW hwc : Nat) (kf f : Nat → Int32) (L : List Int32) (hL : L.length ≤ 255) (hf : pr_W f L) (hkf : ∀ i, i < 33 → kf i = nI (pu_key (pu_stops.getD i []))) : sv_Mi l y_Si_have b_Si_have 4 (some (.boolean)) rm_Si_have g [.ref hS, .ref hW] ((hS, .inr (1, [.ref hk])) :: (hk, .inl (g.2.1 0, 33, .inl kf)) :: (hW, .inr (5, [.ref hwc, .int (nI L.length)])) :: (hwc, .inl (g.2.1 0, 255, .inl f)) :: rest) (fun r w => r = (if L ∈ pu_stops then 1 else 0) ∧ w = ((hS, .inr (1, [.ref hk])) :: (hk, .inl (g.2.1 0, 33, .inl kf)) :: (hW, .inr (5, [.ref hwc, .int (nI L.length)])) :: (hwc, .inl (g.2.1 0, 255, .inl f)) :: rest)) := by
  refine sv_enter_i (by decide) rfl rfl (Nat.le_of_ble_eq_true rfl) (fun X C hI hr => ?_)
  refine sv_lvE (lv' := [some _, some _, none, none]) rfl ?_
  have L48 : ∀ (k : Nat) (j : Nat), ((L.length ≤ 5 ∧ pu_small L) ∧ j ≤ 33 ∧ 33 ≤ j + k ∧ ∀ i, i < j → pu_key (pu_stops.getD i []) ≠ pu_key L) → sv_V X 4 0 0 ((hS, .inr (1, [.ref hk])) :: (hk, .inl (g.2.1 0, 33, .inl kf)) :: (hW, .inr (5, [.ref hwc, .int (nI L.length)])) :: (hwc, .inl (g.2.1 0, 255, .inl f)) :: rest) 48 [some (.ref hS), some (.ref hW), some (.int (nI (pu_key L))), some (.int (nI j))] [] := by
    intro k
    induction k with
    | zero =>
      intro j hq
      obtain ⟨q1, q2, q3, q4⟩ := hq
      have kb := pu_key_lt q1.2 q1.1
      refine sv_iload_n C rfl rfl d_Si_have_48 ?_
      refine sv_bipush C (v := 33) (by decide) d_Si_have_49 ?_
      refine sv_icmpN_ge C _ 33 (by omega) (by omega) 72 (by decide) d_Si_have_51 (fun c51 => ?_) (fun c51 => ?_)
      · skip
        refine sv_iconst C (v := 0) (by decide) d_Si_have_72 ?_
        exact hr _ _ _ _ d_Si_have_73 rfl ⟨(if_neg (fun z => by obtain ⟨-, i, hi, e⟩ := (pu_stops_iff L).mp z; exact q4 i (by omega) e)).symm, rfl⟩
      · skip
        exact absurd c51 (by omega)
    | succ k ih =>
      intro j hq
      obtain ⟨q1, q2, q3, q4⟩ := hq
      have kb := pu_key_lt q1.2 q1.1
      refine sv_iload_n C rfl rfl d_Si_have_48 ?_
      refine sv_bipush C (v := 33) (by decide) d_Si_have_49 ?_
      refine sv_icmpN_ge C _ 33 (by omega) (by omega) 72 (by decide) d_Si_have_51 (fun c51 => ?_) (fun c51 => ?_)
      · skip
        refine sv_iconst C (v := 0) (by decide) d_Si_have_72 ?_
        exact hr _ _ _ _ d_Si_have_73 rfl ⟨(if_neg (fun z => by obtain ⟨-, i, hi, e⟩ := (pu_stops_iff L).mp z; exact q4 i (by omega) e)).symm, rfl⟩
      · skip
        refine sv_aload_n C rfl rfl d_Si_have_54 ?_
        refine sv_get C fg_Si_9 0 rfl rfl d_Si_have_55 ?_
        refine sv_iload_n C rfl rfl d_Si_have_58 ?_
        refine sv_ialdN C _ 1 rfl (by omega) (by decide) d_Si_have_59 ?_
        have kb2 := pu_stops_lt j (by omega)
        refine sv_eqi (hkf j (by omega)) ?_
        refine sv_iload_n C rfl rfl d_Si_have_60 ?_
        refine sv_icmpN_ne C _ _ (by omega) (by omega) 66 (by decide) d_Si_have_61 (fun c61 => ?_) (fun c61 => ?_)
        · skip
          refine sv_iincN C 1 _ rfl [some _, some _, some _, some _] rfl d_Si_have_66 ?_
          refine sv_goto C 48 (by decide) d_Si_have_69 ?_
          exact ih (j + 1) ⟨q1, by omega, by omega, fun i hi => by
            rcases Nat.lt_or_ge i j with h | h
            · exact q4 i h
            · have hij : i = j := by omega
              subst hij
              exact c61⟩
        · skip
          refine sv_iconst C (v := 1) (by decide) d_Si_have_64 ?_
          exact hr _ _ _ _ d_Si_have_65 rfl ⟨(if_pos ((pu_stops_iff L).mpr ⟨q1, j, by omega, c61⟩)).symm, rfl⟩
  have L21 : ∀ (k : Nat) (j : Nat), ((L.length ≤ 5 ∧ pu_small L) ∧ j ≤ L.length ∧ L.length ≤ j + k) → sv_V X 4 0 0 ((hS, .inr (1, [.ref hk])) :: (hk, .inl (g.2.1 0, 33, .inl kf)) :: (hW, .inr (5, [.ref hwc, .int (nI L.length)])) :: (hwc, .inl (g.2.1 0, 255, .inl f)) :: rest) 21 [some (.ref hS), some (.ref hW), some (.int (nI (pu_key (L.take j)))), some (.int (nI j))] [] := by
    intro k
    induction k with
    | zero =>
      intro j hq
      obtain ⟨q1, q2, q3⟩ := hq
      refine sv_iload_n C rfl rfl d_Si_have_21 ?_
      refine sv_aload_n C rfl rfl d_Si_have_22 ?_
      refine sv_get C fg_Si_29 2 rfl rfl d_Si_have_23 ?_
      refine sv_icmpN_ge C _ _ (by omega) (by omega) 46 (by decide) d_Si_have_26 (fun c26 => ?_) (fun c26 => ?_)
      · skip
        refine sv_iconst C (v := 0) (by decide) d_Si_have_46 ?_
        refine sv_istore_n C rfl (by decide) [some _, some _, some _, some _] rfl d_Si_have_47 ?_
        have hj : j = L.length := by omega
        subst hj
        rw [List.take_length]
        exact L48 33 0 ⟨q1, by omega, by omega, fun i hi => absurd hi (Nat.not_lt_zero i)⟩
      · skip
        exact absurd c26 (by omega)
    | succ k ih =>
      intro j hq
      obtain ⟨q1, q2, q3⟩ := hq
      refine sv_iload_n C rfl rfl d_Si_have_21 ?_
      refine sv_aload_n C rfl rfl d_Si_have_22 ?_
      refine sv_get C fg_Si_29 2 rfl rfl d_Si_have_23 ?_
      refine sv_icmpN_ge C _ _ (by omega) (by omega) 46 (by decide) d_Si_have_26 (fun c26 => ?_) (fun c26 => ?_)
      · skip
        refine sv_iconst C (v := 0) (by decide) d_Si_have_46 ?_
        refine sv_istore_n C rfl (by decide) [some _, some _, some _, some _] rfl d_Si_have_47 ?_
        have hj : j = L.length := by omega
        subst hj
        rw [List.take_length]
        exact L48 33 0 ⟨q1, by omega, by omega, fun i hi => absurd hi (Nat.not_lt_zero i)⟩
      · skip
        refine sv_iload_n C rfl rfl d_Si_have_29 ?_
        refine sv_aload_n C rfl rfl d_Si_have_30 ?_
        refine sv_get C fg_Si_38 2 rfl rfl d_Si_have_31 ?_
        refine sv_iload_n C rfl rfl d_Si_have_34 ?_
        refine sv_ialdN C _ 3 rfl (by omega) (by decide) d_Si_have_35 ?_
        refine sv_eqi (hf j (by omega)) ?_
        refine sv_callSi C (c_Si_withLetter l g _ (pu_key (L.take j)) (L.getD j 0) (q1.2 _ (pu_mem (by omega))) (by have := pu_key_lt4 (L := L.take j) (fun c hc => q1.2 c (List.mem_of_mem_take hc)) (by rw [List.length_take]; omega); exact this)) lk_Si_25  d_Si_have_36 (by decide) (Nat.le_of_ble_eq_true rfl) (by decide) (fun r w hw => ?_)
        obtain ⟨rfl, rfl⟩ := hw
        refine sv_istore_n C rfl (by decide) [some _, some _, some _, some _] rfl d_Si_have_39 ?_
        refine sv_iincN C 1 _ rfl [some _, some _, some _, some _] rfl d_Si_have_40 ?_
        refine sv_goto C 21 (by decide) d_Si_have_43 ?_
        exact sv_lvE (by rw [pu_take_snoc (by omega), pu_key_snoc]) (ih (j + 1) ⟨q1, by omega, by omega⟩)
  refine sv_aload_n C rfl rfl d_Si_have_0 ?_
  refine sv_get C fg_Si_29 2 rfl rfl d_Si_have_1 ?_
  refine sv_iconst C (v := 5) (by decide) d_Si_have_4 ?_
  refine sv_icmpN_gt C _ 5 (by omega) (by omega) 15 (by decide) d_Si_have_5 (fun c5 => ?_) (fun c5 => ?_)
  · skip
    refine sv_iconst C (v := 0) (by decide) d_Si_have_15 ?_
    exact hr _ _ _ _ d_Si_have_16 rfl ⟨(if_neg (fun z => by have := ((pu_stops_iff L).mp z).1; first | exact absurd this.1 (by omega) | exact c12 this.2)).symm, rfl⟩
  · skip
    refine sv_aload_n C rfl rfl d_Si_have_8 ?_
    refine sv_rot [2, 3, 0, 1] [_, _, _, _] [_, _, _, _] _ (_ :: _ :: _ :: _ :: _) rfl rfl rfl rfl ?_
    refine sv_callVi C (c_Wo_isSmallLetters l g ((hS, .inr (1, [.ref hk])) :: (hk, .inl (g.2.1 0, 33, .inl kf)) :: rest) hW hwc f L hL hf) lk_Si_34 List.mem_cons_self rfl d_Si_have_9 (by decide) (Nat.le_of_ble_eq_true rfl) (by decide) (fun r w hw => ?_)
    obtain ⟨rfl, rfl⟩ := hw
    refine sv_ifB_ne C _ 17 (by decide) d_Si_have_12 (fun c12 => ?_) (fun c12 => ?_)
    · skip
      refine sv_iconst C (v := 0) (by decide) d_Si_have_17 ?_
      refine sv_istore_n C rfl (by decide) [some _, some _, some _, none] rfl d_Si_have_18 ?_
      refine sv_iconst C (v := 0) (by decide) d_Si_have_19 ?_
      refine sv_istore_n C rfl (by decide) [some _, some _, some _, some _] rfl d_Si_have_20 ?_
      refine sv_rot [2, 3, 0, 1] [_, _, _, _] [_, _, _, _] _ (_ :: _ :: _ :: _ :: _) rfl rfl rfl rfl ?_
      exact L21 L.length 0 ⟨⟨by omega, c12⟩, by omega, by omega⟩
    · skip
      refine sv_iconst C (v := 0) (by decide) d_Si_have_15 ?_
      refine sv_rot [2, 3, 0, 1] [_, _, _, _] [_, _, _, _] _ (_ :: _ :: _ :: _ :: _) rfl rfl rfl rfl ?_
      exact hr _ _ _ _ d_Si_have_16 rfl ⟨(if_neg (fun z => by have := ((pu_stops_iff L).mp z).1; first | exact absurd this.1 (by omega) | exact c12 this.2)).symm, rfl⟩
end
section
/-! CONTRACTS: Tokens -/
theorem pu_off_s (T : List (Nat × List Int32)) (i : Nat) : pu_off T (i + 1) = pu_off T i + (T.getD i (0, [])).2.length := rfl
theorem pu_off_in {T : List (Nat × List Int32)} {i : Nat} (h : i < T.length) : pu_off T i + (T.getD i (0, [])).2.length ≤ pu_off T T.length := pu_off_mono T (i + 1) T.length h
theorem pu_eq_of {L M : List Int32} (hl : L.length = M.length) (h : ∀ i, i < L.length → L.getD i 0 = M.getD i 0) : L = M := by
  apply List.ext_getElem hl
  intro i h1 h2
  have h3 := h i h1
  rw [List.getD_eq_getElem?_getD, List.getD_eq_getElem?_getD, List.getElem?_eq_getElem h1, List.getElem?_eq_getElem h2] at h3
  exact h3
def rm_To_clear : Room := { frames := 0, cells := 0, slots := 0, locals := 0 }
set_option maxHeartbeats 4000000 in
set_option maxRecDepth 100000 in
theorem c_To_clear (l : Launch) (g : sv_G) (rest : va_W) (hK hkc hkp hks : Nat) (ch po st : Nat → Int32) (n : Int32) : sv_Mv l y_To_clear b_To_clear 1 none rm_To_clear g [.ref hK] ((hK, .inr (4, [.ref hkc, .ref hkp, .ref hks, .int n])) :: (hkc, .inl (g.2.1 0, 8192, .inl ch)) :: (hkp, .inl (g.2.1 0, 8192, .inl po)) :: (hks, .inl (g.2.1 0, 8193, .inl st)) :: rest) (fun w => w = ((hK, .inr (4, [.ref hkc, .ref hkp, .ref hks, .int (nI 0)])) :: (hkc, .inl (g.2.1 0, 8192, .inl ch)) :: (hkp, .inl (g.2.1 0, 8192, .inl po)) :: (hks, .inl (g.2.1 0, 8193, .inl st)) :: rest)) := by
  refine sv_enter_v (by decide) rfl rfl (Nat.le_of_ble_eq_true rfl) (fun X C hI hr => ?_)
  refine sv_lvE (lv' := [some _]) rfl ?_
  refine sv_aload_n C rfl rfl d_To_clear_0 ?_
  refine sv_iconst C (v := 0) (by decide) d_To_clear_1 ?_
  refine sv_put C fp_To_7 0 rfl rfl rfl (Nat.le_of_ble_eq_true rfl) ((_, .inr (_, [_, _, _, _])) :: _ :: _ :: _ :: _) rfl d_To_clear_2 ?_
  exact hr _ _ _ d_To_clear_5 rfl

def rm_To_has : Room := { frames := 0, cells := 0, slots := 0, locals := 0 }
set_option maxHeartbeats 4000000 in
set_option maxRecDepth 100000 in
theorem c_To_has (l : Launch) (g : sv_G) (rest : va_W) (hK hkc hkp hks : Nat) (ch po st : Nat → Int32) (T : List (Nat × List Int32)) (hT : pu_Tok ch po st T) (hn : T.length ≤ 8192) (ho : pu_off T T.length ≤ 8192) (i : Int32) : sv_Mi l y_To_has b_To_has 2 (some (.boolean)) rm_To_has g [.ref hK, .int i] ((hK, .inr (4, [.ref hkc, .ref hkp, .ref hks, .int (nI T.length)])) :: (hkc, .inl (g.2.1 0, 8192, .inl ch)) :: (hkp, .inl (g.2.1 0, 8192, .inl po)) :: (hks, .inl (g.2.1 0, 8193, .inl st)) :: rest) (fun r w => r = (if 0 ≤ i.toInt ∧ i.toInt < T.length then 1 else 0) ∧ w = ((hK, .inr (4, [.ref hkc, .ref hkp, .ref hks, .int (nI T.length)])) :: (hkc, .inl (g.2.1 0, 8192, .inl ch)) :: (hkp, .inl (g.2.1 0, 8192, .inl po)) :: (hks, .inl (g.2.1 0, 8193, .inl st)) :: rest)) := by
  have e := nI_toInt (n := T.length) (by omega)
  refine sv_enter_i (by decide) rfl rfl (Nat.le_of_ble_eq_true rfl) (fun X C hI hr => ?_)
  refine sv_lvE (lv' := [some _, some _]) rfl ?_
  refine sv_iload_n C rfl rfl d_To_has_0 ?_
  refine sv_ifZ_lt C 16 (by decide) d_To_has_1 (fun c1 => ?_) (fun c1 => ?_)
  · skip
    refine sv_iconst C (v := 0) (by decide) d_To_has_16 ?_
    exact hr _ _ _ _ d_To_has_17 rfl ⟨(if_neg (by omega)).symm, rfl⟩
  · skip
    refine sv_iload_n C rfl rfl d_To_has_4 ?_
    refine sv_aload_n C rfl rfl d_To_has_5 ?_
    refine sv_get C fg_To_7 0 rfl rfl d_To_has_6 ?_
    refine sv_icmp_ge C 16 (by decide) d_To_has_9 (fun c9 => ?_) (fun c9 => ?_)
    · skip
      rw [Int32.le_iff_toInt_le, e] at c9
      refine sv_iconst C (v := 0) (by decide) d_To_has_16 ?_
      exact hr _ _ _ _ d_To_has_17 rfl ⟨(if_neg (by omega)).symm, rfl⟩
    · skip
      rw [Int32.le_iff_toInt_le, e] at c9
      refine sv_iconst C (v := 1) (by decide) d_To_has_12 ?_
      refine sv_goto C 17 (by decide) d_To_has_13 ?_
      exact hr _ _ _ _ d_To_has_17 rfl ⟨(if_pos (by omega)).symm, rfl⟩

def rm_To_lengthOf : Room := { frames := 0, cells := 0, slots := 0, locals := 0 }
set_option maxHeartbeats 4000000 in
set_option maxRecDepth 100000 in
theorem c_To_lengthOf (l : Launch) (g : sv_G) (rest : va_W) (hK hkc hkp hks : Nat) (ch po st : Nat → Int32) (T : List (Nat × List Int32)) (hT : pu_Tok ch po st T) (hn : T.length ≤ 8192) (ho : pu_off T T.length ≤ 8192) (i : Nat) (hi : i < T.length) : sv_Mi l y_To_lengthOf b_To_lengthOf 2 (some (.int)) rm_To_lengthOf g [.ref hK, .int (nI i)] ((hK, .inr (4, [.ref hkc, .ref hkp, .ref hks, .int (nI T.length)])) :: (hkc, .inl (g.2.1 0, 8192, .inl ch)) :: (hkp, .inl (g.2.1 0, 8192, .inl po)) :: (hks, .inl (g.2.1 0, 8193, .inl st)) :: rest) (fun r w => r = nI (T.getD i (0, [])).2.length ∧ w = ((hK, .inr (4, [.ref hkc, .ref hkp, .ref hks, .int (nI T.length)])) :: (hkc, .inl (g.2.1 0, 8192, .inl ch)) :: (hkp, .inl (g.2.1 0, 8192, .inl po)) :: (hks, .inl (g.2.1 0, 8193, .inl st)) :: rest)) := by
  have e := pu_off_s T i
  refine sv_enter_i (by decide) rfl rfl (Nat.le_of_ble_eq_true rfl) (fun X C hI hr => ?_)
  refine sv_lvE (lv' := [some _, some _]) rfl ?_
  refine sv_aload_n C rfl rfl d_To_lengthOf_0 ?_
  refine sv_get C fg_To_20 0 rfl rfl d_To_lengthOf_1 ?_
  refine sv_iload_n C rfl rfl d_To_lengthOf_4 ?_
  refine sv_iconst C (v := 1) (by decide) d_To_lengthOf_5 ?_
  refine sv_iaddN C _ 1  d_To_lengthOf_6 ?_
  refine sv_ialdN C _ 3 rfl (by omega) (by decide) d_To_lengthOf_7 ?_
  refine sv_eqi (hT.1 (i + 1) (by omega)) ?_
  refine sv_aload_n C rfl rfl d_To_lengthOf_8 ?_
  refine sv_get C fg_To_20 0 rfl rfl d_To_lengthOf_9 ?_
  refine sv_iload_n C rfl rfl d_To_lengthOf_12 ?_
  refine sv_ialdN C _ 3 rfl (by omega) (by decide) d_To_lengthOf_13 ?_
  refine sv_eqi (hT.1 i (by omega)) ?_
  refine sv_isubN C _ _ (by omega) d_To_lengthOf_14 ?_
  exact hr _ _ _ _ d_To_lengthOf_15 rfl ⟨congrArg nI (by omega), rfl⟩

def rm_To_areAlike : Room := { frames := 1, cells := 0, slots := 0, locals := 21 }
set_option maxHeartbeats 4000000 in
set_option maxRecDepth 100000 in
theorem c_To_areAlike (l : Launch) (g : sv_G) (rest : va_W) (hK hkc hkp hks : Nat) (ch po st : Nat → Int32) (T : List (Nat × List Int32)) (hT : pu_Tok ch po st T) (hn : T.length ≤ 8192) (ho : pu_off T T.length ≤ 8192) (i j : Nat) (hi : i < T.length) (hj : j < T.length) : sv_Mi l y_To_areAlike b_To_areAlike 5 (some (.boolean)) rm_To_areAlike g [.ref hK, .int (nI i), .int (nI j)] ((hK, .inr (4, [.ref hkc, .ref hkp, .ref hks, .int (nI T.length)])) :: (hkc, .inl (g.2.1 0, 8192, .inl ch)) :: (hkp, .inl (g.2.1 0, 8192, .inl po)) :: (hks, .inl (g.2.1 0, 8193, .inl st)) :: rest) (fun r w => r = (if (T.getD i (0, [])).2 = (T.getD j (0, [])).2 then 1 else 0) ∧ w = ((hK, .inr (4, [.ref hkc, .ref hkp, .ref hks, .int (nI T.length)])) :: (hkc, .inl (g.2.1 0, 8192, .inl ch)) :: (hkp, .inl (g.2.1 0, 8192, .inl po)) :: (hks, .inl (g.2.1 0, 8193, .inl st)) :: rest)) := by
  have ei := pu_off_in hi
  have ej := pu_off_in hj
  refine sv_enter_i (by decide) rfl rfl (Nat.le_of_ble_eq_true rfl) (fun X C hI hr => ?_)
  refine sv_lvE (lv' := [some _, some _, some _, none, none]) rfl ?_
  have L20 : ∀ (k : Nat) (q : Nat), ((T.getD i (0, [])).2.length = (T.getD j (0, [])).2.length ∧ q ≤ (T.getD i (0, [])).2.length ∧ (T.getD i (0, [])).2.length ≤ q + k ∧ ∀ m, m < q → (T.getD i (0, [])).2.getD m 0 = (T.getD j (0, [])).2.getD m 0) → sv_V X 5 0 0 ((hK, .inr (4, [.ref hkc, .ref hkp, .ref hks, .int (nI T.length)])) :: (hkc, .inl (g.2.1 0, 8192, .inl ch)) :: (hkp, .inl (g.2.1 0, 8192, .inl po)) :: (hks, .inl (g.2.1 0, 8193, .inl st)) :: rest) 20 [some (.ref hK), some (.int (nI i)), some (.int (nI j)), some (.int (nI (T.getD i (0, [])).2.length)), some (.int (nI q))] [] := by
    intro k
    induction k with
    | zero =>
      intro q hq
      obtain ⟨q1, q2, q3, q4⟩ := hq
      refine sv_iload C rfl d_To_areAlike_20 ?_
      refine sv_iload_n C rfl rfl d_To_areAlike_22 ?_
      refine sv_icmpN_ge C _ _ (by omega) (by omega) 65 (by decide) d_To_areAlike_23 (fun c23 => ?_) (fun c23 => ?_)
      · skip
        refine sv_iconst C (v := 1) (by decide) d_To_areAlike_65 ?_
        exact hr _ _ _ _ d_To_areAlike_66 rfl ⟨(if_pos (pu_eq_of q1 (fun m hm => q4 m (by omega)))).symm, rfl⟩
      · skip
        exact absurd c23 (by omega)
    | succ k ih =>
      intro q hq
      obtain ⟨q1, q2, q3, q4⟩ := hq
      refine sv_iload C rfl d_To_areAlike_20 ?_
      refine sv_iload_n C rfl rfl d_To_areAlike_22 ?_
      refine sv_icmpN_ge C _ _ (by omega) (by omega) 65 (by decide) d_To_areAlike_23 (fun c23 => ?_) (fun c23 => ?_)
      · skip
        refine sv_iconst C (v := 1) (by decide) d_To_areAlike_65 ?_
        exact hr _ _ _ _ d_To_areAlike_66 rfl ⟨(if_pos (pu_eq_of q1 (fun m hm => q4 m (by omega)))).symm, rfl⟩
      · skip
        refine sv_aload_n C rfl rfl d_To_areAlike_26 ?_
        refine sv_get C fg_To_13 0 rfl rfl d_To_areAlike_27 ?_
        refine sv_aload_n C rfl rfl d_To_areAlike_30 ?_
        refine sv_get C fg_To_20 0 rfl rfl d_To_areAlike_31 ?_
        refine sv_iload_n C rfl rfl d_To_areAlike_34 ?_
        refine sv_ialdN C _ 3 rfl (by omega) (by decide) d_To_areAlike_35 ?_
        refine sv_eqi (hT.1 i (by omega)) ?_
        refine sv_iload C rfl d_To_areAlike_36 ?_
        refine sv_iaddN C _ _  d_To_areAlike_38 ?_
        refine sv_ialdN C _ 1 rfl (by omega) (by decide) d_To_areAlike_39 ?_
        refine sv_eqi (hT.2.2 i hi q (by omega)) ?_
        refine sv_aload_n C rfl rfl d_To_areAlike_40 ?_
        refine sv_get C fg_To_13 0 rfl rfl d_To_areAlike_41 ?_
        refine sv_aload_n C rfl rfl d_To_areAlike_44 ?_
        refine sv_get C fg_To_20 0 rfl rfl d_To_areAlike_45 ?_
        refine sv_iload_n C rfl rfl d_To_areAlike_48 ?_
        refine sv_ialdN C _ 3 rfl (by omega) (by decide) d_To_areAlike_49 ?_
        refine sv_eqi (hT.1 j (by omega)) ?_
        refine sv_iload C rfl d_To_areAlike_50 ?_
        refine sv_iaddN C _ _  d_To_areAlike_52 ?_
        refine sv_ialdN C _ 1 rfl (by omega) (by decide) d_To_areAlike_53 ?_
        refine sv_eqi (hT.2.2 j hj q (by omega)) ?_
        refine sv_icmp_eq C 59 (by decide) d_To_areAlike_54 (fun c54 => ?_) (fun c54 => ?_)
        · skip
          refine sv_iincN C 1 _ rfl [some _, some _, some _, some _, some _] rfl d_To_areAlike_59 ?_
          refine sv_goto C 20 (by decide) d_To_areAlike_62 ?_
          exact ih (q + 1) ⟨q1, by omega, by omega, fun m hm => by
            rcases Nat.lt_or_ge m q with h | h
            · exact q4 m h
            · have hmq : m = q := by omega
              subst hmq
              exact c54⟩
        · skip
          refine sv_iconst C (v := 0) (by decide) d_To_areAlike_57 ?_
          exact hr _ _ _ _ d_To_areAlike_58 rfl ⟨(if_neg (fun z => c54 (by rw [z]))).symm, rfl⟩
  refine sv_aload_n C rfl rfl d_To_areAlike_0 ?_
  refine sv_iload_n C rfl rfl d_To_areAlike_1 ?_
  refine sv_callVi C (c_To_lengthOf l g rest hK hkc hkp hks ch po st T hT hn ho i (by omega)) lk_To_39 List.mem_cons_self rfl d_To_areAlike_2 (by decide) (Nat.le_of_ble_eq_true rfl) (by decide) (fun r w hw => ?_)
  obtain ⟨rfl, rfl⟩ := hw
  refine sv_istore_n C rfl (by decide) [some _, some _, some _, some _, none] rfl d_To_areAlike_5 ?_
  refine sv_iload_n C rfl rfl d_To_areAlike_6 ?_
  refine sv_aload_n C rfl rfl d_To_areAlike_7 ?_
  refine sv_iload_n C rfl rfl d_To_areAlike_8 ?_
  refine sv_callVi C (c_To_lengthOf l g rest hK hkc hkp hks ch po st T hT hn ho j (by omega)) lk_To_39 List.mem_cons_self rfl d_To_areAlike_9 (by decide) (Nat.le_of_ble_eq_true rfl) (by decide) (fun r w hw => ?_)
  obtain ⟨rfl, rfl⟩ := hw
  refine sv_icmpN_eq C _ _ (by omega) (by omega) 17 (by decide) d_To_areAlike_12 (fun c12 => ?_) (fun c12 => ?_)
  · skip
    refine sv_iconst C (v := 0) (by decide) d_To_areAlike_17 ?_
    refine sv_istore C (by decide) [some _, some _, some _, some _, some _] rfl d_To_areAlike_18 ?_
    exact L20 (T.getD i (0, [])).2.length 0 ⟨c12, by omega, by omega, fun m hm => absurd hm (Nat.not_lt_zero m)⟩
  · skip
    refine sv_iconst C (v := 0) (by decide) d_To_areAlike_15 ?_
    exact hr _ _ _ _ d_To_areAlike_16 rfl ⟨(if_neg (fun z => c12 (by rw [z]))).symm, rfl⟩

def rm_To_firstLike : Room := { frames := 2, cells := 0, slots := 0, locals := 45 }
set_option maxHeartbeats 4000000 in
set_option maxRecDepth 100000 in
theorem c_To_firstLike (l : Launch) (g : sv_G) (rest : va_W) (hK hkc hkp hks : Nat) (ch po st : Nat → Int32) (T : List (Nat × List Int32)) (hT : pu_Tok ch po st T) (hn : T.length ≤ 8192) (ho : pu_off T T.length ≤ 8192) (i : Nat) (hi : i < T.length) : sv_Mi l y_To_firstLike b_To_firstLike 3 (some (.int)) rm_To_firstLike g [.ref hK, .int (nI i)] ((hK, .inr (4, [.ref hkc, .ref hkp, .ref hks, .int (nI T.length)])) :: (hkc, .inl (g.2.1 0, 8192, .inl ch)) :: (hkp, .inl (g.2.1 0, 8192, .inl po)) :: (hks, .inl (g.2.1 0, 8193, .inl st)) :: rest) (fun r w => r = nI (pu_first T i i 0) ∧ w = ((hK, .inr (4, [.ref hkc, .ref hkp, .ref hks, .int (nI T.length)])) :: (hkc, .inl (g.2.1 0, 8192, .inl ch)) :: (hkp, .inl (g.2.1 0, 8192, .inl po)) :: (hks, .inl (g.2.1 0, 8193, .inl st)) :: rest)) := by
  refine sv_enter_i (by decide) rfl rfl (Nat.le_of_ble_eq_true rfl) (fun X C hI hr => ?_)
  refine sv_lvE (lv' := [some _, some _, none]) rfl ?_
  have L2 : ∀ (k : Nat) (j : Nat), (j + k = i ∧ pu_first T i i 0 = pu_first T i k j) → sv_V X 3 0 0 ((hK, .inr (4, [.ref hkc, .ref hkp, .ref hks, .int (nI T.length)])) :: (hkc, .inl (g.2.1 0, 8192, .inl ch)) :: (hkp, .inl (g.2.1 0, 8192, .inl po)) :: (hks, .inl (g.2.1 0, 8193, .inl st)) :: rest) 2 [some (.ref hK), some (.int (nI i)), some (.int (nI j))] [] := by
    intro k
    induction k with
    | zero =>
      intro j hq
      obtain ⟨q1, q2⟩ := hq
      refine sv_iload_n C rfl rfl d_To_firstLike_2 ?_
      refine sv_iload_n C rfl rfl d_To_firstLike_3 ?_
      refine sv_icmpN_ge C _ _ (by omega) (by omega) 24 (by decide) d_To_firstLike_4 (fun c4 => ?_) (fun c4 => ?_)
      · skip
        refine sv_iload_n C rfl rfl d_To_firstLike_24 ?_
        exact hr _ _ _ _ d_To_firstLike_25 rfl ⟨congrArg nI (by rw [q2, pu_first]; omega), rfl⟩
      · skip
        exact absurd c4 (by omega)
    | succ k ih =>
      intro j hq
      obtain ⟨q1, q2⟩ := hq
      refine sv_iload_n C rfl rfl d_To_firstLike_2 ?_
      refine sv_iload_n C rfl rfl d_To_firstLike_3 ?_
      refine sv_icmpN_ge C _ _ (by omega) (by omega) 24 (by decide) d_To_firstLike_4 (fun c4 => ?_) (fun c4 => ?_)
      · skip
        exact absurd c4 (by omega)
      · skip
        refine sv_aload_n C rfl rfl d_To_firstLike_7 ?_
        refine sv_iload_n C rfl rfl d_To_firstLike_8 ?_
        refine sv_iload_n C rfl rfl d_To_firstLike_9 ?_
        refine sv_callVi C (c_To_areAlike l g rest hK hkc hkp hks ch po st T hT hn ho j i (by omega) hi) lk_To_35 List.mem_cons_self rfl d_To_firstLike_10 (by decide) (Nat.le_of_ble_eq_true rfl) (by decide) (fun r w hw => ?_)
        obtain ⟨rfl, rfl⟩ := hw
        refine sv_ifB_eq C _ 18 (by decide) d_To_firstLike_13 (fun c13 => ?_) (fun c13 => ?_)
        · skip
          refine sv_iincN C 1 _ rfl [some _, some _, some _] rfl d_To_firstLike_18 ?_
          refine sv_goto C 2 (by decide) d_To_firstLike_21 ?_
          exact ih (j + 1) ⟨by omega, by rw [q2, pu_first, if_neg c13]⟩
        · skip
          refine sv_iload_n C rfl rfl d_To_firstLike_16 ?_
          exact hr _ _ _ _ d_To_firstLike_17 rfl ⟨congrArg nI (by rw [q2, pu_first, if_pos c13]), rfl⟩
  refine sv_iconst C (v := 0) (by decide) d_To_firstLike_0 ?_
  refine sv_istore_n C rfl (by decide) [some _, some _, some _] rfl d_To_firstLike_1 ?_
  exact L2 i 0 ⟨by omega, rfl⟩

def rm_To_add : Room := { frames := 1, cells := 0, slots := 0, locals := 80 }
set_option maxHeartbeats 4000000 in
set_option maxRecDepth 100000 in
theorem c_To_add (l : Launch) (g : sv_G) (rest : va_W) (hK hkc hkp hks : Nat) (ch po st : Nat → Int32) (T : List (Nat × List Int32)) (hT : pu_Tok ch po st T) (hn : T.length < 8192) (hW hwc p : Nat) (f : Nat → Int32) (L : List Int32) (hL : L.length ≤ 255) (hf : pr_W f L) (hp : p < 2 ^ 30) (ho : pu_off T T.length + L.length ≤ 8192) : sv_Mv l y_To_add b_To_add 4 none rm_To_add g [.ref hK, .ref hW, .int (nI p)] ((hK, .inr (4, [.ref hkc, .ref hkp, .ref hks, .int (nI T.length)])) :: (hkc, .inl (g.2.1 0, 8192, .inl ch)) :: (hkp, .inl (g.2.1 0, 8192, .inl po)) :: (hks, .inl (g.2.1 0, 8193, .inl st)) :: (hW, .inr (5, [.ref hwc, .int (nI L.length)])) :: (hwc, .inl (g.2.1 0, 255, .inl f)) :: rest) (fun w => ∃ ch2 po2 st2 : Nat → Int32, w = ((hK, .inr (4, [.ref hkc, .ref hkp, .ref hks, .int (nI (T.length + 1))])) :: (hkc, .inl (g.2.1 0, 8192, .inl ch2)) :: (hkp, .inl (g.2.1 0, 8192, .inl po2)) :: (hks, .inl (g.2.1 0, 8193, .inl st2)) :: (hW, .inr (5, [.ref hwc, .int (nI L.length)])) :: (hwc, .inl (g.2.1 0, 255, .inl f)) :: rest) ∧ pu_Tok ch2 po2 st2 (T ++ [(p, L)])) := by
  refine sv_enter_v (by decide) rfl rfl (Nat.le_of_ble_eq_true rfl) (fun X C hI hr => ?_)
  refine sv_lvE (lv' := [some _, some _, some _, none]) rfl ?_
  refine sv_aload_n C rfl rfl d_To_add_0 ?_
  refine sv_get C fg_To_20 0 rfl rfl d_To_add_1 ?_
  refine sv_aload_n C rfl rfl d_To_add_4 ?_
  refine sv_get C fg_To_7 0 rfl rfl d_To_add_5 ?_
  refine sv_ialdN C _ 3 rfl (by omega) (by decide) d_To_add_8 ?_
  refine sv_eqi (hT.1 T.length (Nat.le_refl _)) ?_
  refine sv_istore_n C rfl (by decide) [some _, some _, some _, some _] rfl d_To_add_9 ?_
  refine sv_aload_n C rfl rfl d_To_add_10 ?_
  refine sv_get C fg_To_23 4 rfl rfl d_To_add_11 ?_
  refine sv_iconst C (v := 0) (by decide) d_To_add_14 ?_
  refine sv_aload_n C rfl rfl d_To_add_15 ?_
  refine sv_get C fg_To_13 0 rfl rfl d_To_add_16 ?_
  refine sv_iload_n C rfl rfl d_To_add_19 ?_
  refine sv_aload_n C rfl rfl d_To_add_20 ?_
  refine sv_get C fg_To_26 4 rfl rfl d_To_add_21 ?_
  refine sv_copyN C 0 (pu_off T T.length) L.length wa_To wa_2 wa_3 wa_4 5 1 rfl rfl (by omega) (by omega) (by decide) (by decide) (by decide) (Nat.le_of_ble_eq_true rfl) (_ :: _ :: _ :: _ :: _ :: _ :: _) rfl d_To_add_24 ?_
  refine sv_aload_n C rfl rfl d_To_add_27 ?_
  refine sv_get C fg_To_17 0 rfl rfl d_To_add_28 ?_
  refine sv_aload_n C rfl rfl d_To_add_31 ?_
  refine sv_get C fg_To_7 0 rfl rfl d_To_add_32 ?_
  refine sv_iload_n C rfl rfl d_To_add_35 ?_
  refine sv_iastN C _ 2 rfl (by omega) (by decide) (_ :: _ :: _ :: _ :: _ :: _ :: _) rfl d_To_add_36 ?_
  refine sv_aload_n C rfl rfl d_To_add_37 ?_
  refine sv_dup C rfl d_To_add_38 ?_
  refine sv_get C fg_To_7 0 rfl rfl d_To_add_39 ?_
  refine sv_iconst C (v := 1) (by decide) d_To_add_42 ?_
  refine sv_iaddN C _ 1  d_To_add_43 ?_
  refine sv_put C fp_To_7 0 rfl rfl rfl (Nat.le_of_ble_eq_true rfl) ((_, .inr (_, [_, _, _, _])) :: _ :: _ :: _ :: _ :: _ :: _) rfl d_To_add_44 ?_
  refine sv_aload_n C rfl rfl d_To_add_47 ?_
  refine sv_get C fg_To_20 0 rfl rfl d_To_add_48 ?_
  refine sv_aload_n C rfl rfl d_To_add_51 ?_
  refine sv_get C fg_To_7 0 rfl rfl d_To_add_52 ?_
  refine sv_iload_n C rfl rfl d_To_add_55 ?_
  refine sv_aload_n C rfl rfl d_To_add_56 ?_
  refine sv_get C fg_To_26 4 rfl rfl d_To_add_57 ?_
  refine sv_iaddN C _ _  d_To_add_60 ?_
  refine sv_iastN C _ 3 rfl (by omega) (by decide) (_ :: _ :: _ :: _ :: _ :: _ :: _) rfl d_To_add_61 ?_
  refine hr _ _ _ d_To_add_62 ⟨_, _, _, rfl, pu_Tok_add hT p L (fun i hi => pk_un (by omega)) pk_us (fun i hi => pk_un (by omega)) pk_us (fun i hi => pk_cpy_out (Or.inl hi)) (fun k hk => ?_)⟩
  rw [pk_cpy_in (Nat.le_add_right _ _) (by omega), Nat.add_sub_cancel_left, Nat.zero_add]
  exact hf k hk
end
section
/-! CONTRACTS: String.equals -/
section SVQ
variable {X : sv_X} {l : Launch} {cc : ByteArray} {nL k n pc : Nat} {own : String} {rm : Room} {g : sv_G} {ws : va_W} {lv : List (Option Value)} {st : List Value}
theorem sv_eqv {v w : Value} (h : v = w) (z : sv_V X nL k n ws pc lv (w :: st)) : sv_V X nL k n ws pc lv (v :: st) := by subst h; exact z
end SVQ
def rm_Lat_equals : Room := { frames := 0, cells := 0, slots := 0, locals := 0 }
set_option maxHeartbeats 4000000 in
set_option maxRecDepth 100000 in
theorem c_Lat_equals (l : Launch) (g : sv_G) (ws : va_W) (i j : Nat) (hi : i < sv_nS) (hj : j < sv_nS) : sv_Mi l y_Lat_equals b_Lat_equals 3 (some (.boolean)) rm_Lat_equals g [.ref (g.2.2.2 i), .ref (g.2.2.2 j)] ws (fun r w => r = (if sv_txt i = sv_txt j then 1 else 0) ∧ w = ws) := by
  have hl := sv_len hi
  have hl2 := sv_len hj
  refine sv_enter_i (by decide) rfl rfl (Nat.le_of_ble_eq_true rfl) (fun X C hI hr => ?_)
  refine sv_lvE (lv' := [some _, some _, none]) rfl ?_
  have L9 : ∀ (k : Nat) (q : Nat), ((sv_txt i).length = (sv_txt j).length ∧ q ≤ (sv_txt i).length ∧ (sv_txt i).length ≤ q + k ∧ ∀ m, m < q → (sv_txt i).getD m 0 = (sv_txt j).getD m 0) → sv_V X 3 0 0 ws 9 [some (.ref (g.2.2.2 i)), some (.ref (g.2.2.2 j)), some (.int (nI q))] [] := by
    intro k
    induction k with
    | zero =>
      intro q hq
      obtain ⟨q1, q2, q3, q4⟩ := hq
      refine sv_iload_n C rfl rfl d_Lat_equals_9 ?_
      refine sv_aload_n C rfl rfl d_Lat_equals_10 ?_
      refine sv_lenS C i hi d_Lat_equals_11 ?_
      refine sv_icmpN_ge C _ _ (by omega) (by omega) 32 (by decide) d_Lat_equals_12 (fun c12 => ?_) (fun c12 => ?_)
      · skip
        refine sv_iconst C (v := 1) (by decide) d_Lat_equals_32 ?_
        exact hr _ _ _ _ d_Lat_equals_33 rfl ⟨(if_pos (pu_eq_of q1 (fun m hm => q4 m (by omega)))).symm, rfl⟩
      · skip
        exact absurd c12 (by omega)
    | succ k ih =>
      intro q hq
      obtain ⟨q1, q2, q3, q4⟩ := hq
      refine sv_iload_n C rfl rfl d_Lat_equals_9 ?_
      refine sv_aload_n C rfl rfl d_Lat_equals_10 ?_
      refine sv_lenS C i hi d_Lat_equals_11 ?_
      refine sv_icmpN_ge C _ _ (by omega) (by omega) 32 (by decide) d_Lat_equals_12 (fun c12 => ?_) (fun c12 => ?_)
      · skip
        refine sv_iconst C (v := 1) (by decide) d_Lat_equals_32 ?_
        exact hr _ _ _ _ d_Lat_equals_33 rfl ⟨(if_pos (pu_eq_of q1 (fun m hm => q4 m (by omega)))).symm, rfl⟩
      · skip
        refine sv_aload_n C rfl rfl d_Lat_equals_15 ?_
        refine sv_iload_n C rfl rfl d_Lat_equals_16 ?_
        refine sv_baldS C i q hi (by omega) (by omega) d_Lat_equals_17 ?_
        refine sv_aload_n C rfl rfl d_Lat_equals_18 ?_
        refine sv_iload_n C rfl rfl d_Lat_equals_19 ?_
        refine sv_baldS C j q hj (by omega) (by omega) d_Lat_equals_20 ?_
        refine sv_icmp_eq C 26 (by decide) d_Lat_equals_21 (fun c21 => ?_) (fun c21 => ?_)
        · skip
          refine sv_iincN C 1 _ rfl [some _, some _, some _] rfl d_Lat_equals_26 ?_
          refine sv_goto C 9 (by decide) d_Lat_equals_29 ?_
          exact ih (q + 1) ⟨q1, by omega, by omega, fun m hm => by
            rcases Nat.lt_or_ge m q with h | h
            · exact q4 m h
            · have hmq : m = q := by omega
              subst hmq
              exact c21⟩
        · skip
          refine sv_iconst C (v := 0) (by decide) d_Lat_equals_24 ?_
          exact hr _ _ _ _ d_Lat_equals_25 rfl ⟨(if_neg (fun z => c21 (by rw [z]))).symm, rfl⟩
  refine sv_aload_n C rfl rfl d_Lat_equals_0 ?_
  refine sv_lenS C i hi d_Lat_equals_1 ?_
  refine sv_aload_n C rfl rfl d_Lat_equals_2 ?_
  refine sv_lenS C j hj d_Lat_equals_3 ?_
  refine sv_icmpN_ne C _ _ (by omega) (by omega) 34 (by decide) d_Lat_equals_4 (fun c4 => ?_) (fun c4 => ?_)
  · skip
    refine sv_iconst C (v := 0) (by decide) d_Lat_equals_34 ?_
    exact hr _ _ _ _ d_Lat_equals_35 rfl ⟨(if_neg (fun z => c4 (by rw [z]))).symm, rfl⟩
  · skip
    refine sv_iconst C (v := 0) (by decide) d_Lat_equals_7 ?_
    refine sv_istore_n C rfl (by decide) [some _, some _, some _] rfl d_Lat_equals_8 ?_
    exact L9 (sv_txt i).length 0 ⟨c4, by omega, by omega, fun m hm => absurd hm (Nat.not_lt_zero m)⟩

def rm_Str_equals : Room := { frames := 1, cells := 0, slots := 0, locals := 22 }
set_option maxHeartbeats 4000000 in
set_option maxRecDepth 100000 in
theorem c_Str_equals (l : Launch) (g : sv_G) (ws : va_W) (i j : Nat) (hi : i < sv_nS) (hj : j < sv_nS) : sv_Mi l y_Str_equals b_Str_equals 3 (some (.boolean)) rm_Str_equals g [.ref (g.2.2.1 i), .ref (g.2.2.1 j)] ws (fun r w => r = (if sv_txt i = sv_txt j then 1 else 0) ∧ w = ws) := by
  have hl := sv_len hi
  have hl2 := sv_len hj
  refine sv_enter_i (by decide) rfl rfl (Nat.le_of_ble_eq_true rfl) (fun X C hI hr => ?_)
  refine sv_lvE (lv' := [some _, some _, none]) rfl ?_
  have j7 : sv_V X 3 0 0 ws 7 [some (.ref (g.2.2.1 i)), some (.ref (g.2.2.1 j)), none] [] := by
    refine sv_aload_n C rfl rfl d_Str_equals_7 ?_
    refine sv_instS C j hj wk_Str_10 d_Str_equals_8 ?_
    refine sv_ifZ_eq C 54 (by decide) d_Str_equals_11 (fun c11 => ?_) (fun c11 => ?_)
    · skip
      exact absurd c11 (by decide)
    · skip
      refine sv_aload_n C rfl rfl d_Str_equals_14 ?_
      refine sv_castS C j hj wk_Str_10 d_Str_equals_15 ?_
      refine sv_astore_n C rfl (by decide) [some _, some _, some _] rfl d_Str_equals_18 ?_
      refine sv_getsC C wz_38 d_Str_equals_19 ?_
      refine sv_ifZ_eq C 36 (by decide) d_Str_equals_22 (fun c22 => ?_) (fun c22 => ?_)
      · skip
        exact absurd c22 (by decide)
      · skip
        refine sv_aload_n C rfl rfl d_Str_equals_25 ?_
        refine sv_getSc C i hi wz_15 d_Str_equals_26 ?_
        refine sv_aload_n C rfl rfl d_Str_equals_29 ?_
        refine sv_getSc C j hj wz_15 d_Str_equals_30 ?_
        refine sv_icmp_ne C 54 (by decide) d_Str_equals_33 (fun c33 => ?_) (fun c33 => ?_)
        · skip
          exact absurd rfl c33
        · skip
          refine sv_aload_n C rfl rfl d_Str_equals_36 ?_
          refine sv_getSv C i hi wz_9 d_Str_equals_37 ?_
          refine sv_aload_n C rfl rfl d_Str_equals_40 ?_
          refine sv_getSv C j hj wz_9 d_Str_equals_41 ?_
          refine sv_callSi C (c_Lat_equals l g _ i j hi hj) lk_Str_541  d_Str_equals_44 (by decide) (Nat.le_of_ble_eq_true rfl) (by decide) (fun r w hw => ?_)
          obtain ⟨rfl, rfl⟩ := hw
          refine sv_ifB_eq C _ 54 (by decide) d_Str_equals_47 (fun c47 => ?_) (fun c47 => ?_)
          · skip
            refine sv_iconst C (v := 0) (by decide) d_Str_equals_54 ?_
            exact hr _ _ _ _ d_Str_equals_55 rfl ⟨(if_neg c47).symm, rfl⟩
          · skip
            refine sv_iconst C (v := 1) (by decide) d_Str_equals_50 ?_
            refine sv_goto C 55 (by decide) d_Str_equals_51 ?_
            exact hr _ _ _ _ d_Str_equals_55 rfl ⟨(if_pos c47).symm, rfl⟩
  refine sv_aload_n C rfl rfl d_Str_equals_0 ?_
  refine sv_aload_n C rfl rfl d_Str_equals_1 ?_
  refine sv_acmp_ne C 7 (by decide) d_Str_equals_2 (fun c2 => j7) (fun c2 => ?_)
  refine sv_iconst C (v := 1) (by decide) d_Str_equals_5 ?_
  exact hr _ _ _ _ d_Str_equals_6 rfl ⟨(if_pos (sv_strEq C hi hj (by omega) (by omega) c2)).symm, rfl⟩
end
