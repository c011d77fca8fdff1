/-! PURE, 2: spans, words, stems -/
abbrev pu_inn (s : Nat) : Prop := s = 1 ∨ s = 2 ∨ s = 3
abbrev pu_isW (s : Nat) : Prop := s = 1 ∨ s = 2 ∨ s = 7
def pu_st (f : Nat → Int32) (i : Nat) : Nat := pu_sort (f i).toInt
abbrev pu_ties (m o : Nat) : Prop := (o = 1 ∧ (m = 4 ∨ m = 6)) ∨ (o = 2 ∧ (m = 5 ∨ m = 6))
abbrev pu_tie (f : Nat → Int32) (n m : Nat) : Prop := 1 ≤ m ∧ m + 1 < n ∧ pu_st f (m + 1) = pu_st f (m - 1) ∧ pu_ties (pu_st f m) (pu_st f (m - 1))
/-- the end of what belongs together, behind e -/
def pu_span (f : Nat → Int32) (n : Nat) : Nat → Nat → Nat
  | 0, e => e
  | k + 1, e => if e < n then (if pu_inn (pu_st f e) then pu_span f n k (e + 1) else if pu_tie f n e then pu_span f n k (e + 2) else e) else e
def pu_spanEnd (f : Nat → Int32) (n a : Nat) : Nat := if pu_inn (pu_st f a) then pu_span f n n (a + 1) else a + 1
theorem pu_span_ge (f : Nat → Int32) (n : Nat) : ∀ k e, e ≤ pu_span f n k e
  | 0, e => Nat.le_refl e
  | k + 1, e => by
    have h1 := pu_span_ge f n k (e + 1)
    have h2 := pu_span_ge f n k (e + 2)
    unfold pu_span
    split
    · split
      · omega
      · split <;> omega
    · omega
theorem pu_span_le (f : Nat → Int32) (n : Nat) : ∀ k e, e ≤ n → pu_span f n k e ≤ n
  | 0, e, h => h
  | k + 1, e, h => by
    unfold pu_span
    split
    · split
      · exact pu_span_le f n k (e + 1) (by omega)
      · split
        · rename_i h2
          exact pu_span_le f n k (e + 2) (by have := h2.2.1; omega)
        · exact h
    · exact h
theorem pu_spanEnd_gt (f : Nat → Int32) (n a : Nat) : a + 1 ≤ pu_spanEnd f n a := by
  unfold pu_spanEnd
  split
  · exact pu_span_ge f n n (a + 1)
  · exact Nat.le_refl _
theorem pu_spanEnd_le (f : Nat → Int32) {n a : Nat} (h : a < n) : pu_spanEnd f n a ≤ n := by
  unfold pu_spanEnd
  split
  · exact pu_span_le f n n (a + 1) h
  · exact h
/-- whether a word's sort is among k places from a on -/
def pu_any (f : Nat → Int32) : Nat → Nat → Bool
  | 0, _ => false
  | k + 1, a => if pu_isW (pu_st f a) then true else pu_any f k (a + 1)
def pu_slice (f : Nat → Int32) (a len : Nat) : List Int32 := (List.range len).map (fun i => f (a + i))
theorem pu_slice_len (f : Nat → Int32) (a len : Nat) : (pu_slice f a len).length = len := by simp [pu_slice]
theorem pu_slice_get (f : Nat → Int32) {a len i : Nat} (h : i < len) : (pu_slice f a len).getD i 0 = f (a + i) := by
  simp [pu_slice, List.getD_eq_getElem?_getD, h]
/-- an owner's ending off -/
def pu_own (L : List Int32) : List Int32 := if 2 < L.length ∧ (L.getD (L.length - 2) 0 = 39 ∨ L.getD (L.length - 2) 0 = 8217) ∧ (L.getD (L.length - 1) 0 = 115 ∨ L.getD (L.length - 1) 0 = 83) then L.take (L.length - 2) else L
def pu_low (c : Int32) : Int32 := if (65 ≤ c.toInt ∧ c.toInt ≤ 90) ∨ (192 ≤ c.toInt ∧ c.toInt ≤ 222 ∧ c.toInt ≠ 215) ∨ (913 ≤ c.toInt ∧ c.toInt ≤ 939 ∧ c.toInt ≠ 930) ∨ (1040 ≤ c.toInt ∧ c.toInt ≤ 1071) then c + 32 else if 1024 ≤ c.toInt ∧ c.toInt ≤ 1039 then c + 80 else c
abbrev pu_small (L : List Int32) : Prop := ∀ c ∈ L, 97 ≤ c.toInt ∧ c.toInt ≤ 122
abbrev pu_isV (c : Int32) : Prop := c = 97 ∨ c = 101 ∨ c = 105 ∨ c = 111 ∨ c = 117
def pu_vow (L : List Int32) : Nat → Bool
  | 0 => decide (pu_isV (L.getD 0 0))
  | k + 1 => decide (pu_isV (L.getD (k + 1) 0)) || (decide (L.getD (k + 1) 0 = 121) && !pu_vow L k)
def pu_meas (L : List Int32) : Nat → Nat
  | 0 => 0
  | k + 1 => pu_meas L k + (if 1 ≤ k ∧ pu_vow L (k - 1) = true ∧ pu_vow L k = false then 1 else 0)
def pu_anyV (L : List Int32) : Nat → Bool
  | 0 => false
  | k + 1 => pu_anyV L k || pu_vow L k
abbrev pu_dbl (L : List Int32) : Prop := 1 < L.length ∧ L.getD (L.length - 1) 0 = L.getD (L.length - 2) 0 ∧ pu_vow L (L.length - 1) = false
abbrev pu_cvc (L : List Int32) (k : Nat) : Prop := 3 ≤ k ∧ pu_vow L (k - 3) = false ∧ pu_vow L (k - 2) = true ∧ pu_vow L (k - 1) = false ∧ L.getD (k - 1) 0 ≠ 119 ∧ L.getD (k - 1) 0 ≠ 120 ∧ L.getD (k - 1) 0 ≠ 121
abbrev pu_ends (L s : List Int32) : Prop := s.length ≤ L.length ∧ L.drop (L.length - s.length) = s
/-- the longest of the endings that is there: its place and itself -/
def pu_lng (L : List Int32) : List (List Int32) → Nat → Option (Nat × List Int32) → Option (Nat × List Int32)
  | [], _, b => b
  | t :: ts, i, b => pu_lng L ts (i + 1) (if pu_ends L t ∧ (∀ q, b = some q → q.2.length < t.length) then some (i, t) else b)
def pu_stops : List (List Int32) := [[97], [97, 110], [97, 110, 100], [97, 114, 101], [97, 115], [97, 116], [98, 101], [98, 117, 116], [98, 121], [102, 111, 114], [105, 102], [105, 110], [105, 110, 116, 111], [105, 115], [105, 116], [110, 111], [110, 111, 116], [111, 102], [111, 110], [111, 114], [115, 117, 99, 104], [116, 104, 97, 116], [116, 104, 101], [116, 104, 101, 105, 114], [116, 104, 101, 110], [116, 104, 101, 114, 101], [116, 104, 101, 115, 101], [116, 104, 101, 121], [116, 104, 105, 115], [116, 111], [119, 97, 115], [119, 105, 108, 108], [119, 105, 116, 104]]
def pu_E2 : List (List Int32) := [[97, 116, 105, 111, 110, 97, 108], [116, 105, 111, 110, 97, 108], [101, 110, 99, 105], [97, 110, 99, 105], [105, 122, 101, 114], [97, 98, 108, 105], [97, 108, 108, 105], [101, 110, 116, 108, 105], [101, 108, 105], [111, 117, 115, 108, 105], [105, 122, 97, 116, 105, 111, 110], [97, 116, 105, 111, 110], [97, 116, 111, 114], [97, 108, 105, 115, 109], [105, 118, 101, 110, 101, 115, 115], [102, 117, 108, 110, 101, 115, 115], [111, 117, 115, 110, 101, 115, 115], [97, 108, 105, 116, 105], [105, 118, 105, 116, 105], [98, 105, 108, 105, 116, 105]]
def pu_S2 : List (List Int32) := [[97, 116, 101], [116, 105, 111, 110], [101, 110, 99, 101], [97, 110, 99, 101], [105, 122, 101], [97, 98, 108, 101], [97, 108], [101, 110, 116], [101], [111, 117, 115], [105, 122, 101], [97, 116, 101], [97, 116, 101], [97, 108], [105, 118, 101], [102, 117, 108], [111, 117, 115], [97, 108], [105, 118, 101], [98, 108, 101]]
def pu_E3 : List (List Int32) := [[105, 99, 97, 116, 101], [97, 116, 105, 118, 101], [97, 108, 105, 122, 101], [105, 99, 105, 116, 105], [105, 99, 97, 108], [102, 117, 108], [110, 101, 115, 115]]
def pu_S3 : List (List Int32) := [[105, 99], [], [97, 108], [105, 99], [105, 99], [], []]
def pu_E4 : List (List Int32) := [[97, 108], [97, 110, 99, 101], [101, 110, 99, 101], [101, 114], [105, 99], [97, 98, 108, 101], [105, 98, 108, 101], [97, 110, 116], [101, 109, 101, 110, 116], [109, 101, 110, 116], [101, 110, 116], [111, 117], [105, 115, 109], [97, 116, 101], [105, 116, 105], [111, 117, 115], [105, 118, 101], [105, 122, 101], [105, 111, 110]]
def pu_E4c : List (List Int32) := [[97, 108], [97, 110, 99, 101], [101, 110, 99, 101], [101, 114], [105, 99], [97, 98, 108, 101], [105, 98, 108, 101], [97, 110, 116], [101, 109, 101, 110, 116], [109, 101, 110, 116], [101, 110, 116], [105, 111, 110], [111, 117], [105, 115, 109], [97, 116, 101], [105, 116, 105], [111, 117, 115], [105, 118, 101], [105, 122, 101]]
/-- the steps, as the reference takes them -/
def pu_s1a (L : List Int32) : List Int32 := if pu_ends L [115, 115, 101, 115] ∨ pu_ends L [105, 101, 115] then L.take (L.length - 2) else if pu_ends L [115] ∧ ¬ pu_ends L [115, 115] then L.take (L.length - 1) else L
def pu_s1bm (L : List Int32) : List Int32 := if pu_ends L [97, 116] ∨ pu_ends L [98, 108] ∨ pu_ends L [105, 122] then L ++ [101] else if pu_dbl L ∧ L.getD (L.length - 1) 0 ≠ 108 ∧ L.getD (L.length - 1) 0 ≠ 115 ∧ L.getD (L.length - 1) 0 ≠ 122 then L.take (L.length - 1) else if pu_meas L L.length = 1 ∧ pu_cvc L L.length then L ++ [101] else L
def pu_s1b (L : List Int32) : List Int32 := if pu_ends L [101, 101, 100] then (if 0 < pu_meas L (L.length - 3) then L.take (L.length - 1) else L) else if pu_ends L [101, 100] then (if pu_anyV L (L.length - 2) = true then pu_s1bm (L.take (L.length - 2)) else L) else if pu_ends L [105, 110, 103] then (if pu_anyV L (L.length - 3) = true then pu_s1bm (L.take (L.length - 3)) else L) else L
def pu_s1c (L : List Int32) : List Int32 := if pu_ends L [121] ∧ pu_anyV L (L.length - 1) = true then L.take (L.length - 1) ++ [105] else L
def pu_rep (E S : List (List Int32)) (L : List Int32) : List Int32 := match pu_lng L E 0 none with
  | some q => if 0 < pu_meas L (L.length - q.2.length) then L.take (L.length - q.2.length) ++ S.getD q.1 [] else L
  | none => L
def pu_s4 (L : List Int32) : List Int32 := match pu_lng L pu_E4 0 none with
  | some q => if (q.2 = [105, 111, 110] → 0 < L.length - q.2.length ∧ (L.getD (L.length - q.2.length - 1) 0 = 115 ∨ L.getD (L.length - q.2.length - 1) 0 = 116)) ∧ 1 < pu_meas L (L.length - q.2.length) then L.take (L.length - q.2.length) else L
  | none => L
def pu_s5a (L : List Int32) : List Int32 := if pu_ends L [101] ∧ (1 < pu_meas L (L.length - 1) ∨ (pu_meas L (L.length - 1) = 1 ∧ ¬ pu_cvc L (L.length - 1))) then L.take (L.length - 1) else L
def pu_s5b (L : List Int32) : List Int32 := if pu_ends L [108, 108] ∧ 1 < pu_meas L L.length then L.take (L.length - 1) else L
def pu_stem (L : List Int32) : List Int32 := pu_s5b (pu_s5a (pu_s4 (pu_rep pu_E3 pu_S3 (pu_rep pu_E2 pu_S2 (pu_s1c (pu_s1b (pu_s1a L)))))))
abbrev pu_St : Type := List (Nat × List Int32) × Nat
/-- one word more: a token, or none -/
def pu_word (L : List Int32) (s : pu_St) : pu_St :=
  let M := (pu_own L).map pu_low
  if M ∈ pu_stops then (s.1, s.2 + 1) else (s.1 ++ [(s.2, if pu_small M ∧ 2 < M.length then pu_stem M else M)], s.2 + 1)
/-- the words of a span, 255 characters each at most -/
def pu_take (f : Nat → Int32) (e : Nat) : Nat → Nat → pu_St → pu_St
  | 0, _, s => s
  | k + 1, a, s => if a < e then pu_take f e k (a + 255) (pu_word (pu_slice f a (if e - a < 255 then e - a else 255)) s) else s
def pu_cut (f : Nat → Int32) (n : Nat) : Nat → Nat → pu_St → pu_St
  | 0, _, s => s
  | k + 1, a, s => if a < n then pu_cut f n k (pu_spanEnd f n a) (if pu_any f (pu_spanEnd f n a - a) a = true then pu_take f (pu_spanEnd f n a) (pu_spanEnd f n a) a s else s) else s
