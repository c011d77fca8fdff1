/-! PURE, 4: the words that say nothing as numbers; tokens one behind the other -/
def pu_dig (c : Int32) : Nat := (c.toInt - 96).toNat
/-- the number of a word, its last letter first -/
def pu_kr : List Int32 → Nat
  | [] => 0
  | c :: l => pu_kr l * 32 + pu_dig c
def pu_key (L : List Int32) : Nat := pu_kr L.reverse
theorem pu_dig_in {c : Int32} (h : 97 ≤ c.toInt ∧ c.toInt ≤ 122) : 1 ≤ pu_dig c ∧ pu_dig c ≤ 26 ∧ (pu_dig c : Int) = c.toInt - 96 := by
  unfold pu_dig
  omega
theorem pu_kr_inj : ∀ (L M : List Int32), pu_small L → pu_small M → pu_kr L = pu_kr M → L = M
  | [], [], _, _, _ => rfl
  | [], c :: M, _, hM, h => by
    have := pu_dig_in (hM c List.mem_cons_self)
    simp only [pu_kr] at h
    omega
  | c :: L, [], hL, _, h => by
    have := pu_dig_in (hL c List.mem_cons_self)
    simp only [pu_kr] at h
    omega
  | c :: L, d :: M, hL, hM, h => by
    have h1 := pu_dig_in (hL c List.mem_cons_self)
    have h2 := pu_dig_in (hM d List.mem_cons_self)
    simp only [pu_kr] at h
    have h3 : pu_dig c = pu_dig d := by omega
    have h4 : pu_kr L = pu_kr M := by omega
    have h5 := pu_kr_inj L M (fun x hx => hL x (List.mem_cons_of_mem _ hx)) (fun x hx => hM x (List.mem_cons_of_mem _ hx)) h4
    have h6 : c = d := Int32.toInt_inj.mp (by omega)
    rw [h5, h6]
theorem pu_key_inj {L M : List Int32} (hL : pu_small L) (hM : pu_small M) (h : pu_key L = pu_key M) : L = M := by
  have h1 := pu_kr_inj L.reverse M.reverse (fun x hx => hL x (List.mem_reverse.mp hx)) (fun x hx => hM x (List.mem_reverse.mp hx)) h
  have h2 := congrArg List.reverse h1
  rw [List.reverse_reverse, List.reverse_reverse] at h2
  exact h2
theorem pu_key_snoc (L : List Int32) (c : Int32) : pu_key (L ++ [c]) = pu_key L * 32 + pu_dig c := by
  unfold pu_key
  rw [List.reverse_append]
  rfl
theorem pu_stops_ok : ∀ t ∈ pu_stops, t.length ≤ 5 ∧ ∀ c ∈ t, 97 ≤ c.toInt ∧ c.toInt ≤ 122 := by decide +kernel
theorem pu_stops_len : pu_stops.length = 33 := rfl
/-- a word is among them: by its number -/
theorem pu_stops_iff (M : List Int32) : M ∈ pu_stops ↔ (M.length ≤ 5 ∧ pu_small M) ∧ ∃ i, i < 33 ∧ pu_key (pu_stops.getD i []) = pu_key M := by
  constructor
  · intro h
    have h1 := pu_stops_ok M h
    obtain ⟨i, hi⟩ := List.getElem?_of_mem h
    have hl := (List.getElem?_eq_some_iff.mp hi).1
    exact ⟨h1, i, hl, by rw [List.getD_eq_getElem?_getD, hi]; rfl⟩
  · rintro ⟨⟨-, h2⟩, i, hi, h3⟩
    have hm : pu_stops.getD i [] ∈ pu_stops := by
      rw [List.getD_eq_getElem?_getD, List.getElem?_eq_getElem (show i < pu_stops.length from hi)]
      exact List.getElem_mem _
    rw [← pu_key_inj (pu_stops_ok _ hm).2 h2 h3]
    exact hm
/-- where token i begins -/
def pu_off (T : List (Nat × List Int32)) : Nat → Nat
  | 0 => 0
  | i + 1 => pu_off T i + (T.getD i (0, [])).2.length
theorem pu_off_app (T : List (Nat × List Int32)) (q : Nat × List Int32) : ∀ i, i ≤ T.length → pu_off (T ++ [q]) i = pu_off T i
  | 0, _ => rfl
  | i + 1, h => by
    have h1 := pu_off_app T q i (by omega)
    have h2 : (T ++ [q]).getD i (0, []) = T.getD i (0, []) := by
      rw [List.getD_eq_getElem?_getD, List.getD_eq_getElem?_getD, List.getElem?_append_left (by omega)]
    unfold pu_off
    rw [h1, h2]
theorem pu_off_mono (T : List (Nat × List Int32)) : ∀ i j, i ≤ j → pu_off T i ≤ pu_off T j
  | i, 0, h => by
    have : i = 0 := by omega
    subst this
    exact Nat.le_refl _
  | i, j + 1, h => by
    rcases Nat.lt_or_ge i (j + 1) with h1 | h1
    · have := pu_off_mono T i j (by omega)
      have h2 : pu_off T (j + 1) = pu_off T j + (T.getD j (0, [])).2.length := rfl
      omega
    · have : i = j + 1 := by omega
      subst this
      exact Nat.le_refl _
/-- the rows ch, po, st hold the tokens T -/
def pu_Tok (ch po st : Nat → Int32) (T : List (Nat × List Int32)) : Prop :=
  (∀ i, i ≤ T.length → st i = nI (pu_off T i)) ∧ (∀ i, i < T.length → po i = nI (T.getD i (0, [])).1) ∧
  ∀ i, i < T.length → ∀ k, k < (T.getD i (0, [])).2.length → ch (pu_off T i + k) = (T.getD i (0, [])).2.getD k 0
theorem pu_Tok_nil {ch po st : Nat → Int32} (h : st 0 = nI 0) : pu_Tok ch po st [] :=
  ⟨fun i hi => by have : i = 0 := Nat.le_zero.mp hi
                  subst this; exact h, fun i hi => absurd hi (Nat.not_lt_zero _), fun i hi => absurd hi (Nat.not_lt_zero _)⟩
theorem pu_Tok_add {ch po st ch' po' st' : Nat → Int32} {T : List (Nat × List Int32)} (h : pu_Tok ch po st T) (p : Nat) (L : List Int32)
    (hs : ∀ i, i ≤ T.length → st' i = st i) (hs1 : st' (T.length + 1) = nI (pu_off T T.length + L.length)) (hp : ∀ i, i < T.length → po' i = po i) (hp1 : po' T.length = nI p)
    (hc : ∀ i, i < pu_off T T.length → ch' i = ch i) (hc1 : ∀ k, k < L.length → ch' (pu_off T T.length + k) = L.getD k 0) : pu_Tok ch' po' st' (T ++ [(p, L)]) := by
  obtain ⟨h1, h2, h3⟩ := h
  have g1 : ∀ i, i < T.length → (T ++ [(p, L)]).getD i (0, []) = T.getD i (0, []) := fun i hi => by
    rw [List.getD_eq_getElem?_getD, List.getD_eq_getElem?_getD, List.getElem?_append_left hi]
  have g2 : (T ++ [(p, L)]).getD T.length (0, []) = (p, L) := by
    rw [List.getD_eq_getElem?_getD, List.getElem?_append_right (Nat.le_refl _), Nat.sub_self]
    rfl
  refine ⟨fun i hi => ?_, fun i hi => ?_, fun i hi k hk => ?_⟩
  · rw [List.length_append, List.length_singleton] at hi
    rcases Nat.lt_or_ge T.length i with h | h
    · have : i = T.length + 1 := by omega
      subst this
      rw [hs1]
      show _ = nI (pu_off (T ++ [(p, L)]) T.length + ((T ++ [(p, L)]).getD T.length (0, [])).2.length)
      rw [g2, pu_off_app T _ T.length (Nat.le_refl _)]
    · rw [hs i h, h1 i h, pu_off_app T _ i h]
  · rw [List.length_append, List.length_singleton] at hi
    rcases Nat.lt_or_ge i T.length with h | h
    · rw [hp i h, h2 i h, g1 i h]
    · have : i = T.length := by omega
      subst this
      rw [hp1, g2]
  · rw [List.length_append, List.length_singleton] at hi
    rcases Nat.lt_or_ge i T.length with h | h
    · rw [g1 i h] at hk ⊢
      have h4 := pu_off_mono T (i + 1) T.length (by omega)
      have h5 : pu_off T (i + 1) = pu_off T i + (T.getD i (0, [])).2.length := rfl
      rw [pu_off_app T _ i (by omega), hc _ (by omega), h3 i h k hk]
    · have : i = T.length := by omega
      subst this
      rw [g2] at hk ⊢
      rw [pu_off_app T _ T.length (Nat.le_refl _), hc1 k hk]
/-- the first token with the same characters as token i; k: where the search stands -/
def pu_first (T : List (Nat × List Int32)) (i : Nat) : Nat → Nat → Nat
  | 0, j => j
  | k + 1, j => if (T.getD j (0, [])).2 = (T.getD i (0, [])).2 then j else pu_first T i k (j + 1)
