/-! PURE, 3: the steps as the class takes them are the steps as the reference takes them -/
theorem pu_ends_split {L t : List Int32} (h : pu_ends L t) : L = L.take (L.length - t.length) ++ t := by
  have h1 := List.take_append_drop (L.length - t.length) L
  rw [h.2] at h1
  exact h1.symm
theorem pu_ends_app (P t : List Int32) : pu_ends (P ++ t) t := by
  refine ⟨by simp, ?_⟩
  rw [List.length_append, Nat.add_sub_cancel]
  exact List.drop_left
theorem pu_ends_tail {P q t : List Int32} (hl : t.length ≤ q.length) : pu_ends (P ++ q) t ↔ q.drop (q.length - t.length) = t := by
  unfold pu_ends
  rw [List.length_append]
  have h1 : P.length + q.length - t.length = P.length + (q.length - t.length) := by omega
  have h2 : (P ++ q).drop (P.length + (q.length - t.length)) = q.drop (q.length - t.length) := by
    rw [List.drop_append, List.drop_eq_nil_of_le (by omega), List.nil_append, Nat.add_sub_cancel_left]
  rw [h1, h2]
  constructor
  · intro h; exact h.2
  · intro h; exact ⟨by omega, h⟩
theorem pu_ends_len {L s t : List Int32} (hs : pu_ends L s) (ht : pu_ends L t) (h : s.length = t.length) : s = t := by
  rw [← hs.2, ← ht.2, h]
theorem pu_lng_no {L t : List Int32} {ts : List (List Int32)} {i : Nat} {b : Option (Nat × List Int32)} (h : ¬ pu_ends L t) : pu_lng L (t :: ts) i b = pu_lng L ts (i + 1) b := by
  rw [pu_lng, if_neg (fun z => h z.1)]
theorem pu_lng_yes {L t : List Int32} {ts : List (List Int32)} {i : Nat} (h : pu_ends L t) : pu_lng L (t :: ts) i none = pu_lng L ts (i + 1) (some (i, t)) := by
  rw [pu_lng, if_pos ⟨h, fun q hq => by cases hq⟩]
theorem pu_lng_short {L t : List Int32} {ts : List (List Int32)} {i : Nat} {q : Nat × List Int32} (h : t.length ≤ q.2.length) : pu_lng L (t :: ts) i (some q) = pu_lng L ts (i + 1) (some q) := by
  rw [pu_lng, if_neg (fun z => by have := z.2 q rfl; omega)]
/-- what a search for the longest finds -/
theorem pu_lng_spec (L : List Int32) : ∀ (E : List (List Int32)) (i : Nat) (b : Option (Nat × List Int32)), (∀ q, b = some q → pu_ends L q.2) →
    (∀ q, pu_lng L E i b = some q → pu_ends L q.2 ∧ (q.2 ∈ E ∨ b = some q) ∧ (∀ t ∈ E, pu_ends L t → t.length ≤ q.2.length) ∧ (∀ r, b = some r → r.2.length ≤ q.2.length)) ∧
    (pu_lng L E i b = none → b = none ∧ ∀ t ∈ E, ¬ pu_ends L t)
  | [], i, b, hb => by
    refine ⟨fun q hq => ⟨hb q hq, Or.inr hq, fun t ht => absurd ht List.not_mem_nil, fun r hr => ?_⟩, fun h => ⟨h, fun t ht => absurd ht List.not_mem_nil⟩⟩
    have h1 : b = some q := hq
    rw [h1] at hr
    cases hr
    exact Nat.le_refl _
  | t :: E, i, b, hb => by
    unfold pu_lng
    by_cases hc : pu_ends L t ∧ (∀ q, b = some q → q.2.length < t.length)
    · rw [if_pos hc]
      have ih := pu_lng_spec L E (i + 1) (some (i, t)) (fun q hq => by cases hq; exact hc.1)
      refine ⟨fun q hq => ?_, fun h => ?_⟩
      · obtain ⟨h1, h2, h3, h4⟩ := ih.1 q hq
        have h5 := h4 (i, t) rfl
        refine ⟨h1, Or.inl ?_, fun u hu hE => ?_, fun r hr => ?_⟩
        · rcases h2 with h2 | h2
          · exact List.mem_cons_of_mem _ h2
          · cases h2; exact List.mem_cons_self
        · rcases List.mem_cons.mp hu with rfl | hu
          · exact h5
          · exact h3 u hu hE
        · have := hc.2 r hr
          simp only at h5
          omega
      · exact absurd (ih.2 h).1 (by simp)
    · rw [if_neg hc]
      have ih := pu_lng_spec L E (i + 1) b hb
      refine ⟨fun q hq => ?_, fun h => ?_⟩
      · obtain ⟨h1, h2, h3, h4⟩ := ih.1 q hq
        refine ⟨h1, ?_, fun u hu hE => ?_, h4⟩
        · rcases h2 with h2 | h2
          · exact Or.inl (List.mem_cons_of_mem _ h2)
          · exact Or.inr h2
        · rcases List.mem_cons.mp hu with rfl | hu
          · have h6 : ¬ ∀ q, b = some q → q.2.length < u.length := fun z => hc ⟨hE, z⟩
            cases hb2 : b with
            | none => exact absurd (fun q hq => by rw [hb2] at hq; cases hq) h6
            | some r =>
              have h7 := h4 r hb2
              rcases Nat.lt_or_ge r.2.length u.length with h8 | h8
              · exact absurd (fun q hq => by rw [hb2] at hq; cases hq; exact h8) h6
              · omega
          · exact h3 u hu hE
      · obtain ⟨h1, h2⟩ := ih.2 h
        refine ⟨h1, fun u hu hE => ?_⟩
        rcases List.mem_cons.mp hu with rfl | hu
        · exact hc ⟨hE, fun q hq => by rw [h1] at hq; cases hq⟩
        · exact h2 u hu hE
/-- two lists of the same endings find the same -/
theorem pu_lng_same (L : List Int32) {E F : List (List Int32)} (h : ∀ t, t ∈ E ↔ t ∈ F) : (pu_lng L E 0 none).map Prod.snd = (pu_lng L F 0 none).map Prod.snd := by
  have e1 := pu_lng_spec L E 0 none (fun q hq => by cases hq)
  have e2 := pu_lng_spec L F 0 none (fun q hq => by cases hq)
  cases hE : pu_lng L E 0 none with
  | none =>
    have h1 := (e1.2 hE).2
    cases hF : pu_lng L F 0 none with
    | none => rfl
    | some q =>
      obtain ⟨a1, a2, -, -⟩ := e2.1 q hF
      rcases a2 with a2 | a2
      · exact absurd a1 (h1 _ ((h _).mpr a2))
      · cases a2
  | some q =>
    obtain ⟨a1, a2, a3, -⟩ := e1.1 q hE
    have a2 : q.2 ∈ E := by
      rcases a2 with a2 | a2
      · exact a2
      · cases a2
    cases hF : pu_lng L F 0 none with
    | none => exact absurd a1 ((e2.2 hF).2 _ ((h _).mp a2))
    | some r =>
      obtain ⟨b1, b2, b3, -⟩ := e2.1 r hF
      have b2 : r.2 ∈ F := by
        rcases b2 with b2 | b2
        · exact b2
        · cases b2
      have c1 := a3 r.2 ((h _).mpr b2) b1
      have c2 := b3 q.2 ((h _).mp a2) a1
      show some q.2 = some r.2
      rw [pu_ends_len a1 b1 (by omega)]
def pc_E1a : List (List Int32) := [[115, 115, 101, 115], [105, 101, 115], [115, 115], [115]]
def pc_S1a : List (List Int32) := [[115, 115], [105], [115, 115], []]
def pc_E1b : List (List Int32) := [[101, 101, 100], [101, 100], [105, 110, 103]]
def pc_S1b : List (List Int32) := [[101, 101], [], []]
/-- a step of the class that takes the longest ending off, puts another in its place -/
def pc_s1a (L : List Int32) : List Int32 := match pu_lng L pc_E1a 0 none with
  | some q => L.take (L.length - q.2.length) ++ pc_S1a.getD q.1 []
  | none => L
def pc_mend (L : List Int32) : List Int32 := if pu_ends L [97, 116] ∨ pu_ends L [98, 108] ∨ pu_ends L [105, 122] then L ++ [101] else if pu_dbl L ∧ ¬ pu_ends L [108] ∧ ¬ pu_ends L [115] ∧ ¬ pu_ends L [122] then L.take (L.length - 1) else if pu_meas L L.length = 1 ∧ pu_cvc L L.length then L ++ [101] else L
def pc_s1b (L : List Int32) : List Int32 := match pu_lng L pc_E1b 0 none with
  | some q => if q.2 = [101, 101, 100] then (if 0 < pu_meas L (L.length - q.2.length) then L.take (L.length - q.2.length) ++ pc_S1b.getD q.1 [] else L) else if pu_anyV L (L.length - q.2.length) = true then pc_mend (L.take (L.length - q.2.length) ++ pc_S1b.getD q.1 []) else L
  | none => L
def pc_s4 (L : List Int32) : List Int32 := if pu_ends L [105, 111, 110] ∧ ¬ pu_ends L [115, 105, 111, 110] ∧ ¬ pu_ends L [116, 105, 111, 110] then L else match pu_lng L pu_E4c 0 none with
  | some q => if 1 < pu_meas L (L.length - q.2.length) then L.take (L.length - q.2.length) else L
  | none => L
theorem pu_ends_cat {P q t : List Int32} (hl : t.length ≤ q.length) (h : q.drop (q.length - t.length) = t) : pu_ends (P ++ q) t := (pu_ends_tail hl).mpr h
theorem pu_ends_ncat {P q t : List Int32} (hl : t.length ≤ q.length) (h : ¬ q.drop (q.length - t.length) = t) : ¬ pu_ends (P ++ q) t := fun z => h ((pu_ends_tail hl).mp z)
theorem pu_take_cat {P q : List Int32} {n : Nat} (h : n ≤ q.length) : (P ++ q).take ((P ++ q).length - n) = P ++ q.take (q.length - n) := by
  rw [List.length_append, List.take_append, List.take_of_length_le (by omega)]
  congr 2
  omega
theorem pc_s1a_eq (L : List Int32) : pc_s1a L = pu_s1a L := by
  by_cases h1 : pu_ends L [115, 115, 101, 115]
  · have e := pu_ends_split h1
    generalize L.take (L.length - 4) = P at e
    subst e
    unfold pc_s1a pu_s1a
    rw [if_pos (Or.inl h1)]
    have g : pu_lng (P ++ [115, 115, 101, 115]) pc_E1a 0 none = some (0, [115, 115, 101, 115]) := by
      unfold pc_E1a
      rw [pu_lng_yes h1, pu_lng_short (by decide), pu_lng_short (by decide), pu_lng_short (by decide)]
      rfl
    rw [g]
    show (P ++ _).take ((P ++ _).length - 4) ++ _ = (P ++ _).take ((P ++ _).length - 2)
    rw [pu_take_cat (by decide), pu_take_cat (by decide), List.append_assoc]
    rfl
  · by_cases h2 : pu_ends L [105, 101, 115]
    · have e := pu_ends_split h2
      generalize L.take (L.length - 3) = P at e
      subst e
      unfold pc_s1a pu_s1a
      rw [if_pos (Or.inr h2)]
      have g : pu_lng (P ++ [105, 101, 115]) pc_E1a 0 none = some (1, [105, 101, 115]) := by
        unfold pc_E1a
        rw [pu_lng_no h1, pu_lng_yes h2, pu_lng_short (by decide), pu_lng_short (by decide)]
        rfl
      rw [g]
      show (P ++ _).take ((P ++ _).length - 3) ++ _ = (P ++ _).take ((P ++ _).length - 2)
      rw [pu_take_cat (by decide), pu_take_cat (by decide), List.append_assoc]
      rfl
    · by_cases h3 : pu_ends L [115, 115]
      · have e := pu_ends_split h3
        generalize L.take (L.length - 2) = P at e
        subst e
        unfold pc_s1a pu_s1a
        rw [if_neg (fun z => z.elim h1 h2), if_neg (fun z => z.2 h3)]
        have g : pu_lng (P ++ [115, 115]) pc_E1a 0 none = some (2, [115, 115]) := by
          unfold pc_E1a
          rw [pu_lng_no h1, pu_lng_no h2, pu_lng_yes h3, pu_lng_short (by decide)]
          rfl
        rw [g]
        show (P ++ _).take ((P ++ _).length - 2) ++ _ = _
        rw [pu_take_cat (by decide), List.append_assoc]
        rfl
      · by_cases h4 : pu_ends L [115]
        · unfold pc_s1a pu_s1a
          rw [if_neg (fun z => z.elim h1 h2), if_pos ⟨h4, h3⟩]
          have g : pu_lng L pc_E1a 0 none = some (3, [115]) := by
            unfold pc_E1a
            rw [pu_lng_no h1, pu_lng_no h2, pu_lng_no h3, pu_lng_yes h4]
            rfl
          rw [g]
          exact List.append_nil _
        · unfold pc_s1a pu_s1a
          rw [if_neg (fun z => z.elim h1 h2), if_neg (fun z => h4 z.1)]
          have g : pu_lng L pc_E1a 0 none = none := by
            unfold pc_E1a
            rw [pu_lng_no h1, pu_lng_no h2, pu_lng_no h3, pu_lng_no h4]
            rfl
          rw [g]
theorem pu_ends1 (L : List Int32) (c : Int32) : pu_ends L [c] ↔ 0 < L.length ∧ L.getD (L.length - 1) 0 = c := by
  constructor
  · intro h
    have e := pu_ends_split h
    generalize L.take (L.length - [c].length) = P at e
    subst e
    simp
  · rintro ⟨h1, h2⟩
    refine ⟨h1, ?_⟩
    rw [List.drop_eq_getElem_cons (by simp; omega)]
    rw [List.getD_eq_getElem?_getD, List.getElem?_eq_getElem (by omega)] at h2
    simp only [Option.getD_some] at h2
    simp only [List.length_cons, List.length_nil]
    rw [h2, List.drop_eq_nil_of_le (by omega)]
theorem pc_mend_eq (L : List Int32) : pc_mend L = pu_s1bm L := by
  unfold pc_mend pu_s1bm
  by_cases h1 : pu_ends L [97, 116] ∨ pu_ends L [98, 108] ∨ pu_ends L [105, 122]
  · rw [if_pos h1, if_pos h1]
  · rw [if_neg h1, if_neg h1]
    have e : (pu_dbl L ∧ ¬ pu_ends L [108] ∧ ¬ pu_ends L [115] ∧ ¬ pu_ends L [122]) ↔ (pu_dbl L ∧ L.getD (L.length - 1) 0 ≠ 108 ∧ L.getD (L.length - 1) 0 ≠ 115 ∧ L.getD (L.length - 1) 0 ≠ 122) := by
      refine and_congr_right fun hd => ?_
      have h0 : 0 < L.length := by have := hd.1; omega
      rw [pu_ends1, pu_ends1, pu_ends1]
      simp only [h0, true_and]
    by_cases h2 : pu_dbl L ∧ ¬ pu_ends L [108] ∧ ¬ pu_ends L [115] ∧ ¬ pu_ends L [122]
    · rw [if_pos h2, if_pos (e.mp h2)]
    · rw [if_neg h2, if_neg (fun z => h2 (e.mpr z))]
theorem pc_s1b_eq (L : List Int32) : pc_s1b L = pu_s1b L := by
  by_cases h1 : pu_ends L [101, 101, 100]
  · have e := pu_ends_split h1
    have g : pu_lng L pc_E1b 0 none = some (0, [101, 101, 100]) := by
      unfold pc_E1b
      rw [pu_lng_yes h1, pu_lng_short (by decide), pu_lng_short (by decide)]
      rfl
    unfold pc_s1b pu_s1b
    rw [g, if_pos h1]
    show (if _ then (if 0 < pu_meas L (L.length - 3) then L.take (L.length - 3) ++ [101, 101] else L) else _) = _
    rw [if_pos rfl]
    have e2 : L.take (L.length - 3) ++ [101, 101] = L.take (L.length - 1) := by
      generalize hP : L.take (L.length - [(101 : Int32), 101, 100].length) = P at e
      subst e
      rw [pu_take_cat (by decide)]
      rfl
    rw [e2]
  · by_cases h2 : pu_ends L [101, 100]
    · have n3 : ¬ pu_ends L [105, 110, 103] := by
        have e := pu_ends_split h2
        intro z
        have e2 := pu_ends_split z
        have a1 := (pu_ends1 L 100).mp (by rw [e]; exact pu_ends_cat (by decide) rfl)
        have a2 := (pu_ends1 L 103).mp (by rw [e2]; exact pu_ends_cat (by decide) rfl)
        exact absurd (a1.2.symm.trans a2.2) (by decide)
      have g : pu_lng L pc_E1b 0 none = some (1, [101, 100]) := by
        unfold pc_E1b
        rw [pu_lng_no h1, pu_lng_yes h2, pu_lng_no n3]
        rfl
      unfold pc_s1b pu_s1b
      rw [g, if_neg h1, if_pos h2]
      show (if _ then _ else if pu_anyV L (L.length - 2) = true then pc_mend (L.take (L.length - 2) ++ []) else L) = _
      rw [if_neg (by decide), List.append_nil, pc_mend_eq]
    · by_cases h3 : pu_ends L [105, 110, 103]
      · have g : pu_lng L pc_E1b 0 none = some (2, [105, 110, 103]) := by
          unfold pc_E1b
          rw [pu_lng_no h1, pu_lng_no h2, pu_lng_yes h3]
          rfl
        unfold pc_s1b pu_s1b
        rw [g, if_neg h1, if_neg h2, if_pos h3]
        show (if _ then _ else if pu_anyV L (L.length - 3) = true then pc_mend (L.take (L.length - 3) ++ []) else L) = _
        rw [if_neg (by decide), List.append_nil, pc_mend_eq]
      · have g : pu_lng L pc_E1b 0 none = none := by
          unfold pc_E1b
          rw [pu_lng_no h1, pu_lng_no h2, pu_lng_no h3]
          rfl
        unfold pc_s1b pu_s1b
        rw [g, if_neg h1, if_neg h2, if_neg h3]
theorem pu_E4_same : ∀ t, t ∈ pu_E4c ↔ t ∈ pu_E4 := by
  have a1 : ∀ t ∈ pu_E4c, t ∈ pu_E4 := by decide +kernel
  have a2 : ∀ t ∈ pu_E4, t ∈ pu_E4c := by decide +kernel
  exact fun t => ⟨a1 t, a2 t⟩
theorem pu_E4_ion : ∀ t ∈ pu_E4, 3 ≤ t.length → t.drop (t.length - 3) = [105, 111, 110] → t = [105, 111, 110] := by decide +kernel
theorem pc_s4_eq (L : List Int32) : pc_s4 L = pu_s4 L := by
  have hs := pu_lng_same L pu_E4_same
  have sp := pu_lng_spec L pu_E4 0 none (fun q hq => by cases hq)
  unfold pc_s4 pu_s4
  cases hE : pu_lng L pu_E4 0 none with
  | none =>
    rw [hE] at hs
    have hC : pu_lng L pu_E4c 0 none = none := by
      cases hC : pu_lng L pu_E4c 0 none with
      | none => rfl
      | some q => rw [hC] at hs; cases hs
    rw [hC]
    simp only [ite_self]
  | some q =>
    rw [hE] at hs
    obtain ⟨a1, a2, a3, -⟩ := sp.1 q hE
    have a2 : q.2 ∈ pu_E4 := by
      rcases a2 with a2 | a2
      · exact a2
      · cases a2
    obtain ⟨r, hC, hr⟩ : ∃ r, pu_lng L pu_E4c 0 none = some r ∧ r.2 = q.2 := by
      cases hC : pu_lng L pu_E4c 0 none with
      | none => rw [hC] at hs; cases hs
      | some r => rw [hC] at hs; exact ⟨r, rfl, Option.some.inj hs⟩
    rw [hC]
    show (if _ then L else if 1 < pu_meas L (L.length - r.2.length) then L.take (L.length - r.2.length) else L) = (if _ then _ else L)
    rw [hr]
    by_cases hi : pu_ends L [105, 111, 110]
    · -- then it is the longest
      have hq : q.2 = [105, 111, 110] := by
        have h3 := a3 [105, 111, 110] (by decide +kernel) hi
        refine pu_E4_ion q.2 a2 h3 ?_
        have b1 := pu_ends_split a1
        rw [b1] at hi
        exact (pu_ends_tail h3).mp hi
      have hlen : 3 ≤ L.length := hi.1
      have key : (pu_ends L [115, 105, 111, 110] ∨ pu_ends L [116, 105, 111, 110]) ↔ (0 < L.length - 3 ∧ (L.getD (L.length - 3 - 1) 0 = 115 ∨ L.getD (L.length - 3 - 1) 0 = 116)) := by
        have b1 := pu_ends_split hi
        generalize hP : L.take (L.length - [(105 : Int32), 111, 110].length) = P at b1
        subst b1
        have l1 : (P ++ [(105 : Int32), 111, 110]).length - 3 = P.length := by simp
        rw [l1]
        have one : ∀ c : Int32, pu_ends (P ++ [(105 : Int32), 111, 110]) (c :: [105, 111, 110]) ↔ (0 < P.length ∧ P.getD (P.length - 1) 0 = c) := by
          intro c
          rw [← pu_ends1]
          constructor
          · intro z
            have b2 := pu_ends_split z
            have b3 : P ++ [(105 : Int32), 111, 110] = (List.take ((P ++ [(105 : Int32), 111, 110]).length - (c :: [(105 : Int32), 111, 110]).length) (P ++ [(105 : Int32), 111, 110]) ++ [c]) ++ [(105 : Int32), 111, 110] := by
              rw [List.append_assoc]
              exact b2
            have b4 := List.append_cancel_right b3
            rw [b4]
            exact pu_ends_app _ _
          · intro z
            have b2 := pu_ends_split z
            generalize List.take (P.length - [c].length) P = P2 at b2
            rw [b2, List.append_assoc]
            exact pu_ends_app _ _
        have gd : ∀ h : 0 < P.length, (P ++ [(105 : Int32), 111, 110]).getD (P.length - 1) 0 = P.getD (P.length - 1) 0 := by
          intro h
          rw [List.getD_eq_getElem?_getD, List.getD_eq_getElem?_getD, List.getElem?_append_left (by omega)]
        rw [one 115, one 116]
        constructor
        · rintro (⟨z1, z2⟩ | ⟨z1, z2⟩)
          · exact ⟨z1, Or.inl (by rw [gd z1]; exact z2)⟩
          · exact ⟨z1, Or.inr (by rw [gd z1]; exact z2)⟩
        · rintro ⟨z1, z2⟩
          rw [gd z1] at z2
          exact z2.imp (fun z => ⟨z1, z⟩) (fun z => ⟨z1, z⟩)
      rw [hq]
      show (if _ then L else if 1 < pu_meas L (L.length - 3) then L.take (L.length - 3) else L) = (if (_ → 0 < L.length - 3 ∧ (L.getD (L.length - 3 - 1) 0 = 115 ∨ L.getD (L.length - 3 - 1) 0 = 116)) ∧ 1 < pu_meas L (L.length - 3) then L.take (L.length - 3) else L)
      by_cases hk : pu_ends L [115, 105, 111, 110] ∨ pu_ends L [116, 105, 111, 110]
      · rw [if_neg (fun z => hk.elim z.2.1 z.2.2)]
        by_cases hm : 1 < pu_meas L (L.length - 3)
        · rw [if_pos hm, if_pos ⟨fun _ => key.mp hk, hm⟩]
        · rw [if_neg hm, if_neg (fun z => hm z.2)]
      · rw [if_pos ⟨hi, fun z => hk (Or.inl z), fun z => hk (Or.inr z)⟩, if_neg (fun z => hk (key.mpr (z.1 rfl)))]
    · rw [if_neg (fun z => hi z.1)]
      have hq : ¬ q.2 = [105, 111, 110] := fun z => hi (z ▸ a1)
      by_cases hm : 1 < pu_meas L (L.length - q.2.length)
      · rw [if_pos hm, if_pos ⟨fun z => absurd z hq, hm⟩]
      · rw [if_neg hm, if_neg (fun z => hm z.2)]
