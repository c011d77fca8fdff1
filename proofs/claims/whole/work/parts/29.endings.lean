/-! CONTRACTS: Stemmer, 2: endings -/
/-- a row of endings among the cells: n of them, their texts and substitutes by the numbers tx, sb -/
def sv_EA (g : sv_G) (rest : va_W) (aa n : Nat) (tx sb : Nat → Nat) : Prop := ∃ (fa : Nat → Option Nat) (ea : Nat → Nat), ((aa, Sum.inl (g.2.1 4, n, .inr (.inr (.inr (.inr fa))))) : Nat × va_E) ∈ rest ∧ ∀ k, k < n → fa k = some (ea k) ∧ (((ea k, Sum.inr (0, [.ref (g.2.2.1 (tx k)), .ref (g.2.2.1 (sb k))])) : Nat × va_E) ∈ rest) ∧ tx k < sv_nS ∧ sb k < sv_nS ∧ 1 ≤ (sv_txt (tx k)).length
def sv_EL (tx : Nat → Nat) (n : Nat) : List (List Int32) := (List.range n).map (fun k => sv_txt (tx k))
theorem sv_EL_len (tx : Nat → Nat) (n : Nat) : (sv_EL tx n).length = n := by simp [sv_EL]
theorem sv_EL_drop {tx : Nat → Nat} {n j : Nat} (h : j < n) : (sv_EL tx n).drop j = sv_txt (tx j) :: (sv_EL tx n).drop (j + 1) := by
  rw [List.drop_eq_getElem_cons (by rw [sv_EL_len]; exact h)]
  simp [sv_EL]
def sv_Found (g : sv_G) (rest : va_W) (tx sb : Nat → Nat) (n : Nat) (r : Option Nat) (o : Option (Nat × List Int32)) : Prop := match o with
  | none => r = none
  | some q => ∃ a : Nat, r = some a ∧ (((a, Sum.inr (0, [.ref (g.2.2.1 (tx q.1)), .ref (g.2.2.1 (sb q.1))])) : Nat × va_E) ∈ rest) ∧ q.1 < n ∧ q.2 = sv_txt (tx q.1)
/-- the longest ending off, another in its place, if what stays measures more than the bound -/
def pc_repl (tx sb : Nat → Nat) (n bound : Nat) (L : List Int32) : List Int32 := match pu_lng L (sv_EL tx n) 0 none with
  | some q => if bound < pu_meas L (L.length - q.2.length) then L.take (L.length - q.2.length) ++ sv_txt (sb q.1) else L
  | none => L
def tx_1a : Nat → Nat := fun k => [1, 3, 2, 5].getD k 0
def sb_1a : Nat → Nat := fun k => [2, 4, 2, 6].getD k 0
theorem te_1a : sv_EL tx_1a 4 = pc_E1a := by decide +kernel
theorem ts_1a : ∀ k, k < 4 → sv_txt (sb_1a k) = pc_S1a.getD k [] := by decide +kernel
theorem tl_1a : ∀ k, k < 4 → (sv_txt (sb_1a k)).length ≤ (sv_txt (tx_1a k)).length := by decide +kernel
def tx_1b : Nat → Nat := fun k => [7, 9, 10].getD k 0
def sb_1b : Nat → Nat := fun k => [8, 6, 6].getD k 0
theorem te_1b : sv_EL tx_1b 3 = pc_E1b := by decide +kernel
theorem ts_1b : ∀ k, k < 3 → sv_txt (sb_1b k) = pc_S1b.getD k [] := by decide +kernel
theorem tl_1b : ∀ k, k < 3 → (sv_txt (sb_1b k)).length ≤ (sv_txt (tx_1b k)).length := by decide +kernel
def tx_2 : Nat → Nat := fun k => [11, 13, 15, 17, 19, 21, 23, 25, 27, 29, 31, 32, 33, 34, 35, 37, 39, 40, 41, 42].getD k 0
def sb_2 : Nat → Nat := fun k => [12, 14, 16, 18, 20, 22, 24, 26, 28, 30, 20, 12, 12, 24, 36, 38, 30, 24, 36, 43].getD k 0
theorem te_2 : sv_EL tx_2 20 = pu_E2 := by decide +kernel
theorem ts_2 : ∀ k, k < 20 → sv_txt (sb_2 k) = pu_S2.getD k [] := by decide +kernel
theorem tl_2 : ∀ k, k < 20 → (sv_txt (sb_2 k)).length ≤ (sv_txt (tx_2 k)).length := by decide +kernel
def tx_3 : Nat → Nat := fun k => [44, 46, 47, 48, 49, 38, 50].getD k 0
def sb_3 : Nat → Nat := fun k => [45, 6, 24, 45, 45, 6, 6].getD k 0
theorem te_3 : sv_EL tx_3 7 = pu_E3 := by decide +kernel
theorem ts_3 : ∀ k, k < 7 → sv_txt (sb_3 k) = pu_S3.getD k [] := by decide +kernel
theorem tl_3 : ∀ k, k < 7 → (sv_txt (sb_3 k)).length ≤ (sv_txt (tx_3 k)).length := by decide +kernel
def tx_4 : Nat → Nat := fun k => [24, 18, 16, 51, 45, 22, 52, 53, 54, 55, 26, 56, 57, 58, 12, 59, 30, 36, 20].getD k 0
def sb_4 : Nat → Nat := fun k => [6, 6, 6, 6, 6, 6, 6, 6, 6, 6, 6, 6, 6, 6, 6, 6, 6, 6, 6].getD k 0
theorem te_4 : sv_EL tx_4 19 = pu_E4c := by decide +kernel
theorem ts_4 : ∀ k, k < 19 → sv_txt (sb_4 k) = [] := by decide +kernel
theorem tl_4 : ∀ k, k < 19 → (sv_txt (sb_4 k)).length ≤ (sv_txt (tx_4 k)).length := by decide +kernel
def rm_Sm_longest : Room := { frames := 7, cells := 0, slots := 0, locals := 209 }
set_option maxHeartbeats 4000000 in
set_option maxRecDepth 100000 in
theorem c_Sm_longest (l : Launch) (g : sv_G) (rest : va_W) (hS hW hwc hv x1 x2 x3 x4 x5 : Nat) (f v : Nat → Int32) (L : List Int32) (hL : L.length ≤ 255) (hf : pr_W f L) (hV : pr_V v L) (aa n : Nat) (tx sb : Nat → Nat) (hE0 : sv_EA g rest aa n tx sb) (hn : n ≤ 20) : sv_Mq l y_Sm_longest b_Sm_longest 6 (some (.object "WordChain$Ending")) rm_Sm_longest g [.ref hS, .ref aa] ((hS, .inr (2, [.ref hW, .ref hv, .ref x1, .ref x2, .ref x3, .ref x4, .ref x5])) :: (hW, .inr (5, [.ref hwc, .int (nI L.length)])) :: (hwc, .inl (g.2.1 0, 255, .inl f)) :: (hv, .inl (g.2.1 2, 255, .inl v)) :: rest) (fun r w => w = ((hS, .inr (2, [.ref hW, .ref hv, .ref x1, .ref x2, .ref x3, .ref x4, .ref x5])) :: (hW, .inr (5, [.ref hwc, .int (nI L.length)])) :: (hwc, .inl (g.2.1 0, 255, .inl f)) :: (hv, .inl (g.2.1 2, 255, .inl v)) :: rest) ∧ sv_Found g rest tx sb n r (pu_lng L (sv_EL tx n) 0 none)) := by
  obtain ⟨fa, ea, hA, hE⟩ := hE0
  refine sv_enter_q (by decide) rfl (Or.inl ⟨_, rfl⟩) rfl (Nat.le_of_ble_eq_true rfl) (fun X C hI hr => ?_)
  refine sv_lvE (lv' := [some _, some _, none, none, none, none]) rfl ?_
  have L4 : ∀ (k : Nat) (j : Nat) (b : Option (Nat × List Int32)) (o4 o5 : Option Value), (j ≤ n ∧ n ≤ j + k ∧ (∀ q, b = some q → q.1 < n ∧ q.2 = sv_txt (tx q.1)) ∧ pu_lng L (sv_EL tx n) 0 none = pu_lng L ((sv_EL tx n).drop j) j b) → sv_V X 6 0 0 ((hS, .inr (2, [.ref hW, .ref hv, .ref x1, .ref x2, .ref x3, .ref x4, .ref x5])) :: (hW, .inr (5, [.ref hwc, .int (nI L.length)])) :: (hwc, .inl (g.2.1 0, 255, .inl f)) :: (hv, .inl (g.2.1 2, 255, .inl v)) :: rest) 4 [some (.ref hS), some (.ref aa), some (va_rf (b.map (fun q => ea q.1))), some (.int (nI j)), o4, o5] [] := by
    intro k
    induction k with
    | zero =>
      intro j b o4 o5 hq
      obtain ⟨q1, q2, q3, q4⟩ := hq
      rcases b with _ | ⟨qi, qt⟩
      · skip
        refine sv_iload_n C rfl rfl d_Sm_longest_4 ?_
        refine sv_aload_n C rfl rfl d_Sm_longest_5 ?_
        refine sv_alen C (t0 := 4) (v := nI n) rfl (List.mem_cons_of_mem _ (List.mem_cons_of_mem _ (List.mem_cons_of_mem _ (List.mem_cons_of_mem _ hA)))) rfl d_Sm_longest_6 ?_
        refine sv_icmpN_ge C _ _ (by omega) (by omega) 73 (by decide) d_Sm_longest_7 (fun c7 => ?_) (fun c7 => ?_)
        · skip
          refine sv_aload_nN C rfl rfl d_Sm_longest_73 ?_
          refine hr _ _ _ none d_Sm_longest_74 ⟨rfl, ?_⟩
          rw [q4, List.drop_eq_nil_of_le (by rw [sv_EL_len]; omega)]
          exact rfl
        · skip
          exact absurd c7 (by omega)
      · skip
        obtain ⟨b1, b2⟩ := q3 (qi, qt) rfl
        have hbq := hE qi b1
        have hlb := sv_len hbq.2.2.1
        refine sv_iload_n C rfl rfl d_Sm_longest_4 ?_
        refine sv_aload_n C rfl rfl d_Sm_longest_5 ?_
        refine sv_alen C (t0 := 4) (v := nI n) rfl (List.mem_cons_of_mem _ (List.mem_cons_of_mem _ (List.mem_cons_of_mem _ (List.mem_cons_of_mem _ hA)))) rfl d_Sm_longest_6 ?_
        refine sv_icmpN_ge C _ _ (by omega) (by omega) 73 (by decide) d_Sm_longest_7 (fun c7 => ?_) (fun c7 => ?_)
        · skip
          refine sv_aload_n C rfl rfl d_Sm_longest_73 ?_
          refine hr _ _ _ (some (ea qi)) d_Sm_longest_74 ⟨rfl, ?_⟩
          rw [q4, List.drop_eq_nil_of_le (by rw [sv_EL_len]; omega)]
          exact ⟨ea qi, rfl, hbq.2.1, b1, b2⟩
        · skip
          exact absurd c7 (by omega)
    | succ k ih =>
      intro j b o4 o5 hq
      obtain ⟨q1, q2, q3, q4⟩ := hq
      rcases b with _ | ⟨qi, qt⟩
      · skip
        refine sv_iload_n C rfl rfl d_Sm_longest_4 ?_
        refine sv_aload_n C rfl rfl d_Sm_longest_5 ?_
        refine sv_alen C (t0 := 4) (v := nI n) rfl (List.mem_cons_of_mem _ (List.mem_cons_of_mem _ (List.mem_cons_of_mem _ (List.mem_cons_of_mem _ hA)))) rfl d_Sm_longest_6 ?_
        refine sv_icmpN_ge C _ _ (by omega) (by omega) 73 (by decide) d_Sm_longest_7 (fun c7 => ?_) (fun c7 => ?_)
        · skip
          refine sv_aload_nN C rfl rfl d_Sm_longest_73 ?_
          refine hr _ _ _ none d_Sm_longest_74 ⟨rfl, ?_⟩
          rw [q4, List.drop_eq_nil_of_le (by rw [sv_EL_len]; omega)]
          exact rfl
        · skip
          have hj := hE j (by omega)
          have hlj := sv_len hj.2.2.1
          refine sv_aload_n C rfl rfl d_Sm_longest_10 ?_
          refine sv_iload_n C rfl rfl d_Sm_longest_11 ?_
          refine sv_aaldEN C _ (List.mem_cons_of_mem _ (List.mem_cons_of_mem _ (List.mem_cons_of_mem _ (List.mem_cons_of_mem _ hA)))) (by omega) (by omega) d_Sm_longest_12 ?_
          refine sv_eqv (w := .ref (ea j)) (by rw [hj.1]; rfl) ?_
          refine sv_astore C (by decide) [some _, some _, some _, some _, some _, _] rfl d_Sm_longest_13 ?_
          refine sv_aload_nN C rfl rfl d_Sm_longest_15 ?_
          refine sv_ifnullN C 37 (by decide) d_Sm_longest_16 ?_
          refine sv_iconst C (v := 1) (by decide) d_Sm_longest_37 ?_
          refine sv_goto C 42 (by decide) d_Sm_longest_38 ?_
          refine sv_istore C (by decide) [some _, some _, some _, some _, some _, some _] rfl d_Sm_longest_42 ?_
          refine sv_iload C rfl d_Sm_longest_44 ?_
          refine sv_ifZ_eq C 67 (by decide) d_Sm_longest_46 (fun c46 => ?_) (fun c46 => ?_)
          · skip
            exact absurd c46 (by decide)
          · skip
            refine sv_aload_n C rfl rfl d_Sm_longest_49 ?_
            refine sv_get C fg_Sm_153 0 rfl rfl d_Sm_longest_50 ?_
            refine sv_aload C rfl d_Sm_longest_53 ?_
            refine sv_getM C fg_Sm_210 (List.mem_cons_of_mem _ (List.mem_cons_of_mem _ (List.mem_cons_of_mem _ (List.mem_cons_of_mem _ hj.2.1)))) rfl d_Sm_longest_55 ?_
            refine sv_rot [1, 2, 0, 3] [_, _, _, _] [_, _, _, _] _ (_ :: _ :: _ :: _ :: _) rfl rfl rfl rfl ?_
            refine sv_callVi C (c_Wo_endsWith l g ((hS, .inr (2, [.ref hW, .ref hv, .ref x1, .ref x2, .ref x3, .ref x4, .ref x5])) :: (hv, .inl (g.2.1 2, 255, .inl v)) :: rest) hW hwc f L hL hf (tx j) hj.2.2.1 hj.2.2.2.2) lk_Sm_232 List.mem_cons_self rfl d_Sm_longest_58 (by decide) (Nat.le_of_ble_eq_true rfl) (by decide) (fun r w hw => ?_)
            obtain ⟨rfl, rfl⟩ := hw
            refine sv_ifB_eq C _ 67 (by decide) d_Sm_longest_61 (fun c61 => ?_) (fun c61 => ?_)
            · skip
              refine sv_iincN C 1 _ rfl [some _, some _, some _, some _, some _, some _] rfl d_Sm_longest_67 ?_
              refine sv_goto C 4 (by decide) d_Sm_longest_70 ?_
              refine sv_rot [2, 0, 1, 3] [_, _, _, _] [_, _, _, _] _ (_ :: _ :: _ :: _ :: _) rfl rfl rfl rfl ?_
              first
                | exact ih (j + 1) (some (j, sv_txt (tx j))) _ _ ⟨by omega, by omega, fun q hq => by cases hq; exact ⟨by omega, rfl⟩, by rw [q4, sv_EL_drop (by omega), pu_lng, if_pos ⟨c61, fun q hq => by cases hq⟩]⟩
                | exact ih (j + 1) none _ _ ⟨by omega, by omega, q3, by rw [q4, sv_EL_drop (by omega), pu_lng, if_neg (fun z => by first | exact c61 z.1 | exact c61 z.1)]⟩
            · skip
              refine sv_aload C rfl d_Sm_longest_64 ?_
              refine sv_astore_n C rfl (by decide) [some _, some _, some _, some _, some _, some _] rfl d_Sm_longest_66 ?_
              refine sv_iincN C 1 _ rfl [some _, some _, some _, some _, some _, some _] rfl d_Sm_longest_67 ?_
              refine sv_goto C 4 (by decide) d_Sm_longest_70 ?_
              refine sv_rot [2, 0, 1, 3] [_, _, _, _] [_, _, _, _] _ (_ :: _ :: _ :: _ :: _) rfl rfl rfl rfl ?_
              first
                | exact ih (j + 1) (some (j, sv_txt (tx j))) _ _ ⟨by omega, by omega, fun q hq => by cases hq; exact ⟨by omega, rfl⟩, by rw [q4, sv_EL_drop (by omega), pu_lng, if_pos ⟨c61, fun q hq => by cases hq⟩]⟩
                | exact ih (j + 1) none _ _ ⟨by omega, by omega, q3, by rw [q4, sv_EL_drop (by omega), pu_lng, if_neg (fun z => by first | exact c61 z.1 | exact c61 z.1)]⟩
      · skip
        obtain ⟨b1, b2⟩ := q3 (qi, qt) rfl
        have hbq := hE qi b1
        have hlb := sv_len hbq.2.2.1
        refine sv_iload_n C rfl rfl d_Sm_longest_4 ?_
        refine sv_aload_n C rfl rfl d_Sm_longest_5 ?_
        refine sv_alen C (t0 := 4) (v := nI n) rfl (List.mem_cons_of_mem _ (List.mem_cons_of_mem _ (List.mem_cons_of_mem _ (List.mem_cons_of_mem _ hA)))) rfl d_Sm_longest_6 ?_
        refine sv_icmpN_ge C _ _ (by omega) (by omega) 73 (by decide) d_Sm_longest_7 (fun c7 => ?_) (fun c7 => ?_)
        · skip
          refine sv_aload_n C rfl rfl d_Sm_longest_73 ?_
          refine hr _ _ _ (some (ea qi)) d_Sm_longest_74 ⟨rfl, ?_⟩
          rw [q4, List.drop_eq_nil_of_le (by rw [sv_EL_len]; omega)]
          exact ⟨ea qi, rfl, hbq.2.1, b1, b2⟩
        · skip
          have hj := hE j (by omega)
          have hlj := sv_len hj.2.2.1
          refine sv_aload_n C rfl rfl d_Sm_longest_10 ?_
          refine sv_iload_n C rfl rfl d_Sm_longest_11 ?_
          refine sv_aaldEN C _ (List.mem_cons_of_mem _ (List.mem_cons_of_mem _ (List.mem_cons_of_mem _ (List.mem_cons_of_mem _ hA)))) (by omega) (by omega) d_Sm_longest_12 ?_
          refine sv_eqv (w := .ref (ea j)) (by rw [hj.1]; rfl) ?_
          refine sv_astore C (by decide) [some _, some _, some _, some _, some _, _] rfl d_Sm_longest_13 ?_
          refine sv_aload_n C rfl rfl d_Sm_longest_15 ?_
          refine sv_ifnull C d_Sm_longest_16 ?_
          refine sv_aload C rfl d_Sm_longest_19 ?_
          refine sv_getM C fg_Sm_210 (List.mem_cons_of_mem _ (List.mem_cons_of_mem _ (List.mem_cons_of_mem _ (List.mem_cons_of_mem _ hj.2.1)))) rfl d_Sm_longest_21 ?_
          refine sv_callVsi C (tx j) hj.2.2.1 (c_Str_length l g _ (tx j) hj.2.2.1) lk_Sm_256 rfl d_Sm_longest_24 (by decide) (Nat.le_of_ble_eq_true rfl) (by decide) (fun r w hw => ?_)
          obtain ⟨rfl, rfl⟩ := hw
          refine sv_aload_n C rfl rfl d_Sm_longest_27 ?_
          refine sv_getM C fg_Sm_210 (List.mem_cons_of_mem _ (List.mem_cons_of_mem _ (List.mem_cons_of_mem _ (List.mem_cons_of_mem _ hbq.2.1)))) rfl d_Sm_longest_28 ?_
          refine sv_callVsi C (tx qi) hbq.2.2.1 (c_Str_length l g _ (tx qi) hbq.2.2.1) lk_Sm_256 rfl d_Sm_longest_31 (by decide) (Nat.le_of_ble_eq_true rfl) (by decide) (fun r w hw => ?_)
          obtain ⟨rfl, rfl⟩ := hw
          refine sv_icmpN_le C _ _ (by omega) (by omega) 41 (by decide) d_Sm_longest_34 (fun c34 => ?_) (fun c34 => ?_)
          · skip
            refine sv_iconst C (v := 0) (by decide) d_Sm_longest_41 ?_
            refine sv_istore C (by decide) [some _, some _, some _, some _, some _, some _] rfl d_Sm_longest_42 ?_
            refine sv_iload C rfl d_Sm_longest_44 ?_
            refine sv_ifZ_eq C 67 (by decide) d_Sm_longest_46 (fun c46 => ?_) (fun c46 => ?_)
            · skip
              refine sv_iincN C 1 _ rfl [some _, some _, some _, some _, some _, some _] rfl d_Sm_longest_67 ?_
              refine sv_goto C 4 (by decide) d_Sm_longest_70 ?_
              first
                | exact ih (j + 1) (some (j, sv_txt (tx j))) _ _ ⟨by omega, by omega, fun q hq => by cases hq; exact ⟨by omega, rfl⟩, by rw [q4, sv_EL_drop (by omega), pu_lng, if_pos ⟨c61, fun q hq => by cases hq; show qt.length < _; rw [show qt = sv_txt (tx qi) from b2]; exact c34⟩]⟩
                | exact ih (j + 1) (some (qi, qt)) _ _ ⟨by omega, by omega, q3, by rw [q4, sv_EL_drop (by omega), pu_lng, if_neg (fun z => by first | exact c61 z.1 | exact absurd (z.2 (qi, qt) rfl) (by show ¬ qt.length < _; rw [show qt = sv_txt (tx qi) from b2]; omega))]⟩
            · skip
              exact absurd c46 (by decide)
          · skip
            refine sv_iconst C (v := 1) (by decide) d_Sm_longest_37 ?_
            refine sv_goto C 42 (by decide) d_Sm_longest_38 ?_
            refine sv_istore C (by decide) [some _, some _, some _, some _, some _, some _] rfl d_Sm_longest_42 ?_
            refine sv_iload C rfl d_Sm_longest_44 ?_
            refine sv_ifZ_eq C 67 (by decide) d_Sm_longest_46 (fun c46 => ?_) (fun c46 => ?_)
            · skip
              exact absurd c46 (by decide)
            · skip
              refine sv_aload_n C rfl rfl d_Sm_longest_49 ?_
              refine sv_get C fg_Sm_153 0 rfl rfl d_Sm_longest_50 ?_
              refine sv_aload C rfl d_Sm_longest_53 ?_
              refine sv_getM C fg_Sm_210 (List.mem_cons_of_mem _ (List.mem_cons_of_mem _ (List.mem_cons_of_mem _ (List.mem_cons_of_mem _ hj.2.1)))) rfl d_Sm_longest_55 ?_
              refine sv_rot [1, 2, 0, 3] [_, _, _, _] [_, _, _, _] _ (_ :: _ :: _ :: _ :: _) rfl rfl rfl rfl ?_
              refine sv_callVi C (c_Wo_endsWith l g ((hS, .inr (2, [.ref hW, .ref hv, .ref x1, .ref x2, .ref x3, .ref x4, .ref x5])) :: (hv, .inl (g.2.1 2, 255, .inl v)) :: rest) hW hwc f L hL hf (tx j) hj.2.2.1 hj.2.2.2.2) lk_Sm_232 List.mem_cons_self rfl d_Sm_longest_58 (by decide) (Nat.le_of_ble_eq_true rfl) (by decide) (fun r w hw => ?_)
              obtain ⟨rfl, rfl⟩ := hw
              refine sv_ifB_eq C _ 67 (by decide) d_Sm_longest_61 (fun c61 => ?_) (fun c61 => ?_)
              · skip
                refine sv_iincN C 1 _ rfl [some _, some _, some _, some _, some _, some _] rfl d_Sm_longest_67 ?_
                refine sv_goto C 4 (by decide) d_Sm_longest_70 ?_
                refine sv_rot [2, 0, 1, 3] [_, _, _, _] [_, _, _, _] _ (_ :: _ :: _ :: _ :: _) rfl rfl rfl rfl ?_
                first
                  | exact ih (j + 1) (some (j, sv_txt (tx j))) _ _ ⟨by omega, by omega, fun q hq => by cases hq; exact ⟨by omega, rfl⟩, by rw [q4, sv_EL_drop (by omega), pu_lng, if_pos ⟨c61, fun q hq => by cases hq; show qt.length < _; rw [show qt = sv_txt (tx qi) from b2]; exact c34⟩]⟩
                  | exact ih (j + 1) (some (qi, qt)) _ _ ⟨by omega, by omega, q3, by rw [q4, sv_EL_drop (by omega), pu_lng, if_neg (fun z => by first | exact c61 z.1 | exact absurd (z.2 (qi, qt) rfl) (by show ¬ qt.length < _; rw [show qt = sv_txt (tx qi) from b2]; omega))]⟩
              · skip
                refine sv_aload C rfl d_Sm_longest_64 ?_
                refine sv_astore_n C rfl (by decide) [some _, some _, some _, some _, some _, some _] rfl d_Sm_longest_66 ?_
                refine sv_iincN C 1 _ rfl [some _, some _, some _, some _, some _, some _] rfl d_Sm_longest_67 ?_
                refine sv_goto C 4 (by decide) d_Sm_longest_70 ?_
                refine sv_rot [2, 0, 1, 3] [_, _, _, _] [_, _, _, _] _ (_ :: _ :: _ :: _ :: _) rfl rfl rfl rfl ?_
                first
                  | exact ih (j + 1) (some (j, sv_txt (tx j))) _ _ ⟨by omega, by omega, fun q hq => by cases hq; exact ⟨by omega, rfl⟩, by rw [q4, sv_EL_drop (by omega), pu_lng, if_pos ⟨c61, fun q hq => by cases hq; show qt.length < _; rw [show qt = sv_txt (tx qi) from b2]; exact c34⟩]⟩
                  | exact ih (j + 1) (some (qi, qt)) _ _ ⟨by omega, by omega, q3, by rw [q4, sv_EL_drop (by omega), pu_lng, if_neg (fun z => by first | exact c61 z.1 | exact absurd (z.2 (qi, qt) rfl) (by show ¬ qt.length < _; rw [show qt = sv_txt (tx qi) from b2]; omega))]⟩
  refine sv_null C d_Sm_longest_0 ?_
  refine sv_astore_nN C rfl (by decide) [some _, some _, some _, none, none, none] rfl d_Sm_longest_1 ?_
  refine sv_iconst C (v := 0) (by decide) d_Sm_longest_2 ?_
  refine sv_istore_n C rfl (by decide) [some _, some _, some _, some _, none, none] rfl d_Sm_longest_3 ?_
  exact L4 n 0 none none none ⟨by omega, by omega, fun q hq => (by cases hq), rfl⟩

def rm_Sm_stemBefore : Room := { frames := 2, cells := 0, slots := 0, locals := 40 }
set_option maxHeartbeats 4000000 in
set_option maxRecDepth 100000 in
theorem c_Sm_stemBefore (l : Launch) (g : sv_G) (rest : va_W) (hS hW hwc hv x1 x2 x3 x4 x5 : Nat) (f v : Nat → Int32) (L : List Int32) (hL : L.length ≤ 255) (hf : pr_W f L) (hV : pr_V v L) (a t s : Nat) (hm : (((a, Sum.inr (0, [.ref (g.2.2.1 (t)), .ref (g.2.2.1 (s))])) : Nat × va_E) ∈ rest)) (ht : t < sv_nS) (hle : (sv_txt t).length ≤ L.length) : sv_Mi l y_Sm_stemBefore b_Sm_stemBefore 2 (some (.int)) rm_Sm_stemBefore g [.ref hS, .ref a] ((hS, .inr (2, [.ref hW, .ref hv, .ref x1, .ref x2, .ref x3, .ref x4, .ref x5])) :: (hW, .inr (5, [.ref hwc, .int (nI L.length)])) :: (hwc, .inl (g.2.1 0, 255, .inl f)) :: (hv, .inl (g.2.1 2, 255, .inl v)) :: rest) (fun r w => r = nI (L.length - (sv_txt t).length) ∧ w = ((hS, .inr (2, [.ref hW, .ref hv, .ref x1, .ref x2, .ref x3, .ref x4, .ref x5])) :: (hW, .inr (5, [.ref hwc, .int (nI L.length)])) :: (hwc, .inl (g.2.1 0, 255, .inl f)) :: (hv, .inl (g.2.1 2, 255, .inl v)) :: rest)) := by
  refine sv_enter_i (by decide) rfl rfl (Nat.le_of_ble_eq_true rfl) (fun X C hI hr => ?_)
  refine sv_lvE (lv' := [some _, some _]) rfl ?_
  refine sv_aload_n C rfl rfl d_Sm_stemBefore_0 ?_
  refine sv_get C fg_Sm_153 0 rfl rfl d_Sm_stemBefore_1 ?_
  refine sv_get C fg_Sm_161 1 rfl rfl d_Sm_stemBefore_4 ?_
  refine sv_aload_n C rfl rfl d_Sm_stemBefore_7 ?_
  refine sv_getM C fg_Sm_210 (List.mem_cons_of_mem _ (List.mem_cons_of_mem _ (List.mem_cons_of_mem _ (List.mem_cons_of_mem _ hm)))) rfl d_Sm_stemBefore_8 ?_
  refine sv_callVsi C t ht (c_Str_length l g _ t ht) lk_Sm_256 rfl d_Sm_stemBefore_11 (by decide) (Nat.le_of_ble_eq_true rfl) (by decide) (fun r w hw => ?_)
  obtain ⟨rfl, rfl⟩ := hw
  refine sv_isubN C _ _ (by omega) d_Sm_stemBefore_14 ?_
  exact hr _ _ _ _ d_Sm_stemBefore_15 rfl ⟨rfl, rfl⟩

def rm_Sm_become : Room := { frames := 7, cells := 0, slots := 0, locals := 208 }
set_option maxHeartbeats 4000000 in
set_option maxRecDepth 100000 in
theorem c_Sm_become (l : Launch) (g : sv_G) (rest : va_W) (hS hW hwc hv x1 x2 x3 x4 x5 : Nat) (f v : Nat → Int32) (L : List Int32) (hL : L.length ≤ 255) (hf : pr_W f L) (m i : Nat) (hm : m ≤ L.length) (hi : i < sv_nS) (hc : m + (sv_txt i).length ≤ 255) : sv_Mv l y_Sm_become b_Sm_become 3 none rm_Sm_become g [.ref hS, .int (nI m), .ref (g.2.2.1 i)] ((hS, .inr (2, [.ref hW, .ref hv, .ref x1, .ref x2, .ref x3, .ref x4, .ref x5])) :: (hW, .inr (5, [.ref hwc, .int (nI L.length)])) :: (hwc, .inl (g.2.1 0, 255, .inl f)) :: (hv, .inl (g.2.1 2, 255, .inl v)) :: rest) (fun w => ∃ f2 v2 : Nat → Int32, w = ((hS, .inr (2, [.ref hW, .ref hv, .ref x1, .ref x2, .ref x3, .ref x4, .ref x5])) :: (hW, .inr (5, [.ref hwc, .int (nI (L.take m ++ sv_txt i).length)])) :: (hwc, .inl (g.2.1 0, 255, .inl f2)) :: (hv, .inl (g.2.1 2, 255, .inl v2)) :: rest) ∧ pr_W f2 (L.take m ++ sv_txt i) ∧ pr_V v2 (L.take m ++ sv_txt i)) := by
  have hlt : (L.take m).length = m := by rw [List.length_take]; omega
  refine sv_enter_v (by decide) rfl rfl (Nat.le_of_ble_eq_true rfl) (fun X C hI hr => ?_)
  refine sv_lvE (lv' := [some _, some _, some _]) rfl ?_
  refine sv_aload_n C rfl rfl d_Sm_become_0 ?_
  refine sv_get C fg_Sm_153 0 rfl rfl d_Sm_become_1 ?_
  refine sv_iload_n C rfl rfl d_Sm_become_4 ?_
  refine sv_put C fp_Sm_161 1 rfl rfl rfl (Nat.le_of_ble_eq_true rfl) (_ :: (_, .inr (_, [_, _])) :: _ :: _ :: _) rfl d_Sm_become_5 ?_
  refine sv_aload_n C rfl rfl d_Sm_become_8 ?_
  refine sv_get C fg_Sm_153 0 rfl rfl d_Sm_become_9 ?_
  refine sv_aload_n C rfl rfl d_Sm_become_12 ?_
  have M0 := c_Wo_append l g ((hS, .inr (2, [.ref hW, .ref hv, .ref x1, .ref x2, .ref x3, .ref x4, .ref x5])) :: (hv, .inl (g.2.1 2, 255, .inl v)) :: rest) hW hwc f (L.take m) (by omega) (pr_take hf m) i hi (by omega)
  rw [hlt] at M0
  refine sv_rot [1, 2, 0, 3] [_, _, _, _] [_, _, _, _] _ (_ :: _ :: _ :: _ :: _) rfl rfl rfl rfl ?_
  refine sv_callVv C M0 lk_Sm_259 List.mem_cons_self rfl d_Sm_become_13 (by decide) (Nat.le_of_ble_eq_true rfl) (by decide) (fun w hw => ?_)
  obtain ⟨f2, rfl, hf2⟩ := hw
  refine sv_aload_n C rfl rfl d_Sm_become_16 ?_
  refine sv_rot [2, 0, 1, 3] [_, _, _, _] [_, _, _, _] _ (_ :: _ :: _ :: _ :: _) rfl rfl rfl rfl ?_
  refine sv_callVv C (c_Sm_markVowels l g rest hS hW hwc hv x1 x2 x3 x4 x5 f2 v (L.take m ++ sv_txt i) (by rw [List.length_append]; omega) hf2) lk_Sm_169 List.mem_cons_self rfl d_Sm_become_17 (by decide) (Nat.le_of_ble_eq_true rfl) (by decide) (fun w hw => ?_)
  obtain ⟨v2, rfl, hV2⟩ := hw
  exact hr _ _ _ d_Sm_become_20 ⟨f2, v2, rfl, hf2, hV2⟩
