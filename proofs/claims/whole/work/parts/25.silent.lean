/-! CONTRACTS: SilentWords -/
theorem pu_wl {q : Nat} {c : Int32} (h : 97 ≤ c.toInt ∧ c.toInt ≤ 122) (hq : q < 33554432) : nI q * 32 + c - 97 + 1 = nI (q * 32 + pu_dig c) := by
  obtain ⟨d1, d2, d3⟩ := pu_dig_in h
  have e1 : c = nI (pu_dig c + 96) := by
    apply Int32.toInt_inj.mp
    rw [nI_toInt (by omega)]
    omega
  have e2 : nI q * 32 + c - 97 + 1 = nI q * nI 32 + nI (pu_dig c + 96) - nI 97 + nI 1 := by rw [← e1]; rfl
  rw [e2, pk_mul, nI_add, pk_sub (by omega), nI_add]
  congr 1
  omega
/-- the numbers of the words of a text: those behind, and the one that is at work -/
def pu_ks (s : List Nat × Nat) (c : Int32) : List Nat × Nat := if c = 32 then (s.1 ++ [s.2], 0) else (s.1, s.2 * 32 + pu_dig c)
def pu_run (t : List Int32) : List Nat × Nat := t.foldl pu_ks ([], 0)
theorem pu_run_snoc (t : List Int32) (c : Int32) : pu_run (t ++ [c]) = pu_ks (pu_run t) c := by
  unfold pu_run
  rw [List.foldl_append]
  rfl
theorem pu_run_len : (sv_txt 0).length = 130 := by decide +kernel
theorem pu_run_end : pu_run (sv_txt 0) = (pu_stops.map pu_key, 0) := by decide +kernel
theorem pu_run_in : ∀ j, j < 130 → (pu_run ((sv_txt 0).take j)).1.length < 33 ∧ (pu_run ((sv_txt 0).take j)).2 < 33554432 ∧ ((sv_txt 0).getD j 0 = 32 ∨ (97 ≤ ((sv_txt 0).getD j 0).toInt ∧ ((sv_txt 0).getD j 0).toInt ≤ 122)) := by decide +kernel
theorem pu_keys_at : ∀ i, i < 33 → (pu_stops.map pu_key).getD i 0 = pu_key (pu_stops.getD i []) := by decide +kernel
theorem pu_kr_lt : ∀ (L : List Int32), pu_small L → pu_kr L < 32 ^ L.length
  | [], _ => by decide
  | c :: L, h => by
    have h1 := pu_kr_lt L (fun x hx => h x (List.mem_cons_of_mem _ hx))
    have h2 := pu_dig_in (h c List.mem_cons_self)
    show pu_kr L * 32 + pu_dig c < 32 ^ (L.length + 1)
    rw [Nat.pow_succ]
    omega
theorem pu_key_lt {L : List Int32} (h : pu_small L) (hl : L.length ≤ 5) : pu_key L < 33554432 := by
  have h1 := pu_kr_lt L.reverse (fun x hx => h x (List.mem_reverse.mp hx))
  rw [List.length_reverse] at h1
  exact Nat.lt_of_lt_of_le h1 (Nat.pow_le_pow_right (by decide) hl)
theorem pu_key_lt4 {L : List Int32} (h : pu_small L) (hl : L.length ≤ 5) : pu_key L < 33554432 := pu_key_lt h hl
theorem pu_stops_lt : ∀ i, i < 33 → pu_key (pu_stops.getD i []) < 33554432 := by decide +kernel
def rm_Si_withLetter : Room := { frames := 0, cells := 0, slots := 0, locals := 0 }
set_option maxHeartbeats 4000000 in
set_option maxRecDepth 100000 in
theorem c_Si_withLetter (l : Launch) (g : sv_G) (ws : va_W) (q : Nat) (c : Int32) (h : 97 ≤ c.toInt ∧ c.toInt ≤ 122) (hq : q < 33554432) : sv_Mi l y_Si_withLetter b_Si_withLetter 2 (some (.int)) rm_Si_withLetter g [.int (nI q), .int c] ws (fun r w => r = nI (q * 32 + pu_dig c) ∧ w = ws) := by
  refine sv_enter_i (by decide) rfl rfl (Nat.le_of_ble_eq_true rfl) (fun X C hI hr => ?_)
  refine sv_lvE (lv' := [some _, some _]) rfl ?_
  refine sv_iload_n C rfl rfl d_Si_withLetter_0 ?_
  refine sv_bipush C (v := 32) (by decide) d_Si_withLetter_1 ?_
  refine sv_imul C d_Si_withLetter_3 ?_
  refine sv_iload_n C rfl rfl d_Si_withLetter_4 ?_
  refine sv_iadd C d_Si_withLetter_5 ?_
  refine sv_bipush C (v := 97) (by decide) d_Si_withLetter_6 ?_
  refine sv_isub C d_Si_withLetter_8 ?_
  refine sv_iconst C (v := 1) (by decide) d_Si_withLetter_9 ?_
  refine sv_iadd C d_Si_withLetter_10 ?_
  exact hr _ _ _ _ d_Si_withLetter_11 rfl ⟨pu_wl h hq, rfl⟩

def rm_Si_init : Room := { frames := 6, cells := 1, slots := 33, locals := 186 }
set_option maxHeartbeats 4000000 in
set_option maxRecDepth 100000 in
theorem c_Si_init (l : Launch) (g : sv_G) (rest : va_W) (hS : Nat) : sv_Mv l y_Si_init b_Si_init 4 none rm_Si_init g [.ref hS] ((hS, .inr (1, [.null])) :: rest) (fun w => ∃ (hk : Nat) (kf : Nat → Int32), w = ((hk, .inl (g.2.1 0, 33, .inl kf)) :: (hS, .inr (1, [.ref hk])) :: rest) ∧ ∀ i, i < 33 → kf i = nI (pu_key (pu_stops.getD i []))) := by
  refine sv_enter_v (by decide) rfl rfl (Nat.le_of_ble_eq_true rfl) (fun X C hI hr => ?_)
  refine sv_lvE (lv' := [some _, none, none, none]) rfl ?_
  have hI := hI rfl
  have hlen := pu_run_len
  have L18 : ∀ (k : Nat) (hk j w q : Nat) (kf : Nat → Int32), (j ≤ 130 ∧ 130 ≤ j + k ∧ w = (pu_run ((sv_txt 0).take j)).1.length ∧ q = (pu_run ((sv_txt 0).take j)).2 ∧ ∀ i, i < w → kf i = nI ((pu_run ((sv_txt 0).take j)).1.getD i 0)) → sv_V X 4 1 33 ((hk, .inl (g.2.1 0, 33, .inl kf)) :: (hS, .inr (1, [.ref hk])) :: rest) 18 [some (.ref hS), some (.int (nI w)), some (.int (nI q)), some (.int (nI j))] [] := by
    intro k
    induction k with
    | zero =>
      intro hk j w q kf hq
      obtain ⟨q1, q2, q3, q4, q5⟩ := hq
      refine sv_iload_n C rfl rfl d_Si_init_18 ?_
      refine sv_ldcS C ws_0 d_Si_init_19 ?_
      refine sv_callVsi C 0 (by decide) (c_Str_length l g _ 0 (by decide)) lk_Si_15 rfl d_Si_init_21 (by decide) (Nat.le_of_ble_eq_true rfl) (by decide) (fun r w hw => ?_)
      obtain ⟨rfl, rfl⟩ := hw
      refine sv_icmpN_ge C _ _ (by omega) (by omega) 76 (by decide) d_Si_init_24 (fun c24 => ?_) (fun c24 => ?_)
      · skip
        have hj : j = 130 := by omega
        have ht : (sv_txt 0).take j = (sv_txt 0) := by rw [hj, ← hlen, List.take_length]
        rw [ht, pu_run_end] at q3 q5
        refine hr _ _ _ d_Si_init_76 ⟨hk, kf, rfl, fun i hi => ?_⟩
        rw [← pu_keys_at i hi]
        exact q5 i (by rw [q3, List.length_map]; exact hi)
      · skip
        exact absurd c24 (by omega)
    | succ k ih =>
      intro hk j w q kf hq
      obtain ⟨q1, q2, q3, q4, q5⟩ := hq
      refine sv_iload_n C rfl rfl d_Si_init_18 ?_
      refine sv_ldcS C ws_0 d_Si_init_19 ?_
      refine sv_callVsi C 0 (by decide) (c_Str_length l g _ 0 (by decide)) lk_Si_15 rfl d_Si_init_21 (by decide) (Nat.le_of_ble_eq_true rfl) (by decide) (fun r w hw => ?_)
      obtain ⟨rfl, rfl⟩ := hw
      refine sv_icmpN_ge C _ _ (by omega) (by omega) 76 (by decide) d_Si_init_24 (fun c24 => ?_) (fun c24 => ?_)
      · skip
        have hj : j = 130 := by omega
        have ht : (sv_txt 0).take j = (sv_txt 0) := by rw [hj, ← hlen, List.take_length]
        rw [ht, pu_run_end] at q3 q5
        refine hr _ _ _ d_Si_init_76 ⟨hk, kf, rfl, fun i hi => ?_⟩
        rw [← pu_keys_at i hi]
        exact q5 i (by rw [q3, List.length_map]; exact hi)
      · skip
        obtain ⟨r1, r2, r3⟩ := pu_run_in j (by omega)
        have hrun : (pu_run ((sv_txt 0).take (j + 1))) = pu_ks (pu_run ((sv_txt 0).take j)) ((sv_txt 0).getD j 0) := by rw [pu_take_snoc (by omega), pu_run_snoc]
        have hw : w < 33 := by omega
        refine sv_iload_n C rfl rfl d_Si_init_27 ?_
        refine sv_bipush C (v := 33) (by decide) d_Si_init_28 ?_
        refine sv_icmpN_ge C _ 33 (by omega) (by omega) 76 (by decide) d_Si_init_30 (fun c30 => ?_) (fun c30 => ?_)
        · skip
          exact absurd c30 (by omega)
        · skip
          refine sv_ldcS C ws_0 d_Si_init_33 ?_
          refine sv_iload_n C rfl rfl d_Si_init_35 ?_
          refine sv_callVsi C 0 (by decide) (c_Str_charAt l g _ 0 j (by decide) (by omega)) lk_Si_21 rfl d_Si_init_36 (by decide) (Nat.le_of_ble_eq_true rfl) (by decide) (fun r w hw => ?_)
          obtain ⟨rfl, rfl⟩ := hw
          refine sv_bipush C (v := 32) (by decide) d_Si_init_39 ?_
          refine sv_icmp_ne C 59 (by decide) d_Si_init_41 (fun c41 => ?_) (fun c41 => ?_)
          · skip
            refine sv_iload_n C rfl rfl d_Si_init_59 ?_
            refine sv_ldcS C ws_0 d_Si_init_60 ?_
            refine sv_iload_n C rfl rfl d_Si_init_62 ?_
            refine sv_callVsi C 0 (by decide) (c_Str_charAt l g _ 0 j (by decide) (by omega)) lk_Si_21 rfl d_Si_init_63 (by decide) (Nat.le_of_ble_eq_true rfl) (by decide) (fun r w hw => ?_)
            obtain ⟨rfl, rfl⟩ := hw
            refine sv_callSi C (c_Si_withLetter l g _ q _ (r3.resolve_left c41) (by omega)) lk_Si_25  d_Si_init_66 (by decide) (Nat.le_of_ble_eq_true rfl) (by decide) (fun r w hw => ?_)
            obtain ⟨rfl, rfl⟩ := hw
            refine sv_istore_n C rfl (by decide) [some _, some _, some _, some _] rfl d_Si_init_69 ?_
            refine sv_iincN C 1 _ rfl [some _, some _, some _, some _] rfl d_Si_init_70 ?_
            refine sv_goto C 18 (by decide) d_Si_init_73 ?_
            first
              | exact ih hk (j + 1) (w + 1) 0 _ ⟨by omega, by omega, by rw [hrun, pu_ks, if_pos c41, List.length_append, ← q3]; rfl, by rw [hrun, pu_ks, if_pos c41], fun i hi => by
                  rw [hrun, pu_ks, if_pos c41]
                  show _ = nI ((_ ++ [_]).getD i 0)
                  rcases Nat.lt_or_ge i w with h | h
                  · rw [pk_un (by omega), q5 i h, List.getD_eq_getElem?_getD, List.getD_eq_getElem?_getD, List.getElem?_append_left (by omega)]
                  · have hiw : i = w := by omega
                    subst hiw
                    rw [pk_us, List.getD_eq_getElem?_getD, List.getElem?_append_right (by omega), q3, Nat.sub_self, q4]
                    rfl⟩
              | exact ih hk (j + 1) w _ kf ⟨by omega, by omega, by rw [hrun, pu_ks, if_neg c41]; exact q3, by rw [hrun, pu_ks, if_neg c41, ← q4], fun i hi => by rw [hrun, pu_ks, if_neg c41]; exact q5 i hi⟩
          · skip
            refine sv_aload_n C rfl rfl d_Si_init_44 ?_
            refine sv_get C fg_Si_9 1 rfl rfl d_Si_init_45 ?_
            refine sv_iload_n C rfl rfl d_Si_init_48 ?_
            refine sv_iload_n C rfl rfl d_Si_init_49 ?_
            refine sv_iastN C _ 0 rfl (by omega) (by decide) (_ :: _ :: _) rfl d_Si_init_50 ?_
            refine sv_iincN C 1 _ rfl [some _, some _, some _, some _] rfl d_Si_init_51 ?_
            refine sv_iconst C (v := 0) (by decide) d_Si_init_54 ?_
            refine sv_istore_n C rfl (by decide) [some _, some _, some _, some _] rfl d_Si_init_55 ?_
            refine sv_goto C 70 (by decide) d_Si_init_56 ?_
            refine sv_iincN C 1 _ rfl [some _, some _, some _, some _] rfl d_Si_init_70 ?_
            refine sv_goto C 18 (by decide) d_Si_init_73 ?_
            first
              | exact ih hk (j + 1) (w + 1) 0 _ ⟨by omega, by omega, by rw [hrun, pu_ks, if_pos c41, List.length_append, ← q3]; rfl, by rw [hrun, pu_ks, if_pos c41], fun i hi => by
                  rw [hrun, pu_ks, if_pos c41]
                  show _ = nI ((_ ++ [_]).getD i 0)
                  rcases Nat.lt_or_ge i w with h | h
                  · rw [pk_un (by omega), q5 i h, List.getD_eq_getElem?_getD, List.getD_eq_getElem?_getD, List.getElem?_append_left (by omega)]
                  · have hiw : i = w := by omega
                    subst hiw
                    rw [pk_us, List.getD_eq_getElem?_getD, List.getElem?_append_right (by omega), q3, Nat.sub_self, q4]
                    rfl⟩
              | exact ih hk (j + 1) w _ kf ⟨by omega, by omega, by rw [hrun, pu_ks, if_neg c41]; exact q3, by rw [hrun, pu_ks, if_neg c41, ← q4], fun i hi => by rw [hrun, pu_ks, if_neg c41]; exact q5 i hi⟩
  refine sv_aload_n C rfl rfl d_Si_init_0 ?_
  refine sv_objInit C wo_Si wo_2 wo_3 (by decide) (Nat.le_of_ble_eq_true rfl) d_Si_init_1 ?_
  refine sv_aload_n C rfl rfl d_Si_init_4 ?_
  refine sv_bipush C (v := 33) (by decide) d_Si_init_5 ?_
  refine sv_newI C wr_int (by decide) (N := 33) (by decide) (by decide) (by decide) (by decide) d_Si_init_7 (fun hk => ?_)
  refine sv_putF C hI fp_Si_9 1 rfl rfl rfl (Nat.le_of_ble_eq_true rfl) (_ :: (_, .inr (_, [_])) :: _) rfl d_Si_init_9 ?_
  refine sv_iconst C (v := 0) (by decide) d_Si_init_12 ?_
  refine sv_istore_n C rfl (by decide) [some _, some _, none, none] rfl d_Si_init_13 ?_
  refine sv_iconst C (v := 0) (by decide) d_Si_init_14 ?_
  refine sv_istore_n C rfl (by decide) [some _, some _, some _, none] rfl d_Si_init_15 ?_
  refine sv_iconst C (v := 0) (by decide) d_Si_init_16 ?_
  refine sv_istore_n C rfl (by decide) [some _, some _, some _, some _] rfl d_Si_init_17 ?_
  exact L18 130 hk 0 0 0 _ ⟨by omega, by omega, rfl, rfl, fun i hi => absurd hi (Nat.not_lt_zero i)⟩

def rm_Si_have : Room := { frames := 1, cells := 0, slots := 0, locals := 21 }
set_option maxHeartbeats 4000000 in
set_option maxRecDepth 100000 in
theorem c_Si_have (l : Launch) (g : sv_G) (rest : va_W) (hS hk hW hwc : Nat) (kf f : Nat → Int32) (L : List Int32) (hL : L.length ≤ 255) (hf : pr_W f L) (hkf : ∀ i, i < 33 → kf i = nI (pu_key (pu_stops.getD i []))) : sv_Mi l y_Si_have b_Si_have 4 (some (.boolean)) rm_Si_have g [.ref hS, .ref hW] ((hS, .inr (1, [.ref hk])) :: (hk, .inl (g.2.1 0, 33, .inl kf)) :: (hW, .inr (5, [.ref hwc, .int (nI L.length)])) :: (hwc, .inl (g.2.1 0, 255, .inl f)) :: rest) (fun r w => r = (if L ∈ pu_stops then 1 else 0) ∧ w = ((hS, .inr (1, [.ref hk])) :: (hk, .inl (g.2.1 0, 33, .inl kf)) :: (hW, .inr (5, [.ref hwc, .int (nI L.length)])) :: (hwc, .inl (g.2.1 0, 255, .inl f)) :: rest)) := by
  refine sv_enter_i (by decide) rfl rfl (Nat.le_of_ble_eq_true rfl) (fun X C hI hr => ?_)
  refine sv_lvE (lv' := [some _, some _, none, none]) rfl ?_
  have L48 : ∀ (k : Nat) (j : Nat), ((L.length ≤ 5 ∧ pu_small L) ∧ j ≤ 33 ∧ 33 ≤ j + k ∧ ∀ i, i < j → pu_key (pu_stops.getD i []) ≠ pu_key L) → sv_V X 4 0 0 ((hS, .inr (1, [.ref hk])) :: (hk, .inl (g.2.1 0, 33, .inl kf)) :: (hW, .inr (5, [.ref hwc, .int (nI L.length)])) :: (hwc, .inl (g.2.1 0, 255, .inl f)) :: rest) 48 [some (.ref hS), some (.ref hW), some (.int (nI (pu_key L))), some (.int (nI j))] [] := by
    intro k
    induction k with
    | zero =>
      intro j hq
      obtain ⟨q1, q2, q3, q4⟩ := hq
      have kb := pu_key_lt q1.2 q1.1
      refine sv_iload_n C rfl rfl d_Si_have_48 ?_
      refine sv_bipush C (v := 33) (by decide) d_Si_have_49 ?_
      refine sv_icmpN_ge C _ 33 (by omega) (by omega) 72 (by decide) d_Si_have_51 (fun c51 => ?_) (fun c51 => ?_)
      · skip
        refine sv_iconst C (v := 0) (by decide) d_Si_have_72 ?_
        exact hr _ _ _ _ d_Si_have_73 rfl ⟨(if_neg (fun z => by obtain ⟨-, i, hi, e⟩ := (pu_stops_iff L).mp z; exact q4 i (by omega) e)).symm, rfl⟩
      · skip
        exact absurd c51 (by omega)
    | succ k ih =>
      intro j hq
      obtain ⟨q1, q2, q3, q4⟩ := hq
      have kb := pu_key_lt q1.2 q1.1
      refine sv_iload_n C rfl rfl d_Si_have_48 ?_
      refine sv_bipush C (v := 33) (by decide) d_Si_have_49 ?_
      refine sv_icmpN_ge C _ 33 (by omega) (by omega) 72 (by decide) d_Si_have_51 (fun c51 => ?_) (fun c51 => ?_)
      · skip
        refine sv_iconst C (v := 0) (by decide) d_Si_have_72 ?_
        exact hr _ _ _ _ d_Si_have_73 rfl ⟨(if_neg (fun z => by obtain ⟨-, i, hi, e⟩ := (pu_stops_iff L).mp z; exact q4 i (by omega) e)).symm, rfl⟩
      · skip
        refine sv_aload_n C rfl rfl d_Si_have_54 ?_
        refine sv_get C fg_Si_9 0 rfl rfl d_Si_have_55 ?_
        refine sv_iload_n C rfl rfl d_Si_have_58 ?_
        refine sv_ialdN C _ 1 rfl (by omega) (by decide) d_Si_have_59 ?_
        have kb2 := pu_stops_lt j (by omega)
        refine sv_eqi (hkf j (by omega)) ?_
        refine sv_iload_n C rfl rfl d_Si_have_60 ?_
        refine sv_icmpN_ne C _ _ (by omega) (by omega) 66 (by decide) d_Si_have_61 (fun c61 => ?_) (fun c61 => ?_)
        · skip
          refine sv_iincN C 1 _ rfl [some _, some _, some _, some _] rfl d_Si_have_66 ?_
          refine sv_goto C 48 (by decide) d_Si_have_69 ?_
          exact ih (j + 1) ⟨q1, by omega, by omega, fun i hi => by
            rcases Nat.lt_or_ge i j with h | h
            · exact q4 i h
            · have hij : i = j := by omega
              subst hij
              exact c61⟩
        · skip
          refine sv_iconst C (v := 1) (by decide) d_Si_have_64 ?_
          exact hr _ _ _ _ d_Si_have_65 rfl ⟨(if_pos ((pu_stops_iff L).mpr ⟨q1, j, by omega, c61⟩)).symm, rfl⟩
  have L21 : ∀ (k : Nat) (j : Nat), ((L.length ≤ 5 ∧ pu_small L) ∧ j ≤ L.length ∧ L.length ≤ j + k) → sv_V X 4 0 0 ((hS, .inr (1, [.ref hk])) :: (hk, .inl (g.2.1 0, 33, .inl kf)) :: (hW, .inr (5, [.ref hwc, .int (nI L.length)])) :: (hwc, .inl (g.2.1 0, 255, .inl f)) :: rest) 21 [some (.ref hS), some (.ref hW), some (.int (nI (pu_key (L.take j)))), some (.int (nI j))] [] := by
    intro k
    induction k with
    | zero =>
      intro j hq
      obtain ⟨q1, q2, q3⟩ := hq
      refine sv_iload_n C rfl rfl d_Si_have_21 ?_
      refine sv_aload_n C rfl rfl d_Si_have_22 ?_
      refine sv_get C fg_Si_29 2 rfl rfl d_Si_have_23 ?_
      refine sv_icmpN_ge C _ _ (by omega) (by omega) 46 (by decide) d_Si_have_26 (fun c26 => ?_) (fun c26 => ?_)
      · skip
        refine sv_iconst C (v := 0) (by decide) d_Si_have_46 ?_
        refine sv_istore_n C rfl (by decide) [some _, some _, some _, some _] rfl d_Si_have_47 ?_
        have hj : j = L.length := by omega
        subst hj
        rw [List.take_length]
        exact L48 33 0 ⟨q1, by omega, by omega, fun i hi => absurd hi (Nat.not_lt_zero i)⟩
      · skip
        exact absurd c26 (by omega)
    | succ k ih =>
      intro j hq
      obtain ⟨q1, q2, q3⟩ := hq
      refine sv_iload_n C rfl rfl d_Si_have_21 ?_
      refine sv_aload_n C rfl rfl d_Si_have_22 ?_
      refine sv_get C fg_Si_29 2 rfl rfl d_Si_have_23 ?_
      refine sv_icmpN_ge C _ _ (by omega) (by omega) 46 (by decide) d_Si_have_26 (fun c26 => ?_) (fun c26 => ?_)
      · skip
        refine sv_iconst C (v := 0) (by decide) d_Si_have_46 ?_
        refine sv_istore_n C rfl (by decide) [some _, some _, some _, some _] rfl d_Si_have_47 ?_
        have hj : j = L.length := by omega
        subst hj
        rw [List.take_length]
        exact L48 33 0 ⟨q1, by omega, by omega, fun i hi => absurd hi (Nat.not_lt_zero i)⟩
      · skip
        refine sv_iload_n C rfl rfl d_Si_have_29 ?_
        refine sv_aload_n C rfl rfl d_Si_have_30 ?_
        refine sv_get C fg_Si_38 2 rfl rfl d_Si_have_31 ?_
        refine sv_iload_n C rfl rfl d_Si_have_34 ?_
        refine sv_ialdN C _ 3 rfl (by omega) (by decide) d_Si_have_35 ?_
        refine sv_eqi (hf j (by omega)) ?_
        refine sv_callSi C (c_Si_withLetter l g _ (pu_key (L.take j)) (L.getD j 0) (q1.2 _ (pu_mem (by omega))) (by have := pu_key_lt4 (L := L.take j) (fun c hc => q1.2 c (List.mem_of_mem_take hc)) (by rw [List.length_take]; omega); exact this)) lk_Si_25  d_Si_have_36 (by decide) (Nat.le_of_ble_eq_true rfl) (by decide) (fun r w hw => ?_)
        obtain ⟨rfl, rfl⟩ := hw
        refine sv_istore_n C rfl (by decide) [some _, some _, some _, some _] rfl d_Si_have_39 ?_
        refine sv_iincN C 1 _ rfl [some _, some _, some _, some _] rfl d_Si_have_40 ?_
        refine sv_goto C 21 (by decide) d_Si_have_43 ?_
        exact sv_lvE (by rw [pu_take_snoc (by omega), pu_key_snoc]) (ih (j + 1) ⟨q1, by omega, by omega⟩)
  refine sv_aload_n C rfl rfl d_Si_have_0 ?_
  refine sv_get C fg_Si_29 2 rfl rfl d_Si_have_1 ?_
  refine sv_iconst C (v := 5) (by decide) d_Si_have_4 ?_
  refine sv_icmpN_gt C _ 5 (by omega) (by omega) 15 (by decide) d_Si_have_5 (fun c5 => ?_) (fun c5 => ?_)
  · skip
    refine sv_iconst C (v := 0) (by decide) d_Si_have_15 ?_
    exact hr _ _ _ _ d_Si_have_16 rfl ⟨(if_neg (fun z => by have := ((pu_stops_iff L).mp z).1; first | exact absurd this.1 (by omega) | exact c12 this.2)).symm, rfl⟩
  · skip
    refine sv_aload_n C rfl rfl d_Si_have_8 ?_
    refine sv_rot [2, 3, 0, 1] [_, _, _, _] [_, _, _, _] _ (_ :: _ :: _ :: _ :: _) rfl rfl rfl rfl ?_
    refine sv_callVi C (c_Wo_isSmallLetters l g ((hS, .inr (1, [.ref hk])) :: (hk, .inl (g.2.1 0, 33, .inl kf)) :: rest) hW hwc f L hL hf) lk_Si_34 List.mem_cons_self rfl d_Si_have_9 (by decide) (Nat.le_of_ble_eq_true rfl) (by decide) (fun r w hw => ?_)
    obtain ⟨rfl, rfl⟩ := hw
    refine sv_ifB_ne C _ 17 (by decide) d_Si_have_12 (fun c12 => ?_) (fun c12 => ?_)
    · skip
      refine sv_iconst C (v := 0) (by decide) d_Si_have_17 ?_
      refine sv_istore_n C rfl (by decide) [some _, some _, some _, none] rfl d_Si_have_18 ?_
      refine sv_iconst C (v := 0) (by decide) d_Si_have_19 ?_
      refine sv_istore_n C rfl (by decide) [some _, some _, some _, some _] rfl d_Si_have_20 ?_
      refine sv_rot [2, 3, 0, 1] [_, _, _, _] [_, _, _, _] _ (_ :: _ :: _ :: _ :: _) rfl rfl rfl rfl ?_
      exact L21 L.length 0 ⟨⟨by omega, c12⟩, by omega, by omega⟩
    · skip
      refine sv_iconst C (v := 0) (by decide) d_Si_have_15 ?_
      refine sv_rot [2, 3, 0, 1] [_, _, _, _] [_, _, _, _] _ (_ :: _ :: _ :: _ :: _) rfl rfl rfl rfl ?_
      exact hr _ _ _ _ d_Si_have_16 rfl ⟨(if_neg (fun z => by have := ((pu_stops_iff L).mp z).1; first | exact absurd this.1 (by omega) | exact c12 this.2)).symm, rfl⟩
