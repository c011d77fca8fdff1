/-! CONTRACTS: the reference, 6: cut over characters -/
theorem pu_min2 {x y : Nat} (hx : x < 2 ^ 31) (hy : y < 2 ^ 31) : (if nI y < nI x then nI y else nI x) = nI (if y < x then y else x) := by
  by_cases h : y < x
  · rw [if_pos (nI_lt h hx), if_pos h]
  · rw [if_neg (fun z => h ((nI_ltI hy hx).mp z)), if_neg h]
theorem pu_any_snoc (f : Nat → Int32) : ∀ (k a : Nat), pu_any f (k + 1) a = (pu_any f k a || decide (pu_isW (pu_st f (a + k))))
  | 0, a => by
    show (if pu_isW (pu_st f a) then true else false) = (false || decide (pu_isW (pu_st f a)))
    by_cases h : pu_isW (pu_st f a)
    · rw [if_pos h, decide_eq_true h]; rfl
    · rw [if_neg h, decide_eq_false h]; rfl
  | k + 1, a => by
    have ih := pu_any_snoc f k (a + 1)
    rw [pu_any, ih, pu_any, show a + 1 + k = a + (k + 1) by omega]
    by_cases h : pu_isW (pu_st f a)
    · rw [if_pos h, if_pos h]; rfl
    · rw [if_neg h, if_neg h]
theorem pu_any_1 {f : Nat → Int32} {p e : Nat} (h : p < e) : pu_any f (e + 1 - p) p = (pu_any f (e - p) p || decide (pu_isW (pu_st f e))) := by
  rw [show e + 1 - p = e - p + 1 by omega, pu_any_snoc, show p + (e - p) = e by omega]
theorem pu_any_2 {f : Nat → Int32} {p e : Nat} (h : p < e) (h2 : ¬ pu_isW (pu_st f e)) : pu_any f (e + 2 - p) p = (pu_any f (e - p) p || decide (pu_isW (pu_st f (e + 1)))) := by
  rw [show e + 2 - p = e + 1 + 1 - p by omega, pu_any_1 (by omega), pu_any_1 h, decide_eq_false h2, Bool.or_false]
theorem pu_any_0 (f : Nat → Int32) (p : Nat) : (pu_any f (p + 1 - p) p = true) ↔ pu_isW (pu_st f p) := by
  rw [show p + 1 - p = 0 + 1 by omega, pu_any_snoc]
  show (false || decide (pu_isW (pu_st f (p + 0)))) = true ↔ _
  rw [Bool.false_or, decide_eq_true_iff]
  exact Iff.rfl
theorem pu_boolF {b : Bool} (h : ¬ b = true) : b = false := by cases b <;> simp_all
theorem pu_fur_cases {f : Nat → Int32} {n e : Nat} (he : 1 ≤ e) :
    (pu_fur f n (e - 1) = 0 ∧ ∀ k, pu_span f n k e = e) ∨ (pu_fur f n (e - 1) = 1 ∧ e < n ∧ pu_inn (pu_st f e) ∧ ∀ k, pu_span f n (k + 1) e = pu_span f n k (e + 1)) ∨
    (pu_fur f n (e - 1) = 2 ∧ e + 1 < n ∧ ¬ pu_isW (pu_st f e) ∧ (pu_st f (e + 1) = 1 ∨ pu_st f (e + 1) = 2) ∧ ∀ k, pu_span f n (k + 1) e = pu_span f n k (e + 2)) := by
  unfold pu_fur
  rw [show e - 1 + 1 = e by omega]
  by_cases h1 : e < n
  · rw [if_pos h1]
    by_cases h2 : pu_inn (pu_st f e)
    · right; left
      exact ⟨if_pos h2, h1, h2, fun k => by rw [pu_span, if_pos h1, if_pos h2]⟩
    · rw [if_neg h2]
      by_cases h3 : pu_tie f n e
      · right; right
        refine ⟨if_pos h3, h3.2.1, fun z => h2 (by have := h3.2.2.2; unfold pu_ties at this; omega), ?_, fun k => by rw [pu_span, if_pos h1, if_neg h2, if_pos h3]⟩
        have z1 := h3.2.2.1
        have z2 := h3.2.2.2
        unfold pu_ties at z2
        omega
      · left
        exact ⟨if_neg h3, fun k => by cases k with
          | zero => rfl
          | succ k => rw [pu_span, if_pos h1, if_neg h2, if_neg h3]⟩
  · left
    exact ⟨if_neg h1, fun k => by cases k with
      | zero => rfl
      | succ k => rw [pu_span, if_neg h1]⟩
def rm_M_cut_aIII : Room := { frames := 10, cells := 0, slots := 0, locals := 283 }
set_option maxHeartbeats 4000000 in
set_option maxRecDepth 100000 in
theorem c_M_cut_aIII (l : Launch) (g : sv_G) (rest : va_W) (ad : Nat → Nat) (inl th wm0 : Int32) (b tf wf0 ch0 po0 st0 : Nat → Int32) (km0 kw0 : Int32) (n : Nat) (hn : n ≤ 8192) (hT0 : sv_SA g rest (ad 7) 33 tm_0) (hT2 : sv_SA g rest (ad 8) (2 * 20) tm_2) (hT3 : sv_SA g rest (ad 9) (2 * 7) tm_3) (hT4 : sv_SA g rest (ad 10) (2 * 19) tm_4) : sv_Mv l y_M_cut_aIII b_M_cut_aIII 10 none rm_M_cut_aIII g [.ref (ad 0), .ref (ad 2), .int (nI 0), .int (nI n)] ((ad 0, .inr (7, [.ref (ad 7), .ref (ad 8), .ref (ad 9), .ref (ad 10), .ref (ad 1), .int inl, .int th, .ref (ad 2), .int (nI n), .ref (ad 3), .ref (ad 4), .ref (ad 5), .int km0, .int kw0, .ref (ad 6), .int wm0])) :: (ad 1, .inl (g.2.1 1, 8192, .inl b)) :: (ad 2, .inl (g.2.1 0, 8192, .inl tf)) :: (ad 3, .inl (g.2.1 0, 8704, .inl ch0)) :: (ad 4, .inl (g.2.1 0, 8193, .inl st0)) :: (ad 5, .inl (g.2.1 0, 8192, .inl po0)) :: (ad 6, .inl (g.2.1 0, 260, .inl wf0)) :: rest) (fun w => ∃ (wm : Int32) (wf ch po st : Nat → Int32), w = ((ad 0, .inr (7, [.ref (ad 7), .ref (ad 8), .ref (ad 9), .ref (ad 10), .ref (ad 1), .int inl, .int th, .ref (ad 2), .int (nI n), .ref (ad 3), .ref (ad 4), .ref (ad 5), .int (nI (pu_cut tf n n 0 ([], 0)).1.length), .int (nI (pu_cut tf n n 0 ([], 0)).2), .ref (ad 6), .int wm])) :: (ad 1, .inl (g.2.1 1, 8192, .inl b)) :: (ad 2, .inl (g.2.1 0, 8192, .inl tf)) :: (ad 3, .inl (g.2.1 0, 8704, .inl ch)) :: (ad 4, .inl (g.2.1 0, 8193, .inl st)) :: (ad 5, .inl (g.2.1 0, 8192, .inl po)) :: (ad 6, .inl (g.2.1 0, 260, .inl wf)) :: rest) ∧ pu_Tok ch po st (pu_cut tf n n 0 ([], 0)).1 ∧ pu_off (pu_cut tf n n 0 ([], 0)).1 (pu_cut tf n n 0 ([], 0)).1.length ≤ 8192 ∧ (pu_cut tf n n 0 ([], 0)).1.length ≤ 8192) := by
  refine sv_enter_v (by decide) rfl rfl (Nat.le_of_ble_eq_true rfl) (fun X C hI hr => ?_)
  refine sv_lvE (lv' := [some _, some _, some _, some _, none, none, none, none, none, none]) rfl ?_
  have j41 : ∀ (ws : va_W) (p s e : Nat) (o7 o8 o9 : Option Value), s < 8 → sv_V X 10 0 0 ws 67 [some (.ref (ad 0)), some (.ref (ad 2)), some (.int (nI 0)), some (.int (nI n)), some (.int (nI (p))), some (.int (nI (s))), some (.int (nI (e))), some (.int (if pu_isW s then 1 else 0)), o8, o9] [] → sv_V X 10 0 0 ws 41 [some (.ref (ad 0)), some (.ref (ad 2)), some (.int (nI 0)), some (.int (nI n)), some (.int (nI (p))), some (.int (nI (s))), some (.int (nI (e))), o7, o8, o9] [] := by
    intro ws p s e o7 o8 o9 hs hk
    refine sv_iload C rfl d_M_cut_aIII_41 ?_
    refine sv_iconst C (v := 1) (by decide) d_M_cut_aIII_43 ?_
    refine sv_icmpN_eq C _ 1 (by omega) (by omega) 60 (by decide) d_M_cut_aIII_44 (fun c44 => ?_) (fun c44 => ?_)
    · skip
      refine sv_iconst C (v := 1) (by decide) d_M_cut_aIII_60 ?_
      refine sv_goto C 65 (by decide) d_M_cut_aIII_61 ?_
      refine sv_istore C (by decide) [some _, some _, some _, some _, some _, some _, some _, some _, _, _] rfl d_M_cut_aIII_65 ?_
      exact sv_lvE (by rw [if_pos (show pu_isW s by omega)]) hk
    · skip
      refine sv_iload C rfl d_M_cut_aIII_47 ?_
      refine sv_iconst C (v := 2) (by decide) d_M_cut_aIII_49 ?_
      refine sv_icmpN_eq C _ 2 (by omega) (by omega) 60 (by decide) d_M_cut_aIII_50 (fun c50 => ?_) (fun c50 => ?_)
      · skip
        refine sv_iconst C (v := 1) (by decide) d_M_cut_aIII_60 ?_
        refine sv_goto C 65 (by decide) d_M_cut_aIII_61 ?_
        refine sv_istore C (by decide) [some _, some _, some _, some _, some _, some _, some _, some _, _, _] rfl d_M_cut_aIII_65 ?_
        exact sv_lvE (by rw [if_pos (show pu_isW s by omega)]) hk
      · skip
        refine sv_iload C rfl d_M_cut_aIII_53 ?_
        refine sv_bipush C (v := 7) (by decide) d_M_cut_aIII_55 ?_
        refine sv_icmpN_ne C _ 7 (by omega) (by omega) 64 (by decide) d_M_cut_aIII_57 (fun c57 => ?_) (fun c57 => ?_)
        · skip
          refine sv_iconst C (v := 0) (by decide) d_M_cut_aIII_64 ?_
          refine sv_istore C (by decide) [some _, some _, some _, some _, some _, some _, some _, some _, _, _] rfl d_M_cut_aIII_65 ?_
          exact sv_lvE (by rw [if_neg (show ¬ pu_isW s by omega)]) hk
        · skip
          refine sv_iconst C (v := 1) (by decide) d_M_cut_aIII_60 ?_
          refine sv_goto C 65 (by decide) d_M_cut_aIII_61 ?_
          refine sv_istore C (by decide) [some _, some _, some _, some _, some _, some _, some _, some _, _, _] rfl d_M_cut_aIII_65 ?_
          exact sv_lvE (by rw [if_pos (show pu_isW s by omega)]) hk
  have L86 : ∀ (k : Nat) (p e : Nat) (r2 : va_W) (o5 o9 : Option Value), (p < e ∧ e ≤ n ∧ n ≤ e + k ∧ pu_inn (pu_st tf (e - 1)) ∧ (pu_spanEnd tf n p) = pu_span tf n k e) → (∀ o8 o9 : Option Value, sv_V X 10 0 0 ((ad 2, .inl (g.2.1 0, 8192, .inl tf)) :: r2) 147 [some (.ref (ad 0)), some (.ref (ad 2)), some (.int (nI 0)), some (.int (nI n)), some (.int (nI (p))), o5, some (.int (nI ((pu_spanEnd tf n p)))), some (.int (if pu_any tf ((pu_spanEnd tf n p) - p) p = true then 1 else 0)), o8, o9] []) → sv_V X 10 0 0 ((ad 2, .inl (g.2.1 0, 8192, .inl tf)) :: r2) 86 [some (.ref (ad 0)), some (.ref (ad 2)), some (.int (nI 0)), some (.int (nI n)), some (.int (nI (p))), o5, some (.int (nI (e))), some (.int (if pu_any tf (e - p) p = true then 1 else 0)), some (.int (nI (pu_fur tf n (e - 1)))), o9] [] := by
    intro k
    induction k with
    | zero =>
      intro p e r2 o5 o9 hq hk
      obtain ⟨q1, q2, q3, q4, q5⟩ := hq
      rcases pu_fur_cases (f := tf) (n := n) (e := e) (by omega) with ⟨d0, d1⟩ | ⟨d0, d1, d2, d3⟩ | ⟨d0, d1, d2, d3, d4⟩
      · skip
        refine sv_iload C rfl d_M_cut_aIII_86 ?_
        refine sv_ifN_le C _ (by omega) 147 (by decide) d_M_cut_aIII_88 (fun c88 => ?_) (fun c88 => ?_)
        · skip
          rw [q5, d1] at hk
          exact hk _ _
        · skip
          exact absurd c88 (by omega)
      · skip
        refine sv_lvE (lv' := [some (.ref (ad 0)), some (.ref (ad 2)), some (.int (nI 0)), some (.int (nI n)), some (.int (nI (p))), o5, some (.int (nI (e))), some (.int (if pu_any tf (e - p) p = true then 1 else 0)), some (.int (nI (1))), o9]) (by rw [d0]) ?_
        have hs9 : pu_st tf e < 8 := pu_sort_lt _
        refine sv_iload C rfl d_M_cut_aIII_86 ?_
        refine sv_ifN_le C _ (by omega) 147 (by decide) d_M_cut_aIII_88 (fun c88 => ?_) (fun c88 => ?_)
        · skip
          exact absurd c88 (by omega)
        · skip
          refine sv_iload C rfl d_M_cut_aIII_91 ?_
          refine sv_iload C rfl d_M_cut_aIII_93 ?_
          refine sv_iaddN C _ _  d_M_cut_aIII_95 ?_
          refine sv_istore C (by decide) [some _, some _, some _, some _, some _, _, some _, some _, some _, _] rfl d_M_cut_aIII_96 ?_
          refine sv_aload_n C rfl rfl d_M_cut_aIII_98 ?_
          refine sv_iload C rfl d_M_cut_aIII_99 ?_
          refine sv_iconst C (v := 1) (by decide) d_M_cut_aIII_101 ?_
          refine sv_isubN C _ 1 (by omega) d_M_cut_aIII_102 ?_
          refine sv_ialdN C _ 0 rfl (by omega) (by decide) d_M_cut_aIII_103 ?_
          refine sv_callSi C (c_M_sortOf l g _ (tf (e + 1 - 1))) lk_M_227  d_M_cut_aIII_104 (by decide) (Nat.le_of_ble_eq_true rfl) (by decide) (fun r w hw => ?_)
          obtain ⟨rfl, rfl⟩ := hw
          refine sv_eqi (congrArg nI (show pu_sort (tf (e + 1 - 1)).toInt = pu_st tf (e) from rfl)) ?_
          refine sv_istore C (by decide) [some _, some _, some _, some _, some _, _, some _, some _, some _, some _] rfl d_M_cut_aIII_107 ?_
          refine sv_iload C rfl d_M_cut_aIII_109 ?_
          refine sv_ifB_ne C _ 126 (by decide) d_M_cut_aIII_111 (fun c111 => ?_) (fun c111 => ?_)
          · skip
            refine sv_iconst C (v := 1) (by decide) d_M_cut_aIII_126 ?_
            refine sv_goto C 131 (by decide) d_M_cut_aIII_127 ?_
            refine sv_istore C (by decide) [some _, some _, some _, some _, some _, _, some _, some _, some _, some _] rfl d_M_cut_aIII_131 ?_
            refine sv_aload_n C rfl rfl d_M_cut_aIII_133 ?_
            refine sv_iload C rfl d_M_cut_aIII_134 ?_
            refine sv_iconst C (v := 1) (by decide) d_M_cut_aIII_136 ?_
            refine sv_isubN C _ 1 (by omega) d_M_cut_aIII_137 ?_
            refine sv_iload_n C rfl rfl d_M_cut_aIII_138 ?_
            refine sv_callSi C (c_M_further l g _ (ad 2) (e + 1 - 1) n tf (by omega) hn (by show pu_inn (pu_st tf e); omega)) lk_M_240  d_M_cut_aIII_139 (by decide) (Nat.le_of_ble_eq_true rfl) (by decide) (fun r w hw => ?_)
            obtain ⟨rfl, rfl⟩ := hw
            refine sv_istore C (by decide) [some _, some _, some _, some _, some _, _, some _, some _, some _, some _] rfl d_M_cut_aIII_142 ?_
            refine sv_goto C 86 (by decide) d_M_cut_aIII_144 ?_
            refine sv_lvE (lv' := [some (.ref (ad 0)), some (.ref (ad 2)), some (.int (nI 0)), some (.int (nI n)), some (.int (nI (p))), o5, some (.int (nI (e + 1))), some (.int (if pu_any tf ((e + 1) - p) p = true then 1 else 0)), some (.int (nI (pu_fur tf n (e + 1 - 1)))), some (.int (nI (pu_st tf e)))]) (by rw [if_pos (by rw [pu_any_1 (by omega), c111]; rfl)]) ?_
            first
              | exact absurd d1 (by omega)
              | exact ih p (e + 1) r2 o5 _ ⟨by omega, by omega, by omega, by show pu_inn (pu_st tf e); omega, by rw [q5, d3]⟩ hk
          · skip
            refine sv_iload C rfl d_M_cut_aIII_114 ?_
            refine sv_iconst C (v := 1) (by decide) d_M_cut_aIII_116 ?_
            refine sv_icmpN_eq C _ 1 (by omega) (by omega) 126 (by decide) d_M_cut_aIII_117 (fun c117 => ?_) (fun c117 => ?_)
            · skip
              refine sv_iconst C (v := 1) (by decide) d_M_cut_aIII_126 ?_
              refine sv_goto C 131 (by decide) d_M_cut_aIII_127 ?_
              refine sv_istore C (by decide) [some _, some _, some _, some _, some _, _, some _, some _, some _, some _] rfl d_M_cut_aIII_131 ?_
              refine sv_aload_n C rfl rfl d_M_cut_aIII_133 ?_
              refine sv_iload C rfl d_M_cut_aIII_134 ?_
              refine sv_iconst C (v := 1) (by decide) d_M_cut_aIII_136 ?_
              refine sv_isubN C _ 1 (by omega) d_M_cut_aIII_137 ?_
              refine sv_iload_n C rfl rfl d_M_cut_aIII_138 ?_
              refine sv_callSi C (c_M_further l g _ (ad 2) (e + 1 - 1) n tf (by omega) hn (by show pu_inn (pu_st tf e); omega)) lk_M_240  d_M_cut_aIII_139 (by decide) (Nat.le_of_ble_eq_true rfl) (by decide) (fun r w hw => ?_)
              obtain ⟨rfl, rfl⟩ := hw
              refine sv_istore C (by decide) [some _, some _, some _, some _, some _, _, some _, some _, some _, some _] rfl d_M_cut_aIII_142 ?_
              refine sv_goto C 86 (by decide) d_M_cut_aIII_144 ?_
              refine sv_lvE (lv' := [some (.ref (ad 0)), some (.ref (ad 2)), some (.int (nI 0)), some (.int (nI n)), some (.int (nI (p))), o5, some (.int (nI (e + 1))), some (.int (if pu_any tf ((e + 1) - p) p = true then 1 else 0)), some (.int (nI (pu_fur tf n (e + 1 - 1)))), some (.int (nI (pu_st tf e)))]) (by rw [if_pos (by rw [pu_any_1 (by omega), decide_eq_true (show pu_isW (pu_st tf e) from Or.inl c117)]; exact Bool.or_true _)]) ?_
              first
                | exact absurd d1 (by omega)
                | exact ih p (e + 1) r2 o5 _ ⟨by omega, by omega, by omega, by show pu_inn (pu_st tf e); omega, by rw [q5, d3]⟩ hk
            · skip
              refine sv_iload C rfl d_M_cut_aIII_120 ?_
              refine sv_iconst C (v := 2) (by decide) d_M_cut_aIII_122 ?_
              refine sv_icmpN_ne C _ 2 (by omega) (by omega) 130 (by decide) d_M_cut_aIII_123 (fun c123 => ?_) (fun c123 => ?_)
              · skip
                refine sv_iconst C (v := 0) (by decide) d_M_cut_aIII_130 ?_
                refine sv_istore C (by decide) [some _, some _, some _, some _, some _, _, some _, some _, some _, some _] rfl d_M_cut_aIII_131 ?_
                refine sv_aload_n C rfl rfl d_M_cut_aIII_133 ?_
                refine sv_iload C rfl d_M_cut_aIII_134 ?_
                refine sv_iconst C (v := 1) (by decide) d_M_cut_aIII_136 ?_
                refine sv_isubN C _ 1 (by omega) d_M_cut_aIII_137 ?_
                refine sv_iload_n C rfl rfl d_M_cut_aIII_138 ?_
                refine sv_callSi C (c_M_further l g _ (ad 2) (e + 1 - 1) n tf (by omega) hn (by show pu_inn (pu_st tf e); omega)) lk_M_240  d_M_cut_aIII_139 (by decide) (Nat.le_of_ble_eq_true rfl) (by decide) (fun r w hw => ?_)
                obtain ⟨rfl, rfl⟩ := hw
                refine sv_istore C (by decide) [some _, some _, some _, some _, some _, _, some _, some _, some _, some _] rfl d_M_cut_aIII_142 ?_
                refine sv_goto C 86 (by decide) d_M_cut_aIII_144 ?_
                refine sv_lvE (lv' := [some (.ref (ad 0)), some (.ref (ad 2)), some (.int (nI 0)), some (.int (nI n)), some (.int (nI (p))), o5, some (.int (nI (e + 1))), some (.int (if pu_any tf ((e + 1) - p) p = true then 1 else 0)), some (.int (nI (pu_fur tf n (e + 1 - 1)))), some (.int (nI (pu_st tf e)))]) (by rw [if_neg (by rw [pu_any_1 (by omega), pu_boolF c111, decide_eq_false (show ¬ pu_isW (pu_st tf e) by omega)]; exact Bool.false_ne_true)]) ?_
                first
                  | exact absurd d1 (by omega)
                  | exact ih p (e + 1) r2 o5 _ ⟨by omega, by omega, by omega, by show pu_inn (pu_st tf e); omega, by rw [q5, d3]⟩ hk
              · skip
                refine sv_iconst C (v := 1) (by decide) d_M_cut_aIII_126 ?_
                refine sv_goto C 131 (by decide) d_M_cut_aIII_127 ?_
                refine sv_istore C (by decide) [some _, some _, some _, some _, some _, _, some _, some _, some _, some _] rfl d_M_cut_aIII_131 ?_
                refine sv_aload_n C rfl rfl d_M_cut_aIII_133 ?_
                refine sv_iload C rfl d_M_cut_aIII_134 ?_
                refine sv_iconst C (v := 1) (by decide) d_M_cut_aIII_136 ?_
                refine sv_isubN C _ 1 (by omega) d_M_cut_aIII_137 ?_
                refine sv_iload_n C rfl rfl d_M_cut_aIII_138 ?_
                refine sv_callSi C (c_M_further l g _ (ad 2) (e + 1 - 1) n tf (by omega) hn (by show pu_inn (pu_st tf e); omega)) lk_M_240  d_M_cut_aIII_139 (by decide) (Nat.le_of_ble_eq_true rfl) (by decide) (fun r w hw => ?_)
                obtain ⟨rfl, rfl⟩ := hw
                refine sv_istore C (by decide) [some _, some _, some _, some _, some _, _, some _, some _, some _, some _] rfl d_M_cut_aIII_142 ?_
                refine sv_goto C 86 (by decide) d_M_cut_aIII_144 ?_
                refine sv_lvE (lv' := [some (.ref (ad 0)), some (.ref (ad 2)), some (.int (nI 0)), some (.int (nI n)), some (.int (nI (p))), o5, some (.int (nI (e + 1))), some (.int (if pu_any tf ((e + 1) - p) p = true then 1 else 0)), some (.int (nI (pu_fur tf n (e + 1 - 1)))), some (.int (nI (pu_st tf e)))]) (by rw [if_pos (by rw [pu_any_1 (by omega), decide_eq_true (show pu_isW (pu_st tf e) from Or.inr (Or.inl c123))]; exact Bool.or_true _)]) ?_
                first
                  | exact absurd d1 (by omega)
                  | exact ih p (e + 1) r2 o5 _ ⟨by omega, by omega, by omega, by show pu_inn (pu_st tf e); omega, by rw [q5, d3]⟩ hk
      · skip
        refine sv_lvE (lv' := [some (.ref (ad 0)), some (.ref (ad 2)), some (.int (nI 0)), some (.int (nI n)), some (.int (nI (p))), o5, some (.int (nI (e))), some (.int (if pu_any tf (e - p) p = true then 1 else 0)), some (.int (nI (2))), o9]) (by rw [d0]) ?_
        have hs9 : pu_st tf (e + 1) < 8 := pu_sort_lt _
        refine sv_iload C rfl d_M_cut_aIII_86 ?_
        refine sv_ifN_le C _ (by omega) 147 (by decide) d_M_cut_aIII_88 (fun c88 => ?_) (fun c88 => ?_)
        · skip
          exact absurd c88 (by omega)
        · skip
          refine sv_iload C rfl d_M_cut_aIII_91 ?_
          refine sv_iload C rfl d_M_cut_aIII_93 ?_
          refine sv_iaddN C _ _  d_M_cut_aIII_95 ?_
          refine sv_istore C (by decide) [some _, some _, some _, some _, some _, _, some _, some _, some _, _] rfl d_M_cut_aIII_96 ?_
          refine sv_aload_n C rfl rfl d_M_cut_aIII_98 ?_
          refine sv_iload C rfl d_M_cut_aIII_99 ?_
          refine sv_iconst C (v := 1) (by decide) d_M_cut_aIII_101 ?_
          refine sv_isubN C _ 1 (by omega) d_M_cut_aIII_102 ?_
          refine sv_ialdN C _ 0 rfl (by omega) (by decide) d_M_cut_aIII_103 ?_
          refine sv_callSi C (c_M_sortOf l g _ (tf (e + 2 - 1))) lk_M_227  d_M_cut_aIII_104 (by decide) (Nat.le_of_ble_eq_true rfl) (by decide) (fun r w hw => ?_)
          obtain ⟨rfl, rfl⟩ := hw
          refine sv_eqi (congrArg nI (show pu_sort (tf (e + 2 - 1)).toInt = pu_st tf ((e + 1)) from rfl)) ?_
          refine sv_istore C (by decide) [some _, some _, some _, some _, some _, _, some _, some _, some _, some _] rfl d_M_cut_aIII_107 ?_
          refine sv_iload C rfl d_M_cut_aIII_109 ?_
          refine sv_ifB_ne C _ 126 (by decide) d_M_cut_aIII_111 (fun c111 => ?_) (fun c111 => ?_)
          · skip
            refine sv_iconst C (v := 1) (by decide) d_M_cut_aIII_126 ?_
            refine sv_goto C 131 (by decide) d_M_cut_aIII_127 ?_
            refine sv_istore C (by decide) [some _, some _, some _, some _, some _, _, some _, some _, some _, some _] rfl d_M_cut_aIII_131 ?_
            refine sv_aload_n C rfl rfl d_M_cut_aIII_133 ?_
            refine sv_iload C rfl d_M_cut_aIII_134 ?_
            refine sv_iconst C (v := 1) (by decide) d_M_cut_aIII_136 ?_
            refine sv_isubN C _ 1 (by omega) d_M_cut_aIII_137 ?_
            refine sv_iload_n C rfl rfl d_M_cut_aIII_138 ?_
            refine sv_callSi C (c_M_further l g _ (ad 2) (e + 2 - 1) n tf (by omega) hn (by show pu_inn (pu_st tf (e + 1)); omega)) lk_M_240  d_M_cut_aIII_139 (by decide) (Nat.le_of_ble_eq_true rfl) (by decide) (fun r w hw => ?_)
            obtain ⟨rfl, rfl⟩ := hw
            refine sv_istore C (by decide) [some _, some _, some _, some _, some _, _, some _, some _, some _, some _] rfl d_M_cut_aIII_142 ?_
            refine sv_goto C 86 (by decide) d_M_cut_aIII_144 ?_
            refine sv_lvE (lv' := [some (.ref (ad 0)), some (.ref (ad 2)), some (.int (nI 0)), some (.int (nI n)), some (.int (nI (p))), o5, some (.int (nI (e + 2))), some (.int (if pu_any tf ((e + 2) - p) p = true then 1 else 0)), some (.int (nI (pu_fur tf n (e + 2 - 1)))), some (.int (nI (pu_st tf (e + 1))))]) (by rw [if_pos (by rw [pu_any_2 (by omega) d2, c111]; rfl)]) ?_
            first
              | exact absurd d1 (by omega)
              | exact ih p (e + 2) r2 o5 _ ⟨by omega, by omega, by omega, by show pu_inn (pu_st tf (e + 1)); omega, by rw [q5, d4]⟩ hk
          · skip
            refine sv_iload C rfl d_M_cut_aIII_114 ?_
            refine sv_iconst C (v := 1) (by decide) d_M_cut_aIII_116 ?_
            refine sv_icmpN_eq C _ 1 (by omega) (by omega) 126 (by decide) d_M_cut_aIII_117 (fun c117 => ?_) (fun c117 => ?_)
            · skip
              refine sv_iconst C (v := 1) (by decide) d_M_cut_aIII_126 ?_
              refine sv_goto C 131 (by decide) d_M_cut_aIII_127 ?_
              refine sv_istore C (by decide) [some _, some _, some _, some _, some _, _, some _, some _, some _, some _] rfl d_M_cut_aIII_131 ?_
              refine sv_aload_n C rfl rfl d_M_cut_aIII_133 ?_
              refine sv_iload C rfl d_M_cut_aIII_134 ?_
              refine sv_iconst C (v := 1) (by decide) d_M_cut_aIII_136 ?_
              refine sv_isubN C _ 1 (by omega) d_M_cut_aIII_137 ?_
              refine sv_iload_n C rfl rfl d_M_cut_aIII_138 ?_
              refine sv_callSi C (c_M_further l g _ (ad 2) (e + 2 - 1) n tf (by omega) hn (by show pu_inn (pu_st tf (e + 1)); omega)) lk_M_240  d_M_cut_aIII_139 (by decide) (Nat.le_of_ble_eq_true rfl) (by decide) (fun r w hw => ?_)
              obtain ⟨rfl, rfl⟩ := hw
              refine sv_istore C (by decide) [some _, some _, some _, some _, some _, _, some _, some _, some _, some _] rfl d_M_cut_aIII_142 ?_
              refine sv_goto C 86 (by decide) d_M_cut_aIII_144 ?_
              refine sv_lvE (lv' := [some (.ref (ad 0)), some (.ref (ad 2)), some (.int (nI 0)), some (.int (nI n)), some (.int (nI (p))), o5, some (.int (nI (e + 2))), some (.int (if pu_any tf ((e + 2) - p) p = true then 1 else 0)), some (.int (nI (pu_fur tf n (e + 2 - 1)))), some (.int (nI (pu_st tf (e + 1))))]) (by rw [if_pos (by rw [pu_any_2 (by omega) d2, decide_eq_true (show pu_isW (pu_st tf (e + 1)) from Or.inl c117)]; exact Bool.or_true _)]) ?_
              first
                | exact absurd d1 (by omega)
                | exact ih p (e + 2) r2 o5 _ ⟨by omega, by omega, by omega, by show pu_inn (pu_st tf (e + 1)); omega, by rw [q5, d4]⟩ hk
            · skip
              refine sv_iload C rfl d_M_cut_aIII_120 ?_
              refine sv_iconst C (v := 2) (by decide) d_M_cut_aIII_122 ?_
              refine sv_icmpN_ne C _ 2 (by omega) (by omega) 130 (by decide) d_M_cut_aIII_123 (fun c123 => ?_) (fun c123 => ?_)
              · skip
                refine sv_iconst C (v := 0) (by decide) d_M_cut_aIII_130 ?_
                refine sv_istore C (by decide) [some _, some _, some _, some _, some _, _, some _, some _, some _, some _] rfl d_M_cut_aIII_131 ?_
                refine sv_aload_n C rfl rfl d_M_cut_aIII_133 ?_
                refine sv_iload C rfl d_M_cut_aIII_134 ?_
                refine sv_iconst C (v := 1) (by decide) d_M_cut_aIII_136 ?_
                refine sv_isubN C _ 1 (by omega) d_M_cut_aIII_137 ?_
                refine sv_iload_n C rfl rfl d_M_cut_aIII_138 ?_
                refine sv_callSi C (c_M_further l g _ (ad 2) (e + 2 - 1) n tf (by omega) hn (by show pu_inn (pu_st tf (e + 1)); omega)) lk_M_240  d_M_cut_aIII_139 (by decide) (Nat.le_of_ble_eq_true rfl) (by decide) (fun r w hw => ?_)
                obtain ⟨rfl, rfl⟩ := hw
                refine sv_istore C (by decide) [some _, some _, some _, some _, some _, _, some _, some _, some _, some _] rfl d_M_cut_aIII_142 ?_
                refine sv_goto C 86 (by decide) d_M_cut_aIII_144 ?_
                refine sv_lvE (lv' := [some (.ref (ad 0)), some (.ref (ad 2)), some (.int (nI 0)), some (.int (nI n)), some (.int (nI (p))), o5, some (.int (nI (e + 2))), some (.int (if pu_any tf ((e + 2) - p) p = true then 1 else 0)), some (.int (nI (pu_fur tf n (e + 2 - 1)))), some (.int (nI (pu_st tf (e + 1))))]) (by rw [if_neg (by rw [pu_any_2 (by omega) d2, pu_boolF c111, decide_eq_false (show ¬ pu_isW (pu_st tf (e + 1)) by omega)]; exact Bool.false_ne_true)]) ?_
                first
                  | exact absurd d1 (by omega)
                  | exact ih p (e + 2) r2 o5 _ ⟨by omega, by omega, by omega, by show pu_inn (pu_st tf (e + 1)); omega, by rw [q5, d4]⟩ hk
              · skip
                refine sv_iconst C (v := 1) (by decide) d_M_cut_aIII_126 ?_
                refine sv_goto C 131 (by decide) d_M_cut_aIII_127 ?_
                refine sv_istore C (by decide) [some _, some _, some _, some _, some _, _, some _, some _, some _, some _] rfl d_M_cut_aIII_131 ?_
                refine sv_aload_n C rfl rfl d_M_cut_aIII_133 ?_
                refine sv_iload C rfl d_M_cut_aIII_134 ?_
                refine sv_iconst C (v := 1) (by decide) d_M_cut_aIII_136 ?_
                refine sv_isubN C _ 1 (by omega) d_M_cut_aIII_137 ?_
                refine sv_iload_n C rfl rfl d_M_cut_aIII_138 ?_
                refine sv_callSi C (c_M_further l g _ (ad 2) (e + 2 - 1) n tf (by omega) hn (by show pu_inn (pu_st tf (e + 1)); omega)) lk_M_240  d_M_cut_aIII_139 (by decide) (Nat.le_of_ble_eq_true rfl) (by decide) (fun r w hw => ?_)
                obtain ⟨rfl, rfl⟩ := hw
                refine sv_istore C (by decide) [some _, some _, some _, some _, some _, _, some _, some _, some _, some _] rfl d_M_cut_aIII_142 ?_
                refine sv_goto C 86 (by decide) d_M_cut_aIII_144 ?_
                refine sv_lvE (lv' := [some (.ref (ad 0)), some (.ref (ad 2)), some (.int (nI 0)), some (.int (nI n)), some (.int (nI (p))), o5, some (.int (nI (e + 2))), some (.int (if pu_any tf ((e + 2) - p) p = true then 1 else 0)), some (.int (nI (pu_fur tf n (e + 2 - 1)))), some (.int (nI (pu_st tf (e + 1))))]) (by rw [if_pos (by rw [pu_any_2 (by omega) d2, decide_eq_true (show pu_isW (pu_st tf (e + 1)) from Or.inr (Or.inl c123))]; exact Bool.or_true _)]) ?_
                first
                  | exact absurd d1 (by omega)
                  | exact ih p (e + 2) r2 o5 _ ⟨by omega, by omega, by omega, by show pu_inn (pu_st tf (e + 1)); omega, by rw [q5, d4]⟩ hk
    | succ k ih =>
      intro p e r2 o5 o9 hq hk
      obtain ⟨q1, q2, q3, q4, q5⟩ := hq
      rcases pu_fur_cases (f := tf) (n := n) (e := e) (by omega) with ⟨d0, d1⟩ | ⟨d0, d1, d2, d3⟩ | ⟨d0, d1, d2, d3, d4⟩
      · skip
        refine sv_iload C rfl d_M_cut_aIII_86 ?_
        refine sv_ifN_le C _ (by omega) 147 (by decide) d_M_cut_aIII_88 (fun c88 => ?_) (fun c88 => ?_)
        · skip
          rw [q5, d1] at hk
          exact hk _ _
        · skip
          exact absurd c88 (by omega)
      · skip
        refine sv_lvE (lv' := [some (.ref (ad 0)), some (.ref (ad 2)), some (.int (nI 0)), some (.int (nI n)), some (.int (nI (p))), o5, some (.int (nI (e))), some (.int (if pu_any tf (e - p) p = true then 1 else 0)), some (.int (nI (1))), o9]) (by rw [d0]) ?_
        have hs9 : pu_st tf e < 8 := pu_sort_lt _
        refine sv_iload C rfl d_M_cut_aIII_86 ?_
        refine sv_ifN_le C _ (by omega) 147 (by decide) d_M_cut_aIII_88 (fun c88 => ?_) (fun c88 => ?_)
        · skip
          exact absurd c88 (by omega)
        · skip
          refine sv_iload C rfl d_M_cut_aIII_91 ?_
          refine sv_iload C rfl d_M_cut_aIII_93 ?_
          refine sv_iaddN C _ _  d_M_cut_aIII_95 ?_
          refine sv_istore C (by decide) [some _, some _, some _, some _, some _, _, some _, some _, some _, _] rfl d_M_cut_aIII_96 ?_
          refine sv_aload_n C rfl rfl d_M_cut_aIII_98 ?_
          refine sv_iload C rfl d_M_cut_aIII_99 ?_
          refine sv_iconst C (v := 1) (by decide) d_M_cut_aIII_101 ?_
          refine sv_isubN C _ 1 (by omega) d_M_cut_aIII_102 ?_
          refine sv_ialdN C _ 0 rfl (by omega) (by decide) d_M_cut_aIII_103 ?_
          refine sv_callSi C (c_M_sortOf l g _ (tf (e + 1 - 1))) lk_M_227  d_M_cut_aIII_104 (by decide) (Nat.le_of_ble_eq_true rfl) (by decide) (fun r w hw => ?_)
          obtain ⟨rfl, rfl⟩ := hw
          refine sv_eqi (congrArg nI (show pu_sort (tf (e + 1 - 1)).toInt = pu_st tf (e) from rfl)) ?_
          refine sv_istore C (by decide) [some _, some _, some _, some _, some _, _, some _, some _, some _, some _] rfl d_M_cut_aIII_107 ?_
          refine sv_iload C rfl d_M_cut_aIII_109 ?_
          refine sv_ifB_ne C _ 126 (by decide) d_M_cut_aIII_111 (fun c111 => ?_) (fun c111 => ?_)
          · skip
            refine sv_iconst C (v := 1) (by decide) d_M_cut_aIII_126 ?_
            refine sv_goto C 131 (by decide) d_M_cut_aIII_127 ?_
            refine sv_istore C (by decide) [some _, some _, some _, some _, some _, _, some _, some _, some _, some _] rfl d_M_cut_aIII_131 ?_
            refine sv_aload_n C rfl rfl d_M_cut_aIII_133 ?_
            refine sv_iload C rfl d_M_cut_aIII_134 ?_
            refine sv_iconst C (v := 1) (by decide) d_M_cut_aIII_136 ?_
            refine sv_isubN C _ 1 (by omega) d_M_cut_aIII_137 ?_
            refine sv_iload_n C rfl rfl d_M_cut_aIII_138 ?_
            refine sv_callSi C (c_M_further l g _ (ad 2) (e + 1 - 1) n tf (by omega) hn (by show pu_inn (pu_st tf e); omega)) lk_M_240  d_M_cut_aIII_139 (by decide) (Nat.le_of_ble_eq_true rfl) (by decide) (fun r w hw => ?_)
            obtain ⟨rfl, rfl⟩ := hw
            refine sv_istore C (by decide) [some _, some _, some _, some _, some _, _, some _, some _, some _, some _] rfl d_M_cut_aIII_142 ?_
            refine sv_goto C 86 (by decide) d_M_cut_aIII_144 ?_
            refine sv_lvE (lv' := [some (.ref (ad 0)), some (.ref (ad 2)), some (.int (nI 0)), some (.int (nI n)), some (.int (nI (p))), o5, some (.int (nI (e + 1))), some (.int (if pu_any tf ((e + 1) - p) p = true then 1 else 0)), some (.int (nI (pu_fur tf n (e + 1 - 1)))), some (.int (nI (pu_st tf e)))]) (by rw [if_pos (by rw [pu_any_1 (by omega), c111]; rfl)]) ?_
            first
              | exact absurd d1 (by omega)
              | exact ih p (e + 1) r2 o5 _ ⟨by omega, by omega, by omega, by show pu_inn (pu_st tf e); omega, by rw [q5, d3]⟩ hk
          · skip
            refine sv_iload C rfl d_M_cut_aIII_114 ?_
            refine sv_iconst C (v := 1) (by decide) d_M_cut_aIII_116 ?_
            refine sv_icmpN_eq C _ 1 (by omega) (by omega) 126 (by decide) d_M_cut_aIII_117 (fun c117 => ?_) (fun c117 => ?_)
            · skip
              refine sv_iconst C (v := 1) (by decide) d_M_cut_aIII_126 ?_
              refine sv_goto C 131 (by decide) d_M_cut_aIII_127 ?_
              refine sv_istore C (by decide) [some _, some _, some _, some _, some _, _, some _, some _, some _, some _] rfl d_M_cut_aIII_131 ?_
              refine sv_aload_n C rfl rfl d_M_cut_aIII_133 ?_
              refine sv_iload C rfl d_M_cut_aIII_134 ?_
              refine sv_iconst C (v := 1) (by decide) d_M_cut_aIII_136 ?_
              refine sv_isubN C _ 1 (by omega) d_M_cut_aIII_137 ?_
              refine sv_iload_n C rfl rfl d_M_cut_aIII_138 ?_
              refine sv_callSi C (c_M_further l g _ (ad 2) (e + 1 - 1) n tf (by omega) hn (by show pu_inn (pu_st tf e); omega)) lk_M_240  d_M_cut_aIII_139 (by decide) (Nat.le_of_ble_eq_true rfl) (by decide) (fun r w hw => ?_)
              obtain ⟨rfl, rfl⟩ := hw
              refine sv_istore C (by decide) [some _, some _, some _, some _, some _, _, some _, some _, some _, some _] rfl d_M_cut_aIII_142 ?_
              refine sv_goto C 86 (by decide) d_M_cut_aIII_144 ?_
              refine sv_lvE (lv' := [some (.ref (ad 0)), some (.ref (ad 2)), some (.int (nI 0)), some (.int (nI n)), some (.int (nI (p))), o5, some (.int (nI (e + 1))), some (.int (if pu_any tf ((e + 1) - p) p = true then 1 else 0)), some (.int (nI (pu_fur tf n (e + 1 - 1)))), some (.int (nI (pu_st tf e)))]) (by rw [if_pos (by rw [pu_any_1 (by omega), decide_eq_true (show pu_isW (pu_st tf e) from Or.inl c117)]; exact Bool.or_true _)]) ?_
              first
                | exact absurd d1 (by omega)
                | exact ih p (e + 1) r2 o5 _ ⟨by omega, by omega, by omega, by show pu_inn (pu_st tf e); omega, by rw [q5, d3]⟩ hk
            · skip
              refine sv_iload C rfl d_M_cut_aIII_120 ?_
              refine sv_iconst C (v := 2) (by decide) d_M_cut_aIII_122 ?_
              refine sv_icmpN_ne C _ 2 (by omega) (by omega) 130 (by decide) d_M_cut_aIII_123 (fun c123 => ?_) (fun c123 => ?_)
              · skip
                refine sv_iconst C (v := 0) (by decide) d_M_cut_aIII_130 ?_
                refine sv_istore C (by decide) [some _, some _, some _, some _, some _, _, some _, some _, some _, some _] rfl d_M_cut_aIII_131 ?_
                refine sv_aload_n C rfl rfl d_M_cut_aIII_133 ?_
                refine sv_iload C rfl d_M_cut_aIII_134 ?_
                refine sv_iconst C (v := 1) (by decide) d_M_cut_aIII_136 ?_
                refine sv_isubN C _ 1 (by omega) d_M_cut_aIII_137 ?_
                refine sv_iload_n C rfl rfl d_M_cut_aIII_138 ?_
                refine sv_callSi C (c_M_further l g _ (ad 2) (e + 1 - 1) n tf (by omega) hn (by show pu_inn (pu_st tf e); omega)) lk_M_240  d_M_cut_aIII_139 (by decide) (Nat.le_of_ble_eq_true rfl) (by decide) (fun r w hw => ?_)
                obtain ⟨rfl, rfl⟩ := hw
                refine sv_istore C (by decide) [some _, some _, some _, some _, some _, _, some _, some _, some _, some _] rfl d_M_cut_aIII_142 ?_
                refine sv_goto C 86 (by decide) d_M_cut_aIII_144 ?_
                refine sv_lvE (lv' := [some (.ref (ad 0)), some (.ref (ad 2)), some (.int (nI 0)), some (.int (nI n)), some (.int (nI (p))), o5, some (.int (nI (e + 1))), some (.int (if pu_any tf ((e + 1) - p) p = true then 1 else 0)), some (.int (nI (pu_fur tf n (e + 1 - 1)))), some (.int (nI (pu_st tf e)))]) (by rw [if_neg (by rw [pu_any_1 (by omega), pu_boolF c111, decide_eq_false (show ¬ pu_isW (pu_st tf e) by omega)]; exact Bool.false_ne_true)]) ?_
                first
                  | exact absurd d1 (by omega)
                  | exact ih p (e + 1) r2 o5 _ ⟨by omega, by omega, by omega, by show pu_inn (pu_st tf e); omega, by rw [q5, d3]⟩ hk
              · skip
                refine sv_iconst C (v := 1) (by decide) d_M_cut_aIII_126 ?_
                refine sv_goto C 131 (by decide) d_M_cut_aIII_127 ?_
                refine sv_istore C (by decide) [some _, some _, some _, some _, some _, _, some _, some _, some _, some _] rfl d_M_cut_aIII_131 ?_
                refine sv_aload_n C rfl rfl d_M_cut_aIII_133 ?_
                refine sv_iload C rfl d_M_cut_aIII_134 ?_
                refine sv_iconst C (v := 1) (by decide) d_M_cut_aIII_136 ?_
                refine sv_isubN C _ 1 (by omega) d_M_cut_aIII_137 ?_
                refine sv_iload_n C rfl rfl d_M_cut_aIII_138 ?_
                refine sv_callSi C (c_M_further l g _ (ad 2) (e + 1 - 1) n tf (by omega) hn (by show pu_inn (pu_st tf e); omega)) lk_M_240  d_M_cut_aIII_139 (by decide) (Nat.le_of_ble_eq_true rfl) (by decide) (fun r w hw => ?_)
                obtain ⟨rfl, rfl⟩ := hw
                refine sv_istore C (by decide) [some _, some _, some _, some _, some _, _, some _, some _, some _, some _] rfl d_M_cut_aIII_142 ?_
                refine sv_goto C 86 (by decide) d_M_cut_aIII_144 ?_
                refine sv_lvE (lv' := [some (.ref (ad 0)), some (.ref (ad 2)), some (.int (nI 0)), some (.int (nI n)), some (.int (nI (p))), o5, some (.int (nI (e + 1))), some (.int (if pu_any tf ((e + 1) - p) p = true then 1 else 0)), some (.int (nI (pu_fur tf n (e + 1 - 1)))), some (.int (nI (pu_st tf e)))]) (by rw [if_pos (by rw [pu_any_1 (by omega), decide_eq_true (show pu_isW (pu_st tf e) from Or.inr (Or.inl c123))]; exact Bool.or_true _)]) ?_
                first
                  | exact absurd d1 (by omega)
                  | exact ih p (e + 1) r2 o5 _ ⟨by omega, by omega, by omega, by show pu_inn (pu_st tf e); omega, by rw [q5, d3]⟩ hk
      · skip
        refine sv_lvE (lv' := [some (.ref (ad 0)), some (.ref (ad 2)), some (.int (nI 0)), some (.int (nI n)), some (.int (nI (p))), o5, some (.int (nI (e))), some (.int (if pu_any tf (e - p) p = true then 1 else 0)), some (.int (nI (2))), o9]) (by rw [d0]) ?_
        have hs9 : pu_st tf (e + 1) < 8 := pu_sort_lt _
        refine sv_iload C rfl d_M_cut_aIII_86 ?_
        refine sv_ifN_le C _ (by omega) 147 (by decide) d_M_cut_aIII_88 (fun c88 => ?_) (fun c88 => ?_)
        · skip
          exact absurd c88 (by omega)
        · skip
          refine sv_iload C rfl d_M_cut_aIII_91 ?_
          refine sv_iload C rfl d_M_cut_aIII_93 ?_
          refine sv_iaddN C _ _  d_M_cut_aIII_95 ?_
          refine sv_istore C (by decide) [some _, some _, some _, some _, some _, _, some _, some _, some _, _] rfl d_M_cut_aIII_96 ?_
          refine sv_aload_n C rfl rfl d_M_cut_aIII_98 ?_
          refine sv_iload C rfl d_M_cut_aIII_99 ?_
          refine sv_iconst C (v := 1) (by decide) d_M_cut_aIII_101 ?_
          refine sv_isubN C _ 1 (by omega) d_M_cut_aIII_102 ?_
          refine sv_ialdN C _ 0 rfl (by omega) (by decide) d_M_cut_aIII_103 ?_
          refine sv_callSi C (c_M_sortOf l g _ (tf (e + 2 - 1))) lk_M_227  d_M_cut_aIII_104 (by decide) (Nat.le_of_ble_eq_true rfl) (by decide) (fun r w hw => ?_)
          obtain ⟨rfl, rfl⟩ := hw
          refine sv_eqi (congrArg nI (show pu_sort (tf (e + 2 - 1)).toInt = pu_st tf ((e + 1)) from rfl)) ?_
          refine sv_istore C (by decide) [some _, some _, some _, some _, some _, _, some _, some _, some _, some _] rfl d_M_cut_aIII_107 ?_
          refine sv_iload C rfl d_M_cut_aIII_109 ?_
          refine sv_ifB_ne C _ 126 (by decide) d_M_cut_aIII_111 (fun c111 => ?_) (fun c111 => ?_)
          · skip
            refine sv_iconst C (v := 1) (by decide) d_M_cut_aIII_126 ?_
            refine sv_goto C 131 (by decide) d_M_cut_aIII_127 ?_
            refine sv_istore C (by decide) [some _, some _, some _, some _, some _, _, some _, some _, some _, some _] rfl d_M_cut_aIII_131 ?_
            refine sv_aload_n C rfl rfl d_M_cut_aIII_133 ?_
            refine sv_iload C rfl d_M_cut_aIII_134 ?_
            refine sv_iconst C (v := 1) (by decide) d_M_cut_aIII_136 ?_
            refine sv_isubN C _ 1 (by omega) d_M_cut_aIII_137 ?_
            refine sv_iload_n C rfl rfl d_M_cut_aIII_138 ?_
            refine sv_callSi C (c_M_further l g _ (ad 2) (e + 2 - 1) n tf (by omega) hn (by show pu_inn (pu_st tf (e + 1)); omega)) lk_M_240  d_M_cut_aIII_139 (by decide) (Nat.le_of_ble_eq_true rfl) (by decide) (fun r w hw => ?_)
            obtain ⟨rfl, rfl⟩ := hw
            refine sv_istore C (by decide) [some _, some _, some _, some _, some _, _, some _, some _, some _, some _] rfl d_M_cut_aIII_142 ?_
            refine sv_goto C 86 (by decide) d_M_cut_aIII_144 ?_
            refine sv_lvE (lv' := [some (.ref (ad 0)), some (.ref (ad 2)), some (.int (nI 0)), some (.int (nI n)), some (.int (nI (p))), o5, some (.int (nI (e + 2))), some (.int (if pu_any tf ((e + 2) - p) p = true then 1 else 0)), some (.int (nI (pu_fur tf n (e + 2 - 1)))), some (.int (nI (pu_st tf (e + 1))))]) (by rw [if_pos (by rw [pu_any_2 (by omega) d2, c111]; rfl)]) ?_
            first
              | exact absurd d1 (by omega)
              | exact ih p (e + 2) r2 o5 _ ⟨by omega, by omega, by omega, by show pu_inn (pu_st tf (e + 1)); omega, by rw [q5, d4]⟩ hk
          · skip
            refine sv_iload C rfl d_M_cut_aIII_114 ?_
            refine sv_iconst C (v := 1) (by decide) d_M_cut_aIII_116 ?_
            refine sv_icmpN_eq C _ 1 (by omega) (by omega) 126 (by decide) d_M_cut_aIII_117 (fun c117 => ?_) (fun c117 => ?_)
            · skip
              refine sv_iconst C (v := 1) (by decide) d_M_cut_aIII_126 ?_
              refine sv_goto C 131 (by decide) d_M_cut_aIII_127 ?_
              refine sv_istore C (by decide) [some _, some _, some _, some _, some _, _, some _, some _, some _, some _] rfl d_M_cut_aIII_131 ?_
              refine sv_aload_n C rfl rfl d_M_cut_aIII_133 ?_
              refine sv_iload C rfl d_M_cut_aIII_134 ?_
              refine sv_iconst C (v := 1) (by decide) d_M_cut_aIII_136 ?_
              refine sv_isubN C _ 1 (by omega) d_M_cut_aIII_137 ?_
              refine sv_iload_n C rfl rfl d_M_cut_aIII_138 ?_
              refine sv_callSi C (c_M_further l g _ (ad 2) (e + 2 - 1) n tf (by omega) hn (by show pu_inn (pu_st tf (e + 1)); omega)) lk_M_240  d_M_cut_aIII_139 (by decide) (Nat.le_of_ble_eq_true rfl) (by decide) (fun r w hw => ?_)
              obtain ⟨rfl, rfl⟩ := hw
              refine sv_istore C (by decide) [some _, some _, some _, some _, some _, _, some _, some _, some _, some _] rfl d_M_cut_aIII_142 ?_
              refine sv_goto C 86 (by decide) d_M_cut_aIII_144 ?_
              refine sv_lvE (lv' := [some (.ref (ad 0)), some (.ref (ad 2)), some (.int (nI 0)), some (.int (nI n)), some (.int (nI (p))), o5, some (.int (nI (e + 2))), some (.int (if pu_any tf ((e + 2) - p) p = true then 1 else 0)), some (.int (nI (pu_fur tf n (e + 2 - 1)))), some (.int (nI (pu_st tf (e + 1))))]) (by rw [if_pos (by rw [pu_any_2 (by omega) d2, decide_eq_true (show pu_isW (pu_st tf (e + 1)) from Or.inl c117)]; exact Bool.or_true _)]) ?_
              first
                | exact absurd d1 (by omega)
                | exact ih p (e + 2) r2 o5 _ ⟨by omega, by omega, by omega, by show pu_inn (pu_st tf (e + 1)); omega, by rw [q5, d4]⟩ hk
            · skip
              refine sv_iload C rfl d_M_cut_aIII_120 ?_
              refine sv_iconst C (v := 2) (by decide) d_M_cut_aIII_122 ?_
              refine sv_icmpN_ne C _ 2 (by omega) (by omega) 130 (by decide) d_M_cut_aIII_123 (fun c123 => ?_) (fun c123 => ?_)
              · skip
                refine sv_iconst C (v := 0) (by decide) d_M_cut_aIII_130 ?_
                refine sv_istore C (by decide) [some _, some _, some _, some _, some _, _, some _, some _, some _, some _] rfl d_M_cut_aIII_131 ?_
                refine sv_aload_n C rfl rfl d_M_cut_aIII_133 ?_
                refine sv_iload C rfl d_M_cut_aIII_134 ?_
                refine sv_iconst C (v := 1) (by decide) d_M_cut_aIII_136 ?_
                refine sv_isubN C _ 1 (by omega) d_M_cut_aIII_137 ?_
                refine sv_iload_n C rfl rfl d_M_cut_aIII_138 ?_
                refine sv_callSi C (c_M_further l g _ (ad 2) (e + 2 - 1) n tf (by omega) hn (by show pu_inn (pu_st tf (e + 1)); omega)) lk_M_240  d_M_cut_aIII_139 (by decide) (Nat.le_of_ble_eq_true rfl) (by decide) (fun r w hw => ?_)
                obtain ⟨rfl, rfl⟩ := hw
                refine sv_istore C (by decide) [some _, some _, some _, some _, some _, _, some _, some _, some _, some _] rfl d_M_cut_aIII_142 ?_
                refine sv_goto C 86 (by decide) d_M_cut_aIII_144 ?_
                refine sv_lvE (lv' := [some (.ref (ad 0)), some (.ref (ad 2)), some (.int (nI 0)), some (.int (nI n)), some (.int (nI (p))), o5, some (.int (nI (e + 2))), some (.int (if pu_any tf ((e + 2) - p) p = true then 1 else 0)), some (.int (nI (pu_fur tf n (e + 2 - 1)))), some (.int (nI (pu_st tf (e + 1))))]) (by rw [if_neg (by rw [pu_any_2 (by omega) d2, pu_boolF c111, decide_eq_false (show ¬ pu_isW (pu_st tf (e + 1)) by omega)]; exact Bool.false_ne_true)]) ?_
                first
                  | exact absurd d1 (by omega)
                  | exact ih p (e + 2) r2 o5 _ ⟨by omega, by omega, by omega, by show pu_inn (pu_st tf (e + 1)); omega, by rw [q5, d4]⟩ hk
              · skip
                refine sv_iconst C (v := 1) (by decide) d_M_cut_aIII_126 ?_
                refine sv_goto C 131 (by decide) d_M_cut_aIII_127 ?_
                refine sv_istore C (by decide) [some _, some _, some _, some _, some _, _, some _, some _, some _, some _] rfl d_M_cut_aIII_131 ?_
                refine sv_aload_n C rfl rfl d_M_cut_aIII_133 ?_
                refine sv_iload C rfl d_M_cut_aIII_134 ?_
                refine sv_iconst C (v := 1) (by decide) d_M_cut_aIII_136 ?_
                refine sv_isubN C _ 1 (by omega) d_M_cut_aIII_137 ?_
                refine sv_iload_n C rfl rfl d_M_cut_aIII_138 ?_
                refine sv_callSi C (c_M_further l g _ (ad 2) (e + 2 - 1) n tf (by omega) hn (by show pu_inn (pu_st tf (e + 1)); omega)) lk_M_240  d_M_cut_aIII_139 (by decide) (Nat.le_of_ble_eq_true rfl) (by decide) (fun r w hw => ?_)
                obtain ⟨rfl, rfl⟩ := hw
                refine sv_istore C (by decide) [some _, some _, some _, some _, some _, _, some _, some _, some _, some _] rfl d_M_cut_aIII_142 ?_
                refine sv_goto C 86 (by decide) d_M_cut_aIII_144 ?_
                refine sv_lvE (lv' := [some (.ref (ad 0)), some (.ref (ad 2)), some (.int (nI 0)), some (.int (nI n)), some (.int (nI (p))), o5, some (.int (nI (e + 2))), some (.int (if pu_any tf ((e + 2) - p) p = true then 1 else 0)), some (.int (nI (pu_fur tf n (e + 2 - 1)))), some (.int (nI (pu_st tf (e + 1))))]) (by rw [if_pos (by rw [pu_any_2 (by omega) d2, decide_eq_true (show pu_isW (pu_st tf (e + 1)) from Or.inr (Or.inl c123))]; exact Bool.or_true _)]) ?_
                first
                  | exact absurd d1 (by omega)
                  | exact ih p (e + 2) r2 o5 _ ⟨by omega, by omega, by omega, by show pu_inn (pu_st tf (e + 1)); omega, by rw [q5, d4]⟩ hk
  have L156 : ∀ (k : Nat) (p E wd : Nat) (T : List (Nat × List Int32)) (a wd2 : Nat) (wm : Int32) (wf ch po st : Nat → Int32) (T2 : List (Nat × List Int32)) (o5 o7 o9 : Option Value), ((pu_take tf E E p (T, wd)) = pu_take tf E k a (T2, wd2) ∧ E ≤ a + k ∧ a ≤ E + 255 ∧ E ≤ 8192 ∧ pu_Tok ch po st T2 ∧ (pu_off T2 T2.length ≤ a ∧ pu_off T2 T2.length ≤ E) ∧ (T2.length ≤ a ∧ T2.length ≤ E) ∧ (wd2 ≤ a ∧ wd2 ≤ E)) → (∀ (wm : Int32) (wf ch po st : Nat → Int32) (o8 : Option Value), pu_Tok ch po st (pu_take tf E E p (T, wd)).1 → pu_off (pu_take tf E E p (T, wd)).1 (pu_take tf E E p (T, wd)).1.length ≤ E → (pu_take tf E E p (T, wd)).1.length ≤ E → (pu_take tf E E p (T, wd)).2 ≤ E → sv_V X 10 0 0 ((ad 0, .inr (7, [.ref (ad 7), .ref (ad 8), .ref (ad 9), .ref (ad 10), .ref (ad 1), .int inl, .int th, .ref (ad 2), .int (nI n), .ref (ad 3), .ref (ad 4), .ref (ad 5), .int (nI (pu_take tf E E p (T, wd)).1.length), .int (nI (pu_take tf E E p (T, wd)).2), .ref (ad 6), .int wm])) :: (ad 1, .inl (g.2.1 1, 8192, .inl b)) :: (ad 2, .inl (g.2.1 0, 8192, .inl tf)) :: (ad 3, .inl (g.2.1 0, 8704, .inl ch)) :: (ad 4, .inl (g.2.1 0, 8193, .inl st)) :: (ad 5, .inl (g.2.1 0, 8192, .inl po)) :: (ad 6, .inl (g.2.1 0, 260, .inl wf)) :: rest) 190 [some (.ref (ad 0)), some (.ref (ad 2)), some (.int (nI 0)), some (.int (nI n)), some (.int (nI (p))), o5, some (.int (nI (E))), o7, o8, o9] []) → sv_V X 10 0 0 ((ad 0, .inr (7, [.ref (ad 7), .ref (ad 8), .ref (ad 9), .ref (ad 10), .ref (ad 1), .int inl, .int th, .ref (ad 2), .int (nI n), .ref (ad 3), .ref (ad 4), .ref (ad 5), .int (nI T2.length), .int (nI wd2), .ref (ad 6), .int wm])) :: (ad 1, .inl (g.2.1 1, 8192, .inl b)) :: (ad 2, .inl (g.2.1 0, 8192, .inl tf)) :: (ad 3, .inl (g.2.1 0, 8704, .inl ch)) :: (ad 4, .inl (g.2.1 0, 8193, .inl st)) :: (ad 5, .inl (g.2.1 0, 8192, .inl po)) :: (ad 6, .inl (g.2.1 0, 260, .inl wf)) :: rest) 156 [some (.ref (ad 0)), some (.ref (ad 2)), some (.int (nI 0)), some (.int (nI n)), some (.int (nI (p))), o5, some (.int (nI (E))), o7, some (.int (nI (a))), o9] [] := by
    intro k
    induction k with
    | zero =>
      intro p E wd T a wd2 wm wf ch po st T2 o5 o7 o9 hq hk
      obtain ⟨q1, q2, q3, hE, hT2k, q5, q6, q7⟩ := hq
      refine sv_iload C rfl d_M_cut_aIII_156 ?_
      refine sv_iload C rfl d_M_cut_aIII_158 ?_
      refine sv_icmpN_ge C _ _ (by omega) (by omega) 190 (by decide) d_M_cut_aIII_160 (fun c160 => ?_) (fun c160 => ?_)
      · skip
        rw [show (pu_take tf E E p (T, wd)) = (T2, wd2) from q1.trans (pu_take_end (by omega))] at hk
        exact hk wm wf ch po st _ hT2k q5.2 q6.2 q7.2
      · skip
        exact absurd c160 (by omega)
    | succ k ih =>
      intro p E wd T a wd2 wm wf ch po st T2 o5 o7 o9 hq hk
      obtain ⟨q1, q2, q3, hE, hT2k, q5, q6, q7⟩ := hq
      refine sv_iload C rfl d_M_cut_aIII_156 ?_
      refine sv_iload C rfl d_M_cut_aIII_158 ?_
      refine sv_icmpN_ge C _ _ (by omega) (by omega) 190 (by decide) d_M_cut_aIII_160 (fun c160 => ?_) (fun c160 => ?_)
      · skip
        rw [show (pu_take tf E E p (T, wd)) = (T2, wd2) from q1.trans (pu_take_end (by omega))] at hk
        exact hk wm wf ch po st _ hT2k q5.2 q6.2 q7.2
      · skip
        refine sv_aload_n C rfl rfl d_M_cut_aIII_163 ?_
        refine sv_aload_n C rfl rfl d_M_cut_aIII_164 ?_
        refine sv_iload C rfl d_M_cut_aIII_165 ?_
        refine sv_iload C rfl d_M_cut_aIII_167 ?_
        refine sv_sipush C (v := 255) (by decide) d_M_cut_aIII_169 ?_
        refine sv_iaddN C _ 255  d_M_cut_aIII_172 ?_
        refine sv_iload C rfl d_M_cut_aIII_173 ?_
        refine sv_mmin C wm_min_M wm_min_2 wm_3 wm_min_4 (by decide) (Nat.le_of_ble_eq_true rfl) (by decide) (by decide) d_M_cut_aIII_175 ?_
        refine sv_eqi (pu_min2 (x := a + 255) (y := E) (by omega) (by omega)) ?_
        refine sv_callVv C (c_M_token_aIII l g rest ad inl th (nI n) wm b tf wf ch po st T2 wd2 a (if E < a + 255 then E else a + 255) hT2k (by split <;> omega) (by split <;> omega) (by split <;> omega) (by omega) (by omega) (by omega) hT0 hT2 hT3 hT4) lk_M_250 List.mem_cons_self rfl d_M_cut_aIII_178 (by decide) (Nat.le_of_ble_eq_true rfl) (by decide) (fun w hw => ?_)
        obtain ⟨wm3, wf3, ch3, po3, st3, rfl, hT3k⟩ := hw
        have wl := pu_word_len (pu_slice tf a ((if E < a + 255 then E else a + 255) - a)) (T2, wd2)
        rw [pu_slice_len] at wl
        dsimp only at wl
        have hm : (if E < a + 255 then E else a + 255) - a ≤ 255 ∧ (if E < a + 255 then E else a + 255) - a ≤ E - a ∧ 1 ≤ (if E < a + 255 then E else a + 255) - a := by split <;> omega
        have em : (if E < a + 255 then E else a + 255) - a = (if E - a < 255 then E - a else 255) := by split <;> split <;> omega
        refine sv_iincWN C 255 _ rfl [some _, some _, some _, some _, some _, _, some _, _, some _, _] rfl d_M_cut_aIII_181 ?_
        refine sv_goto C 156 (by decide) d_M_cut_aIII_187 ?_
        exact ih p E wd T (a + 255) (pu_word (pu_slice tf a ((if E < a + 255 then E else a + 255) - a)) (T2, wd2)).2 wm3 wf3 ch3 po3 st3 (pu_word (pu_slice tf a ((if E < a + 255 then E else a + 255) - a)) (T2, wd2)).1 o5 o7 o9 ⟨by rw [q1, pu_take, if_pos c160, ← em], by omega, by omega, hE, hT3k, by omega, by omega, by omega⟩ hk
  have L20 : ∀ (k : Nat) (p wd : Nat) (wm : Int32) (wf ch po st : Nat → Int32) (T : List (Nat × List Int32)) (o5 o6 o7 o8 o9 : Option Value), ((pu_cut tf n n 0 ([], 0)) = pu_cut tf n k p (T, wd) ∧ p ≤ n ∧ n ≤ p + k ∧ pu_Tok ch po st T ∧ pu_off T T.length ≤ p ∧ T.length ≤ p ∧ wd ≤ p) → sv_V X 10 0 0 ((ad 0, .inr (7, [.ref (ad 7), .ref (ad 8), .ref (ad 9), .ref (ad 10), .ref (ad 1), .int inl, .int th, .ref (ad 2), .int (nI n), .ref (ad 3), .ref (ad 4), .ref (ad 5), .int (nI T.length), .int (nI wd), .ref (ad 6), .int wm])) :: (ad 1, .inl (g.2.1 1, 8192, .inl b)) :: (ad 2, .inl (g.2.1 0, 8192, .inl tf)) :: (ad 3, .inl (g.2.1 0, 8704, .inl ch)) :: (ad 4, .inl (g.2.1 0, 8193, .inl st)) :: (ad 5, .inl (g.2.1 0, 8192, .inl po)) :: (ad 6, .inl (g.2.1 0, 260, .inl wf)) :: rest) 20 [some (.ref (ad 0)), some (.ref (ad 2)), some (.int (nI 0)), some (.int (nI n)), some (.int (nI (p))), o5, o6, o7, o8, o9] [] := by
    intro k
    induction k with
    | zero =>
      intro p wd wm wf ch po st T o5 o6 o7 o8 o9 hq
      obtain ⟨q1, q2, q3, hT, q4, q5, q6⟩ := hq
      refine sv_iload C rfl d_M_cut_aIII_20 ?_
      refine sv_iload_n C rfl rfl d_M_cut_aIII_22 ?_
      refine sv_icmpN_ge C _ _ (by omega) (by omega) 197 (by decide) d_M_cut_aIII_23 (fun c23 => ?_) (fun c23 => ?_)
      · skip
        have e9 : (pu_cut tf n n 0 ([], 0)) = (T, wd) := q1.trans (pu_cut_end (by omega))
        exact hr _ _ _ d_M_cut_aIII_197 (by rw [e9]; exact ⟨wm, wf, ch, po, st, rfl, hT, Nat.le_trans q4 (by omega), Nat.le_trans q5 (by omega)⟩)
      · skip
        exact absurd c23 (by omega)
    | succ k ih =>
      intro p wd wm wf ch po st T o5 o6 o7 o8 o9 hq
      obtain ⟨q1, q2, q3, hT, q4, q5, q6⟩ := hq
      refine sv_iload C rfl d_M_cut_aIII_20 ?_
      refine sv_iload_n C rfl rfl d_M_cut_aIII_22 ?_
      refine sv_icmpN_ge C _ _ (by omega) (by omega) 197 (by decide) d_M_cut_aIII_23 (fun c23 => ?_) (fun c23 => ?_)
      · skip
        have e9 : (pu_cut tf n n 0 ([], 0)) = (T, wd) := q1.trans (pu_cut_end (by omega))
        exact hr _ _ _ d_M_cut_aIII_197 (by rw [e9]; exact ⟨wm, wf, ch, po, st, rfl, hT, Nat.le_trans q4 (by omega), Nat.le_trans q5 (by omega)⟩)
      · skip
        have g1 := pu_spanEnd_gt tf n p
        have g2 := pu_spanEnd_le tf c23
        have s8 : pu_st tf p < 8 := pu_sort_lt _
        refine sv_aload_n C rfl rfl d_M_cut_aIII_26 ?_
        refine sv_iload C rfl d_M_cut_aIII_27 ?_
        refine sv_ialdN C _ 2 rfl (by omega) (by decide) d_M_cut_aIII_29 ?_
        refine sv_callSi C (c_M_sortOf l g _ (tf (p))) lk_M_227  d_M_cut_aIII_30 (by decide) (Nat.le_of_ble_eq_true rfl) (by decide) (fun r w hw => ?_)
        obtain ⟨rfl, rfl⟩ := hw
        refine sv_eqi (congrArg nI (show pu_sort (tf (p)).toInt = pu_st tf (p) from rfl)) ?_
        refine sv_istore C (by decide) [some _, some _, some _, some _, some _, some _, _, _, _, _] rfl d_M_cut_aIII_33 ?_
        refine sv_iload C rfl d_M_cut_aIII_35 ?_
        refine sv_iconst C (v := 1) (by decide) d_M_cut_aIII_37 ?_
        refine sv_iaddN C _ 1  d_M_cut_aIII_38 ?_
        refine sv_istore C (by decide) [some _, some _, some _, some _, some _, some _, some _, _, _, _] rfl d_M_cut_aIII_39 ?_
        refine j41 _ p (pu_st tf p) (p + 1) _ _ _ s8 ?_
        refine sv_iload C rfl d_M_cut_aIII_67 ?_
        refine sv_callSi C (c_M_inWord l g _ (pu_st tf p) s8) lk_M_231  d_M_cut_aIII_69 (by decide) (Nat.le_of_ble_eq_true rfl) (by decide) (fun r w hw => ?_)
        obtain ⟨rfl, rfl⟩ := hw
        refine sv_ifB_eq C _ 147 (by decide) d_M_cut_aIII_72 (fun c72 => ?_) (fun c72 => ?_)
        · skip
          have e9 : (pu_spanEnd tf n p) = p + 1 := by rw [pu_spanEnd, if_neg c72]
          refine sv_lvE (lv' := [some (.ref (ad 0)), some (.ref (ad 2)), some (.int (nI 0)), some (.int (nI n)), some (.int (nI (p))), some (.int (nI (pu_st tf p))), some (.int (nI ((pu_spanEnd tf n p)))), some (.int (if pu_any tf ((pu_spanEnd tf n p) - p) p = true then 1 else 0)), _, _]) (by rw [e9, pf_if (pu_any_0 tf p)]) ?_
          refine sv_iload C rfl d_M_cut_aIII_147 ?_
          refine sv_ifB_eq C _ 190 (by decide) d_M_cut_aIII_149 (fun c149 => ?_) (fun c149 => ?_)
          · skip
            refine sv_iload C rfl d_M_cut_aIII_190 ?_
            refine sv_istore C (by decide) [some _, some _, some _, some _, some _, some _, some _, some _, _, _] rfl d_M_cut_aIII_192 ?_
            refine sv_goto C 20 (by decide) d_M_cut_aIII_194 ?_
            exact ih (pu_spanEnd tf n p) wd _ _ _ _ _ T _ _ _ _ _ ⟨by rw [q1, pu_cut, if_pos c23, if_neg c149], g2, by omega, hT, by omega, by omega, by omega⟩
          · skip
            refine sv_iload C rfl d_M_cut_aIII_152 ?_
            refine sv_istore C (by decide) [some _, some _, some _, some _, some _, some _, some _, some _, some _, _] rfl d_M_cut_aIII_154 ?_
            refine L156 (pu_spanEnd tf n p) p (pu_spanEnd tf n p) wd T p wd wm wf ch po st T _ _ _ ⟨rfl, by omega, by omega, by omega, hT, by omega, by omega, by omega⟩ (fun wm wf ch po st o8 h1 h2 h3 h4 => ?_)
            refine sv_iload C rfl d_M_cut_aIII_190 ?_
            refine sv_istore C (by decide) [some _, some _, some _, some _, some _, some _, some _, some _, _, _] rfl d_M_cut_aIII_192 ?_
            refine sv_goto C 20 (by decide) d_M_cut_aIII_194 ?_
            exact ih (pu_spanEnd tf n p) (pu_take tf (pu_spanEnd tf n p) (pu_spanEnd tf n p) p (T, wd)).2 _ _ _ _ _ (pu_take tf (pu_spanEnd tf n p) (pu_spanEnd tf n p) p (T, wd)).1 _ _ _ _ _ ⟨by rw [q1, pu_cut, if_pos c23, if_pos c149], g2, by omega, h1, h2, h3, h4⟩
        · skip
          refine sv_aload_n C rfl rfl d_M_cut_aIII_75 ?_
          refine sv_iload C rfl d_M_cut_aIII_76 ?_
          refine sv_iconst C (v := 1) (by decide) d_M_cut_aIII_78 ?_
          refine sv_isubN C _ 1 (by omega) d_M_cut_aIII_79 ?_
          refine sv_iload_n C rfl rfl d_M_cut_aIII_80 ?_
          refine sv_front 2 (_ :: _ :: _ :: _ :: _ :: _ :: _ :: _) rfl rfl ?_
          refine sv_callSi C (c_M_further l g _ (ad 2) (p + 1 - 1) n tf (by omega) hn c72) lk_M_240  d_M_cut_aIII_81 (by decide) (Nat.le_of_ble_eq_true rfl) (by decide) (fun r w hw => ?_)
          obtain ⟨rfl, rfl⟩ := hw
          refine sv_istore C (by decide) [some _, some _, some _, some _, some _, some _, some _, some _, some _, _] rfl d_M_cut_aIII_84 ?_
          refine sv_lvE (lv' := [some (.ref (ad 0)), some (.ref (ad 2)), some (.int (nI 0)), some (.int (nI n)), some (.int (nI (p))), some (.int (nI (pu_st tf p))), some (.int (nI (p + 1))), some (.int (if pu_any tf ((p + 1) - p) p = true then 1 else 0)), some (.int (nI (pu_fur tf n (p + 1 - 1)))), _]) (by rw [pf_if (pu_any_0 tf p)]) ?_
          refine L86 n p (p + 1) _ _ _ ⟨by omega, by omega, by omega, c72, by rw [pu_spanEnd, if_pos c72]⟩ (fun o8 o9 => ?_)
          refine sv_iload C rfl d_M_cut_aIII_147 ?_
          refine sv_ifB_eq C _ 190 (by decide) d_M_cut_aIII_149 (fun c149 => ?_) (fun c149 => ?_)
          · skip
            refine sv_iload C rfl d_M_cut_aIII_190 ?_
            refine sv_istore C (by decide) [some _, some _, some _, some _, some _, some _, some _, some _, _, _] rfl d_M_cut_aIII_192 ?_
            refine sv_goto C 20 (by decide) d_M_cut_aIII_194 ?_
            refine sv_front 2 (_ :: _ :: _ :: _ :: _ :: _ :: _ :: _) rfl rfl ?_
            refine sv_front 2 (_ :: _ :: _ :: _ :: _ :: _ :: _ :: _) rfl rfl ?_
            exact ih (pu_spanEnd tf n p) wd _ _ _ _ _ T _ _ _ _ _ ⟨by rw [q1, pu_cut, if_pos c23, if_neg c149], g2, by omega, hT, by omega, by omega, by omega⟩
          · skip
            refine sv_iload C rfl d_M_cut_aIII_152 ?_
            refine sv_istore C (by decide) [some _, some _, some _, some _, some _, some _, some _, some _, some _, _] rfl d_M_cut_aIII_154 ?_
            refine sv_front 2 (_ :: _ :: _ :: _ :: _ :: _ :: _ :: _) rfl rfl ?_
            refine sv_front 2 (_ :: _ :: _ :: _ :: _ :: _ :: _ :: _) rfl rfl ?_
            refine L156 (pu_spanEnd tf n p) p (pu_spanEnd tf n p) wd T p wd wm wf ch po st T _ _ _ ⟨rfl, by omega, by omega, by omega, hT, by omega, by omega, by omega⟩ (fun wm wf ch po st o8 h1 h2 h3 h4 => ?_)
            refine sv_iload C rfl d_M_cut_aIII_190 ?_
            refine sv_istore C (by decide) [some _, some _, some _, some _, some _, some _, some _, some _, _, _] rfl d_M_cut_aIII_192 ?_
            refine sv_goto C 20 (by decide) d_M_cut_aIII_194 ?_
            exact ih (pu_spanEnd tf n p) (pu_take tf (pu_spanEnd tf n p) (pu_spanEnd tf n p) p (T, wd)).2 _ _ _ _ _ (pu_take tf (pu_spanEnd tf n p) (pu_spanEnd tf n p) p (T, wd)).1 _ _ _ _ _ ⟨by rw [q1, pu_cut, if_pos c23, if_pos c149], g2, by omega, h1, h2, h3, h4⟩
  refine sv_aload_n C rfl rfl d_M_cut_aIII_0 ?_
  refine sv_iconst C (v := 0) (by decide) d_M_cut_aIII_1 ?_
  refine sv_put C fp_M_234 0 rfl rfl rfl (Nat.le_of_ble_eq_true rfl) ((_, .inr (_, [_, _, _, _, _, _, _, _, _, _, _, _, _, _, _, _])) :: _ :: _ :: _ :: _ :: _ :: _ :: _) rfl d_M_cut_aIII_2 ?_
  refine sv_aload_n C rfl rfl d_M_cut_aIII_5 ?_
  refine sv_iconst C (v := 0) (by decide) d_M_cut_aIII_6 ?_
  refine sv_put C fp_M_237 0 rfl rfl rfl (Nat.le_of_ble_eq_true rfl) ((_, .inr (_, [_, _, _, _, _, _, _, _, _, _, _, _, _, _, _, _])) :: _ :: _ :: _ :: _ :: _ :: _ :: _) rfl d_M_cut_aIII_7 ?_
  refine sv_aload_n C rfl rfl d_M_cut_aIII_10 ?_
  refine sv_get C fg_M_201 0 rfl rfl d_M_cut_aIII_11 ?_
  refine sv_iconst C (v := 0) (by decide) d_M_cut_aIII_14 ?_
  refine sv_iconst C (v := 0) (by decide) d_M_cut_aIII_15 ?_
  refine sv_iastN C 0 4 rfl (by omega) (by decide) (_ :: _ :: _ :: _ :: _ :: _ :: _ :: _) rfl d_M_cut_aIII_16 ?_
  refine sv_iload_n C rfl rfl d_M_cut_aIII_17 ?_
  refine sv_istore C (by decide) [some _, some _, some _, some _, some _, none, none, none, none, none] rfl d_M_cut_aIII_18 ?_
  exact L20 n 0 0 _ _ _ _ _ [] none none none none none ⟨rfl, by omega, by omega, pu_Tok_nil pk_us, Nat.le_refl _, Nat.le_refl _, Nat.le_refl _⟩
