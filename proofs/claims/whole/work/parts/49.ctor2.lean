/-! CONTRACTS: constructors, 2 -/
def sv_EP (g : sv_G) (S : va_W) (f : Nat → Option Nat) (tx sb : Nat → Nat) (j : Nat) : Prop := ∃ ea : Nat → Nat, ∀ k, k < j → f k = some (ea k) ∧ (((ea k, Sum.inr (0, [.ref (g.2.2.1 (tx k)), .ref (g.2.2.1 (sb k))])) : Nat × va_E) ∈ S)
theorem sv_EP0 {g : sv_G} {S : va_W} {f : Nat → Option Nat} {tx sb : Nat → Nat} : sv_EP g S f tx sb 0 := ⟨fun _ => 0, fun k hk => absurd hk (Nat.not_lt_zero k)⟩
theorem sv_EA_of {g : sv_G} {S : va_W} {f : Nat → Option Nat} {tx sb : Nat → Nat} {n a : Nat} (h : sv_EP g S f tx sb n) (hb : ∀ k, k < n → tx k < sv_nS ∧ sb k < sv_nS ∧ 1 ≤ (sv_txt (tx k)).length) : sv_EA g ((a, .inl (g.2.1 4, n, .inr (.inr (.inr (.inr f))))) :: S) a n tx sb := by
  obtain ⟨ea, he⟩ := h
  exact ⟨f, ea, List.mem_cons_self, fun k hk => ⟨(he k hk).1, List.mem_cons_of_mem _ (he k hk).2, (hb k hk).1, (hb k hk).2.1, (hb k hk).2.2⟩⟩
theorem sv_shift {a c : Nat × va_E} {S rest : va_W} : (a :: c :: (S ++ rest)).Perm (c :: ((a :: S) ++ rest)) := List.Perm.swap _ _ _
section SVU
variable {X : sv_X} {nL k n pc : Nat} {ws : va_W} {lv : List (Option Value)} {st : List Value} {l : Launch} {cc : ByteArray} {own : String} {rm : Room} {g : sv_G}
theorem sv_fillE (C : sv_C X l cc nL own rm g) (tx sb : Nat → Nat) (j N : Nat) {a b : Nat} {f : Nat → Option Nat} {S rest : va_W} {c1 : Nat × va_E} (hjN : j < N) (hN : N < 2 ^ 31) (hf : sv_EP g S f tx sb j) (hd : decode cc pc = .ok (.aastore, 1))
    (z : ∀ (f2 : Nat → Option Nat) (S2 : va_W), (∀ q, q ∈ S → q ∈ S2) → sv_EP g S2 f2 tx sb (j + 1) → sv_V X nL k n ((a, .inl (g.2.1 4, N, .inr (.inr (.inr (.inr f2))))) :: c1 :: (S2 ++ rest)) (pc + 1) lv st) :
    sv_V X nL k n ((b, .inr (0, [.ref (g.2.2.1 (tx j)), .ref (g.2.2.1 (sb j))])) :: (a, .inl (g.2.1 4, N, .inr (.inr (.inr (.inr f))))) :: c1 :: (S ++ rest)) pc lv (.ref b :: .int (nI j) :: .ref a :: st) := by
  refine sv_astE C (T := F_En) (M := 2) 1 0 rfl rfl rfl (vp_in_nI hjN hN) _ rfl hd ?_
  rw [nI_clamp (Nat.lt_trans hjN hN)]
  refine sv_Perm (ws' := (a, .inl (g.2.1 4, N, .inr (.inr (.inr (.inr (va_up f j (some b))))))) :: c1 :: (((b, .inr (0, [.ref (g.2.2.1 (tx j)), .ref (g.2.2.1 (sb j))])) :: S) ++ rest)) ?_ (z _ _ (fun q h => List.mem_cons_of_mem _ h) ?_)
  · exact (List.Perm.swap _ _ _).trans (List.Perm.cons _ (List.Perm.swap _ _ _))
  · obtain ⟨ea, he⟩ := hf
    refine ⟨va_up ea j b, fun k hk => ?_⟩
    by_cases h : k = j
    · subst h
      rw [va_up_self, va_up_self]
      exact ⟨rfl, List.mem_cons_self⟩
    · rw [va_up_ne _ _ h, va_up_ne _ _ h]
      exact ⟨(he k (by omega)).1, List.mem_cons_of_mem _ (he k (by omega)).2⟩
end SVU
theorem tb_1a : ∀ k, k < 4 → tx_1a k < sv_nS ∧ sb_1a k < sv_nS ∧ 1 ≤ (sv_txt (tx_1a k)).length := by decide +kernel
theorem tb_1b : ∀ k, k < 3 → tx_1b k < sv_nS ∧ sb_1b k < sv_nS ∧ 1 ≤ (sv_txt (tx_1b k)).length := by decide +kernel
theorem tb_2 : ∀ k, k < 20 → tx_2 k < sv_nS ∧ sb_2 k < sv_nS ∧ 1 ≤ (sv_txt (tx_2 k)).length := by decide +kernel
theorem tb_3 : ∀ k, k < 7 → tx_3 k < sv_nS ∧ sb_3 k < sv_nS ∧ 1 ≤ (sv_txt (tx_3 k)).length := by decide +kernel
theorem tb_4 : ∀ k, k < 19 → tx_4 k < sv_nS ∧ sb_4 k < sv_nS ∧ 1 ≤ (sv_txt (tx_4 k)).length := by decide +kernel
def rm_Sm_init : Room := { frames := 2, cells := 61, slots := 671, locals := 102 }
set_option maxHeartbeats 4000000 in
set_option maxRecDepth 100000 in
theorem c_Sm_init (l : Launch) (g : sv_G) (rest : va_W) (hS : Nat) : sv_Mv l y_Sm_init b_Sm_init 2 none rm_Sm_init g [.ref hS, .int 255] ((hS, .inr (2, [.null, .null, .null, .null, .null, .null, .null])) :: rest) (fun w => ∃ (aW aC aV x1 x2 x3 x4 x5 : Nat) (S9 : va_W), w = ((hS, .inr (2, [.ref aW, .ref aV, .ref x1, .ref x2, .ref x3, .ref x4, .ref x5])) :: (aW, .inr (5, [.ref aC, .int (nI 0)])) :: (aC, .inl (g.2.1 0, 255, .inl (fun _ => 0))) :: (aV, .inl (g.2.1 2, 255, .inl (fun _ => 0))) :: (S9 ++ rest)) ∧ sv_E5 g S9 x1 x2 x3 x4 x5) := by
  refine sv_enter_v (by decide) rfl rfl (Nat.le_of_ble_eq_true rfl) (fun X C hI hr => ?_)
  refine sv_lvE (lv' := [some _, some _]) rfl ?_
  have hI := hI rfl
  obtain ⟨S9, eS9⟩ : ∃ S9 : va_W, S9 = [] := ⟨_, rfl⟩
  refine sv_wsE (ws' := ((hS, .inr (2, [.null, .null, .null, .null, .null, .null, .null])) :: (S9 ++ rest))) (by rw [eS9]; rfl) ?_
  clear eS9
  refine sv_aload_n C rfl rfl d_Sm_init_0 ?_
  refine sv_objInit C wo_Sm wo_2 wo_3 (by decide) (Nat.le_of_ble_eq_true rfl) d_Sm_init_1 ?_
  refine sv_aload_n C rfl rfl d_Sm_init_4 ?_
  refine sv_iconst C (v := 4) (by decide) d_Sm_init_5 ?_
  refine sv_newE C wk_Sm_7 (by decide) (N := 4) (by decide) (by decide) (by decide) (by decide) d_Sm_init_6 (fun x1 => ?_)
  have hE9 := sv_EP0 (g := g) (S := S9) (f := fun _ => none) (tx := tx_1a) (sb := sb_1a)
  refine sv_dup C rfl d_Sm_init_9 ?_
  refine sv_iconst C (v := 0) (by decide) d_Sm_init_10 ?_
  refine sv_new_En C wk_Sm_7 (by decide) (by decide) d_Sm_init_11 (fun e9 => ?_)
  refine sv_dup C rfl d_Sm_init_14 ?_
  refine sv_ldcS C ws_1 d_Sm_init_15 ?_
  refine sv_ldcS C ws_2 d_Sm_init_17 ?_
  refine sv_callIv C (c_En_init l g _ e9 (tx_1a 0) (sb_1a 0)) lk_Sm_13  d_Sm_init_19 (by decide) (Nat.le_of_ble_eq_true rfl) (by decide) (fun w hw => ?_)
  obtain rfl := hw
  refine sv_fillE C tx_1a sb_1a 0 4 (by decide) (by decide) hE9 d_Sm_init_22 (fun f9 S9 m9 hE9 => ?_)
  refine sv_dup C rfl d_Sm_init_23 ?_
  refine sv_iconst C (v := 1) (by decide) d_Sm_init_24 ?_
  refine sv_new_En C wk_Sm_7 (by decide) (by decide) d_Sm_init_25 (fun e9 => ?_)
  refine sv_dup C rfl d_Sm_init_28 ?_
  refine sv_ldcS C ws_3 d_Sm_init_29 ?_
  refine sv_ldcS C ws_4 d_Sm_init_31 ?_
  refine sv_callIv C (c_En_init l g _ e9 (tx_1a 1) (sb_1a 1)) lk_Sm_13  d_Sm_init_33 (by decide) (Nat.le_of_ble_eq_true rfl) (by decide) (fun w hw => ?_)
  obtain rfl := hw
  refine sv_fillE C tx_1a sb_1a 1 4 (by decide) (by decide) hE9 d_Sm_init_36 (fun f9 S9 m9 hE9 => ?_)
  refine sv_dup C rfl d_Sm_init_37 ?_
  refine sv_iconst C (v := 2) (by decide) d_Sm_init_38 ?_
  refine sv_new_En C wk_Sm_7 (by decide) (by decide) d_Sm_init_39 (fun e9 => ?_)
  refine sv_dup C rfl d_Sm_init_42 ?_
  refine sv_ldcS C ws_2 d_Sm_init_43 ?_
  refine sv_ldcS C ws_2 d_Sm_init_45 ?_
  refine sv_callIv C (c_En_init l g _ e9 (tx_1a 2) (sb_1a 2)) lk_Sm_13  d_Sm_init_47 (by decide) (Nat.le_of_ble_eq_true rfl) (by decide) (fun w hw => ?_)
  obtain rfl := hw
  refine sv_fillE C tx_1a sb_1a 2 4 (by decide) (by decide) hE9 d_Sm_init_50 (fun f9 S9 m9 hE9 => ?_)
  refine sv_dup C rfl d_Sm_init_51 ?_
  refine sv_iconst C (v := 3) (by decide) d_Sm_init_52 ?_
  refine sv_new_En C wk_Sm_7 (by decide) (by decide) d_Sm_init_53 (fun e9 => ?_)
  refine sv_dup C rfl d_Sm_init_56 ?_
  refine sv_ldcS C ws_5 d_Sm_init_57 ?_
  refine sv_ldcS C ws_6 d_Sm_init_59 ?_
  refine sv_callIv C (c_En_init l g _ e9 (tx_1a 3) (sb_1a 3)) lk_Sm_13  d_Sm_init_61 (by decide) (Nat.le_of_ble_eq_true rfl) (by decide) (fun w hw => ?_)
  obtain rfl := hw
  refine sv_fillE C tx_1a sb_1a 3 4 (by decide) (by decide) hE9 d_Sm_init_64 (fun f9 S9 m9 hE9 => ?_)
  refine sv_putF C hI fp_Sm_24 1 rfl rfl rfl (Nat.le_of_ble_eq_true rfl) (_ :: (_, .inr (_, [_, _, _, _, _, _, _])) :: _) rfl d_Sm_init_65 ?_
  refine sv_Perm sv_shift ?_
  have E1 := sv_EA_of (a := x1) hE9 tb_1a
  obtain ⟨S9, hS8⟩ : ∃ S8 : va_W, ((x1, .inl (g.2.1 4, 4, .inr (.inr (.inr (.inr f9))))) :: S9) = S8 := ⟨_, rfl⟩
  rw [hS8]
  rw [hS8] at E1
  clear hS8 hE9
  refine sv_aload_n C rfl rfl d_Sm_init_68 ?_
  refine sv_iconst C (v := 3) (by decide) d_Sm_init_69 ?_
  refine sv_newE C wk_Sm_7 (by decide) (N := 3) (by decide) (by decide) (by decide) (by decide) d_Sm_init_70 (fun x2 => ?_)
  have hE9 := sv_EP0 (g := g) (S := S9) (f := fun _ => none) (tx := tx_1b) (sb := sb_1b)
  refine sv_dup C rfl d_Sm_init_73 ?_
  refine sv_iconst C (v := 0) (by decide) d_Sm_init_74 ?_
  refine sv_new_En C wk_Sm_7 (by decide) (by decide) d_Sm_init_75 (fun e9 => ?_)
  refine sv_dup C rfl d_Sm_init_78 ?_
  refine sv_ldcS C ws_7 d_Sm_init_79 ?_
  refine sv_ldcS C ws_8 d_Sm_init_81 ?_
  refine sv_callIv C (c_En_init l g _ e9 (tx_1b 0) (sb_1b 0)) lk_Sm_13  d_Sm_init_83 (by decide) (Nat.le_of_ble_eq_true rfl) (by decide) (fun w hw => ?_)
  obtain rfl := hw
  refine sv_fillE C tx_1b sb_1b 0 3 (by decide) (by decide) hE9 d_Sm_init_86 (fun f9 S9 m9 hE9 => ?_)
  replace E1 := E1.mono m9
  refine sv_dup C rfl d_Sm_init_87 ?_
  refine sv_iconst C (v := 1) (by decide) d_Sm_init_88 ?_
  refine sv_new_En C wk_Sm_7 (by decide) (by decide) d_Sm_init_89 (fun e9 => ?_)
  refine sv_dup C rfl d_Sm_init_92 ?_
  refine sv_ldcS C ws_9 d_Sm_init_93 ?_
  refine sv_ldcS C ws_6 d_Sm_init_95 ?_
  refine sv_callIv C (c_En_init l g _ e9 (tx_1b 1) (sb_1b 1)) lk_Sm_13  d_Sm_init_97 (by decide) (Nat.le_of_ble_eq_true rfl) (by decide) (fun w hw => ?_)
  obtain rfl := hw
  refine sv_fillE C tx_1b sb_1b 1 3 (by decide) (by decide) hE9 d_Sm_init_100 (fun f9 S9 m9 hE9 => ?_)
  replace E1 := E1.mono m9
  refine sv_dup C rfl d_Sm_init_101 ?_
  refine sv_iconst C (v := 2) (by decide) d_Sm_init_102 ?_
  refine sv_new_En C wk_Sm_7 (by decide) (by decide) d_Sm_init_103 (fun e9 => ?_)
  refine sv_dup C rfl d_Sm_init_106 ?_
  refine sv_ldcS C ws_10 d_Sm_init_107 ?_
  refine sv_ldcS C ws_6 d_Sm_init_109 ?_
  refine sv_callIv C (c_En_init l g _ e9 (tx_1b 2) (sb_1b 2)) lk_Sm_13  d_Sm_init_111 (by decide) (Nat.le_of_ble_eq_true rfl) (by decide) (fun w hw => ?_)
  obtain rfl := hw
  refine sv_fillE C tx_1b sb_1b 2 3 (by decide) (by decide) hE9 d_Sm_init_114 (fun f9 S9 m9 hE9 => ?_)
  replace E1 := E1.mono m9
  refine sv_putF C hI fp_Sm_38 1 rfl rfl rfl (Nat.le_of_ble_eq_true rfl) (_ :: (_, .inr (_, [_, _, _, _, _, _, _])) :: _) rfl d_Sm_init_115 ?_
  refine sv_Perm sv_shift ?_
  have E2 := sv_EA_of (a := x2) hE9 tb_1b
  replace E1 := E1.mono (r2 := (x2, .inl (g.2.1 4, 3, .inr (.inr (.inr (.inr f9))))) :: S9) (fun q h => List.mem_cons_of_mem _ h)
  obtain ⟨S9, hS8⟩ : ∃ S8 : va_W, ((x2, .inl (g.2.1 4, 3, .inr (.inr (.inr (.inr f9))))) :: S9) = S8 := ⟨_, rfl⟩
  rw [hS8]
  rw [hS8] at E1
  rw [hS8] at E2
  clear hS8 hE9
  refine sv_aload_n C rfl rfl d_Sm_init_118 ?_
  refine sv_bipush C (v := 20) (by decide) d_Sm_init_119 ?_
  refine sv_newE C wk_Sm_7 (by decide) (N := 20) (by decide) (by decide) (by decide) (by decide) d_Sm_init_121 (fun x3 => ?_)
  have hE9 := sv_EP0 (g := g) (S := S9) (f := fun _ => none) (tx := tx_2) (sb := sb_2)
  refine sv_dup C rfl d_Sm_init_124 ?_
  refine sv_iconst C (v := 0) (by decide) d_Sm_init_125 ?_
  refine sv_new_En C wk_Sm_7 (by decide) (by decide) d_Sm_init_126 (fun e9 => ?_)
  refine sv_dup C rfl d_Sm_init_129 ?_
  refine sv_ldcS C ws_11 d_Sm_init_130 ?_
  refine sv_ldcS C ws_12 d_Sm_init_132 ?_
  refine sv_callIv C (c_En_init l g _ e9 (tx_2 0) (sb_2 0)) lk_Sm_13  d_Sm_init_134 (by decide) (Nat.le_of_ble_eq_true rfl) (by decide) (fun w hw => ?_)
  obtain rfl := hw
  refine sv_fillE C tx_2 sb_2 0 20 (by decide) (by decide) hE9 d_Sm_init_137 (fun f9 S9 m9 hE9 => ?_)
  replace E1 := E1.mono m9
  replace E2 := E2.mono m9
  refine sv_dup C rfl d_Sm_init_138 ?_
  refine sv_iconst C (v := 1) (by decide) d_Sm_init_139 ?_
  refine sv_new_En C wk_Sm_7 (by decide) (by decide) d_Sm_init_140 (fun e9 => ?_)
  refine sv_dup C rfl d_Sm_init_143 ?_
  refine sv_ldcS C ws_13 d_Sm_init_144 ?_
  refine sv_ldcS C ws_14 d_Sm_init_146 ?_
  refine sv_callIv C (c_En_init l g _ e9 (tx_2 1) (sb_2 1)) lk_Sm_13  d_Sm_init_148 (by decide) (Nat.le_of_ble_eq_true rfl) (by decide) (fun w hw => ?_)
  obtain rfl := hw
  refine sv_fillE C tx_2 sb_2 1 20 (by decide) (by decide) hE9 d_Sm_init_151 (fun f9 S9 m9 hE9 => ?_)
  replace E1 := E1.mono m9
  replace E2 := E2.mono m9
  refine sv_dup C rfl d_Sm_init_152 ?_
  refine sv_iconst C (v := 2) (by decide) d_Sm_init_153 ?_
  refine sv_new_En C wk_Sm_7 (by decide) (by decide) d_Sm_init_154 (fun e9 => ?_)
  refine sv_dup C rfl d_Sm_init_157 ?_
  refine sv_ldcS C ws_15 d_Sm_init_158 ?_
  refine sv_ldcS C ws_16 d_Sm_init_160 ?_
  refine sv_callIv C (c_En_init l g _ e9 (tx_2 2) (sb_2 2)) lk_Sm_13  d_Sm_init_162 (by decide) (Nat.le_of_ble_eq_true rfl) (by decide) (fun w hw => ?_)
  obtain rfl := hw
  refine sv_fillE C tx_2 sb_2 2 20 (by decide) (by decide) hE9 d_Sm_init_165 (fun f9 S9 m9 hE9 => ?_)
  replace E1 := E1.mono m9
  replace E2 := E2.mono m9
  refine sv_dup C rfl d_Sm_init_166 ?_
  refine sv_iconst C (v := 3) (by decide) d_Sm_init_167 ?_
  refine sv_new_En C wk_Sm_7 (by decide) (by decide) d_Sm_init_168 (fun e9 => ?_)
  refine sv_dup C rfl d_Sm_init_171 ?_
  refine sv_ldcS C ws_17 d_Sm_init_172 ?_
  refine sv_ldcS C ws_18 d_Sm_init_174 ?_
  refine sv_callIv C (c_En_init l g _ e9 (tx_2 3) (sb_2 3)) lk_Sm_13  d_Sm_init_176 (by decide) (Nat.le_of_ble_eq_true rfl) (by decide) (fun w hw => ?_)
  obtain rfl := hw
  refine sv_fillE C tx_2 sb_2 3 20 (by decide) (by decide) hE9 d_Sm_init_179 (fun f9 S9 m9 hE9 => ?_)
  replace E1 := E1.mono m9
  replace E2 := E2.mono m9
  refine sv_dup C rfl d_Sm_init_180 ?_
  refine sv_iconst C (v := 4) (by decide) d_Sm_init_181 ?_
  refine sv_new_En C wk_Sm_7 (by decide) (by decide) d_Sm_init_182 (fun e9 => ?_)
  refine sv_dup C rfl d_Sm_init_185 ?_
  refine sv_ldcS C ws_19 d_Sm_init_186 ?_
  refine sv_ldcS C ws_20 d_Sm_init_188 ?_
  refine sv_callIv C (c_En_init l g _ e9 (tx_2 4) (sb_2 4)) lk_Sm_13  d_Sm_init_190 (by decide) (Nat.le_of_ble_eq_true rfl) (by decide) (fun w hw => ?_)
  obtain rfl := hw
  refine sv_fillE C tx_2 sb_2 4 20 (by decide) (by decide) hE9 d_Sm_init_193 (fun f9 S9 m9 hE9 => ?_)
  replace E1 := E1.mono m9
  replace E2 := E2.mono m9
  refine sv_dup C rfl d_Sm_init_194 ?_
  refine sv_iconst C (v := 5) (by decide) d_Sm_init_195 ?_
  refine sv_new_En C wk_Sm_7 (by decide) (by decide) d_Sm_init_196 (fun e9 => ?_)
  refine sv_dup C rfl d_Sm_init_199 ?_
  refine sv_ldcS C ws_21 d_Sm_init_200 ?_
  refine sv_ldcS C ws_22 d_Sm_init_202 ?_
  refine sv_callIv C (c_En_init l g _ e9 (tx_2 5) (sb_2 5)) lk_Sm_13  d_Sm_init_204 (by decide) (Nat.le_of_ble_eq_true rfl) (by decide) (fun w hw => ?_)
  obtain rfl := hw
  refine sv_fillE C tx_2 sb_2 5 20 (by decide) (by decide) hE9 d_Sm_init_207 (fun f9 S9 m9 hE9 => ?_)
  replace E1 := E1.mono m9
  replace E2 := E2.mono m9
  refine sv_dup C rfl d_Sm_init_208 ?_
  refine sv_bipush C (v := 6) (by decide) d_Sm_init_209 ?_
  refine sv_new_En C wk_Sm_7 (by decide) (by decide) d_Sm_init_211 (fun e9 => ?_)
  refine sv_dup C rfl d_Sm_init_214 ?_
  refine sv_ldcS C ws_23 d_Sm_init_215 ?_
  refine sv_ldcS C ws_24 d_Sm_init_217 ?_
  refine sv_callIv C (c_En_init l g _ e9 (tx_2 6) (sb_2 6)) lk_Sm_13  d_Sm_init_219 (by decide) (Nat.le_of_ble_eq_true rfl) (by decide) (fun w hw => ?_)
  obtain rfl := hw
  refine sv_fillE C tx_2 sb_2 6 20 (by decide) (by decide) hE9 d_Sm_init_222 (fun f9 S9 m9 hE9 => ?_)
  replace E1 := E1.mono m9
  replace E2 := E2.mono m9
  refine sv_dup C rfl d_Sm_init_223 ?_
  refine sv_bipush C (v := 7) (by decide) d_Sm_init_224 ?_
  refine sv_new_En C wk_Sm_7 (by decide) (by decide) d_Sm_init_226 (fun e9 => ?_)
  refine sv_dup C rfl d_Sm_init_229 ?_
  refine sv_ldcS C ws_25 d_Sm_init_230 ?_
  refine sv_ldcS C ws_26 d_Sm_init_232 ?_
  refine sv_callIv C (c_En_init l g _ e9 (tx_2 7) (sb_2 7)) lk_Sm_13  d_Sm_init_234 (by decide) (Nat.le_of_ble_eq_true rfl) (by decide) (fun w hw => ?_)
  obtain rfl := hw
  refine sv_fillE C tx_2 sb_2 7 20 (by decide) (by decide) hE9 d_Sm_init_237 (fun f9 S9 m9 hE9 => ?_)
  replace E1 := E1.mono m9
  replace E2 := E2.mono m9
  refine sv_dup C rfl d_Sm_init_238 ?_
  refine sv_bipush C (v := 8) (by decide) d_Sm_init_239 ?_
  refine sv_new_En C wk_Sm_7 (by decide) (by decide) d_Sm_init_241 (fun e9 => ?_)
  refine sv_dup C rfl d_Sm_init_244 ?_
  refine sv_ldcS C ws_27 d_Sm_init_245 ?_
  refine sv_ldcS C ws_28 d_Sm_init_247 ?_
  refine sv_callIv C (c_En_init l g _ e9 (tx_2 8) (sb_2 8)) lk_Sm_13  d_Sm_init_249 (by decide) (Nat.le_of_ble_eq_true rfl) (by decide) (fun w hw => ?_)
  obtain rfl := hw
  refine sv_fillE C tx_2 sb_2 8 20 (by decide) (by decide) hE9 d_Sm_init_252 (fun f9 S9 m9 hE9 => ?_)
  replace E1 := E1.mono m9
  replace E2 := E2.mono m9
  refine sv_dup C rfl d_Sm_init_253 ?_
  refine sv_bipush C (v := 9) (by decide) d_Sm_init_254 ?_
  refine sv_new_En C wk_Sm_7 (by decide) (by decide) d_Sm_init_256 (fun e9 => ?_)
  refine sv_dup C rfl d_Sm_init_259 ?_
  refine sv_ldcS C ws_29 d_Sm_init_260 ?_
  refine sv_ldcS C ws_30 d_Sm_init_262 ?_
  refine sv_callIv C (c_En_init l g _ e9 (tx_2 9) (sb_2 9)) lk_Sm_13  d_Sm_init_264 (by decide) (Nat.le_of_ble_eq_true rfl) (by decide) (fun w hw => ?_)
  obtain rfl := hw
  refine sv_fillE C tx_2 sb_2 9 20 (by decide) (by decide) hE9 d_Sm_init_267 (fun f9 S9 m9 hE9 => ?_)
  replace E1 := E1.mono m9
  replace E2 := E2.mono m9
  refine sv_dup C rfl d_Sm_init_268 ?_
  refine sv_bipush C (v := 10) (by decide) d_Sm_init_269 ?_
  refine sv_new_En C wk_Sm_7 (by decide) (by decide) d_Sm_init_271 (fun e9 => ?_)
  refine sv_dup C rfl d_Sm_init_274 ?_
  refine sv_ldcS C ws_31 d_Sm_init_275 ?_
  refine sv_ldcS C ws_20 d_Sm_init_277 ?_
  refine sv_callIv C (c_En_init l g _ e9 (tx_2 10) (sb_2 10)) lk_Sm_13  d_Sm_init_279 (by decide) (Nat.le_of_ble_eq_true rfl) (by decide) (fun w hw => ?_)
  obtain rfl := hw
  refine sv_fillE C tx_2 sb_2 10 20 (by decide) (by decide) hE9 d_Sm_init_282 (fun f9 S9 m9 hE9 => ?_)
  replace E1 := E1.mono m9
  replace E2 := E2.mono m9
  refine sv_dup C rfl d_Sm_init_283 ?_
  refine sv_bipush C (v := 11) (by decide) d_Sm_init_284 ?_
  refine sv_new_En C wk_Sm_7 (by decide) (by decide) d_Sm_init_286 (fun e9 => ?_)
  refine sv_dup C rfl d_Sm_init_289 ?_
  refine sv_ldcS C ws_32 d_Sm_init_290 ?_
  refine sv_ldcS C ws_12 d_Sm_init_292 ?_
  refine sv_callIv C (c_En_init l g _ e9 (tx_2 11) (sb_2 11)) lk_Sm_13  d_Sm_init_294 (by decide) (Nat.le_of_ble_eq_true rfl) (by decide) (fun w hw => ?_)
  obtain rfl := hw
  refine sv_fillE C tx_2 sb_2 11 20 (by decide) (by decide) hE9 d_Sm_init_297 (fun f9 S9 m9 hE9 => ?_)
  replace E1 := E1.mono m9
  replace E2 := E2.mono m9
  refine sv_dup C rfl d_Sm_init_298 ?_
  refine sv_bipush C (v := 12) (by decide) d_Sm_init_299 ?_
  refine sv_new_En C wk_Sm_7 (by decide) (by decide) d_Sm_init_301 (fun e9 => ?_)
  refine sv_dup C rfl d_Sm_init_304 ?_
  refine sv_ldcS C ws_33 d_Sm_init_305 ?_
  refine sv_ldcS C ws_12 d_Sm_init_307 ?_
  refine sv_callIv C (c_En_init l g _ e9 (tx_2 12) (sb_2 12)) lk_Sm_13  d_Sm_init_309 (by decide) (Nat.le_of_ble_eq_true rfl) (by decide) (fun w hw => ?_)
  obtain rfl := hw
  refine sv_fillE C tx_2 sb_2 12 20 (by decide) (by decide) hE9 d_Sm_init_312 (fun f9 S9 m9 hE9 => ?_)
  replace E1 := E1.mono m9
  replace E2 := E2.mono m9
  refine sv_dup C rfl d_Sm_init_313 ?_
  refine sv_bipush C (v := 13) (by decide) d_Sm_init_314 ?_
  refine sv_new_En C wk_Sm_7 (by decide) (by decide) d_Sm_init_316 (fun e9 => ?_)
  refine sv_dup C rfl d_Sm_init_319 ?_
  refine sv_ldcS C ws_34 d_Sm_init_320 ?_
  refine sv_ldcS C ws_24 d_Sm_init_322 ?_
  refine sv_callIv C (c_En_init l g _ e9 (tx_2 13) (sb_2 13)) lk_Sm_13  d_Sm_init_324 (by decide) (Nat.le_of_ble_eq_true rfl) (by decide) (fun w hw => ?_)
  obtain rfl := hw
  refine sv_fillE C tx_2 sb_2 13 20 (by decide) (by decide) hE9 d_Sm_init_327 (fun f9 S9 m9 hE9 => ?_)
  replace E1 := E1.mono m9
  replace E2 := E2.mono m9
  refine sv_dup C rfl d_Sm_init_328 ?_
  refine sv_bipush C (v := 14) (by decide) d_Sm_init_329 ?_
  refine sv_new_En C wk_Sm_7 (by decide) (by decide) d_Sm_init_331 (fun e9 => ?_)
  refine sv_dup C rfl d_Sm_init_334 ?_
  refine sv_ldcS C ws_35 d_Sm_init_335 ?_
  refine sv_ldcS C ws_36 d_Sm_init_337 ?_
  refine sv_callIv C (c_En_init l g _ e9 (tx_2 14) (sb_2 14)) lk_Sm_13  d_Sm_init_339 (by decide) (Nat.le_of_ble_eq_true rfl) (by decide) (fun w hw => ?_)
  obtain rfl := hw
  refine sv_fillE C tx_2 sb_2 14 20 (by decide) (by decide) hE9 d_Sm_init_342 (fun f9 S9 m9 hE9 => ?_)
  replace E1 := E1.mono m9
  replace E2 := E2.mono m9
  refine sv_dup C rfl d_Sm_init_343 ?_
  refine sv_bipush C (v := 15) (by decide) d_Sm_init_344 ?_
  refine sv_new_En C wk_Sm_7 (by decide) (by decide) d_Sm_init_346 (fun e9 => ?_)
  refine sv_dup C rfl d_Sm_init_349 ?_
  refine sv_ldcS C ws_37 d_Sm_init_350 ?_
  refine sv_ldcS C ws_38 d_Sm_init_352 ?_
  refine sv_callIv C (c_En_init l g _ e9 (tx_2 15) (sb_2 15)) lk_Sm_13  d_Sm_init_354 (by decide) (Nat.le_of_ble_eq_true rfl) (by decide) (fun w hw => ?_)
  obtain rfl := hw
  refine sv_fillE C tx_2 sb_2 15 20 (by decide) (by decide) hE9 d_Sm_init_357 (fun f9 S9 m9 hE9 => ?_)
  replace E1 := E1.mono m9
  replace E2 := E2.mono m9
  refine sv_dup C rfl d_Sm_init_358 ?_
  refine sv_bipush C (v := 16) (by decide) d_Sm_init_359 ?_
  refine sv_new_En C wk_Sm_7 (by decide) (by decide) d_Sm_init_361 (fun e9 => ?_)
  refine sv_dup C rfl d_Sm_init_364 ?_
  refine sv_ldcS C ws_39 d_Sm_init_365 ?_
  refine sv_ldcS C ws_30 d_Sm_init_367 ?_
  refine sv_callIv C (c_En_init l g _ e9 (tx_2 16) (sb_2 16)) lk_Sm_13  d_Sm_init_369 (by decide) (Nat.le_of_ble_eq_true rfl) (by decide) (fun w hw => ?_)
  obtain rfl := hw
  refine sv_fillE C tx_2 sb_2 16 20 (by decide) (by decide) hE9 d_Sm_init_372 (fun f9 S9 m9 hE9 => ?_)
  replace E1 := E1.mono m9
  replace E2 := E2.mono m9
  refine sv_dup C rfl d_Sm_init_373 ?_
  refine sv_bipush C (v := 17) (by decide) d_Sm_init_374 ?_
  refine sv_new_En C wk_Sm_7 (by decide) (by decide) d_Sm_init_376 (fun e9 => ?_)
  refine sv_dup C rfl d_Sm_init_379 ?_
  refine sv_ldcS C ws_40 d_Sm_init_380 ?_
  refine sv_ldcS C ws_24 d_Sm_init_382 ?_
  refine sv_callIv C (c_En_init l g _ e9 (tx_2 17) (sb_2 17)) lk_Sm_13  d_Sm_init_384 (by decide) (Nat.le_of_ble_eq_true rfl) (by decide) (fun w hw => ?_)
  obtain rfl := hw
  refine sv_fillE C tx_2 sb_2 17 20 (by decide) (by decide) hE9 d_Sm_init_387 (fun f9 S9 m9 hE9 => ?_)
  replace E1 := E1.mono m9
  replace E2 := E2.mono m9
  refine sv_dup C rfl d_Sm_init_388 ?_
  refine sv_bipush C (v := 18) (by decide) d_Sm_init_389 ?_
  refine sv_new_En C wk_Sm_7 (by decide) (by decide) d_Sm_init_391 (fun e9 => ?_)
  refine sv_dup C rfl d_Sm_init_394 ?_
  refine sv_ldcS C ws_41 d_Sm_init_395 ?_
  refine sv_ldcS C ws_36 d_Sm_init_397 ?_
  refine sv_callIv C (c_En_init l g _ e9 (tx_2 18) (sb_2 18)) lk_Sm_13  d_Sm_init_399 (by decide) (Nat.le_of_ble_eq_true rfl) (by decide) (fun w hw => ?_)
  obtain rfl := hw
  refine sv_fillE C tx_2 sb_2 18 20 (by decide) (by decide) hE9 d_Sm_init_402 (fun f9 S9 m9 hE9 => ?_)
  replace E1 := E1.mono m9
  replace E2 := E2.mono m9
  refine sv_dup C rfl d_Sm_init_403 ?_
  refine sv_bipush C (v := 19) (by decide) d_Sm_init_404 ?_
  refine sv_new_En C wk_Sm_7 (by decide) (by decide) d_Sm_init_406 (fun e9 => ?_)
  refine sv_dup C rfl d_Sm_init_409 ?_
  refine sv_ldcS C ws_42 d_Sm_init_410 ?_
  refine sv_ldcS C ws_43 d_Sm_init_412 ?_
  refine sv_callIv C (c_En_init l g _ e9 (tx_2 19) (sb_2 19)) lk_Sm_13  d_Sm_init_414 (by decide) (Nat.le_of_ble_eq_true rfl) (by decide) (fun w hw => ?_)
  obtain rfl := hw
  refine sv_fillE C tx_2 sb_2 19 20 (by decide) (by decide) hE9 d_Sm_init_417 (fun f9 S9 m9 hE9 => ?_)
  replace E1 := E1.mono m9
  replace E2 := E2.mono m9
  refine sv_putF C hI fp_Sm_107 1 rfl rfl rfl (Nat.le_of_ble_eq_true rfl) (_ :: (_, .inr (_, [_, _, _, _, _, _, _])) :: _) rfl d_Sm_init_418 ?_
  refine sv_Perm sv_shift ?_
  have E3 := sv_EA_of (a := x3) hE9 tb_2
  replace E1 := E1.mono (r2 := (x3, .inl (g.2.1 4, 20, .inr (.inr (.inr (.inr f9))))) :: S9) (fun q h => List.mem_cons_of_mem _ h)
  replace E2 := E2.mono (r2 := (x3, .inl (g.2.1 4, 20, .inr (.inr (.inr (.inr f9))))) :: S9) (fun q h => List.mem_cons_of_mem _ h)
  obtain ⟨S9, hS8⟩ : ∃ S8 : va_W, ((x3, .inl (g.2.1 4, 20, .inr (.inr (.inr (.inr f9))))) :: S9) = S8 := ⟨_, rfl⟩
  rw [hS8]
  rw [hS8] at E1
  rw [hS8] at E2
  rw [hS8] at E3
  clear hS8 hE9
  refine sv_aload_n C rfl rfl d_Sm_init_421 ?_
  refine sv_bipush C (v := 7) (by decide) d_Sm_init_422 ?_
  refine sv_newE C wk_Sm_7 (by decide) (N := 7) (by decide) (by decide) (by decide) (by decide) d_Sm_init_424 (fun x4 => ?_)
  have hE9 := sv_EP0 (g := g) (S := S9) (f := fun _ => none) (tx := tx_3) (sb := sb_3)
  refine sv_dup C rfl d_Sm_init_427 ?_
  refine sv_iconst C (v := 0) (by decide) d_Sm_init_428 ?_
  refine sv_new_En C wk_Sm_7 (by decide) (by decide) d_Sm_init_429 (fun e9 => ?_)
  refine sv_dup C rfl d_Sm_init_432 ?_
  refine sv_ldcS C ws_44 d_Sm_init_433 ?_
  refine sv_ldcS C ws_45 d_Sm_init_435 ?_
  refine sv_callIv C (c_En_init l g _ e9 (tx_3 0) (sb_3 0)) lk_Sm_13  d_Sm_init_437 (by decide) (Nat.le_of_ble_eq_true rfl) (by decide) (fun w hw => ?_)
  obtain rfl := hw
  refine sv_fillE C tx_3 sb_3 0 7 (by decide) (by decide) hE9 d_Sm_init_440 (fun f9 S9 m9 hE9 => ?_)
  replace E1 := E1.mono m9
  replace E2 := E2.mono m9
  replace E3 := E3.mono m9
  refine sv_dup C rfl d_Sm_init_441 ?_
  refine sv_iconst C (v := 1) (by decide) d_Sm_init_442 ?_
  refine sv_new_En C wk_Sm_7 (by decide) (by decide) d_Sm_init_443 (fun e9 => ?_)
  refine sv_dup C rfl d_Sm_init_446 ?_
  refine sv_ldcS C ws_46 d_Sm_init_447 ?_
  refine sv_ldcS C ws_6 d_Sm_init_449 ?_
  refine sv_callIv C (c_En_init l g _ e9 (tx_3 1) (sb_3 1)) lk_Sm_13  d_Sm_init_451 (by decide) (Nat.le_of_ble_eq_true rfl) (by decide) (fun w hw => ?_)
  obtain rfl := hw
  refine sv_fillE C tx_3 sb_3 1 7 (by decide) (by decide) hE9 d_Sm_init_454 (fun f9 S9 m9 hE9 => ?_)
  replace E1 := E1.mono m9
  replace E2 := E2.mono m9
  replace E3 := E3.mono m9
  refine sv_dup C rfl d_Sm_init_455 ?_
  refine sv_iconst C (v := 2) (by decide) d_Sm_init_456 ?_
  refine sv_new_En C wk_Sm_7 (by decide) (by decide) d_Sm_init_457 (fun e9 => ?_)
  refine sv_dup C rfl d_Sm_init_460 ?_
  refine sv_ldcS C ws_47 d_Sm_init_461 ?_
  refine sv_ldcS C ws_24 d_Sm_init_463 ?_
  refine sv_callIv C (c_En_init l g _ e9 (tx_3 2) (sb_3 2)) lk_Sm_13  d_Sm_init_465 (by decide) (Nat.le_of_ble_eq_true rfl) (by decide) (fun w hw => ?_)
  obtain rfl := hw
  refine sv_fillE C tx_3 sb_3 2 7 (by decide) (by decide) hE9 d_Sm_init_468 (fun f9 S9 m9 hE9 => ?_)
  replace E1 := E1.mono m9
  replace E2 := E2.mono m9
  replace E3 := E3.mono m9
  refine sv_dup C rfl d_Sm_init_469 ?_
  refine sv_iconst C (v := 3) (by decide) d_Sm_init_470 ?_
  refine sv_new_En C wk_Sm_7 (by decide) (by decide) d_Sm_init_471 (fun e9 => ?_)
  refine sv_dup C rfl d_Sm_init_474 ?_
  refine sv_ldcS C ws_48 d_Sm_init_475 ?_
  refine sv_ldcS C ws_45 d_Sm_init_477 ?_
  refine sv_callIv C (c_En_init l g _ e9 (tx_3 3) (sb_3 3)) lk_Sm_13  d_Sm_init_479 (by decide) (Nat.le_of_ble_eq_true rfl) (by decide) (fun w hw => ?_)
  obtain rfl := hw
  refine sv_fillE C tx_3 sb_3 3 7 (by decide) (by decide) hE9 d_Sm_init_482 (fun f9 S9 m9 hE9 => ?_)
  replace E1 := E1.mono m9
  replace E2 := E2.mono m9
  replace E3 := E3.mono m9
  refine sv_dup C rfl d_Sm_init_483 ?_
  refine sv_iconst C (v := 4) (by decide) d_Sm_init_484 ?_
  refine sv_new_En C wk_Sm_7 (by decide) (by decide) d_Sm_init_485 (fun e9 => ?_)
  refine sv_dup C rfl d_Sm_init_488 ?_
  refine sv_ldcS C ws_49 d_Sm_init_489 ?_
  refine sv_ldcS C ws_45 d_Sm_init_491 ?_
  refine sv_callIv C (c_En_init l g _ e9 (tx_3 4) (sb_3 4)) lk_Sm_13  d_Sm_init_493 (by decide) (Nat.le_of_ble_eq_true rfl) (by decide) (fun w hw => ?_)
  obtain rfl := hw
  refine sv_fillE C tx_3 sb_3 4 7 (by decide) (by decide) hE9 d_Sm_init_496 (fun f9 S9 m9 hE9 => ?_)
  replace E1 := E1.mono m9
  replace E2 := E2.mono m9
  replace E3 := E3.mono m9
  refine sv_dup C rfl d_Sm_init_497 ?_
  refine sv_iconst C (v := 5) (by decide) d_Sm_init_498 ?_
  refine sv_new_En C wk_Sm_7 (by decide) (by decide) d_Sm_init_499 (fun e9 => ?_)
  refine sv_dup C rfl d_Sm_init_502 ?_
  refine sv_ldcS C ws_38 d_Sm_init_503 ?_
  refine sv_ldcS C ws_6 d_Sm_init_505 ?_
  refine sv_callIv C (c_En_init l g _ e9 (tx_3 5) (sb_3 5)) lk_Sm_13  d_Sm_init_507 (by decide) (Nat.le_of_ble_eq_true rfl) (by decide) (fun w hw => ?_)
  obtain rfl := hw
  refine sv_fillE C tx_3 sb_3 5 7 (by decide) (by decide) hE9 d_Sm_init_510 (fun f9 S9 m9 hE9 => ?_)
  replace E1 := E1.mono m9
  replace E2 := E2.mono m9
  replace E3 := E3.mono m9
  refine sv_dup C rfl d_Sm_init_511 ?_
  refine sv_bipush C (v := 6) (by decide) d_Sm_init_512 ?_
  refine sv_new_En C wk_Sm_7 (by decide) (by decide) d_Sm_init_514 (fun e9 => ?_)
  refine sv_dup C rfl d_Sm_init_517 ?_
  refine sv_ldcS C ws_50 d_Sm_init_518 ?_
  refine sv_ldcS C ws_6 d_Sm_init_520 ?_
  refine sv_callIv C (c_En_init l g _ e9 (tx_3 6) (sb_3 6)) lk_Sm_13  d_Sm_init_522 (by decide) (Nat.le_of_ble_eq_true rfl) (by decide) (fun w hw => ?_)
  obtain rfl := hw
  refine sv_fillE C tx_3 sb_3 6 7 (by decide) (by decide) hE9 d_Sm_init_525 (fun f9 S9 m9 hE9 => ?_)
  replace E1 := E1.mono m9
  replace E2 := E2.mono m9
  replace E3 := E3.mono m9
  refine sv_putF C hI fp_Sm_124 1 rfl rfl rfl (Nat.le_of_ble_eq_true rfl) (_ :: (_, .inr (_, [_, _, _, _, _, _, _])) :: _) rfl d_Sm_init_526 ?_
  refine sv_Perm sv_shift ?_
  have E4 := sv_EA_of (a := x4) hE9 tb_3
  replace E1 := E1.mono (r2 := (x4, .inl (g.2.1 4, 7, .inr (.inr (.inr (.inr f9))))) :: S9) (fun q h => List.mem_cons_of_mem _ h)
  replace E2 := E2.mono (r2 := (x4, .inl (g.2.1 4, 7, .inr (.inr (.inr (.inr f9))))) :: S9) (fun q h => List.mem_cons_of_mem _ h)
  replace E3 := E3.mono (r2 := (x4, .inl (g.2.1 4, 7, .inr (.inr (.inr (.inr f9))))) :: S9) (fun q h => List.mem_cons_of_mem _ h)
  obtain ⟨S9, hS8⟩ : ∃ S8 : va_W, ((x4, .inl (g.2.1 4, 7, .inr (.inr (.inr (.inr f9))))) :: S9) = S8 := ⟨_, rfl⟩
  rw [hS8]
  rw [hS8] at E1
  rw [hS8] at E2
  rw [hS8] at E3
  rw [hS8] at E4
  clear hS8 hE9
  refine sv_aload_n C rfl rfl d_Sm_init_529 ?_
  refine sv_bipush C (v := 19) (by decide) d_Sm_init_530 ?_
  refine sv_newE C wk_Sm_7 (by decide) (N := 19) (by decide) (by decide) (by decide) (by decide) d_Sm_init_532 (fun x5 => ?_)
  have hE9 := sv_EP0 (g := g) (S := S9) (f := fun _ => none) (tx := tx_4) (sb := sb_4)
  refine sv_dup C rfl d_Sm_init_535 ?_
  refine sv_iconst C (v := 0) (by decide) d_Sm_init_536 ?_
  refine sv_new_En C wk_Sm_7 (by decide) (by decide) d_Sm_init_537 (fun e9 => ?_)
  refine sv_dup C rfl d_Sm_init_540 ?_
  refine sv_ldcS C ws_24 d_Sm_init_541 ?_
  refine sv_ldcS C ws_6 d_Sm_init_543 ?_
  refine sv_callIv C (c_En_init l g _ e9 (tx_4 0) (sb_4 0)) lk_Sm_13  d_Sm_init_545 (by decide) (Nat.le_of_ble_eq_true rfl) (by decide) (fun w hw => ?_)
  obtain rfl := hw
  refine sv_fillE C tx_4 sb_4 0 19 (by decide) (by decide) hE9 d_Sm_init_548 (fun f9 S9 m9 hE9 => ?_)
  replace E1 := E1.mono m9
  replace E2 := E2.mono m9
  replace E3 := E3.mono m9
  replace E4 := E4.mono m9
  refine sv_dup C rfl d_Sm_init_549 ?_
  refine sv_iconst C (v := 1) (by decide) d_Sm_init_550 ?_
  refine sv_new_En C wk_Sm_7 (by decide) (by decide) d_Sm_init_551 (fun e9 => ?_)
  refine sv_dup C rfl d_Sm_init_554 ?_
  refine sv_ldcS C ws_18 d_Sm_init_555 ?_
  refine sv_ldcS C ws_6 d_Sm_init_557 ?_
  refine sv_callIv C (c_En_init l g _ e9 (tx_4 1) (sb_4 1)) lk_Sm_13  d_Sm_init_559 (by decide) (Nat.le_of_ble_eq_true rfl) (by decide) (fun w hw => ?_)
  obtain rfl := hw
  refine sv_fillE C tx_4 sb_4 1 19 (by decide) (by decide) hE9 d_Sm_init_562 (fun f9 S9 m9 hE9 => ?_)
  replace E1 := E1.mono m9
  replace E2 := E2.mono m9
  replace E3 := E3.mono m9
  replace E4 := E4.mono m9
  refine sv_dup C rfl d_Sm_init_563 ?_
  refine sv_iconst C (v := 2) (by decide) d_Sm_init_564 ?_
  refine sv_new_En C wk_Sm_7 (by decide) (by decide) d_Sm_init_565 (fun e9 => ?_)
  refine sv_dup C rfl d_Sm_init_568 ?_
  refine sv_ldcS C ws_16 d_Sm_init_569 ?_
  refine sv_ldcS C ws_6 d_Sm_init_571 ?_
  refine sv_callIv C (c_En_init l g _ e9 (tx_4 2) (sb_4 2)) lk_Sm_13  d_Sm_init_573 (by decide) (Nat.le_of_ble_eq_true rfl) (by decide) (fun w hw => ?_)
  obtain rfl := hw
  refine sv_fillE C tx_4 sb_4 2 19 (by decide) (by decide) hE9 d_Sm_init_576 (fun f9 S9 m9 hE9 => ?_)
  replace E1 := E1.mono m9
  replace E2 := E2.mono m9
  replace E3 := E3.mono m9
  replace E4 := E4.mono m9
  refine sv_dup C rfl d_Sm_init_577 ?_
  refine sv_iconst C (v := 3) (by decide) d_Sm_init_578 ?_
  refine sv_new_En C wk_Sm_7 (by decide) (by decide) d_Sm_init_579 (fun e9 => ?_)
  refine sv_dup C rfl d_Sm_init_582 ?_
  refine sv_ldcS C ws_51 d_Sm_init_583 ?_
  refine sv_ldcS C ws_6 d_Sm_init_585 ?_
  refine sv_callIv C (c_En_init l g _ e9 (tx_4 3) (sb_4 3)) lk_Sm_13  d_Sm_init_587 (by decide) (Nat.le_of_ble_eq_true rfl) (by decide) (fun w hw => ?_)
  obtain rfl := hw
  refine sv_fillE C tx_4 sb_4 3 19 (by decide) (by decide) hE9 d_Sm_init_590 (fun f9 S9 m9 hE9 => ?_)
  replace E1 := E1.mono m9
  replace E2 := E2.mono m9
  replace E3 := E3.mono m9
  replace E4 := E4.mono m9
  refine sv_dup C rfl d_Sm_init_591 ?_
  refine sv_iconst C (v := 4) (by decide) d_Sm_init_592 ?_
  refine sv_new_En C wk_Sm_7 (by decide) (by decide) d_Sm_init_593 (fun e9 => ?_)
  refine sv_dup C rfl d_Sm_init_596 ?_
  refine sv_ldcS C ws_45 d_Sm_init_597 ?_
  refine sv_ldcS C ws_6 d_Sm_init_599 ?_
  refine sv_callIv C (c_En_init l g _ e9 (tx_4 4) (sb_4 4)) lk_Sm_13  d_Sm_init_601 (by decide) (Nat.le_of_ble_eq_true rfl) (by decide) (fun w hw => ?_)
  obtain rfl := hw
  refine sv_fillE C tx_4 sb_4 4 19 (by decide) (by decide) hE9 d_Sm_init_604 (fun f9 S9 m9 hE9 => ?_)
  replace E1 := E1.mono m9
  replace E2 := E2.mono m9
  replace E3 := E3.mono m9
  replace E4 := E4.mono m9
  refine sv_dup C rfl d_Sm_init_605 ?_
  refine sv_iconst C (v := 5) (by decide) d_Sm_init_606 ?_
  refine sv_new_En C wk_Sm_7 (by decide) (by decide) d_Sm_init_607 (fun e9 => ?_)
  refine sv_dup C rfl d_Sm_init_610 ?_
  refine sv_ldcS C ws_22 d_Sm_init_611 ?_
  refine sv_ldcS C ws_6 d_Sm_init_613 ?_
  refine sv_callIv C (c_En_init l g _ e9 (tx_4 5) (sb_4 5)) lk_Sm_13  d_Sm_init_615 (by decide) (Nat.le_of_ble_eq_true rfl) (by decide) (fun w hw => ?_)
  obtain rfl := hw
  refine sv_fillE C tx_4 sb_4 5 19 (by decide) (by decide) hE9 d_Sm_init_618 (fun f9 S9 m9 hE9 => ?_)
  replace E1 := E1.mono m9
  replace E2 := E2.mono m9
  replace E3 := E3.mono m9
  replace E4 := E4.mono m9
  refine sv_dup C rfl d_Sm_init_619 ?_
  refine sv_bipush C (v := 6) (by decide) d_Sm_init_620 ?_
  refine sv_new_En C wk_Sm_7 (by decide) (by decide) d_Sm_init_622 (fun e9 => ?_)
  refine sv_dup C rfl d_Sm_init_625 ?_
  refine sv_ldcS C ws_52 d_Sm_init_626 ?_
  refine sv_ldcS C ws_6 d_Sm_init_628 ?_
  refine sv_callIv C (c_En_init l g _ e9 (tx_4 6) (sb_4 6)) lk_Sm_13  d_Sm_init_630 (by decide) (Nat.le_of_ble_eq_true rfl) (by decide) (fun w hw => ?_)
  obtain rfl := hw
  refine sv_fillE C tx_4 sb_4 6 19 (by decide) (by decide) hE9 d_Sm_init_633 (fun f9 S9 m9 hE9 => ?_)
  replace E1 := E1.mono m9
  replace E2 := E2.mono m9
  replace E3 := E3.mono m9
  replace E4 := E4.mono m9
  refine sv_dup C rfl d_Sm_init_634 ?_
  refine sv_bipush C (v := 7) (by decide) d_Sm_init_635 ?_
  refine sv_new_En C wk_Sm_7 (by decide) (by decide) d_Sm_init_637 (fun e9 => ?_)
  refine sv_dup C rfl d_Sm_init_640 ?_
  refine sv_ldcS C ws_53 d_Sm_init_641 ?_
  refine sv_ldcS C ws_6 d_Sm_init_643 ?_
  refine sv_callIv C (c_En_init l g _ e9 (tx_4 7) (sb_4 7)) lk_Sm_13  d_Sm_init_645 (by decide) (Nat.le_of_ble_eq_true rfl) (by decide) (fun w hw => ?_)
  obtain rfl := hw
  refine sv_fillE C tx_4 sb_4 7 19 (by decide) (by decide) hE9 d_Sm_init_648 (fun f9 S9 m9 hE9 => ?_)
  replace E1 := E1.mono m9
  replace E2 := E2.mono m9
  replace E3 := E3.mono m9
  replace E4 := E4.mono m9
  refine sv_dup C rfl d_Sm_init_649 ?_
  refine sv_bipush C (v := 8) (by decide) d_Sm_init_650 ?_
  refine sv_new_En C wk_Sm_7 (by decide) (by decide) d_Sm_init_652 (fun e9 => ?_)
  refine sv_dup C rfl d_Sm_init_655 ?_
  refine sv_ldcS C ws_54 d_Sm_init_656 ?_
  refine sv_ldcS C ws_6 d_Sm_init_658 ?_
  refine sv_callIv C (c_En_init l g _ e9 (tx_4 8) (sb_4 8)) lk_Sm_13  d_Sm_init_660 (by decide) (Nat.le_of_ble_eq_true rfl) (by decide) (fun w hw => ?_)
  obtain rfl := hw
  refine sv_fillE C tx_4 sb_4 8 19 (by decide) (by decide) hE9 d_Sm_init_663 (fun f9 S9 m9 hE9 => ?_)
  replace E1 := E1.mono m9
  replace E2 := E2.mono m9
  replace E3 := E3.mono m9
  replace E4 := E4.mono m9
  refine sv_dup C rfl d_Sm_init_664 ?_
  refine sv_bipush C (v := 9) (by decide) d_Sm_init_665 ?_
  refine sv_new_En C wk_Sm_7 (by decide) (by decide) d_Sm_init_667 (fun e9 => ?_)
  refine sv_dup C rfl d_Sm_init_670 ?_
  refine sv_ldcS C ws_55 d_Sm_init_671 ?_
  refine sv_ldcS C ws_6 d_Sm_init_673 ?_
  refine sv_callIv C (c_En_init l g _ e9 (tx_4 9) (sb_4 9)) lk_Sm_13  d_Sm_init_675 (by decide) (Nat.le_of_ble_eq_true rfl) (by decide) (fun w hw => ?_)
  obtain rfl := hw
  refine sv_fillE C tx_4 sb_4 9 19 (by decide) (by decide) hE9 d_Sm_init_678 (fun f9 S9 m9 hE9 => ?_)
  replace E1 := E1.mono m9
  replace E2 := E2.mono m9
  replace E3 := E3.mono m9
  replace E4 := E4.mono m9
  refine sv_dup C rfl d_Sm_init_679 ?_
  refine sv_bipush C (v := 10) (by decide) d_Sm_init_680 ?_
  refine sv_new_En C wk_Sm_7 (by decide) (by decide) d_Sm_init_682 (fun e9 => ?_)
  refine sv_dup C rfl d_Sm_init_685 ?_
  refine sv_ldcS C ws_26 d_Sm_init_686 ?_
  refine sv_ldcS C ws_6 d_Sm_init_688 ?_
  refine sv_callIv C (c_En_init l g _ e9 (tx_4 10) (sb_4 10)) lk_Sm_13  d_Sm_init_690 (by decide) (Nat.le_of_ble_eq_true rfl) (by decide) (fun w hw => ?_)
  obtain rfl := hw
  refine sv_fillE C tx_4 sb_4 10 19 (by decide) (by decide) hE9 d_Sm_init_693 (fun f9 S9 m9 hE9 => ?_)
  replace E1 := E1.mono m9
  replace E2 := E2.mono m9
  replace E3 := E3.mono m9
  replace E4 := E4.mono m9
  refine sv_dup C rfl d_Sm_init_694 ?_
  refine sv_bipush C (v := 11) (by decide) d_Sm_init_695 ?_
  refine sv_new_En C wk_Sm_7 (by decide) (by decide) d_Sm_init_697 (fun e9 => ?_)
  refine sv_dup C rfl d_Sm_init_700 ?_
  refine sv_ldcS C ws_56 d_Sm_init_701 ?_
  refine sv_ldcS C ws_6 d_Sm_init_703 ?_
  refine sv_callIv C (c_En_init l g _ e9 (tx_4 11) (sb_4 11)) lk_Sm_13  d_Sm_init_705 (by decide) (Nat.le_of_ble_eq_true rfl) (by decide) (fun w hw => ?_)
  obtain rfl := hw
  refine sv_fillE C tx_4 sb_4 11 19 (by decide) (by decide) hE9 d_Sm_init_708 (fun f9 S9 m9 hE9 => ?_)
  replace E1 := E1.mono m9
  replace E2 := E2.mono m9
  replace E3 := E3.mono m9
  replace E4 := E4.mono m9
  refine sv_dup C rfl d_Sm_init_709 ?_
  refine sv_bipush C (v := 12) (by decide) d_Sm_init_710 ?_
  refine sv_new_En C wk_Sm_7 (by decide) (by decide) d_Sm_init_712 (fun e9 => ?_)
  refine sv_dup C rfl d_Sm_init_715 ?_
  refine sv_ldcS C ws_57 d_Sm_init_716 ?_
  refine sv_ldcS C ws_6 d_Sm_init_718 ?_
  refine sv_callIv C (c_En_init l g _ e9 (tx_4 12) (sb_4 12)) lk_Sm_13  d_Sm_init_720 (by decide) (Nat.le_of_ble_eq_true rfl) (by decide) (fun w hw => ?_)
  obtain rfl := hw
  refine sv_fillE C tx_4 sb_4 12 19 (by decide) (by decide) hE9 d_Sm_init_723 (fun f9 S9 m9 hE9 => ?_)
  replace E1 := E1.mono m9
  replace E2 := E2.mono m9
  replace E3 := E3.mono m9
  replace E4 := E4.mono m9
  refine sv_dup C rfl d_Sm_init_724 ?_
  refine sv_bipush C (v := 13) (by decide) d_Sm_init_725 ?_
  refine sv_new_En C wk_Sm_7 (by decide) (by decide) d_Sm_init_727 (fun e9 => ?_)
  refine sv_dup C rfl d_Sm_init_730 ?_
  refine sv_ldcS C ws_58 d_Sm_init_731 ?_
  refine sv_ldcS C ws_6 d_Sm_init_733 ?_
  refine sv_callIv C (c_En_init l g _ e9 (tx_4 13) (sb_4 13)) lk_Sm_13  d_Sm_init_735 (by decide) (Nat.le_of_ble_eq_true rfl) (by decide) (fun w hw => ?_)
  obtain rfl := hw
  refine sv_fillE C tx_4 sb_4 13 19 (by decide) (by decide) hE9 d_Sm_init_738 (fun f9 S9 m9 hE9 => ?_)
  replace E1 := E1.mono m9
  replace E2 := E2.mono m9
  replace E3 := E3.mono m9
  replace E4 := E4.mono m9
  refine sv_dup C rfl d_Sm_init_739 ?_
  refine sv_bipush C (v := 14) (by decide) d_Sm_init_740 ?_
  refine sv_new_En C wk_Sm_7 (by decide) (by decide) d_Sm_init_742 (fun e9 => ?_)
  refine sv_dup C rfl d_Sm_init_745 ?_
  refine sv_ldcS C ws_12 d_Sm_init_746 ?_
  refine sv_ldcS C ws_6 d_Sm_init_748 ?_
  refine sv_callIv C (c_En_init l g _ e9 (tx_4 14) (sb_4 14)) lk_Sm_13  d_Sm_init_750 (by decide) (Nat.le_of_ble_eq_true rfl) (by decide) (fun w hw => ?_)
  obtain rfl := hw
  refine sv_fillE C tx_4 sb_4 14 19 (by decide) (by decide) hE9 d_Sm_init_753 (fun f9 S9 m9 hE9 => ?_)
  replace E1 := E1.mono m9
  replace E2 := E2.mono m9
  replace E3 := E3.mono m9
  replace E4 := E4.mono m9
  refine sv_dup C rfl d_Sm_init_754 ?_
  refine sv_bipush C (v := 15) (by decide) d_Sm_init_755 ?_
  refine sv_new_En C wk_Sm_7 (by decide) (by decide) d_Sm_init_757 (fun e9 => ?_)
  refine sv_dup C rfl d_Sm_init_760 ?_
  refine sv_ldcS C ws_59 d_Sm_init_761 ?_
  refine sv_ldcS C ws_6 d_Sm_init_763 ?_
  refine sv_callIv C (c_En_init l g _ e9 (tx_4 15) (sb_4 15)) lk_Sm_13  d_Sm_init_765 (by decide) (Nat.le_of_ble_eq_true rfl) (by decide) (fun w hw => ?_)
  obtain rfl := hw
  refine sv_fillE C tx_4 sb_4 15 19 (by decide) (by decide) hE9 d_Sm_init_768 (fun f9 S9 m9 hE9 => ?_)
  replace E1 := E1.mono m9
  replace E2 := E2.mono m9
  replace E3 := E3.mono m9
  replace E4 := E4.mono m9
  refine sv_dup C rfl d_Sm_init_769 ?_
  refine sv_bipush C (v := 16) (by decide) d_Sm_init_770 ?_
  refine sv_new_En C wk_Sm_7 (by decide) (by decide) d_Sm_init_772 (fun e9 => ?_)
  refine sv_dup C rfl d_Sm_init_775 ?_
  refine sv_ldcS C ws_30 d_Sm_init_776 ?_
  refine sv_ldcS C ws_6 d_Sm_init_778 ?_
  refine sv_callIv C (c_En_init l g _ e9 (tx_4 16) (sb_4 16)) lk_Sm_13  d_Sm_init_780 (by decide) (Nat.le_of_ble_eq_true rfl) (by decide) (fun w hw => ?_)
  obtain rfl := hw
  refine sv_fillE C tx_4 sb_4 16 19 (by decide) (by decide) hE9 d_Sm_init_783 (fun f9 S9 m9 hE9 => ?_)
  replace E1 := E1.mono m9
  replace E2 := E2.mono m9
  replace E3 := E3.mono m9
  replace E4 := E4.mono m9
  refine sv_dup C rfl d_Sm_init_784 ?_
  refine sv_bipush C (v := 17) (by decide) d_Sm_init_785 ?_
  refine sv_new_En C wk_Sm_7 (by decide) (by decide) d_Sm_init_787 (fun e9 => ?_)
  refine sv_dup C rfl d_Sm_init_790 ?_
  refine sv_ldcS C ws_36 d_Sm_init_791 ?_
  refine sv_ldcS C ws_6 d_Sm_init_793 ?_
  refine sv_callIv C (c_En_init l g _ e9 (tx_4 17) (sb_4 17)) lk_Sm_13  d_Sm_init_795 (by decide) (Nat.le_of_ble_eq_true rfl) (by decide) (fun w hw => ?_)
  obtain rfl := hw
  refine sv_fillE C tx_4 sb_4 17 19 (by decide) (by decide) hE9 d_Sm_init_798 (fun f9 S9 m9 hE9 => ?_)
  replace E1 := E1.mono m9
  replace E2 := E2.mono m9
  replace E3 := E3.mono m9
  replace E4 := E4.mono m9
  refine sv_dup C rfl d_Sm_init_799 ?_
  refine sv_bipush C (v := 18) (by decide) d_Sm_init_800 ?_
  refine sv_new_En C wk_Sm_7 (by decide) (by decide) d_Sm_init_802 (fun e9 => ?_)
  refine sv_dup C rfl d_Sm_init_805 ?_
  refine sv_ldcS C ws_20 d_Sm_init_806 ?_
  refine sv_ldcS C ws_6 d_Sm_init_808 ?_
  refine sv_callIv C (c_En_init l g _ e9 (tx_4 18) (sb_4 18)) lk_Sm_13  d_Sm_init_810 (by decide) (Nat.le_of_ble_eq_true rfl) (by decide) (fun w hw => ?_)
  obtain rfl := hw
  refine sv_fillE C tx_4 sb_4 18 19 (by decide) (by decide) hE9 d_Sm_init_813 (fun f9 S9 m9 hE9 => ?_)
  replace E1 := E1.mono m9
  replace E2 := E2.mono m9
  replace E3 := E3.mono m9
  replace E4 := E4.mono m9
  refine sv_putF C hI fp_Sm_145 1 rfl rfl rfl (Nat.le_of_ble_eq_true rfl) (_ :: (_, .inr (_, [_, _, _, _, _, _, _])) :: _) rfl d_Sm_init_814 ?_
  refine sv_Perm sv_shift ?_
  have E5 := sv_EA_of (a := x5) hE9 tb_4
  replace E1 := E1.mono (r2 := (x5, .inl (g.2.1 4, 19, .inr (.inr (.inr (.inr f9))))) :: S9) (fun q h => List.mem_cons_of_mem _ h)
  replace E2 := E2.mono (r2 := (x5, .inl (g.2.1 4, 19, .inr (.inr (.inr (.inr f9))))) :: S9) (fun q h => List.mem_cons_of_mem _ h)
  replace E3 := E3.mono (r2 := (x5, .inl (g.2.1 4, 19, .inr (.inr (.inr (.inr f9))))) :: S9) (fun q h => List.mem_cons_of_mem _ h)
  replace E4 := E4.mono (r2 := (x5, .inl (g.2.1 4, 19, .inr (.inr (.inr (.inr f9))))) :: S9) (fun q h => List.mem_cons_of_mem _ h)
  obtain ⟨S9, hS8⟩ : ∃ S8 : va_W, ((x5, .inl (g.2.1 4, 19, .inr (.inr (.inr (.inr f9))))) :: S9) = S8 := ⟨_, rfl⟩
  rw [hS8]
  rw [hS8] at E1
  rw [hS8] at E2
  rw [hS8] at E3
  rw [hS8] at E4
  rw [hS8] at E5
  clear hS8 hE9
  refine sv_aload_n C rfl rfl d_Sm_init_817 ?_
  refine sv_new_Wo C wk_Sm_148 (by decide) (by decide) d_Sm_init_818 (fun aW => ?_)
  refine sv_dup C rfl d_Sm_init_821 ?_
  refine sv_iload_n C rfl rfl d_Sm_init_822 ?_
  refine sv_callIv C (c_Wo_init l g _ aW) lk_Sm_150  d_Sm_init_823 (by decide) (Nat.le_of_ble_eq_true rfl) (by decide) (fun w hw => ?_)
  obtain ⟨aC, rfl⟩ := hw
  refine sv_putF C hI fp_Sm_153 2 rfl rfl rfl (Nat.le_of_ble_eq_true rfl) (_ :: _ :: (_, .inr (_, [_, _, _, _, _, _, _])) :: _) rfl d_Sm_init_826 ?_
  refine sv_aload_n C rfl rfl d_Sm_init_829 ?_
  refine sv_iload_n C rfl rfl d_Sm_init_830 ?_
  refine sv_newZ C wr_boolean (by decide) (N := 255) (by decide) (by decide) (by decide) (by decide) d_Sm_init_831 (fun aV => ?_)
  refine sv_putF C hI fp_Sm_157 3 rfl rfl rfl (Nat.le_of_ble_eq_true rfl) (_ :: _ :: _ :: (_, .inr (_, [_, _, _, _, _, _, _])) :: _) rfl d_Sm_init_833 ?_
  refine sv_front 2 (_ :: _ :: _ :: _ :: _) rfl rfl ?_
  refine sv_front 2 (_ :: _ :: _ :: _ :: _) rfl rfl ?_
  refine sv_front 3 (_ :: _ :: _ :: _ :: _) rfl rfl ?_
  exact hr _ _ _ d_Sm_init_836 ⟨aW, aC, aV, x1, x2, x3, x4, x5, S9, rfl, E1, E2, E3, E4, E5⟩
