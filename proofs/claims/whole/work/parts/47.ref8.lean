/-! CONTRACTS: the reference, 8: its constructor -/
section SVS
variable {X : sv_X} {nL k n pc : Nat} {ws : va_W} {lv : List (Option Value)} {st : List Value} {l : Launch} {cc : ByteArray} {own : String} {rm : Room} {g : sv_G}
theorem sv_astS (C : sv_C X l cc nL own rm g) {a N j : Nat} {f : Nat → Option Nat} {i : Int32} (hj : j < sv_nS) (q0 : Nat) (ha : ws[q0]? = some (a, .inl (g.2.1 5, N, .inr (.inr (.inr (.inr f)))))) (hin0 : vp_in i N) (ws' : va_W) (hws : ws.set q0 (a, .inl (g.2.1 5, N, .inr (.inr (.inr (.inr (va_up f i.toNatClampNeg (some (g.2.2.1 j)))))))) = ws') (hd : decode cc pc = .ok (.aastore, 1)) (z : sv_V X nL k n ws' (pc + 1) lv st) : sv_V X nL k n ws pc lv (.ref (g.2.2.1 j) :: .int i :: .ref a :: st) := by
  obtain ⟨⟨p, l0, e, R⟩, ⟨s, m, args, below⟩, ⟨meth, c, Q⟩, g0, A⟩ := X
  obtain ⟨rfl, rfl, rfl, hx, hb, hml, hown, hts, hK, hA, hZ, hin⟩ := C
  intro H locs ls hP hD hS hl
  obtain ⟨cell, c1, c2, c3⟩ := va_Orecv (hZ.1 j hj).1 hS
  have hr : va_Any "java/lang/String" s H (g.2.2.1 j) := ⟨cell, c1, c2, (by obtain ⟨kE, hkE, -⟩ := Vm.findClass_spec c3; exact ⟨kE, hkE⟩), fun comp hc => by rw [c3] at hc; cases hc; exact va_asg _ _⟩
  exact va_astqM hx hb hK hP hD hS q0 5 ha rfl hr hin0 hd (fun H2 locs2 hP2 hD2 hS2 => z H2 locs2 ls (by rw [← hws]; exact hP2) (by rw [← hws]; exact hD2) hS2 hl)
/-- one more string in its row -/
theorem sv_fillS (C : sv_C X l cc nL own rm g) (tx : Nat → Nat) (j N : Nat) {a : Nat} {f : Nat → Option Nat} (q0 : Nat) (ha : ws[q0]? = some (a, .inl (g.2.1 5, N, .inr (.inr (.inr (.inr f)))))) (hjN : j < N) (hN : N < 2 ^ 31) (htx : tx j < sv_nS) (hf : ∀ k, k < j → f k = some (g.2.2.1 (tx k)))
    (wf : (Nat → Option Nat) → va_W) (hwf : ∀ f2 : Nat → Option Nat, ws.set q0 (a, .inl (g.2.1 5, N, .inr (.inr (.inr (.inr f2))))) = wf f2) (hd : decode cc pc = .ok (.aastore, 1)) (z : ∀ f2 : Nat → Option Nat, (∀ k, k < j + 1 → f2 k = some (g.2.2.1 (tx k))) → sv_V X nL k n (wf f2) (pc + 1) lv st) : sv_V X nL k n ws pc lv (.ref (g.2.2.1 (tx j)) :: .int (nI j) :: .ref a :: st) := by
  refine sv_astS C htx q0 ha (vp_in_nI hjN hN) _ (hwf _) hd (z _ ?_)
  rw [nI_clamp (Nat.lt_trans hjN hN)]
  intro k hk
  by_cases h : k = j
  · subst h; rw [va_up_self]
  · rw [va_up_ne _ _ h, hf k (by omega)]
end SVS
theorem tmb_0 : ∀ k, k < 33 → tm_0 k < sv_nS := by decide +kernel
theorem tmb_2 : ∀ k, k < 40 → tm_2 k < sv_nS := by decide +kernel
theorem tmb_3 : ∀ k, k < 14 → tm_3 k < sv_nS := by decide +kernel
theorem tmb_4 : ∀ k, k < 38 → tm_4 k < sv_nS := by decide +kernel
def rm_M_init : Room := { frames := 1, cells := 10, slots := 41858, locals := 80 }
set_option maxHeartbeats 4000000 in
set_option maxRecDepth 100000 in
theorem c_M_init (l : Launch) (g : sv_G) (rest : va_W) (hM : Nat) : sv_Mv l y_M_init b_M_init 1 none rm_M_init g [.ref hM] ((hM, .inr (7, [.null, .null, .null, .null, .null, .int 0, .int 0, .null, .int 0, .null, .null, .null, .int 0, .int 0, .null, .int 0])) :: rest) (fun w => ∃ (ad : Nat → Nat) (S : va_W), ad 0 = hM ∧ w = ((ad 0, .inr (7, [.ref (ad 7), .ref (ad 8), .ref (ad 9), .ref (ad 10), .ref (ad 1), .int (nI 0), .int 0, .ref (ad 2), .int (nI 0), .ref (ad 3), .ref (ad 4), .ref (ad 5), .int (nI 0), .int (nI 0), .ref (ad 6), .int 0])) :: (ad 1, .inl (g.2.1 1, 8192, .inl (fun _ => 0))) :: (ad 2, .inl (g.2.1 0, 8192, .inl (fun _ => 0))) :: (ad 3, .inl (g.2.1 0, 8704, .inl (fun _ => 0))) :: (ad 4, .inl (g.2.1 0, 8193, .inl (fun _ => 0))) :: (ad 5, .inl (g.2.1 0, 8192, .inl (fun _ => 0))) :: (ad 6, .inl (g.2.1 0, 260, .inl (fun _ => 0))) :: (S ++ rest)) ∧ sv_SA g S (ad 7) 33 tm_0 ∧ sv_SA g S (ad 8) (2 * 20) tm_2 ∧ sv_SA g S (ad 9) (2 * 7) tm_3 ∧ sv_SA g S (ad 10) (2 * 19) tm_4) := by
  refine sv_enter_v (by decide) rfl rfl (Nat.le_of_ble_eq_true rfl) (fun X C hI hr => ?_)
  refine sv_lvE (lv' := [some _]) rfl ?_
  have hI := hI rfl
  refine sv_aload_n C rfl rfl d_M_init_0 ?_
  refine sv_objInit C wo_M wo_2 wo_3 (by decide) (Nat.le_of_ble_eq_true rfl) d_M_init_1 ?_
  refine sv_aload_n C rfl rfl d_M_init_4 ?_
  refine sv_bipush C (v := 33) (by decide) d_M_init_5 ?_
  refine sv_newS C wk_M_7 (by decide) (N := 33) (by decide) (by decide) (by decide) (by decide) d_M_init_7 (fun aSTOPS => ?_)
  have hSTOPS0 : ∀ k, k < 0 → (fun _ : Nat => (none : Option Nat)) k = some (g.2.2.1 (tm_0 k)) := fun k hk => absurd hk (Nat.not_lt_zero k)
  refine sv_dup C rfl d_M_init_10 ?_
  refine sv_iconst C (v := 0) (by decide) d_M_init_11 ?_
  refine sv_ldcS C ws_74 d_M_init_12 ?_
  refine sv_fillS C tm_0 0 33 0 rfl (by decide) (by decide) (by decide) hSTOPS0 (fun f2 => (_, .inl (_, _, .inr (.inr (.inr (.inr f2))))) :: _ :: _) (fun _ => rfl) d_M_init_14 (fun fSTOPS1 hSTOPS1 => ?_)
  refine sv_dup C rfl d_M_init_15 ?_
  refine sv_iconst C (v := 1) (by decide) d_M_init_16 ?_
  refine sv_ldcS C ws_75 d_M_init_17 ?_
  refine sv_fillS C tm_0 1 33 0 rfl (by decide) (by decide) (by decide) hSTOPS1 (fun f2 => (_, .inl (_, _, .inr (.inr (.inr (.inr f2))))) :: _ :: _) (fun _ => rfl) d_M_init_19 (fun fSTOPS2 hSTOPS2 => ?_)
  refine sv_dup C rfl d_M_init_20 ?_
  refine sv_iconst C (v := 2) (by decide) d_M_init_21 ?_
  refine sv_ldcS C ws_76 d_M_init_22 ?_
  refine sv_fillS C tm_0 2 33 0 rfl (by decide) (by decide) (by decide) hSTOPS2 (fun f2 => (_, .inl (_, _, .inr (.inr (.inr (.inr f2))))) :: _ :: _) (fun _ => rfl) d_M_init_24 (fun fSTOPS3 hSTOPS3 => ?_)
  refine sv_dup C rfl d_M_init_25 ?_
  refine sv_iconst C (v := 3) (by decide) d_M_init_26 ?_
  refine sv_ldcS C ws_77 d_M_init_27 ?_
  refine sv_fillS C tm_0 3 33 0 rfl (by decide) (by decide) (by decide) hSTOPS3 (fun f2 => (_, .inl (_, _, .inr (.inr (.inr (.inr f2))))) :: _ :: _) (fun _ => rfl) d_M_init_29 (fun fSTOPS4 hSTOPS4 => ?_)
  refine sv_dup C rfl d_M_init_30 ?_
  refine sv_iconst C (v := 4) (by decide) d_M_init_31 ?_
  refine sv_ldcS C ws_78 d_M_init_32 ?_
  refine sv_fillS C tm_0 4 33 0 rfl (by decide) (by decide) (by decide) hSTOPS4 (fun f2 => (_, .inl (_, _, .inr (.inr (.inr (.inr f2))))) :: _ :: _) (fun _ => rfl) d_M_init_34 (fun fSTOPS5 hSTOPS5 => ?_)
  refine sv_dup C rfl d_M_init_35 ?_
  refine sv_iconst C (v := 5) (by decide) d_M_init_36 ?_
  refine sv_ldcS C ws_79 d_M_init_37 ?_
  refine sv_fillS C tm_0 5 33 0 rfl (by decide) (by decide) (by decide) hSTOPS5 (fun f2 => (_, .inl (_, _, .inr (.inr (.inr (.inr f2))))) :: _ :: _) (fun _ => rfl) d_M_init_39 (fun fSTOPS6 hSTOPS6 => ?_)
  refine sv_dup C rfl d_M_init_40 ?_
  refine sv_bipush C (v := 6) (by decide) d_M_init_41 ?_
  refine sv_ldcS C ws_80 d_M_init_43 ?_
  refine sv_fillS C tm_0 6 33 0 rfl (by decide) (by decide) (by decide) hSTOPS6 (fun f2 => (_, .inl (_, _, .inr (.inr (.inr (.inr f2))))) :: _ :: _) (fun _ => rfl) d_M_init_45 (fun fSTOPS7 hSTOPS7 => ?_)
  refine sv_dup C rfl d_M_init_46 ?_
  refine sv_bipush C (v := 7) (by decide) d_M_init_47 ?_
  refine sv_ldcS C ws_81 d_M_init_49 ?_
  refine sv_fillS C tm_0 7 33 0 rfl (by decide) (by decide) (by decide) hSTOPS7 (fun f2 => (_, .inl (_, _, .inr (.inr (.inr (.inr f2))))) :: _ :: _) (fun _ => rfl) d_M_init_51 (fun fSTOPS8 hSTOPS8 => ?_)
  refine sv_dup C rfl d_M_init_52 ?_
  refine sv_bipush C (v := 8) (by decide) d_M_init_53 ?_
  refine sv_ldcS C ws_82 d_M_init_55 ?_
  refine sv_fillS C tm_0 8 33 0 rfl (by decide) (by decide) (by decide) hSTOPS8 (fun f2 => (_, .inl (_, _, .inr (.inr (.inr (.inr f2))))) :: _ :: _) (fun _ => rfl) d_M_init_57 (fun fSTOPS9 hSTOPS9 => ?_)
  refine sv_dup C rfl d_M_init_58 ?_
  refine sv_bipush C (v := 9) (by decide) d_M_init_59 ?_
  refine sv_ldcS C ws_83 d_M_init_61 ?_
  refine sv_fillS C tm_0 9 33 0 rfl (by decide) (by decide) (by decide) hSTOPS9 (fun f2 => (_, .inl (_, _, .inr (.inr (.inr (.inr f2))))) :: _ :: _) (fun _ => rfl) d_M_init_63 (fun fSTOPS10 hSTOPS10 => ?_)
  refine sv_dup C rfl d_M_init_64 ?_
  refine sv_bipush C (v := 10) (by decide) d_M_init_65 ?_
  refine sv_ldcS C ws_84 d_M_init_67 ?_
  refine sv_fillS C tm_0 10 33 0 rfl (by decide) (by decide) (by decide) hSTOPS10 (fun f2 => (_, .inl (_, _, .inr (.inr (.inr (.inr f2))))) :: _ :: _) (fun _ => rfl) d_M_init_69 (fun fSTOPS11 hSTOPS11 => ?_)
  refine sv_dup C rfl d_M_init_70 ?_
  refine sv_bipush C (v := 11) (by decide) d_M_init_71 ?_
  refine sv_ldcS C ws_85 d_M_init_73 ?_
  refine sv_fillS C tm_0 11 33 0 rfl (by decide) (by decide) (by decide) hSTOPS11 (fun f2 => (_, .inl (_, _, .inr (.inr (.inr (.inr f2))))) :: _ :: _) (fun _ => rfl) d_M_init_75 (fun fSTOPS12 hSTOPS12 => ?_)
  refine sv_dup C rfl d_M_init_76 ?_
  refine sv_bipush C (v := 12) (by decide) d_M_init_77 ?_
  refine sv_ldcS C ws_86 d_M_init_79 ?_
  refine sv_fillS C tm_0 12 33 0 rfl (by decide) (by decide) (by decide) hSTOPS12 (fun f2 => (_, .inl (_, _, .inr (.inr (.inr (.inr f2))))) :: _ :: _) (fun _ => rfl) d_M_init_81 (fun fSTOPS13 hSTOPS13 => ?_)
  refine sv_dup C rfl d_M_init_82 ?_
  refine sv_bipush C (v := 13) (by decide) d_M_init_83 ?_
  refine sv_ldcS C ws_87 d_M_init_85 ?_
  refine sv_fillS C tm_0 13 33 0 rfl (by decide) (by decide) (by decide) hSTOPS13 (fun f2 => (_, .inl (_, _, .inr (.inr (.inr (.inr f2))))) :: _ :: _) (fun _ => rfl) d_M_init_87 (fun fSTOPS14 hSTOPS14 => ?_)
  refine sv_dup C rfl d_M_init_88 ?_
  refine sv_bipush C (v := 14) (by decide) d_M_init_89 ?_
  refine sv_ldcS C ws_88 d_M_init_91 ?_
  refine sv_fillS C tm_0 14 33 0 rfl (by decide) (by decide) (by decide) hSTOPS14 (fun f2 => (_, .inl (_, _, .inr (.inr (.inr (.inr f2))))) :: _ :: _) (fun _ => rfl) d_M_init_93 (fun fSTOPS15 hSTOPS15 => ?_)
  refine sv_dup C rfl d_M_init_94 ?_
  refine sv_bipush C (v := 15) (by decide) d_M_init_95 ?_
  refine sv_ldcS C ws_89 d_M_init_97 ?_
  refine sv_fillS C tm_0 15 33 0 rfl (by decide) (by decide) (by decide) hSTOPS15 (fun f2 => (_, .inl (_, _, .inr (.inr (.inr (.inr f2))))) :: _ :: _) (fun _ => rfl) d_M_init_99 (fun fSTOPS16 hSTOPS16 => ?_)
  refine sv_dup C rfl d_M_init_100 ?_
  refine sv_bipush C (v := 16) (by decide) d_M_init_101 ?_
  refine sv_ldcS C ws_90 d_M_init_103 ?_
  refine sv_fillS C tm_0 16 33 0 rfl (by decide) (by decide) (by decide) hSTOPS16 (fun f2 => (_, .inl (_, _, .inr (.inr (.inr (.inr f2))))) :: _ :: _) (fun _ => rfl) d_M_init_105 (fun fSTOPS17 hSTOPS17 => ?_)
  refine sv_dup C rfl d_M_init_106 ?_
  refine sv_bipush C (v := 17) (by decide) d_M_init_107 ?_
  refine sv_ldcS C ws_91 d_M_init_109 ?_
  refine sv_fillS C tm_0 17 33 0 rfl (by decide) (by decide) (by decide) hSTOPS17 (fun f2 => (_, .inl (_, _, .inr (.inr (.inr (.inr f2))))) :: _ :: _) (fun _ => rfl) d_M_init_111 (fun fSTOPS18 hSTOPS18 => ?_)
  refine sv_dup C rfl d_M_init_112 ?_
  refine sv_bipush C (v := 18) (by decide) d_M_init_113 ?_
  refine sv_ldcS C ws_92 d_M_init_115 ?_
  refine sv_fillS C tm_0 18 33 0 rfl (by decide) (by decide) (by decide) hSTOPS18 (fun f2 => (_, .inl (_, _, .inr (.inr (.inr (.inr f2))))) :: _ :: _) (fun _ => rfl) d_M_init_117 (fun fSTOPS19 hSTOPS19 => ?_)
  refine sv_dup C rfl d_M_init_118 ?_
  refine sv_bipush C (v := 19) (by decide) d_M_init_119 ?_
  refine sv_ldcS C ws_93 d_M_init_121 ?_
  refine sv_fillS C tm_0 19 33 0 rfl (by decide) (by decide) (by decide) hSTOPS19 (fun f2 => (_, .inl (_, _, .inr (.inr (.inr (.inr f2))))) :: _ :: _) (fun _ => rfl) d_M_init_123 (fun fSTOPS20 hSTOPS20 => ?_)
  refine sv_dup C rfl d_M_init_124 ?_
  refine sv_bipush C (v := 20) (by decide) d_M_init_125 ?_
  refine sv_ldcS C ws_94 d_M_init_127 ?_
  refine sv_fillS C tm_0 20 33 0 rfl (by decide) (by decide) (by decide) hSTOPS20 (fun f2 => (_, .inl (_, _, .inr (.inr (.inr (.inr f2))))) :: _ :: _) (fun _ => rfl) d_M_init_129 (fun fSTOPS21 hSTOPS21 => ?_)
  refine sv_dup C rfl d_M_init_130 ?_
  refine sv_bipush C (v := 21) (by decide) d_M_init_131 ?_
  refine sv_ldcS C ws_95 d_M_init_133 ?_
  refine sv_fillS C tm_0 21 33 0 rfl (by decide) (by decide) (by decide) hSTOPS21 (fun f2 => (_, .inl (_, _, .inr (.inr (.inr (.inr f2))))) :: _ :: _) (fun _ => rfl) d_M_init_135 (fun fSTOPS22 hSTOPS22 => ?_)
  refine sv_dup C rfl d_M_init_136 ?_
  refine sv_bipush C (v := 22) (by decide) d_M_init_137 ?_
  refine sv_ldcS C ws_96 d_M_init_139 ?_
  refine sv_fillS C tm_0 22 33 0 rfl (by decide) (by decide) (by decide) hSTOPS22 (fun f2 => (_, .inl (_, _, .inr (.inr (.inr (.inr f2))))) :: _ :: _) (fun _ => rfl) d_M_init_141 (fun fSTOPS23 hSTOPS23 => ?_)
  refine sv_dup C rfl d_M_init_142 ?_
  refine sv_bipush C (v := 23) (by decide) d_M_init_143 ?_
  refine sv_ldcS C ws_97 d_M_init_145 ?_
  refine sv_fillS C tm_0 23 33 0 rfl (by decide) (by decide) (by decide) hSTOPS23 (fun f2 => (_, .inl (_, _, .inr (.inr (.inr (.inr f2))))) :: _ :: _) (fun _ => rfl) d_M_init_147 (fun fSTOPS24 hSTOPS24 => ?_)
  refine sv_dup C rfl d_M_init_148 ?_
  refine sv_bipush C (v := 24) (by decide) d_M_init_149 ?_
  refine sv_ldcS C ws_98 d_M_init_151 ?_
  refine sv_fillS C tm_0 24 33 0 rfl (by decide) (by decide) (by decide) hSTOPS24 (fun f2 => (_, .inl (_, _, .inr (.inr (.inr (.inr f2))))) :: _ :: _) (fun _ => rfl) d_M_init_153 (fun fSTOPS25 hSTOPS25 => ?_)
  refine sv_dup C rfl d_M_init_154 ?_
  refine sv_bipush C (v := 25) (by decide) d_M_init_155 ?_
  refine sv_ldcS C ws_99 d_M_init_157 ?_
  refine sv_fillS C tm_0 25 33 0 rfl (by decide) (by decide) (by decide) hSTOPS25 (fun f2 => (_, .inl (_, _, .inr (.inr (.inr (.inr f2))))) :: _ :: _) (fun _ => rfl) d_M_init_159 (fun fSTOPS26 hSTOPS26 => ?_)
  refine sv_dup C rfl d_M_init_160 ?_
  refine sv_bipush C (v := 26) (by decide) d_M_init_161 ?_
  refine sv_ldcS C ws_100 d_M_init_163 ?_
  refine sv_fillS C tm_0 26 33 0 rfl (by decide) (by decide) (by decide) hSTOPS26 (fun f2 => (_, .inl (_, _, .inr (.inr (.inr (.inr f2))))) :: _ :: _) (fun _ => rfl) d_M_init_165 (fun fSTOPS27 hSTOPS27 => ?_)
  refine sv_dup C rfl d_M_init_166 ?_
  refine sv_bipush C (v := 27) (by decide) d_M_init_167 ?_
  refine sv_ldcS C ws_101 d_M_init_169 ?_
  refine sv_fillS C tm_0 27 33 0 rfl (by decide) (by decide) (by decide) hSTOPS27 (fun f2 => (_, .inl (_, _, .inr (.inr (.inr (.inr f2))))) :: _ :: _) (fun _ => rfl) d_M_init_171 (fun fSTOPS28 hSTOPS28 => ?_)
  refine sv_dup C rfl d_M_init_172 ?_
  refine sv_bipush C (v := 28) (by decide) d_M_init_173 ?_
  refine sv_ldcS C ws_102 d_M_init_175 ?_
  refine sv_fillS C tm_0 28 33 0 rfl (by decide) (by decide) (by decide) hSTOPS28 (fun f2 => (_, .inl (_, _, .inr (.inr (.inr (.inr f2))))) :: _ :: _) (fun _ => rfl) d_M_init_177 (fun fSTOPS29 hSTOPS29 => ?_)
  refine sv_dup C rfl d_M_init_178 ?_
  refine sv_bipush C (v := 29) (by decide) d_M_init_179 ?_
  refine sv_ldcS C ws_103 d_M_init_181 ?_
  refine sv_fillS C tm_0 29 33 0 rfl (by decide) (by decide) (by decide) hSTOPS29 (fun f2 => (_, .inl (_, _, .inr (.inr (.inr (.inr f2))))) :: _ :: _) (fun _ => rfl) d_M_init_183 (fun fSTOPS30 hSTOPS30 => ?_)
  refine sv_dup C rfl d_M_init_184 ?_
  refine sv_bipush C (v := 30) (by decide) d_M_init_185 ?_
  refine sv_ldcS C ws_104 d_M_init_187 ?_
  refine sv_fillS C tm_0 30 33 0 rfl (by decide) (by decide) (by decide) hSTOPS30 (fun f2 => (_, .inl (_, _, .inr (.inr (.inr (.inr f2))))) :: _ :: _) (fun _ => rfl) d_M_init_189 (fun fSTOPS31 hSTOPS31 => ?_)
  refine sv_dup C rfl d_M_init_190 ?_
  refine sv_bipush C (v := 31) (by decide) d_M_init_191 ?_
  refine sv_ldcS C ws_105 d_M_init_193 ?_
  refine sv_fillS C tm_0 31 33 0 rfl (by decide) (by decide) (by decide) hSTOPS31 (fun f2 => (_, .inl (_, _, .inr (.inr (.inr (.inr f2))))) :: _ :: _) (fun _ => rfl) d_M_init_195 (fun fSTOPS32 hSTOPS32 => ?_)
  refine sv_dup C rfl d_M_init_196 ?_
  refine sv_bipush C (v := 32) (by decide) d_M_init_197 ?_
  refine sv_ldcS C ws_106 d_M_init_199 ?_
  refine sv_fillS C tm_0 32 33 0 rfl (by decide) (by decide) (by decide) hSTOPS32 (fun f2 => (_, .inl (_, _, .inr (.inr (.inr (.inr f2))))) :: _ :: _) (fun _ => rfl) d_M_init_201 (fun fSTOPS33 hSTOPS33 => ?_)
  refine sv_putF C hI fp_M_75 1 rfl rfl rfl (Nat.le_of_ble_eq_true rfl) (_ :: (_, .inr (_, [_, _, _, _, _, _, _, _, _, _, _, _, _, _, _, _])) :: _) rfl d_M_init_202 ?_
  refine sv_aload_n C rfl rfl d_M_init_205 ?_
  refine sv_bipush C (v := 40) (by decide) d_M_init_206 ?_
  refine sv_newS C wk_M_7 (by decide) (N := 40) (by decide) (by decide) (by decide) (by decide) d_M_init_208 (fun aTWO => ?_)
  have hTWO0 : ∀ k, k < 0 → (fun _ : Nat => (none : Option Nat)) k = some (g.2.2.1 (tm_2 k)) := fun k hk => absurd hk (Nat.not_lt_zero k)
  refine sv_dup C rfl d_M_init_211 ?_
  refine sv_iconst C (v := 0) (by decide) d_M_init_212 ?_
  refine sv_ldcS C ws_107 d_M_init_213 ?_
  refine sv_fillS C tm_2 0 40 0 rfl (by decide) (by decide) (by decide) hTWO0 (fun f2 => (_, .inl (_, _, .inr (.inr (.inr (.inr f2))))) :: _ :: _ :: _) (fun _ => rfl) d_M_init_215 (fun fTWO1 hTWO1 => ?_)
  refine sv_dup C rfl d_M_init_216 ?_
  refine sv_iconst C (v := 1) (by decide) d_M_init_217 ?_
  refine sv_ldcS C ws_108 d_M_init_218 ?_
  refine sv_fillS C tm_2 1 40 0 rfl (by decide) (by decide) (by decide) hTWO1 (fun f2 => (_, .inl (_, _, .inr (.inr (.inr (.inr f2))))) :: _ :: _ :: _) (fun _ => rfl) d_M_init_220 (fun fTWO2 hTWO2 => ?_)
  refine sv_dup C rfl d_M_init_221 ?_
  refine sv_iconst C (v := 2) (by decide) d_M_init_222 ?_
  refine sv_ldcS C ws_109 d_M_init_223 ?_
  refine sv_fillS C tm_2 2 40 0 rfl (by decide) (by decide) (by decide) hTWO2 (fun f2 => (_, .inl (_, _, .inr (.inr (.inr (.inr f2))))) :: _ :: _ :: _) (fun _ => rfl) d_M_init_225 (fun fTWO3 hTWO3 => ?_)
  refine sv_dup C rfl d_M_init_226 ?_
  refine sv_iconst C (v := 3) (by decide) d_M_init_227 ?_
  refine sv_ldcS C ws_110 d_M_init_228 ?_
  refine sv_fillS C tm_2 3 40 0 rfl (by decide) (by decide) (by decide) hTWO3 (fun f2 => (_, .inl (_, _, .inr (.inr (.inr (.inr f2))))) :: _ :: _ :: _) (fun _ => rfl) d_M_init_230 (fun fTWO4 hTWO4 => ?_)
  refine sv_dup C rfl d_M_init_231 ?_
  refine sv_iconst C (v := 4) (by decide) d_M_init_232 ?_
  refine sv_ldcS C ws_111 d_M_init_233 ?_
  refine sv_fillS C tm_2 4 40 0 rfl (by decide) (by decide) (by decide) hTWO4 (fun f2 => (_, .inl (_, _, .inr (.inr (.inr (.inr f2))))) :: _ :: _ :: _) (fun _ => rfl) d_M_init_235 (fun fTWO5 hTWO5 => ?_)
  refine sv_dup C rfl d_M_init_236 ?_
  refine sv_iconst C (v := 5) (by decide) d_M_init_237 ?_
  refine sv_ldcS C ws_112 d_M_init_238 ?_
  refine sv_fillS C tm_2 5 40 0 rfl (by decide) (by decide) (by decide) hTWO5 (fun f2 => (_, .inl (_, _, .inr (.inr (.inr (.inr f2))))) :: _ :: _ :: _) (fun _ => rfl) d_M_init_240 (fun fTWO6 hTWO6 => ?_)
  refine sv_dup C rfl d_M_init_241 ?_
  refine sv_bipush C (v := 6) (by decide) d_M_init_242 ?_
  refine sv_ldcS C ws_113 d_M_init_244 ?_
  refine sv_fillS C tm_2 6 40 0 rfl (by decide) (by decide) (by decide) hTWO6 (fun f2 => (_, .inl (_, _, .inr (.inr (.inr (.inr f2))))) :: _ :: _ :: _) (fun _ => rfl) d_M_init_246 (fun fTWO7 hTWO7 => ?_)
  refine sv_dup C rfl d_M_init_247 ?_
  refine sv_bipush C (v := 7) (by decide) d_M_init_248 ?_
  refine sv_ldcS C ws_114 d_M_init_250 ?_
  refine sv_fillS C tm_2 7 40 0 rfl (by decide) (by decide) (by decide) hTWO7 (fun f2 => (_, .inl (_, _, .inr (.inr (.inr (.inr f2))))) :: _ :: _ :: _) (fun _ => rfl) d_M_init_252 (fun fTWO8 hTWO8 => ?_)
  refine sv_dup C rfl d_M_init_253 ?_
  refine sv_bipush C (v := 8) (by decide) d_M_init_254 ?_
  refine sv_ldcS C ws_115 d_M_init_256 ?_
  refine sv_fillS C tm_2 8 40 0 rfl (by decide) (by decide) (by decide) hTWO8 (fun f2 => (_, .inl (_, _, .inr (.inr (.inr (.inr f2))))) :: _ :: _ :: _) (fun _ => rfl) d_M_init_258 (fun fTWO9 hTWO9 => ?_)
  refine sv_dup C rfl d_M_init_259 ?_
  refine sv_bipush C (v := 9) (by decide) d_M_init_260 ?_
  refine sv_ldcS C ws_116 d_M_init_262 ?_
  refine sv_fillS C tm_2 9 40 0 rfl (by decide) (by decide) (by decide) hTWO9 (fun f2 => (_, .inl (_, _, .inr (.inr (.inr (.inr f2))))) :: _ :: _ :: _) (fun _ => rfl) d_M_init_264 (fun fTWO10 hTWO10 => ?_)
  refine sv_dup C rfl d_M_init_265 ?_
  refine sv_bipush C (v := 10) (by decide) d_M_init_266 ?_
  refine sv_ldcS C ws_117 d_M_init_268 ?_
  refine sv_fillS C tm_2 10 40 0 rfl (by decide) (by decide) (by decide) hTWO10 (fun f2 => (_, .inl (_, _, .inr (.inr (.inr (.inr f2))))) :: _ :: _ :: _) (fun _ => rfl) d_M_init_270 (fun fTWO11 hTWO11 => ?_)
  refine sv_dup C rfl d_M_init_271 ?_
  refine sv_bipush C (v := 11) (by decide) d_M_init_272 ?_
  refine sv_ldcS C ws_118 d_M_init_274 ?_
  refine sv_fillS C tm_2 11 40 0 rfl (by decide) (by decide) (by decide) hTWO11 (fun f2 => (_, .inl (_, _, .inr (.inr (.inr (.inr f2))))) :: _ :: _ :: _) (fun _ => rfl) d_M_init_276 (fun fTWO12 hTWO12 => ?_)
  refine sv_dup C rfl d_M_init_277 ?_
  refine sv_bipush C (v := 12) (by decide) d_M_init_278 ?_
  refine sv_ldcS C ws_119 d_M_init_280 ?_
  refine sv_fillS C tm_2 12 40 0 rfl (by decide) (by decide) (by decide) hTWO12 (fun f2 => (_, .inl (_, _, .inr (.inr (.inr (.inr f2))))) :: _ :: _ :: _) (fun _ => rfl) d_M_init_282 (fun fTWO13 hTWO13 => ?_)
  refine sv_dup C rfl d_M_init_283 ?_
  refine sv_bipush C (v := 13) (by decide) d_M_init_284 ?_
  refine sv_ldcS C ws_120 d_M_init_286 ?_
  refine sv_fillS C tm_2 13 40 0 rfl (by decide) (by decide) (by decide) hTWO13 (fun f2 => (_, .inl (_, _, .inr (.inr (.inr (.inr f2))))) :: _ :: _ :: _) (fun _ => rfl) d_M_init_288 (fun fTWO14 hTWO14 => ?_)
  refine sv_dup C rfl d_M_init_289 ?_
  refine sv_bipush C (v := 14) (by decide) d_M_init_290 ?_
  refine sv_ldcS C ws_121 d_M_init_292 ?_
  refine sv_fillS C tm_2 14 40 0 rfl (by decide) (by decide) (by decide) hTWO14 (fun f2 => (_, .inl (_, _, .inr (.inr (.inr (.inr f2))))) :: _ :: _ :: _) (fun _ => rfl) d_M_init_294 (fun fTWO15 hTWO15 => ?_)
  refine sv_dup C rfl d_M_init_295 ?_
  refine sv_bipush C (v := 15) (by decide) d_M_init_296 ?_
  refine sv_ldcS C ws_122 d_M_init_298 ?_
  refine sv_fillS C tm_2 15 40 0 rfl (by decide) (by decide) (by decide) hTWO15 (fun f2 => (_, .inl (_, _, .inr (.inr (.inr (.inr f2))))) :: _ :: _ :: _) (fun _ => rfl) d_M_init_300 (fun fTWO16 hTWO16 => ?_)
  refine sv_dup C rfl d_M_init_301 ?_
  refine sv_bipush C (v := 16) (by decide) d_M_init_302 ?_
  refine sv_ldcS C ws_123 d_M_init_304 ?_
  refine sv_fillS C tm_2 16 40 0 rfl (by decide) (by decide) (by decide) hTWO16 (fun f2 => (_, .inl (_, _, .inr (.inr (.inr (.inr f2))))) :: _ :: _ :: _) (fun _ => rfl) d_M_init_306 (fun fTWO17 hTWO17 => ?_)
  refine sv_dup C rfl d_M_init_307 ?_
  refine sv_bipush C (v := 17) (by decide) d_M_init_308 ?_
  refine sv_ldcS C ws_124 d_M_init_310 ?_
  refine sv_fillS C tm_2 17 40 0 rfl (by decide) (by decide) (by decide) hTWO17 (fun f2 => (_, .inl (_, _, .inr (.inr (.inr (.inr f2))))) :: _ :: _ :: _) (fun _ => rfl) d_M_init_312 (fun fTWO18 hTWO18 => ?_)
  refine sv_dup C rfl d_M_init_313 ?_
  refine sv_bipush C (v := 18) (by decide) d_M_init_314 ?_
  refine sv_ldcS C ws_125 d_M_init_316 ?_
  refine sv_fillS C tm_2 18 40 0 rfl (by decide) (by decide) (by decide) hTWO18 (fun f2 => (_, .inl (_, _, .inr (.inr (.inr (.inr f2))))) :: _ :: _ :: _) (fun _ => rfl) d_M_init_318 (fun fTWO19 hTWO19 => ?_)
  refine sv_dup C rfl d_M_init_319 ?_
  refine sv_bipush C (v := 19) (by decide) d_M_init_320 ?_
  refine sv_ldcS C ws_126 d_M_init_322 ?_
  refine sv_fillS C tm_2 19 40 0 rfl (by decide) (by decide) (by decide) hTWO19 (fun f2 => (_, .inl (_, _, .inr (.inr (.inr (.inr f2))))) :: _ :: _ :: _) (fun _ => rfl) d_M_init_324 (fun fTWO20 hTWO20 => ?_)
  refine sv_dup C rfl d_M_init_325 ?_
  refine sv_bipush C (v := 20) (by decide) d_M_init_326 ?_
  refine sv_ldcS C ws_127 d_M_init_328 ?_
  refine sv_fillS C tm_2 20 40 0 rfl (by decide) (by decide) (by decide) hTWO20 (fun f2 => (_, .inl (_, _, .inr (.inr (.inr (.inr f2))))) :: _ :: _ :: _) (fun _ => rfl) d_M_init_330 (fun fTWO21 hTWO21 => ?_)
  refine sv_dup C rfl d_M_init_331 ?_
  refine sv_bipush C (v := 21) (by decide) d_M_init_332 ?_
  refine sv_ldcS C ws_116 d_M_init_334 ?_
  refine sv_fillS C tm_2 21 40 0 rfl (by decide) (by decide) (by decide) hTWO21 (fun f2 => (_, .inl (_, _, .inr (.inr (.inr (.inr f2))))) :: _ :: _ :: _) (fun _ => rfl) d_M_init_336 (fun fTWO22 hTWO22 => ?_)
  refine sv_dup C rfl d_M_init_337 ?_
  refine sv_bipush C (v := 22) (by decide) d_M_init_338 ?_
  refine sv_ldcS C ws_128 d_M_init_340 ?_
  refine sv_fillS C tm_2 22 40 0 rfl (by decide) (by decide) (by decide) hTWO22 (fun f2 => (_, .inl (_, _, .inr (.inr (.inr (.inr f2))))) :: _ :: _ :: _) (fun _ => rfl) d_M_init_342 (fun fTWO23 hTWO23 => ?_)
  refine sv_dup C rfl d_M_init_343 ?_
  refine sv_bipush C (v := 23) (by decide) d_M_init_344 ?_
  refine sv_ldcS C ws_108 d_M_init_346 ?_
  refine sv_fillS C tm_2 23 40 0 rfl (by decide) (by decide) (by decide) hTWO23 (fun f2 => (_, .inl (_, _, .inr (.inr (.inr (.inr f2))))) :: _ :: _ :: _) (fun _ => rfl) d_M_init_348 (fun fTWO24 hTWO24 => ?_)
  refine sv_dup C rfl d_M_init_349 ?_
  refine sv_bipush C (v := 24) (by decide) d_M_init_350 ?_
  refine sv_ldcS C ws_129 d_M_init_352 ?_
  refine sv_fillS C tm_2 24 40 0 rfl (by decide) (by decide) (by decide) hTWO24 (fun f2 => (_, .inl (_, _, .inr (.inr (.inr (.inr f2))))) :: _ :: _ :: _) (fun _ => rfl) d_M_init_354 (fun fTWO25 hTWO25 => ?_)
  refine sv_dup C rfl d_M_init_355 ?_
  refine sv_bipush C (v := 25) (by decide) d_M_init_356 ?_
  refine sv_ldcS C ws_108 d_M_init_358 ?_
  refine sv_fillS C tm_2 25 40 0 rfl (by decide) (by decide) (by decide) hTWO25 (fun f2 => (_, .inl (_, _, .inr (.inr (.inr (.inr f2))))) :: _ :: _ :: _) (fun _ => rfl) d_M_init_360 (fun fTWO26 hTWO26 => ?_)
  refine sv_dup C rfl d_M_init_361 ?_
  refine sv_bipush C (v := 26) (by decide) d_M_init_362 ?_
  refine sv_ldcS C ws_130 d_M_init_364 ?_
  refine sv_fillS C tm_2 26 40 0 rfl (by decide) (by decide) (by decide) hTWO26 (fun f2 => (_, .inl (_, _, .inr (.inr (.inr (.inr f2))))) :: _ :: _ :: _) (fun _ => rfl) d_M_init_366 (fun fTWO27 hTWO27 => ?_)
  refine sv_dup C rfl d_M_init_367 ?_
  refine sv_bipush C (v := 27) (by decide) d_M_init_368 ?_
  refine sv_ldcS C ws_120 d_M_init_370 ?_
  refine sv_fillS C tm_2 27 40 0 rfl (by decide) (by decide) (by decide) hTWO27 (fun f2 => (_, .inl (_, _, .inr (.inr (.inr (.inr f2))))) :: _ :: _ :: _) (fun _ => rfl) d_M_init_372 (fun fTWO28 hTWO28 => ?_)
  refine sv_dup C rfl d_M_init_373 ?_
  refine sv_bipush C (v := 28) (by decide) d_M_init_374 ?_
  refine sv_ldcS C ws_131 d_M_init_376 ?_
  refine sv_fillS C tm_2 28 40 0 rfl (by decide) (by decide) (by decide) hTWO28 (fun f2 => (_, .inl (_, _, .inr (.inr (.inr (.inr f2))))) :: _ :: _ :: _) (fun _ => rfl) d_M_init_378 (fun fTWO29 hTWO29 => ?_)
  refine sv_dup C rfl d_M_init_379 ?_
  refine sv_bipush C (v := 29) (by decide) d_M_init_380 ?_
  refine sv_ldcS C ws_132 d_M_init_382 ?_
  refine sv_fillS C tm_2 29 40 0 rfl (by decide) (by decide) (by decide) hTWO29 (fun f2 => (_, .inl (_, _, .inr (.inr (.inr (.inr f2))))) :: _ :: _ :: _) (fun _ => rfl) d_M_init_384 (fun fTWO30 hTWO30 => ?_)
  refine sv_dup C rfl d_M_init_385 ?_
  refine sv_bipush C (v := 30) (by decide) d_M_init_386 ?_
  refine sv_ldcS C ws_133 d_M_init_388 ?_
  refine sv_fillS C tm_2 30 40 0 rfl (by decide) (by decide) (by decide) hTWO30 (fun f2 => (_, .inl (_, _, .inr (.inr (.inr (.inr f2))))) :: _ :: _ :: _) (fun _ => rfl) d_M_init_390 (fun fTWO31 hTWO31 => ?_)
  refine sv_dup C rfl d_M_init_391 ?_
  refine sv_bipush C (v := 31) (by decide) d_M_init_392 ?_
  refine sv_ldcS C ws_134 d_M_init_394 ?_
  refine sv_fillS C tm_2 31 40 0 rfl (by decide) (by decide) (by decide) hTWO31 (fun f2 => (_, .inl (_, _, .inr (.inr (.inr (.inr f2))))) :: _ :: _ :: _) (fun _ => rfl) d_M_init_396 (fun fTWO32 hTWO32 => ?_)
  refine sv_dup C rfl d_M_init_397 ?_
  refine sv_bipush C (v := 32) (by decide) d_M_init_398 ?_
  refine sv_ldcS C ws_135 d_M_init_400 ?_
  refine sv_fillS C tm_2 32 40 0 rfl (by decide) (by decide) (by decide) hTWO32 (fun f2 => (_, .inl (_, _, .inr (.inr (.inr (.inr f2))))) :: _ :: _ :: _) (fun _ => rfl) d_M_init_402 (fun fTWO33 hTWO33 => ?_)
  refine sv_dup C rfl d_M_init_403 ?_
  refine sv_bipush C (v := 33) (by decide) d_M_init_404 ?_
  refine sv_ldcS C ws_126 d_M_init_406 ?_
  refine sv_fillS C tm_2 33 40 0 rfl (by decide) (by decide) (by decide) hTWO33 (fun f2 => (_, .inl (_, _, .inr (.inr (.inr (.inr f2))))) :: _ :: _ :: _) (fun _ => rfl) d_M_init_408 (fun fTWO34 hTWO34 => ?_)
  refine sv_dup C rfl d_M_init_409 ?_
  refine sv_bipush C (v := 34) (by decide) d_M_init_410 ?_
  refine sv_ldcS C ws_136 d_M_init_412 ?_
  refine sv_fillS C tm_2 34 40 0 rfl (by decide) (by decide) (by decide) hTWO34 (fun f2 => (_, .inl (_, _, .inr (.inr (.inr (.inr f2))))) :: _ :: _ :: _) (fun _ => rfl) d_M_init_414 (fun fTWO35 hTWO35 => ?_)
  refine sv_dup C rfl d_M_init_415 ?_
  refine sv_bipush C (v := 35) (by decide) d_M_init_416 ?_
  refine sv_ldcS C ws_120 d_M_init_418 ?_
  refine sv_fillS C tm_2 35 40 0 rfl (by decide) (by decide) (by decide) hTWO35 (fun f2 => (_, .inl (_, _, .inr (.inr (.inr (.inr f2))))) :: _ :: _ :: _) (fun _ => rfl) d_M_init_420 (fun fTWO36 hTWO36 => ?_)
  refine sv_dup C rfl d_M_init_421 ?_
  refine sv_bipush C (v := 36) (by decide) d_M_init_422 ?_
  refine sv_ldcS C ws_137 d_M_init_424 ?_
  refine sv_fillS C tm_2 36 40 0 rfl (by decide) (by decide) (by decide) hTWO36 (fun f2 => (_, .inl (_, _, .inr (.inr (.inr (.inr f2))))) :: _ :: _ :: _) (fun _ => rfl) d_M_init_426 (fun fTWO37 hTWO37 => ?_)
  refine sv_dup C rfl d_M_init_427 ?_
  refine sv_bipush C (v := 37) (by decide) d_M_init_428 ?_
  refine sv_ldcS C ws_132 d_M_init_430 ?_
  refine sv_fillS C tm_2 37 40 0 rfl (by decide) (by decide) (by decide) hTWO37 (fun f2 => (_, .inl (_, _, .inr (.inr (.inr (.inr f2))))) :: _ :: _ :: _) (fun _ => rfl) d_M_init_432 (fun fTWO38 hTWO38 => ?_)
  refine sv_dup C rfl d_M_init_433 ?_
  refine sv_bipush C (v := 38) (by decide) d_M_init_434 ?_
  refine sv_ldcS C ws_138 d_M_init_436 ?_
  refine sv_fillS C tm_2 38 40 0 rfl (by decide) (by decide) (by decide) hTWO38 (fun f2 => (_, .inl (_, _, .inr (.inr (.inr (.inr f2))))) :: _ :: _ :: _) (fun _ => rfl) d_M_init_438 (fun fTWO39 hTWO39 => ?_)
  refine sv_dup C rfl d_M_init_439 ?_
  refine sv_bipush C (v := 39) (by decide) d_M_init_440 ?_
  refine sv_ldcS C ws_139 d_M_init_442 ?_
  refine sv_fillS C tm_2 39 40 0 rfl (by decide) (by decide) (by decide) hTWO39 (fun f2 => (_, .inl (_, _, .inr (.inr (.inr (.inr f2))))) :: _ :: _ :: _) (fun _ => rfl) d_M_init_444 (fun fTWO40 hTWO40 => ?_)
  refine sv_putF C hI fp_M_147 2 rfl rfl rfl (Nat.le_of_ble_eq_true rfl) (_ :: _ :: (_, .inr (_, [_, _, _, _, _, _, _, _, _, _, _, _, _, _, _, _])) :: _) rfl d_M_init_445 ?_
  refine sv_aload_n C rfl rfl d_M_init_448 ?_
  refine sv_bipush C (v := 14) (by decide) d_M_init_449 ?_
  refine sv_newS C wk_M_7 (by decide) (N := 14) (by decide) (by decide) (by decide) (by decide) d_M_init_451 (fun aTHREE => ?_)
  have hTHREE0 : ∀ k, k < 0 → (fun _ : Nat => (none : Option Nat)) k = some (g.2.2.1 (tm_3 k)) := fun k hk => absurd hk (Nat.not_lt_zero k)
  refine sv_dup C rfl d_M_init_454 ?_
  refine sv_iconst C (v := 0) (by decide) d_M_init_455 ?_
  refine sv_ldcS C ws_140 d_M_init_456 ?_
  refine sv_fillS C tm_3 0 14 0 rfl (by decide) (by decide) (by decide) hTHREE0 (fun f2 => (_, .inl (_, _, .inr (.inr (.inr (.inr f2))))) :: _ :: _ :: _ :: _) (fun _ => rfl) d_M_init_458 (fun fTHREE1 hTHREE1 => ?_)
  refine sv_dup C rfl d_M_init_459 ?_
  refine sv_iconst C (v := 1) (by decide) d_M_init_460 ?_
  refine sv_ldcS C ws_141 d_M_init_461 ?_
  refine sv_fillS C tm_3 1 14 0 rfl (by decide) (by decide) (by decide) hTHREE1 (fun f2 => (_, .inl (_, _, .inr (.inr (.inr (.inr f2))))) :: _ :: _ :: _ :: _) (fun _ => rfl) d_M_init_463 (fun fTHREE2 hTHREE2 => ?_)
  refine sv_dup C rfl d_M_init_464 ?_
  refine sv_iconst C (v := 2) (by decide) d_M_init_465 ?_
  refine sv_ldcS C ws_142 d_M_init_466 ?_
  refine sv_fillS C tm_3 2 14 0 rfl (by decide) (by decide) (by decide) hTHREE2 (fun f2 => (_, .inl (_, _, .inr (.inr (.inr (.inr f2))))) :: _ :: _ :: _ :: _) (fun _ => rfl) d_M_init_468 (fun fTHREE3 hTHREE3 => ?_)
  refine sv_dup C rfl d_M_init_469 ?_
  refine sv_iconst C (v := 3) (by decide) d_M_init_470 ?_
  refine sv_ldcS C ws_143 d_M_init_471 ?_
  refine sv_fillS C tm_3 3 14 0 rfl (by decide) (by decide) (by decide) hTHREE3 (fun f2 => (_, .inl (_, _, .inr (.inr (.inr (.inr f2))))) :: _ :: _ :: _ :: _) (fun _ => rfl) d_M_init_473 (fun fTHREE4 hTHREE4 => ?_)
  refine sv_dup C rfl d_M_init_474 ?_
  refine sv_iconst C (v := 4) (by decide) d_M_init_475 ?_
  refine sv_ldcS C ws_144 d_M_init_476 ?_
  refine sv_fillS C tm_3 4 14 0 rfl (by decide) (by decide) (by decide) hTHREE4 (fun f2 => (_, .inl (_, _, .inr (.inr (.inr (.inr f2))))) :: _ :: _ :: _ :: _) (fun _ => rfl) d_M_init_478 (fun fTHREE5 hTHREE5 => ?_)
  refine sv_dup C rfl d_M_init_479 ?_
  refine sv_iconst C (v := 5) (by decide) d_M_init_480 ?_
  refine sv_ldcS C ws_120 d_M_init_481 ?_
  refine sv_fillS C tm_3 5 14 0 rfl (by decide) (by decide) (by decide) hTHREE5 (fun f2 => (_, .inl (_, _, .inr (.inr (.inr (.inr f2))))) :: _ :: _ :: _ :: _) (fun _ => rfl) d_M_init_483 (fun fTHREE6 hTHREE6 => ?_)
  refine sv_dup C rfl d_M_init_484 ?_
  refine sv_bipush C (v := 6) (by decide) d_M_init_485 ?_
  refine sv_ldcS C ws_145 d_M_init_487 ?_
  refine sv_fillS C tm_3 6 14 0 rfl (by decide) (by decide) (by decide) hTHREE6 (fun f2 => (_, .inl (_, _, .inr (.inr (.inr (.inr f2))))) :: _ :: _ :: _ :: _) (fun _ => rfl) d_M_init_489 (fun fTHREE7 hTHREE7 => ?_)
  refine sv_dup C rfl d_M_init_490 ?_
  refine sv_bipush C (v := 7) (by decide) d_M_init_491 ?_
  refine sv_ldcS C ws_141 d_M_init_493 ?_
  refine sv_fillS C tm_3 7 14 0 rfl (by decide) (by decide) (by decide) hTHREE7 (fun f2 => (_, .inl (_, _, .inr (.inr (.inr (.inr f2))))) :: _ :: _ :: _ :: _) (fun _ => rfl) d_M_init_495 (fun fTHREE8 hTHREE8 => ?_)
  refine sv_dup C rfl d_M_init_496 ?_
  refine sv_bipush C (v := 8) (by decide) d_M_init_497 ?_
  refine sv_ldcS C ws_146 d_M_init_499 ?_
  refine sv_fillS C tm_3 8 14 0 rfl (by decide) (by decide) (by decide) hTHREE8 (fun f2 => (_, .inl (_, _, .inr (.inr (.inr (.inr f2))))) :: _ :: _ :: _ :: _) (fun _ => rfl) d_M_init_501 (fun fTHREE9 hTHREE9 => ?_)
  refine sv_dup C rfl d_M_init_502 ?_
  refine sv_bipush C (v := 9) (by decide) d_M_init_503 ?_
  refine sv_ldcS C ws_141 d_M_init_505 ?_
  refine sv_fillS C tm_3 9 14 0 rfl (by decide) (by decide) (by decide) hTHREE9 (fun f2 => (_, .inl (_, _, .inr (.inr (.inr (.inr f2))))) :: _ :: _ :: _ :: _) (fun _ => rfl) d_M_init_507 (fun fTHREE10 hTHREE10 => ?_)
  refine sv_dup C rfl d_M_init_508 ?_
  refine sv_bipush C (v := 10) (by decide) d_M_init_509 ?_
  refine sv_ldcS C ws_134 d_M_init_511 ?_
  refine sv_fillS C tm_3 10 14 0 rfl (by decide) (by decide) (by decide) hTHREE10 (fun f2 => (_, .inl (_, _, .inr (.inr (.inr (.inr f2))))) :: _ :: _ :: _ :: _) (fun _ => rfl) d_M_init_513 (fun fTHREE11 hTHREE11 => ?_)
  refine sv_dup C rfl d_M_init_514 ?_
  refine sv_bipush C (v := 11) (by decide) d_M_init_515 ?_
  refine sv_ldcS C ws_143 d_M_init_517 ?_
  refine sv_fillS C tm_3 11 14 0 rfl (by decide) (by decide) (by decide) hTHREE11 (fun f2 => (_, .inl (_, _, .inr (.inr (.inr (.inr f2))))) :: _ :: _ :: _ :: _) (fun _ => rfl) d_M_init_519 (fun fTHREE12 hTHREE12 => ?_)
  refine sv_dup C rfl d_M_init_520 ?_
  refine sv_bipush C (v := 12) (by decide) d_M_init_521 ?_
  refine sv_ldcS C ws_147 d_M_init_523 ?_
  refine sv_fillS C tm_3 12 14 0 rfl (by decide) (by decide) (by decide) hTHREE12 (fun f2 => (_, .inl (_, _, .inr (.inr (.inr (.inr f2))))) :: _ :: _ :: _ :: _) (fun _ => rfl) d_M_init_525 (fun fTHREE13 hTHREE13 => ?_)
  refine sv_dup C rfl d_M_init_526 ?_
  refine sv_bipush C (v := 13) (by decide) d_M_init_527 ?_
  refine sv_ldcS C ws_143 d_M_init_529 ?_
  refine sv_fillS C tm_3 13 14 0 rfl (by decide) (by decide) (by decide) hTHREE13 (fun f2 => (_, .inl (_, _, .inr (.inr (.inr (.inr f2))))) :: _ :: _ :: _ :: _) (fun _ => rfl) d_M_init_531 (fun fTHREE14 hTHREE14 => ?_)
  refine sv_putF C hI fp_M_166 3 rfl rfl rfl (Nat.le_of_ble_eq_true rfl) (_ :: _ :: _ :: (_, .inr (_, [_, _, _, _, _, _, _, _, _, _, _, _, _, _, _, _])) :: _) rfl d_M_init_532 ?_
  refine sv_aload_n C rfl rfl d_M_init_535 ?_
  refine sv_bipush C (v := 38) (by decide) d_M_init_536 ?_
  refine sv_newS C wk_M_7 (by decide) (N := 38) (by decide) (by decide) (by decide) (by decide) d_M_init_538 (fun aFOUR => ?_)
  have hFOUR0 : ∀ k, k < 0 → (fun _ : Nat => (none : Option Nat)) k = some (g.2.2.1 (tm_4 k)) := fun k hk => absurd hk (Nat.not_lt_zero k)
  refine sv_dup C rfl d_M_init_541 ?_
  refine sv_iconst C (v := 0) (by decide) d_M_init_542 ?_
  refine sv_ldcS C ws_120 d_M_init_543 ?_
  refine sv_fillS C tm_4 0 38 0 rfl (by decide) (by decide) (by decide) hFOUR0 (fun f2 => (_, .inl (_, _, .inr (.inr (.inr (.inr f2))))) :: _ :: _ :: _ :: _ :: _) (fun _ => rfl) d_M_init_545 (fun fFOUR1 hFOUR1 => ?_)
  refine sv_dup C rfl d_M_init_546 ?_
  refine sv_iconst C (v := 1) (by decide) d_M_init_547 ?_
  refine sv_ldcS C ws_143 d_M_init_548 ?_
  refine sv_fillS C tm_4 1 38 0 rfl (by decide) (by decide) (by decide) hFOUR1 (fun f2 => (_, .inl (_, _, .inr (.inr (.inr (.inr f2))))) :: _ :: _ :: _ :: _ :: _) (fun _ => rfl) d_M_init_550 (fun fFOUR2 hFOUR2 => ?_)
  refine sv_dup C rfl d_M_init_551 ?_
  refine sv_iconst C (v := 2) (by decide) d_M_init_552 ?_
  refine sv_ldcS C ws_114 d_M_init_553 ?_
  refine sv_fillS C tm_4 2 38 0 rfl (by decide) (by decide) (by decide) hFOUR2 (fun f2 => (_, .inl (_, _, .inr (.inr (.inr (.inr f2))))) :: _ :: _ :: _ :: _ :: _) (fun _ => rfl) d_M_init_555 (fun fFOUR3 hFOUR3 => ?_)
  refine sv_dup C rfl d_M_init_556 ?_
  refine sv_iconst C (v := 3) (by decide) d_M_init_557 ?_
  refine sv_ldcS C ws_143 d_M_init_558 ?_
  refine sv_fillS C tm_4 3 38 0 rfl (by decide) (by decide) (by decide) hFOUR3 (fun f2 => (_, .inl (_, _, .inr (.inr (.inr (.inr f2))))) :: _ :: _ :: _ :: _ :: _) (fun _ => rfl) d_M_init_560 (fun fFOUR4 hFOUR4 => ?_)
  refine sv_dup C rfl d_M_init_561 ?_
  refine sv_iconst C (v := 4) (by decide) d_M_init_562 ?_
  refine sv_ldcS C ws_112 d_M_init_563 ?_
  refine sv_fillS C tm_4 4 38 0 rfl (by decide) (by decide) (by decide) hFOUR4 (fun f2 => (_, .inl (_, _, .inr (.inr (.inr (.inr f2))))) :: _ :: _ :: _ :: _ :: _) (fun _ => rfl) d_M_init_565 (fun fFOUR5 hFOUR5 => ?_)
  refine sv_dup C rfl d_M_init_566 ?_
  refine sv_iconst C (v := 5) (by decide) d_M_init_567 ?_
  refine sv_ldcS C ws_143 d_M_init_568 ?_
  refine sv_fillS C tm_4 5 38 0 rfl (by decide) (by decide) (by decide) hFOUR5 (fun f2 => (_, .inl (_, _, .inr (.inr (.inr (.inr f2))))) :: _ :: _ :: _ :: _ :: _) (fun _ => rfl) d_M_init_570 (fun fFOUR6 hFOUR6 => ?_)
  refine sv_dup C rfl d_M_init_571 ?_
  refine sv_bipush C (v := 6) (by decide) d_M_init_572 ?_
  refine sv_ldcS C ws_148 d_M_init_574 ?_
  refine sv_fillS C tm_4 6 38 0 rfl (by decide) (by decide) (by decide) hFOUR6 (fun f2 => (_, .inl (_, _, .inr (.inr (.inr (.inr f2))))) :: _ :: _ :: _ :: _ :: _) (fun _ => rfl) d_M_init_576 (fun fFOUR7 hFOUR7 => ?_)
  refine sv_dup C rfl d_M_init_577 ?_
  refine sv_bipush C (v := 7) (by decide) d_M_init_578 ?_
  refine sv_ldcS C ws_143 d_M_init_580 ?_
  refine sv_fillS C tm_4 7 38 0 rfl (by decide) (by decide) (by decide) hFOUR7 (fun f2 => (_, .inl (_, _, .inr (.inr (.inr (.inr f2))))) :: _ :: _ :: _ :: _ :: _) (fun _ => rfl) d_M_init_582 (fun fFOUR8 hFOUR8 => ?_)
  refine sv_dup C rfl d_M_init_583 ?_
  refine sv_bipush C (v := 8) (by decide) d_M_init_584 ?_
  refine sv_ldcS C ws_141 d_M_init_586 ?_
  refine sv_fillS C tm_4 8 38 0 rfl (by decide) (by decide) (by decide) hFOUR8 (fun f2 => (_, .inl (_, _, .inr (.inr (.inr (.inr f2))))) :: _ :: _ :: _ :: _ :: _) (fun _ => rfl) d_M_init_588 (fun fFOUR9 hFOUR9 => ?_)
  refine sv_dup C rfl d_M_init_589 ?_
  refine sv_bipush C (v := 9) (by decide) d_M_init_590 ?_
  refine sv_ldcS C ws_143 d_M_init_592 ?_
  refine sv_fillS C tm_4 9 38 0 rfl (by decide) (by decide) (by decide) hFOUR9 (fun f2 => (_, .inl (_, _, .inr (.inr (.inr (.inr f2))))) :: _ :: _ :: _ :: _ :: _) (fun _ => rfl) d_M_init_594 (fun fFOUR10 hFOUR10 => ?_)
  refine sv_dup C rfl d_M_init_595 ?_
  refine sv_bipush C (v := 10) (by decide) d_M_init_596 ?_
  refine sv_ldcS C ws_118 d_M_init_598 ?_
  refine sv_fillS C tm_4 10 38 0 rfl (by decide) (by decide) (by decide) hFOUR10 (fun f2 => (_, .inl (_, _, .inr (.inr (.inr (.inr f2))))) :: _ :: _ :: _ :: _ :: _) (fun _ => rfl) d_M_init_600 (fun fFOUR11 hFOUR11 => ?_)
  refine sv_dup C rfl d_M_init_601 ?_
  refine sv_bipush C (v := 11) (by decide) d_M_init_602 ?_
  refine sv_ldcS C ws_143 d_M_init_604 ?_
  refine sv_fillS C tm_4 11 38 0 rfl (by decide) (by decide) (by decide) hFOUR11 (fun f2 => (_, .inl (_, _, .inr (.inr (.inr (.inr f2))))) :: _ :: _ :: _ :: _ :: _) (fun _ => rfl) d_M_init_606 (fun fFOUR12 hFOUR12 => ?_)
  refine sv_dup C rfl d_M_init_607 ?_
  refine sv_bipush C (v := 12) (by decide) d_M_init_608 ?_
  refine sv_ldcS C ws_149 d_M_init_610 ?_
  refine sv_fillS C tm_4 12 38 0 rfl (by decide) (by decide) (by decide) hFOUR12 (fun f2 => (_, .inl (_, _, .inr (.inr (.inr (.inr f2))))) :: _ :: _ :: _ :: _ :: _) (fun _ => rfl) d_M_init_612 (fun fFOUR13 hFOUR13 => ?_)
  refine sv_dup C rfl d_M_init_613 ?_
  refine sv_bipush C (v := 13) (by decide) d_M_init_614 ?_
  refine sv_ldcS C ws_143 d_M_init_616 ?_
  refine sv_fillS C tm_4 13 38 0 rfl (by decide) (by decide) (by decide) hFOUR13 (fun f2 => (_, .inl (_, _, .inr (.inr (.inr (.inr f2))))) :: _ :: _ :: _ :: _ :: _) (fun _ => rfl) d_M_init_618 (fun fFOUR14 hFOUR14 => ?_)
  refine sv_dup C rfl d_M_init_619 ?_
  refine sv_bipush C (v := 14) (by decide) d_M_init_620 ?_
  refine sv_ldcS C ws_150 d_M_init_622 ?_
  refine sv_fillS C tm_4 14 38 0 rfl (by decide) (by decide) (by decide) hFOUR14 (fun f2 => (_, .inl (_, _, .inr (.inr (.inr (.inr f2))))) :: _ :: _ :: _ :: _ :: _) (fun _ => rfl) d_M_init_624 (fun fFOUR15 hFOUR15 => ?_)
  refine sv_dup C rfl d_M_init_625 ?_
  refine sv_bipush C (v := 15) (by decide) d_M_init_626 ?_
  refine sv_ldcS C ws_143 d_M_init_628 ?_
  refine sv_fillS C tm_4 15 38 0 rfl (by decide) (by decide) (by decide) hFOUR15 (fun f2 => (_, .inl (_, _, .inr (.inr (.inr (.inr f2))))) :: _ :: _ :: _ :: _ :: _) (fun _ => rfl) d_M_init_630 (fun fFOUR16 hFOUR16 => ?_)
  refine sv_dup C rfl d_M_init_631 ?_
  refine sv_bipush C (v := 16) (by decide) d_M_init_632 ?_
  refine sv_ldcS C ws_151 d_M_init_634 ?_
  refine sv_fillS C tm_4 16 38 0 rfl (by decide) (by decide) (by decide) hFOUR16 (fun f2 => (_, .inl (_, _, .inr (.inr (.inr (.inr f2))))) :: _ :: _ :: _ :: _ :: _) (fun _ => rfl) d_M_init_636 (fun fFOUR17 hFOUR17 => ?_)
  refine sv_dup C rfl d_M_init_637 ?_
  refine sv_bipush C (v := 17) (by decide) d_M_init_638 ?_
  refine sv_ldcS C ws_143 d_M_init_640 ?_
  refine sv_fillS C tm_4 17 38 0 rfl (by decide) (by decide) (by decide) hFOUR17 (fun f2 => (_, .inl (_, _, .inr (.inr (.inr (.inr f2))))) :: _ :: _ :: _ :: _ :: _) (fun _ => rfl) d_M_init_642 (fun fFOUR18 hFOUR18 => ?_)
  refine sv_dup C rfl d_M_init_643 ?_
  refine sv_bipush C (v := 18) (by decide) d_M_init_644 ?_
  refine sv_ldcS C ws_152 d_M_init_646 ?_
  refine sv_fillS C tm_4 18 38 0 rfl (by decide) (by decide) (by decide) hFOUR18 (fun f2 => (_, .inl (_, _, .inr (.inr (.inr (.inr f2))))) :: _ :: _ :: _ :: _ :: _) (fun _ => rfl) d_M_init_648 (fun fFOUR19 hFOUR19 => ?_)
  refine sv_dup C rfl d_M_init_649 ?_
  refine sv_bipush C (v := 19) (by decide) d_M_init_650 ?_
  refine sv_ldcS C ws_143 d_M_init_652 ?_
  refine sv_fillS C tm_4 19 38 0 rfl (by decide) (by decide) (by decide) hFOUR19 (fun f2 => (_, .inl (_, _, .inr (.inr (.inr (.inr f2))))) :: _ :: _ :: _ :: _ :: _) (fun _ => rfl) d_M_init_654 (fun fFOUR20 hFOUR20 => ?_)
  refine sv_dup C rfl d_M_init_655 ?_
  refine sv_bipush C (v := 20) (by decide) d_M_init_656 ?_
  refine sv_ldcS C ws_122 d_M_init_658 ?_
  refine sv_fillS C tm_4 20 38 0 rfl (by decide) (by decide) (by decide) hFOUR20 (fun f2 => (_, .inl (_, _, .inr (.inr (.inr (.inr f2))))) :: _ :: _ :: _ :: _ :: _) (fun _ => rfl) d_M_init_660 (fun fFOUR21 hFOUR21 => ?_)
  refine sv_dup C rfl d_M_init_661 ?_
  refine sv_bipush C (v := 21) (by decide) d_M_init_662 ?_
  refine sv_ldcS C ws_143 d_M_init_664 ?_
  refine sv_fillS C tm_4 21 38 0 rfl (by decide) (by decide) (by decide) hFOUR21 (fun f2 => (_, .inl (_, _, .inr (.inr (.inr (.inr f2))))) :: _ :: _ :: _ :: _ :: _) (fun _ => rfl) d_M_init_666 (fun fFOUR22 hFOUR22 => ?_)
  refine sv_dup C rfl d_M_init_667 ?_
  refine sv_bipush C (v := 22) (by decide) d_M_init_668 ?_
  refine sv_ldcS C ws_153 d_M_init_670 ?_
  refine sv_fillS C tm_4 22 38 0 rfl (by decide) (by decide) (by decide) hFOUR22 (fun f2 => (_, .inl (_, _, .inr (.inr (.inr (.inr f2))))) :: _ :: _ :: _ :: _ :: _) (fun _ => rfl) d_M_init_672 (fun fFOUR23 hFOUR23 => ?_)
  refine sv_dup C rfl d_M_init_673 ?_
  refine sv_bipush C (v := 23) (by decide) d_M_init_674 ?_
  refine sv_ldcS C ws_143 d_M_init_676 ?_
  refine sv_fillS C tm_4 23 38 0 rfl (by decide) (by decide) (by decide) hFOUR23 (fun f2 => (_, .inl (_, _, .inr (.inr (.inr (.inr f2))))) :: _ :: _ :: _ :: _ :: _) (fun _ => rfl) d_M_init_678 (fun fFOUR24 hFOUR24 => ?_)
  refine sv_dup C rfl d_M_init_679 ?_
  refine sv_bipush C (v := 24) (by decide) d_M_init_680 ?_
  refine sv_ldcS C ws_154 d_M_init_682 ?_
  refine sv_fillS C tm_4 24 38 0 rfl (by decide) (by decide) (by decide) hFOUR24 (fun f2 => (_, .inl (_, _, .inr (.inr (.inr (.inr f2))))) :: _ :: _ :: _ :: _ :: _) (fun _ => rfl) d_M_init_684 (fun fFOUR25 hFOUR25 => ?_)
  refine sv_dup C rfl d_M_init_685 ?_
  refine sv_bipush C (v := 25) (by decide) d_M_init_686 ?_
  refine sv_ldcS C ws_143 d_M_init_688 ?_
  refine sv_fillS C tm_4 25 38 0 rfl (by decide) (by decide) (by decide) hFOUR25 (fun f2 => (_, .inl (_, _, .inr (.inr (.inr (.inr f2))))) :: _ :: _ :: _ :: _ :: _) (fun _ => rfl) d_M_init_690 (fun fFOUR26 hFOUR26 => ?_)
  refine sv_dup C rfl d_M_init_691 ?_
  refine sv_bipush C (v := 26) (by decide) d_M_init_692 ?_
  refine sv_ldcS C ws_108 d_M_init_694 ?_
  refine sv_fillS C tm_4 26 38 0 rfl (by decide) (by decide) (by decide) hFOUR26 (fun f2 => (_, .inl (_, _, .inr (.inr (.inr (.inr f2))))) :: _ :: _ :: _ :: _ :: _) (fun _ => rfl) d_M_init_696 (fun fFOUR27 hFOUR27 => ?_)
  refine sv_dup C rfl d_M_init_697 ?_
  refine sv_bipush C (v := 27) (by decide) d_M_init_698 ?_
  refine sv_ldcS C ws_143 d_M_init_700 ?_
  refine sv_fillS C tm_4 27 38 0 rfl (by decide) (by decide) (by decide) hFOUR27 (fun f2 => (_, .inl (_, _, .inr (.inr (.inr (.inr f2))))) :: _ :: _ :: _ :: _ :: _) (fun _ => rfl) d_M_init_702 (fun fFOUR28 hFOUR28 => ?_)
  refine sv_dup C rfl d_M_init_703 ?_
  refine sv_bipush C (v := 28) (by decide) d_M_init_704 ?_
  refine sv_ldcS C ws_155 d_M_init_706 ?_
  refine sv_fillS C tm_4 28 38 0 rfl (by decide) (by decide) (by decide) hFOUR28 (fun f2 => (_, .inl (_, _, .inr (.inr (.inr (.inr f2))))) :: _ :: _ :: _ :: _ :: _) (fun _ => rfl) d_M_init_708 (fun fFOUR29 hFOUR29 => ?_)
  refine sv_dup C rfl d_M_init_709 ?_
  refine sv_bipush C (v := 29) (by decide) d_M_init_710 ?_
  refine sv_ldcS C ws_143 d_M_init_712 ?_
  refine sv_fillS C tm_4 29 38 0 rfl (by decide) (by decide) (by decide) hFOUR29 (fun f2 => (_, .inl (_, _, .inr (.inr (.inr (.inr f2))))) :: _ :: _ :: _ :: _ :: _) (fun _ => rfl) d_M_init_714 (fun fFOUR30 hFOUR30 => ?_)
  refine sv_dup C rfl d_M_init_715 ?_
  refine sv_bipush C (v := 30) (by decide) d_M_init_716 ?_
  refine sv_ldcS C ws_126 d_M_init_718 ?_
  refine sv_fillS C tm_4 30 38 0 rfl (by decide) (by decide) (by decide) hFOUR30 (fun f2 => (_, .inl (_, _, .inr (.inr (.inr (.inr f2))))) :: _ :: _ :: _ :: _ :: _) (fun _ => rfl) d_M_init_720 (fun fFOUR31 hFOUR31 => ?_)
  refine sv_dup C rfl d_M_init_721 ?_
  refine sv_bipush C (v := 31) (by decide) d_M_init_722 ?_
  refine sv_ldcS C ws_143 d_M_init_724 ?_
  refine sv_fillS C tm_4 31 38 0 rfl (by decide) (by decide) (by decide) hFOUR31 (fun f2 => (_, .inl (_, _, .inr (.inr (.inr (.inr f2))))) :: _ :: _ :: _ :: _ :: _) (fun _ => rfl) d_M_init_726 (fun fFOUR32 hFOUR32 => ?_)
  refine sv_dup C rfl d_M_init_727 ?_
  refine sv_bipush C (v := 32) (by decide) d_M_init_728 ?_
  refine sv_ldcS C ws_132 d_M_init_730 ?_
  refine sv_fillS C tm_4 32 38 0 rfl (by decide) (by decide) (by decide) hFOUR32 (fun f2 => (_, .inl (_, _, .inr (.inr (.inr (.inr f2))))) :: _ :: _ :: _ :: _ :: _) (fun _ => rfl) d_M_init_732 (fun fFOUR33 hFOUR33 => ?_)
  refine sv_dup C rfl d_M_init_733 ?_
  refine sv_bipush C (v := 33) (by decide) d_M_init_734 ?_
  refine sv_ldcS C ws_143 d_M_init_736 ?_
  refine sv_fillS C tm_4 33 38 0 rfl (by decide) (by decide) (by decide) hFOUR33 (fun f2 => (_, .inl (_, _, .inr (.inr (.inr (.inr f2))))) :: _ :: _ :: _ :: _ :: _) (fun _ => rfl) d_M_init_738 (fun fFOUR34 hFOUR34 => ?_)
  refine sv_dup C rfl d_M_init_739 ?_
  refine sv_bipush C (v := 34) (by decide) d_M_init_740 ?_
  refine sv_ldcS C ws_116 d_M_init_742 ?_
  refine sv_fillS C tm_4 34 38 0 rfl (by decide) (by decide) (by decide) hFOUR34 (fun f2 => (_, .inl (_, _, .inr (.inr (.inr (.inr f2))))) :: _ :: _ :: _ :: _ :: _) (fun _ => rfl) d_M_init_744 (fun fFOUR35 hFOUR35 => ?_)
  refine sv_dup C rfl d_M_init_745 ?_
  refine sv_bipush C (v := 35) (by decide) d_M_init_746 ?_
  refine sv_ldcS C ws_143 d_M_init_748 ?_
  refine sv_fillS C tm_4 35 38 0 rfl (by decide) (by decide) (by decide) hFOUR35 (fun f2 => (_, .inl (_, _, .inr (.inr (.inr (.inr f2))))) :: _ :: _ :: _ :: _ :: _) (fun _ => rfl) d_M_init_750 (fun fFOUR36 hFOUR36 => ?_)
  refine sv_dup C rfl d_M_init_751 ?_
  refine sv_bipush C (v := 36) (by decide) d_M_init_752 ?_
  refine sv_ldcS C ws_156 d_M_init_754 ?_
  refine sv_fillS C tm_4 36 38 0 rfl (by decide) (by decide) (by decide) hFOUR36 (fun f2 => (_, .inl (_, _, .inr (.inr (.inr (.inr f2))))) :: _ :: _ :: _ :: _ :: _) (fun _ => rfl) d_M_init_756 (fun fFOUR37 hFOUR37 => ?_)
  refine sv_dup C rfl d_M_init_757 ?_
  refine sv_bipush C (v := 37) (by decide) d_M_init_758 ?_
  refine sv_ldcS C ws_143 d_M_init_760 ?_
  refine sv_fillS C tm_4 37 38 0 rfl (by decide) (by decide) (by decide) hFOUR37 (fun f2 => (_, .inl (_, _, .inr (.inr (.inr (.inr f2))))) :: _ :: _ :: _ :: _ :: _) (fun _ => rfl) d_M_init_762 (fun fFOUR38 hFOUR38 => ?_)
  refine sv_putF C hI fp_M_187 4 rfl rfl rfl (Nat.le_of_ble_eq_true rfl) (_ :: _ :: _ :: _ :: (_, .inr (_, [_, _, _, _, _, _, _, _, _, _, _, _, _, _, _, _])) :: _) rfl d_M_init_763 ?_
  refine sv_aload_n C rfl rfl d_M_init_766 ?_
  refine sv_sipush C (v := 8192) (by decide) d_M_init_767 ?_
  refine sv_newB C wr_byte (by decide) (N := 8192) (by decide) (by decide) (by decide) (by decide) d_M_init_770 (fun aIN => ?_)
  refine sv_putF C hI fp_M_190 5 rfl rfl rfl (Nat.le_of_ble_eq_true rfl) (_ :: _ :: _ :: _ :: _ :: (_, .inr (_, [_, _, _, _, _, _, _, _, _, _, _, _, _, _, _, _])) :: _) rfl d_M_init_772 ?_
  refine sv_aload_n C rfl rfl d_M_init_775 ?_
  refine sv_sipush C (v := 8192) (by decide) d_M_init_776 ?_
  refine sv_newI C wr_int (by decide) (N := 8192) (by decide) (by decide) (by decide) (by decide) d_M_init_779 (fun aCH => ?_)
  refine sv_putF C hI fp_M_194 6 rfl rfl rfl (Nat.le_of_ble_eq_true rfl) (_ :: _ :: _ :: _ :: _ :: _ :: (_, .inr (_, [_, _, _, _, _, _, _, _, _, _, _, _, _, _, _, _])) :: _) rfl d_M_init_781 ?_
  refine sv_aload_n C rfl rfl d_M_init_784 ?_
  refine sv_sipush C (v := 8704) (by decide) d_M_init_785 ?_
  refine sv_newI C wr_int (by decide) (N := 8704) (by decide) (by decide) (by decide) (by decide) d_M_init_788 (fun aCC => ?_)
  refine sv_putF C hI fp_M_198 7 rfl rfl rfl (Nat.le_of_ble_eq_true rfl) (_ :: _ :: _ :: _ :: _ :: _ :: _ :: (_, .inr (_, [_, _, _, _, _, _, _, _, _, _, _, _, _, _, _, _])) :: _) rfl d_M_init_790 ?_
  refine sv_aload_n C rfl rfl d_M_init_793 ?_
  refine sv_sipush C (v := 8193) (by decide) d_M_init_794 ?_
  refine sv_newI C wr_int (by decide) (N := 8193) (by decide) (by decide) (by decide) (by decide) d_M_init_797 (fun aCA => ?_)
  refine sv_putF C hI fp_M_201 8 rfl rfl rfl (Nat.le_of_ble_eq_true rfl) (_ :: _ :: _ :: _ :: _ :: _ :: _ :: _ :: (_, .inr (_, [_, _, _, _, _, _, _, _, _, _, _, _, _, _, _, _])) :: _) rfl d_M_init_799 ?_
  refine sv_aload_n C rfl rfl d_M_init_802 ?_
  refine sv_sipush C (v := 8192) (by decide) d_M_init_803 ?_
  refine sv_newI C wr_int (by decide) (N := 8192) (by decide) (by decide) (by decide) (by decide) d_M_init_806 (fun aCP => ?_)
  refine sv_putF C hI fp_M_204 9 rfl rfl rfl (Nat.le_of_ble_eq_true rfl) (_ :: _ :: _ :: _ :: _ :: _ :: _ :: _ :: _ :: (_, .inr (_, [_, _, _, _, _, _, _, _, _, _, _, _, _, _, _, _])) :: _) rfl d_M_init_808 ?_
  refine sv_aload_n C rfl rfl d_M_init_811 ?_
  refine sv_sipush C (v := 260) (by decide) d_M_init_812 ?_
  refine sv_newI C wr_int (by decide) (N := 260) (by decide) (by decide) (by decide) (by decide) d_M_init_815 (fun aWD => ?_)
  refine sv_putF C hI fp_M_207 10 rfl rfl rfl (Nat.le_of_ble_eq_true rfl) (_ :: _ :: _ :: _ :: _ :: _ :: _ :: _ :: _ :: _ :: (_, .inr (_, [_, _, _, _, _, _, _, _, _, _, _, _, _, _, _, _])) :: _) rfl d_M_init_817 ?_
  refine sv_front 7 (_ :: _ :: _ :: _ :: _ :: _ :: _ :: _ :: _ :: _ :: _ :: _) rfl rfl ?_
  refine sv_front 8 (_ :: _ :: _ :: _ :: _ :: _ :: _ :: _ :: _ :: _ :: _ :: _) rfl rfl ?_
  refine sv_front 9 (_ :: _ :: _ :: _ :: _ :: _ :: _ :: _ :: _ :: _ :: _ :: _) rfl rfl ?_
  refine sv_front 3 (_ :: _ :: _ :: _ :: _ :: _ :: _ :: _ :: _ :: _ :: _ :: _) rfl rfl ?_
  refine sv_front 4 (_ :: _ :: _ :: _ :: _ :: _ :: _ :: _ :: _ :: _ :: _ :: _) rfl rfl ?_
  refine sv_front 5 (_ :: _ :: _ :: _ :: _ :: _ :: _ :: _ :: _ :: _ :: _ :: _) rfl rfl ?_
  refine sv_front 6 (_ :: _ :: _ :: _ :: _ :: _ :: _ :: _ :: _ :: _ :: _ :: _) rfl rfl ?_
  refine sv_front 7 (_ :: _ :: _ :: _ :: _ :: _ :: _ :: _ :: _ :: _ :: _ :: _) rfl rfl ?_
  refine sv_front 8 (_ :: _ :: _ :: _ :: _ :: _ :: _ :: _ :: _ :: _ :: _ :: _) rfl rfl ?_
  refine sv_front 10 (_ :: _ :: _ :: _ :: _ :: _ :: _ :: _ :: _ :: _ :: _ :: _) rfl rfl ?_
  exact hr _ _ _ d_M_init_820 ⟨(fun k => [hM, aIN, aCH, aCC, aCA, aCP, aWD, aSTOPS, aTWO, aTHREE, aFOUR].getD k 0), [_, _, _, _], rfl, rfl, ⟨fSTOPS33, List.mem_cons_self, fun k hk => ⟨hSTOPS33 k hk, tmb_0 k hk⟩⟩, ⟨fTWO40, List.mem_cons_of_mem _ List.mem_cons_self, fun k hk => ⟨hTWO40 k hk, tmb_2 k hk⟩⟩, ⟨fTHREE14, List.mem_cons_of_mem _ (List.mem_cons_of_mem _ List.mem_cons_self), fun k hk => ⟨hTHREE14 k hk, tmb_3 k hk⟩⟩, ⟨fFOUR38, List.mem_cons_of_mem _ (List.mem_cons_of_mem _ (List.mem_cons_of_mem _ List.mem_cons_self)), fun k hk => ⟨hFOUR38 k hk, tmb_4 k hk⟩⟩⟩
