/-! CONTRACTS: Stemmer, 1: vowels -/
/-- the row v holds the vowels of L -/
def pr_V (v : Nat → Int32) (L : List Int32) : Prop := ∀ i, i < L.length → v i = (if pu_vow L i = true then 1 else 0)
theorem pu_vow_iff {L : List Int32} {j : Nat} : pu_vow L j = true ↔ pu_isV (L.getD j 0) ∨ (L.getD j 0 = 121 ∧ 0 < j ∧ pu_vow L (j - 1) = false) := by
  cases j with
  | zero => simp [pu_vow]
  | succ j => simp [pu_vow]
theorem pu_meas_end {L : List Int32} {j m q : Nat} (q1 : 1 ≤ j) (q2 : j ≤ m ∨ j = 1) (c6 : m ≤ j) (q4 : q = pu_meas L j) : q = pu_meas L m := by
  rcases Nat.eq_zero_or_pos m with hm0 | hm0
  · rw [q4, show j = 1 by omega, hm0]; simp [pu_meas]
  · rw [q4, show j = m by omega]
theorem pu_nb1 : vp_nar .boolean 1 = 1 := by decide
theorem pu_nb0 : vp_nar .boolean 0 = 0 := by decide
theorem pu_vowF {L : List Int32} {j : Nat} (h : ¬ pu_vow L j = true) : pu_vow L j = false := by simpa using h
def rm_Sm_markVowels : Room := { frames := 0, cells := 0, slots := 0, locals := 0 }
set_option maxHeartbeats 4000000 in
set_option maxRecDepth 100000 in
theorem c_Sm_markVowels (l : Launch) (g : sv_G) (rest : va_W) (hS hW hwc hv x1 x2 x3 x4 x5 : Nat) (f v : Nat → Int32) (L : List Int32) (hL : L.length ≤ 255) (hf : pr_W f L) : sv_Mv l y_Sm_markVowels b_Sm_markVowels 4 none rm_Sm_markVowels g [.ref hS] ((hS, .inr (2, [.ref hW, .ref hv, .ref x1, .ref x2, .ref x3, .ref x4, .ref x5])) :: (hW, .inr (5, [.ref hwc, .int (nI L.length)])) :: (hwc, .inl (g.2.1 0, 255, .inl f)) :: (hv, .inl (g.2.1 2, 255, .inl v)) :: rest) (fun w => ∃ v2 : Nat → Int32, w = ((hS, .inr (2, [.ref hW, .ref hv, .ref x1, .ref x2, .ref x3, .ref x4, .ref x5])) :: (hW, .inr (5, [.ref hwc, .int (nI L.length)])) :: (hwc, .inl (g.2.1 0, 255, .inl f)) :: (hv, .inl (g.2.1 2, 255, .inl v2)) :: rest) ∧ pr_V v2 L) := by
  refine sv_enter_v (by decide) rfl rfl (Nat.le_of_ble_eq_true rfl) (fun X C hI hr => ?_)
  refine sv_lvE (lv' := [some _, none, none, none]) rfl ?_
  have L2 : ∀ (k : Nat) (j : Nat) (v2 : Nat → Int32) (o2 o3 : Option Value), (j ≤ L.length ∧ L.length ≤ j + k ∧ ∀ i, i < j → v2 i = (if pu_vow L i = true then 1 else 0)) → sv_V X 4 0 0 ((hS, .inr (2, [.ref hW, .ref hv, .ref x1, .ref x2, .ref x3, .ref x4, .ref x5])) :: (hW, .inr (5, [.ref hwc, .int (nI L.length)])) :: (hwc, .inl (g.2.1 0, 255, .inl f)) :: (hv, .inl (g.2.1 2, 255, .inl v2)) :: rest) 2 [some (.ref hS), some (.int (nI j)), o2, o3] [] := by
    intro k
    induction k with
    | zero =>
      intro j v2 o2 o3 hq
      obtain ⟨q1, q2, q3⟩ := hq
      refine sv_iload_n C rfl rfl d_Sm_markVowels_2 ?_
      refine sv_aload_n C rfl rfl d_Sm_markVowels_3 ?_
      refine sv_get C fg_Sm_153 0 rfl rfl d_Sm_markVowels_4 ?_
      refine sv_get C fg_Sm_161 1 rfl rfl d_Sm_markVowels_7 ?_
      refine sv_icmpN_ge C _ _ (by omega) (by omega) 101 (by decide) d_Sm_markVowels_10 (fun c10 => ?_) (fun c10 => ?_)
      · skip
        exact hr _ _ _ d_Sm_markVowels_101 ⟨v2, rfl, fun i hi => q3 i (by omega)⟩
      · skip
        exact absurd c10 (by omega)
    | succ k ih =>
      intro j v2 o2 o3 hq
      obtain ⟨q1, q2, q3⟩ := hq
      refine sv_iload_n C rfl rfl d_Sm_markVowels_2 ?_
      refine sv_aload_n C rfl rfl d_Sm_markVowels_3 ?_
      refine sv_get C fg_Sm_153 0 rfl rfl d_Sm_markVowels_4 ?_
      refine sv_get C fg_Sm_161 1 rfl rfl d_Sm_markVowels_7 ?_
      refine sv_icmpN_ge C _ _ (by omega) (by omega) 101 (by decide) d_Sm_markVowels_10 (fun c10 => ?_) (fun c10 => ?_)
      · skip
        exact hr _ _ _ d_Sm_markVowels_101 ⟨v2, rfl, fun i hi => q3 i (by omega)⟩
      · skip
        refine sv_aload_n C rfl rfl d_Sm_markVowels_13 ?_
        refine sv_get C fg_Sm_153 0 rfl rfl d_Sm_markVowels_14 ?_
        refine sv_get C fg_Sm_263 1 rfl rfl d_Sm_markVowels_17 ?_
        refine sv_iload_n C rfl rfl d_Sm_markVowels_20 ?_
        refine sv_ialdN C _ 2 rfl (by omega) (by decide) d_Sm_markVowels_21 ?_
        refine sv_eqi (hf j (by omega)) ?_
        refine sv_istore_n C rfl (by decide) [some _, some _, some _, _] rfl d_Sm_markVowels_22 ?_
        refine sv_iload_n C rfl rfl d_Sm_markVowels_23 ?_
        refine sv_ifN_le C _ (by omega) 42 (by decide) d_Sm_markVowels_24 (fun c24 => ?_) (fun c24 => ?_)
        · skip
          refine sv_iconst C (v := 0) (by decide) d_Sm_markVowels_42 ?_
          refine sv_istore_n C rfl (by decide) [some _, some _, some _, some _] rfl d_Sm_markVowels_43 ?_
          refine sv_aload_n C rfl rfl d_Sm_markVowels_44 ?_
          refine sv_get C fg_Sm_157 0 rfl rfl d_Sm_markVowels_45 ?_
          refine sv_iload_n C rfl rfl d_Sm_markVowels_48 ?_
          refine sv_iload_n C rfl rfl d_Sm_markVowels_49 ?_
          refine sv_bipush C (v := 97) (by decide) d_Sm_markVowels_50 ?_
          refine sv_icmp_eq C 89 (by decide) d_Sm_markVowels_52 (fun c52 => ?_) (fun c52 => ?_)
          · skip
            refine sv_iconst C (v := 1) (by decide) d_Sm_markVowels_89 ?_
            refine sv_goto C 94 (by decide) d_Sm_markVowels_90 ?_
            refine sv_zastN C _ 3 rfl (by omega) (by decide) (_ :: _ :: _ :: _ :: _) rfl d_Sm_markVowels_94 ?_
            refine sv_iincN C 1 _ rfl [some _, some _, some _, some _] rfl d_Sm_markVowels_95 ?_
            refine sv_goto C 2 (by decide) d_Sm_markVowels_98 ?_
            exact ih (j + 1) _ _ _ ⟨by omega, by omega, fun i hi => by
              rcases Nat.lt_or_ge i j with h | h
              · rw [pk_un (by omega), q3 i h]
              · have hij : i = j := by omega
                subst hij
                rw [pk_us]
                first
                  | rw [pu_nb1, if_pos (pu_vow_iff.mpr (by first | exact Or.inl (Or.inl c52) | exact Or.inl (Or.inr (Or.inl c58)) | exact Or.inl (Or.inr (Or.inr (Or.inl c64))) | exact Or.inl (Or.inr (Or.inr (Or.inr (Or.inl c70)))) | exact Or.inl (Or.inr (Or.inr (Or.inr (Or.inr c76)))) | exact Or.inr ⟨c82, by omega, pu_vowF c35⟩))]
                  | rw [pu_nb0, if_neg (fun z => by
                      rcases pu_vow_iff.mp z with (h | h | h | h | h) | ⟨h1, h2, h3⟩
                      · exact c52 h
                      · exact c58 h
                      · exact c64 h
                      · exact c70 h
                      · exact c76 h
                      · first | exact c82 h1 | omega | (rw [c35] at h3; cases h3))]⟩
          · skip
            refine sv_iload_n C rfl rfl d_Sm_markVowels_55 ?_
            refine sv_bipush C (v := 101) (by decide) d_Sm_markVowels_56 ?_
            refine sv_icmp_eq C 89 (by decide) d_Sm_markVowels_58 (fun c58 => ?_) (fun c58 => ?_)
            · skip
              refine sv_iconst C (v := 1) (by decide) d_Sm_markVowels_89 ?_
              refine sv_goto C 94 (by decide) d_Sm_markVowels_90 ?_
              refine sv_zastN C _ 3 rfl (by omega) (by decide) (_ :: _ :: _ :: _ :: _) rfl d_Sm_markVowels_94 ?_
              refine sv_iincN C 1 _ rfl [some _, some _, some _, some _] rfl d_Sm_markVowels_95 ?_
              refine sv_goto C 2 (by decide) d_Sm_markVowels_98 ?_
              exact ih (j + 1) _ _ _ ⟨by omega, by omega, fun i hi => by
                rcases Nat.lt_or_ge i j with h | h
                · rw [pk_un (by omega), q3 i h]
                · have hij : i = j := by omega
                  subst hij
                  rw [pk_us]
                  first
                    | rw [pu_nb1, if_pos (pu_vow_iff.mpr (by first | exact Or.inl (Or.inl c52) | exact Or.inl (Or.inr (Or.inl c58)) | exact Or.inl (Or.inr (Or.inr (Or.inl c64))) | exact Or.inl (Or.inr (Or.inr (Or.inr (Or.inl c70)))) | exact Or.inl (Or.inr (Or.inr (Or.inr (Or.inr c76)))) | exact Or.inr ⟨c82, by omega, pu_vowF c35⟩))]
                    | rw [pu_nb0, if_neg (fun z => by
                        rcases pu_vow_iff.mp z with (h | h | h | h | h) | ⟨h1, h2, h3⟩
                        · exact c52 h
                        · exact c58 h
                        · exact c64 h
                        · exact c70 h
                        · exact c76 h
                        · first | exact c82 h1 | omega | (rw [c35] at h3; cases h3))]⟩
            · skip
              refine sv_iload_n C rfl rfl d_Sm_markVowels_61 ?_
              refine sv_bipush C (v := 105) (by decide) d_Sm_markVowels_62 ?_
              refine sv_icmp_eq C 89 (by decide) d_Sm_markVowels_64 (fun c64 => ?_) (fun c64 => ?_)
              · skip
                refine sv_iconst C (v := 1) (by decide) d_Sm_markVowels_89 ?_
                refine sv_goto C 94 (by decide) d_Sm_markVowels_90 ?_
                refine sv_zastN C _ 3 rfl (by omega) (by decide) (_ :: _ :: _ :: _ :: _) rfl d_Sm_markVowels_94 ?_
                refine sv_iincN C 1 _ rfl [some _, some _, some _, some _] rfl d_Sm_markVowels_95 ?_
                refine sv_goto C 2 (by decide) d_Sm_markVowels_98 ?_
                exact ih (j + 1) _ _ _ ⟨by omega, by omega, fun i hi => by
                  rcases Nat.lt_or_ge i j with h | h
                  · rw [pk_un (by omega), q3 i h]
                  · have hij : i = j := by omega
                    subst hij
                    rw [pk_us]
                    first
                      | rw [pu_nb1, if_pos (pu_vow_iff.mpr (by first | exact Or.inl (Or.inl c52) | exact Or.inl (Or.inr (Or.inl c58)) | exact Or.inl (Or.inr (Or.inr (Or.inl c64))) | exact Or.inl (Or.inr (Or.inr (Or.inr (Or.inl c70)))) | exact Or.inl (Or.inr (Or.inr (Or.inr (Or.inr c76)))) | exact Or.inr ⟨c82, by omega, pu_vowF c35⟩))]
                      | rw [pu_nb0, if_neg (fun z => by
                          rcases pu_vow_iff.mp z with (h | h | h | h | h) | ⟨h1, h2, h3⟩
                          · exact c52 h
                          · exact c58 h
                          · exact c64 h
                          · exact c70 h
                          · exact c76 h
                          · first | exact c82 h1 | omega | (rw [c35] at h3; cases h3))]⟩
              · skip
                refine sv_iload_n C rfl rfl d_Sm_markVowels_67 ?_
                refine sv_bipush C (v := 111) (by decide) d_Sm_markVowels_68 ?_
                refine sv_icmp_eq C 89 (by decide) d_Sm_markVowels_70 (fun c70 => ?_) (fun c70 => ?_)
                · skip
                  refine sv_iconst C (v := 1) (by decide) d_Sm_markVowels_89 ?_
                  refine sv_goto C 94 (by decide) d_Sm_markVowels_90 ?_
                  refine sv_zastN C _ 3 rfl (by omega) (by decide) (_ :: _ :: _ :: _ :: _) rfl d_Sm_markVowels_94 ?_
                  refine sv_iincN C 1 _ rfl [some _, some _, some _, some _] rfl d_Sm_markVowels_95 ?_
                  refine sv_goto C 2 (by decide) d_Sm_markVowels_98 ?_
                  exact ih (j + 1) _ _ _ ⟨by omega, by omega, fun i hi => by
                    rcases Nat.lt_or_ge i j with h | h
                    · rw [pk_un (by omega), q3 i h]
                    · have hij : i = j := by omega
                      subst hij
                      rw [pk_us]
                      first
                        | rw [pu_nb1, if_pos (pu_vow_iff.mpr (by first | exact Or.inl (Or.inl c52) | exact Or.inl (Or.inr (Or.inl c58)) | exact Or.inl (Or.inr (Or.inr (Or.inl c64))) | exact Or.inl (Or.inr (Or.inr (Or.inr (Or.inl c70)))) | exact Or.inl (Or.inr (Or.inr (Or.inr (Or.inr c76)))) | exact Or.inr ⟨c82, by omega, pu_vowF c35⟩))]
                        | rw [pu_nb0, if_neg (fun z => by
                            rcases pu_vow_iff.mp z with (h | h | h | h | h) | ⟨h1, h2, h3⟩
                            · exact c52 h
                            · exact c58 h
                            · exact c64 h
                            · exact c70 h
                            · exact c76 h
                            · first | exact c82 h1 | omega | (rw [c35] at h3; cases h3))]⟩
                · skip
                  refine sv_iload_n C rfl rfl d_Sm_markVowels_73 ?_
                  refine sv_bipush C (v := 117) (by decide) d_Sm_markVowels_74 ?_
                  refine sv_icmp_eq C 89 (by decide) d_Sm_markVowels_76 (fun c76 => ?_) (fun c76 => ?_)
                  · skip
                    refine sv_iconst C (v := 1) (by decide) d_Sm_markVowels_89 ?_
                    refine sv_goto C 94 (by decide) d_Sm_markVowels_90 ?_
                    refine sv_zastN C _ 3 rfl (by omega) (by decide) (_ :: _ :: _ :: _ :: _) rfl d_Sm_markVowels_94 ?_
                    refine sv_iincN C 1 _ rfl [some _, some _, some _, some _] rfl d_Sm_markVowels_95 ?_
                    refine sv_goto C 2 (by decide) d_Sm_markVowels_98 ?_
                    exact ih (j + 1) _ _ _ ⟨by omega, by omega, fun i hi => by
                      rcases Nat.lt_or_ge i j with h | h
                      · rw [pk_un (by omega), q3 i h]
                      · have hij : i = j := by omega
                        subst hij
                        rw [pk_us]
                        first
                          | rw [pu_nb1, if_pos (pu_vow_iff.mpr (by first | exact Or.inl (Or.inl c52) | exact Or.inl (Or.inr (Or.inl c58)) | exact Or.inl (Or.inr (Or.inr (Or.inl c64))) | exact Or.inl (Or.inr (Or.inr (Or.inr (Or.inl c70)))) | exact Or.inl (Or.inr (Or.inr (Or.inr (Or.inr c76)))) | exact Or.inr ⟨c82, by omega, pu_vowF c35⟩))]
                          | rw [pu_nb0, if_neg (fun z => by
                              rcases pu_vow_iff.mp z with (h | h | h | h | h) | ⟨h1, h2, h3⟩
                              · exact c52 h
                              · exact c58 h
                              · exact c64 h
                              · exact c70 h
                              · exact c76 h
                              · first | exact c82 h1 | omega | (rw [c35] at h3; cases h3))]⟩
                  · skip
                    refine sv_iload_n C rfl rfl d_Sm_markVowels_79 ?_
                    refine sv_bipush C (v := 121) (by decide) d_Sm_markVowels_80 ?_
                    refine sv_icmp_ne C 93 (by decide) d_Sm_markVowels_82 (fun c82 => ?_) (fun c82 => ?_)
                    · skip
                      refine sv_iconst C (v := 0) (by decide) d_Sm_markVowels_93 ?_
                      refine sv_zastN C _ 3 rfl (by omega) (by decide) (_ :: _ :: _ :: _ :: _) rfl d_Sm_markVowels_94 ?_
                      refine sv_iincN C 1 _ rfl [some _, some _, some _, some _] rfl d_Sm_markVowels_95 ?_
                      refine sv_goto C 2 (by decide) d_Sm_markVowels_98 ?_
                      exact ih (j + 1) _ _ _ ⟨by omega, by omega, fun i hi => by
                        rcases Nat.lt_or_ge i j with h | h
                        · rw [pk_un (by omega), q3 i h]
                        · have hij : i = j := by omega
                          subst hij
                          rw [pk_us]
                          first
                            | rw [pu_nb1, if_pos (pu_vow_iff.mpr (by first | exact Or.inl (Or.inl c52) | exact Or.inl (Or.inr (Or.inl c58)) | exact Or.inl (Or.inr (Or.inr (Or.inl c64))) | exact Or.inl (Or.inr (Or.inr (Or.inr (Or.inl c70)))) | exact Or.inl (Or.inr (Or.inr (Or.inr (Or.inr c76)))) | exact Or.inr ⟨c82, by omega, pu_vowF c35⟩))]
                            | rw [pu_nb0, if_neg (fun z => by
                                rcases pu_vow_iff.mp z with (h | h | h | h | h) | ⟨h1, h2, h3⟩
                                · exact c52 h
                                · exact c58 h
                                · exact c64 h
                                · exact c70 h
                                · exact c76 h
                                · first | exact c82 h1 | omega | (rw [c35] at h3; cases h3))]⟩
                    · skip
                      refine sv_iload_n C rfl rfl d_Sm_markVowels_85 ?_
                      refine sv_ifZ_eq C 93 (by decide) d_Sm_markVowels_86 (fun c86 => ?_) (fun c86 => ?_)
                      · skip
                        refine sv_iconst C (v := 0) (by decide) d_Sm_markVowels_93 ?_
                        refine sv_zastN C _ 3 rfl (by omega) (by decide) (_ :: _ :: _ :: _ :: _) rfl d_Sm_markVowels_94 ?_
                        refine sv_iincN C 1 _ rfl [some _, some _, some _, some _] rfl d_Sm_markVowels_95 ?_
                        refine sv_goto C 2 (by decide) d_Sm_markVowels_98 ?_
                        exact ih (j + 1) _ _ _ ⟨by omega, by omega, fun i hi => by
                          rcases Nat.lt_or_ge i j with h | h
                          · rw [pk_un (by omega), q3 i h]
                          · have hij : i = j := by omega
                            subst hij
                            rw [pk_us]
                            first
                              | rw [pu_nb1, if_pos (pu_vow_iff.mpr (by first | exact Or.inl (Or.inl c52) | exact Or.inl (Or.inr (Or.inl c58)) | exact Or.inl (Or.inr (Or.inr (Or.inl c64))) | exact Or.inl (Or.inr (Or.inr (Or.inr (Or.inl c70)))) | exact Or.inl (Or.inr (Or.inr (Or.inr (Or.inr c76)))) | exact Or.inr ⟨c82, by omega, pu_vowF c35⟩))]
                              | rw [pu_nb0, if_neg (fun z => by
                                  rcases pu_vow_iff.mp z with (h | h | h | h | h) | ⟨h1, h2, h3⟩
                                  · exact c52 h
                                  · exact c58 h
                                  · exact c64 h
                                  · exact c70 h
                                  · exact c76 h
                                  · first | exact c82 h1 | omega | (rw [c35] at h3; cases h3))]⟩
                      · skip
                        exact absurd c86 (by decide)
        · skip
          refine sv_aload_n C rfl rfl d_Sm_markVowels_27 ?_
          refine sv_get C fg_Sm_157 0 rfl rfl d_Sm_markVowels_28 ?_
          refine sv_iload_n C rfl rfl d_Sm_markVowels_31 ?_
          refine sv_iconst C (v := 1) (by decide) d_Sm_markVowels_32 ?_
          refine sv_isubN C _ 1 (by omega) d_Sm_markVowels_33 ?_
          refine sv_zaldN C _ 3 rfl (by omega) (by decide) d_Sm_markVowels_34 ?_
          refine sv_eqi (q3 (j - 1) (by omega)) ?_
          refine sv_ifB_ne C _ 42 (by decide) d_Sm_markVowels_35 (fun c35 => ?_) (fun c35 => ?_)
          · skip
            refine sv_iconst C (v := 0) (by decide) d_Sm_markVowels_42 ?_
            refine sv_istore_n C rfl (by decide) [some _, some _, some _, some _] rfl d_Sm_markVowels_43 ?_
            refine sv_aload_n C rfl rfl d_Sm_markVowels_44 ?_
            refine sv_get C fg_Sm_157 0 rfl rfl d_Sm_markVowels_45 ?_
            refine sv_iload_n C rfl rfl d_Sm_markVowels_48 ?_
            refine sv_iload_n C rfl rfl d_Sm_markVowels_49 ?_
            refine sv_bipush C (v := 97) (by decide) d_Sm_markVowels_50 ?_
            refine sv_icmp_eq C 89 (by decide) d_Sm_markVowels_52 (fun c52 => ?_) (fun c52 => ?_)
            · skip
              refine sv_iconst C (v := 1) (by decide) d_Sm_markVowels_89 ?_
              refine sv_goto C 94 (by decide) d_Sm_markVowels_90 ?_
              refine sv_zastN C _ 3 rfl (by omega) (by decide) (_ :: _ :: _ :: _ :: _) rfl d_Sm_markVowels_94 ?_
              refine sv_iincN C 1 _ rfl [some _, some _, some _, some _] rfl d_Sm_markVowels_95 ?_
              refine sv_goto C 2 (by decide) d_Sm_markVowels_98 ?_
              exact ih (j + 1) _ _ _ ⟨by omega, by omega, fun i hi => by
                rcases Nat.lt_or_ge i j with h | h
                · rw [pk_un (by omega), q3 i h]
                · have hij : i = j := by omega
                  subst hij
                  rw [pk_us]
                  first
                    | rw [pu_nb1, if_pos (pu_vow_iff.mpr (by first | exact Or.inl (Or.inl c52) | exact Or.inl (Or.inr (Or.inl c58)) | exact Or.inl (Or.inr (Or.inr (Or.inl c64))) | exact Or.inl (Or.inr (Or.inr (Or.inr (Or.inl c70)))) | exact Or.inl (Or.inr (Or.inr (Or.inr (Or.inr c76)))) | exact Or.inr ⟨c82, by omega, pu_vowF c35⟩))]
                    | rw [pu_nb0, if_neg (fun z => by
                        rcases pu_vow_iff.mp z with (h | h | h | h | h) | ⟨h1, h2, h3⟩
                        · exact c52 h
                        · exact c58 h
                        · exact c64 h
                        · exact c70 h
                        · exact c76 h
                        · first | exact c82 h1 | omega | (rw [c35] at h3; cases h3))]⟩
            · skip
              refine sv_iload_n C rfl rfl d_Sm_markVowels_55 ?_
              refine sv_bipush C (v := 101) (by decide) d_Sm_markVowels_56 ?_
              refine sv_icmp_eq C 89 (by decide) d_Sm_markVowels_58 (fun c58 => ?_) (fun c58 => ?_)
              · skip
                refine sv_iconst C (v := 1) (by decide) d_Sm_markVowels_89 ?_
                refine sv_goto C 94 (by decide) d_Sm_markVowels_90 ?_
                refine sv_zastN C _ 3 rfl (by omega) (by decide) (_ :: _ :: _ :: _ :: _) rfl d_Sm_markVowels_94 ?_
                refine sv_iincN C 1 _ rfl [some _, some _, some _, some _] rfl d_Sm_markVowels_95 ?_
                refine sv_goto C 2 (by decide) d_Sm_markVowels_98 ?_
                exact ih (j + 1) _ _ _ ⟨by omega, by omega, fun i hi => by
                  rcases Nat.lt_or_ge i j with h | h
                  · rw [pk_un (by omega), q3 i h]
                  · have hij : i = j := by omega
                    subst hij
                    rw [pk_us]
                    first
                      | rw [pu_nb1, if_pos (pu_vow_iff.mpr (by first | exact Or.inl (Or.inl c52) | exact Or.inl (Or.inr (Or.inl c58)) | exact Or.inl (Or.inr (Or.inr (Or.inl c64))) | exact Or.inl (Or.inr (Or.inr (Or.inr (Or.inl c70)))) | exact Or.inl (Or.inr (Or.inr (Or.inr (Or.inr c76)))) | exact Or.inr ⟨c82, by omega, pu_vowF c35⟩))]
                      | rw [pu_nb0, if_neg (fun z => by
                          rcases pu_vow_iff.mp z with (h | h | h | h | h) | ⟨h1, h2, h3⟩
                          · exact c52 h
                          · exact c58 h
                          · exact c64 h
                          · exact c70 h
                          · exact c76 h
                          · first | exact c82 h1 | omega | (rw [c35] at h3; cases h3))]⟩
              · skip
                refine sv_iload_n C rfl rfl d_Sm_markVowels_61 ?_
                refine sv_bipush C (v := 105) (by decide) d_Sm_markVowels_62 ?_
                refine sv_icmp_eq C 89 (by decide) d_Sm_markVowels_64 (fun c64 => ?_) (fun c64 => ?_)
                · skip
                  refine sv_iconst C (v := 1) (by decide) d_Sm_markVowels_89 ?_
                  refine sv_goto C 94 (by decide) d_Sm_markVowels_90 ?_
                  refine sv_zastN C _ 3 rfl (by omega) (by decide) (_ :: _ :: _ :: _ :: _) rfl d_Sm_markVowels_94 ?_
                  refine sv_iincN C 1 _ rfl [some _, some _, some _, some _] rfl d_Sm_markVowels_95 ?_
                  refine sv_goto C 2 (by decide) d_Sm_markVowels_98 ?_
                  exact ih (j + 1) _ _ _ ⟨by omega, by omega, fun i hi => by
                    rcases Nat.lt_or_ge i j with h | h
                    · rw [pk_un (by omega), q3 i h]
                    · have hij : i = j := by omega
                      subst hij
                      rw [pk_us]
                      first
                        | rw [pu_nb1, if_pos (pu_vow_iff.mpr (by first | exact Or.inl (Or.inl c52) | exact Or.inl (Or.inr (Or.inl c58)) | exact Or.inl (Or.inr (Or.inr (Or.inl c64))) | exact Or.inl (Or.inr (Or.inr (Or.inr (Or.inl c70)))) | exact Or.inl (Or.inr (Or.inr (Or.inr (Or.inr c76)))) | exact Or.inr ⟨c82, by omega, pu_vowF c35⟩))]
                        | rw [pu_nb0, if_neg (fun z => by
                            rcases pu_vow_iff.mp z with (h | h | h | h | h) | ⟨h1, h2, h3⟩
                            · exact c52 h
                            · exact c58 h
                            · exact c64 h
                            · exact c70 h
                            · exact c76 h
                            · first | exact c82 h1 | omega | (rw [c35] at h3; cases h3))]⟩
                · skip
                  refine sv_iload_n C rfl rfl d_Sm_markVowels_67 ?_
                  refine sv_bipush C (v := 111) (by decide) d_Sm_markVowels_68 ?_
                  refine sv_icmp_eq C 89 (by decide) d_Sm_markVowels_70 (fun c70 => ?_) (fun c70 => ?_)
                  · skip
                    refine sv_iconst C (v := 1) (by decide) d_Sm_markVowels_89 ?_
                    refine sv_goto C 94 (by decide) d_Sm_markVowels_90 ?_
                    refine sv_zastN C _ 3 rfl (by omega) (by decide) (_ :: _ :: _ :: _ :: _) rfl d_Sm_markVowels_94 ?_
                    refine sv_iincN C 1 _ rfl [some _, some _, some _, some _] rfl d_Sm_markVowels_95 ?_
                    refine sv_goto C 2 (by decide) d_Sm_markVowels_98 ?_
                    exact ih (j + 1) _ _ _ ⟨by omega, by omega, fun i hi => by
                      rcases Nat.lt_or_ge i j with h | h
                      · rw [pk_un (by omega), q3 i h]
                      · have hij : i = j := by omega
                        subst hij
                        rw [pk_us]
                        first
                          | rw [pu_nb1, if_pos (pu_vow_iff.mpr (by first | exact Or.inl (Or.inl c52) | exact Or.inl (Or.inr (Or.inl c58)) | exact Or.inl (Or.inr (Or.inr (Or.inl c64))) | exact Or.inl (Or.inr (Or.inr (Or.inr (Or.inl c70)))) | exact Or.inl (Or.inr (Or.inr (Or.inr (Or.inr c76)))) | exact Or.inr ⟨c82, by omega, pu_vowF c35⟩))]
                          | rw [pu_nb0, if_neg (fun z => by
                              rcases pu_vow_iff.mp z with (h | h | h | h | h) | ⟨h1, h2, h3⟩
                              · exact c52 h
                              · exact c58 h
                              · exact c64 h
                              · exact c70 h
                              · exact c76 h
                              · first | exact c82 h1 | omega | (rw [c35] at h3; cases h3))]⟩
                  · skip
                    refine sv_iload_n C rfl rfl d_Sm_markVowels_73 ?_
                    refine sv_bipush C (v := 117) (by decide) d_Sm_markVowels_74 ?_
                    refine sv_icmp_eq C 89 (by decide) d_Sm_markVowels_76 (fun c76 => ?_) (fun c76 => ?_)
                    · skip
                      refine sv_iconst C (v := 1) (by decide) d_Sm_markVowels_89 ?_
                      refine sv_goto C 94 (by decide) d_Sm_markVowels_90 ?_
                      refine sv_zastN C _ 3 rfl (by omega) (by decide) (_ :: _ :: _ :: _ :: _) rfl d_Sm_markVowels_94 ?_
                      refine sv_iincN C 1 _ rfl [some _, some _, some _, some _] rfl d_Sm_markVowels_95 ?_
                      refine sv_goto C 2 (by decide) d_Sm_markVowels_98 ?_
                      exact ih (j + 1) _ _ _ ⟨by omega, by omega, fun i hi => by
                        rcases Nat.lt_or_ge i j with h | h
                        · rw [pk_un (by omega), q3 i h]
                        · have hij : i = j := by omega
                          subst hij
                          rw [pk_us]
                          first
                            | rw [pu_nb1, if_pos (pu_vow_iff.mpr (by first | exact Or.inl (Or.inl c52) | exact Or.inl (Or.inr (Or.inl c58)) | exact Or.inl (Or.inr (Or.inr (Or.inl c64))) | exact Or.inl (Or.inr (Or.inr (Or.inr (Or.inl c70)))) | exact Or.inl (Or.inr (Or.inr (Or.inr (Or.inr c76)))) | exact Or.inr ⟨c82, by omega, pu_vowF c35⟩))]
                            | rw [pu_nb0, if_neg (fun z => by
                                rcases pu_vow_iff.mp z with (h | h | h | h | h) | ⟨h1, h2, h3⟩
                                · exact c52 h
                                · exact c58 h
                                · exact c64 h
                                · exact c70 h
                                · exact c76 h
                                · first | exact c82 h1 | omega | (rw [c35] at h3; cases h3))]⟩
                    · skip
                      refine sv_iload_n C rfl rfl d_Sm_markVowels_79 ?_
                      refine sv_bipush C (v := 121) (by decide) d_Sm_markVowels_80 ?_
                      refine sv_icmp_ne C 93 (by decide) d_Sm_markVowels_82 (fun c82 => ?_) (fun c82 => ?_)
                      · skip
                        refine sv_iconst C (v := 0) (by decide) d_Sm_markVowels_93 ?_
                        refine sv_zastN C _ 3 rfl (by omega) (by decide) (_ :: _ :: _ :: _ :: _) rfl d_Sm_markVowels_94 ?_
                        refine sv_iincN C 1 _ rfl [some _, some _, some _, some _] rfl d_Sm_markVowels_95 ?_
                        refine sv_goto C 2 (by decide) d_Sm_markVowels_98 ?_
                        exact ih (j + 1) _ _ _ ⟨by omega, by omega, fun i hi => by
                          rcases Nat.lt_or_ge i j with h | h
                          · rw [pk_un (by omega), q3 i h]
                          · have hij : i = j := by omega
                            subst hij
                            rw [pk_us]
                            first
                              | rw [pu_nb1, if_pos (pu_vow_iff.mpr (by first | exact Or.inl (Or.inl c52) | exact Or.inl (Or.inr (Or.inl c58)) | exact Or.inl (Or.inr (Or.inr (Or.inl c64))) | exact Or.inl (Or.inr (Or.inr (Or.inr (Or.inl c70)))) | exact Or.inl (Or.inr (Or.inr (Or.inr (Or.inr c76)))) | exact Or.inr ⟨c82, by omega, pu_vowF c35⟩))]
                              | rw [pu_nb0, if_neg (fun z => by
                                  rcases pu_vow_iff.mp z with (h | h | h | h | h) | ⟨h1, h2, h3⟩
                                  · exact c52 h
                                  · exact c58 h
                                  · exact c64 h
                                  · exact c70 h
                                  · exact c76 h
                                  · first | exact c82 h1 | omega | (rw [c35] at h3; cases h3))]⟩
                      · skip
                        refine sv_iload_n C rfl rfl d_Sm_markVowels_85 ?_
                        refine sv_ifZ_eq C 93 (by decide) d_Sm_markVowels_86 (fun c86 => ?_) (fun c86 => ?_)
                        · skip
                          refine sv_iconst C (v := 0) (by decide) d_Sm_markVowels_93 ?_
                          refine sv_zastN C _ 3 rfl (by omega) (by decide) (_ :: _ :: _ :: _ :: _) rfl d_Sm_markVowels_94 ?_
                          refine sv_iincN C 1 _ rfl [some _, some _, some _, some _] rfl d_Sm_markVowels_95 ?_
                          refine sv_goto C 2 (by decide) d_Sm_markVowels_98 ?_
                          exact ih (j + 1) _ _ _ ⟨by omega, by omega, fun i hi => by
                            rcases Nat.lt_or_ge i j with h | h
                            · rw [pk_un (by omega), q3 i h]
                            · have hij : i = j := by omega
                              subst hij
                              rw [pk_us]
                              first
                                | rw [pu_nb1, if_pos (pu_vow_iff.mpr (by first | exact Or.inl (Or.inl c52) | exact Or.inl (Or.inr (Or.inl c58)) | exact Or.inl (Or.inr (Or.inr (Or.inl c64))) | exact Or.inl (Or.inr (Or.inr (Or.inr (Or.inl c70)))) | exact Or.inl (Or.inr (Or.inr (Or.inr (Or.inr c76)))) | exact Or.inr ⟨c82, by omega, pu_vowF c35⟩))]
                                | rw [pu_nb0, if_neg (fun z => by
                                    rcases pu_vow_iff.mp z with (h | h | h | h | h) | ⟨h1, h2, h3⟩
                                    · exact c52 h
                                    · exact c58 h
                                    · exact c64 h
                                    · exact c70 h
                                    · exact c76 h
                                    · first | exact c82 h1 | omega | (rw [c35] at h3; cases h3))]⟩
                        · skip
                          exact absurd c86 (by decide)
          · skip
            refine sv_iconst C (v := 1) (by decide) d_Sm_markVowels_38 ?_
            refine sv_goto C 43 (by decide) d_Sm_markVowels_39 ?_
            refine sv_istore_n C rfl (by decide) [some _, some _, some _, some _] rfl d_Sm_markVowels_43 ?_
            refine sv_aload_n C rfl rfl d_Sm_markVowels_44 ?_
            refine sv_get C fg_Sm_157 0 rfl rfl d_Sm_markVowels_45 ?_
            refine sv_iload_n C rfl rfl d_Sm_markVowels_48 ?_
            refine sv_iload_n C rfl rfl d_Sm_markVowels_49 ?_
            refine sv_bipush C (v := 97) (by decide) d_Sm_markVowels_50 ?_
            refine sv_icmp_eq C 89 (by decide) d_Sm_markVowels_52 (fun c52 => ?_) (fun c52 => ?_)
            · skip
              refine sv_iconst C (v := 1) (by decide) d_Sm_markVowels_89 ?_
              refine sv_goto C 94 (by decide) d_Sm_markVowels_90 ?_
              refine sv_zastN C _ 3 rfl (by omega) (by decide) (_ :: _ :: _ :: _ :: _) rfl d_Sm_markVowels_94 ?_
              refine sv_iincN C 1 _ rfl [some _, some _, some _, some _] rfl d_Sm_markVowels_95 ?_
              refine sv_goto C 2 (by decide) d_Sm_markVowels_98 ?_
              exact ih (j + 1) _ _ _ ⟨by omega, by omega, fun i hi => by
                rcases Nat.lt_or_ge i j with h | h
                · rw [pk_un (by omega), q3 i h]
                · have hij : i = j := by omega
                  subst hij
                  rw [pk_us]
                  first
                    | rw [pu_nb1, if_pos (pu_vow_iff.mpr (by first | exact Or.inl (Or.inl c52) | exact Or.inl (Or.inr (Or.inl c58)) | exact Or.inl (Or.inr (Or.inr (Or.inl c64))) | exact Or.inl (Or.inr (Or.inr (Or.inr (Or.inl c70)))) | exact Or.inl (Or.inr (Or.inr (Or.inr (Or.inr c76)))) | exact Or.inr ⟨c82, by omega, pu_vowF c35⟩))]
                    | rw [pu_nb0, if_neg (fun z => by
                        rcases pu_vow_iff.mp z with (h | h | h | h | h) | ⟨h1, h2, h3⟩
                        · exact c52 h
                        · exact c58 h
                        · exact c64 h
                        · exact c70 h
                        · exact c76 h
                        · first | exact c82 h1 | omega | (rw [c35] at h3; cases h3))]⟩
            · skip
              refine sv_iload_n C rfl rfl d_Sm_markVowels_55 ?_
              refine sv_bipush C (v := 101) (by decide) d_Sm_markVowels_56 ?_
              refine sv_icmp_eq C 89 (by decide) d_Sm_markVowels_58 (fun c58 => ?_) (fun c58 => ?_)
              · skip
                refine sv_iconst C (v := 1) (by decide) d_Sm_markVowels_89 ?_
                refine sv_goto C 94 (by decide) d_Sm_markVowels_90 ?_
                refine sv_zastN C _ 3 rfl (by omega) (by decide) (_ :: _ :: _ :: _ :: _) rfl d_Sm_markVowels_94 ?_
                refine sv_iincN C 1 _ rfl [some _, some _, some _, some _] rfl d_Sm_markVowels_95 ?_
                refine sv_goto C 2 (by decide) d_Sm_markVowels_98 ?_
                exact ih (j + 1) _ _ _ ⟨by omega, by omega, fun i hi => by
                  rcases Nat.lt_or_ge i j with h | h
                  · rw [pk_un (by omega), q3 i h]
                  · have hij : i = j := by omega
                    subst hij
                    rw [pk_us]
                    first
                      | rw [pu_nb1, if_pos (pu_vow_iff.mpr (by first | exact Or.inl (Or.inl c52) | exact Or.inl (Or.inr (Or.inl c58)) | exact Or.inl (Or.inr (Or.inr (Or.inl c64))) | exact Or.inl (Or.inr (Or.inr (Or.inr (Or.inl c70)))) | exact Or.inl (Or.inr (Or.inr (Or.inr (Or.inr c76)))) | exact Or.inr ⟨c82, by omega, pu_vowF c35⟩))]
                      | rw [pu_nb0, if_neg (fun z => by
                          rcases pu_vow_iff.mp z with (h | h | h | h | h) | ⟨h1, h2, h3⟩
                          · exact c52 h
                          · exact c58 h
                          · exact c64 h
                          · exact c70 h
                          · exact c76 h
                          · first | exact c82 h1 | omega | (rw [c35] at h3; cases h3))]⟩
              · skip
                refine sv_iload_n C rfl rfl d_Sm_markVowels_61 ?_
                refine sv_bipush C (v := 105) (by decide) d_Sm_markVowels_62 ?_
                refine sv_icmp_eq C 89 (by decide) d_Sm_markVowels_64 (fun c64 => ?_) (fun c64 => ?_)
                · skip
                  refine sv_iconst C (v := 1) (by decide) d_Sm_markVowels_89 ?_
                  refine sv_goto C 94 (by decide) d_Sm_markVowels_90 ?_
                  refine sv_zastN C _ 3 rfl (by omega) (by decide) (_ :: _ :: _ :: _ :: _) rfl d_Sm_markVowels_94 ?_
                  refine sv_iincN C 1 _ rfl [some _, some _, some _, some _] rfl d_Sm_markVowels_95 ?_
                  refine sv_goto C 2 (by decide) d_Sm_markVowels_98 ?_
                  exact ih (j + 1) _ _ _ ⟨by omega, by omega, fun i hi => by
                    rcases Nat.lt_or_ge i j with h | h
                    · rw [pk_un (by omega), q3 i h]
                    · have hij : i = j := by omega
                      subst hij
                      rw [pk_us]
                      first
                        | rw [pu_nb1, if_pos (pu_vow_iff.mpr (by first | exact Or.inl (Or.inl c52) | exact Or.inl (Or.inr (Or.inl c58)) | exact Or.inl (Or.inr (Or.inr (Or.inl c64))) | exact Or.inl (Or.inr (Or.inr (Or.inr (Or.inl c70)))) | exact Or.inl (Or.inr (Or.inr (Or.inr (Or.inr c76)))) | exact Or.inr ⟨c82, by omega, pu_vowF c35⟩))]
                        | rw [pu_nb0, if_neg (fun z => by
                            rcases pu_vow_iff.mp z with (h | h | h | h | h) | ⟨h1, h2, h3⟩
                            · exact c52 h
                            · exact c58 h
                            · exact c64 h
                            · exact c70 h
                            · exact c76 h
                            · first | exact c82 h1 | omega | (rw [c35] at h3; cases h3))]⟩
                · skip
                  refine sv_iload_n C rfl rfl d_Sm_markVowels_67 ?_
                  refine sv_bipush C (v := 111) (by decide) d_Sm_markVowels_68 ?_
                  refine sv_icmp_eq C 89 (by decide) d_Sm_markVowels_70 (fun c70 => ?_) (fun c70 => ?_)
                  · skip
                    refine sv_iconst C (v := 1) (by decide) d_Sm_markVowels_89 ?_
                    refine sv_goto C 94 (by decide) d_Sm_markVowels_90 ?_
                    refine sv_zastN C _ 3 rfl (by omega) (by decide) (_ :: _ :: _ :: _ :: _) rfl d_Sm_markVowels_94 ?_
                    refine sv_iincN C 1 _ rfl [some _, some _, some _, some _] rfl d_Sm_markVowels_95 ?_
                    refine sv_goto C 2 (by decide) d_Sm_markVowels_98 ?_
                    exact ih (j + 1) _ _ _ ⟨by omega, by omega, fun i hi => by
                      rcases Nat.lt_or_ge i j with h | h
                      · rw [pk_un (by omega), q3 i h]
                      · have hij : i = j := by omega
                        subst hij
                        rw [pk_us]
                        first
                          | rw [pu_nb1, if_pos (pu_vow_iff.mpr (by first | exact Or.inl (Or.inl c52) | exact Or.inl (Or.inr (Or.inl c58)) | exact Or.inl (Or.inr (Or.inr (Or.inl c64))) | exact Or.inl (Or.inr (Or.inr (Or.inr (Or.inl c70)))) | exact Or.inl (Or.inr (Or.inr (Or.inr (Or.inr c76)))) | exact Or.inr ⟨c82, by omega, pu_vowF c35⟩))]
                          | rw [pu_nb0, if_neg (fun z => by
                              rcases pu_vow_iff.mp z with (h | h | h | h | h) | ⟨h1, h2, h3⟩
                              · exact c52 h
                              · exact c58 h
                              · exact c64 h
                              · exact c70 h
                              · exact c76 h
                              · first | exact c82 h1 | omega | (rw [c35] at h3; cases h3))]⟩
                  · skip
                    refine sv_iload_n C rfl rfl d_Sm_markVowels_73 ?_
                    refine sv_bipush C (v := 117) (by decide) d_Sm_markVowels_74 ?_
                    refine sv_icmp_eq C 89 (by decide) d_Sm_markVowels_76 (fun c76 => ?_) (fun c76 => ?_)
                    · skip
                      refine sv_iconst C (v := 1) (by decide) d_Sm_markVowels_89 ?_
                      refine sv_goto C 94 (by decide) d_Sm_markVowels_90 ?_
                      refine sv_zastN C _ 3 rfl (by omega) (by decide) (_ :: _ :: _ :: _ :: _) rfl d_Sm_markVowels_94 ?_
                      refine sv_iincN C 1 _ rfl [some _, some _, some _, some _] rfl d_Sm_markVowels_95 ?_
                      refine sv_goto C 2 (by decide) d_Sm_markVowels_98 ?_
                      exact ih (j + 1) _ _ _ ⟨by omega, by omega, fun i hi => by
                        rcases Nat.lt_or_ge i j with h | h
                        · rw [pk_un (by omega), q3 i h]
                        · have hij : i = j := by omega
                          subst hij
                          rw [pk_us]
                          first
                            | rw [pu_nb1, if_pos (pu_vow_iff.mpr (by first | exact Or.inl (Or.inl c52) | exact Or.inl (Or.inr (Or.inl c58)) | exact Or.inl (Or.inr (Or.inr (Or.inl c64))) | exact Or.inl (Or.inr (Or.inr (Or.inr (Or.inl c70)))) | exact Or.inl (Or.inr (Or.inr (Or.inr (Or.inr c76)))) | exact Or.inr ⟨c82, by omega, pu_vowF c35⟩))]
                            | rw [pu_nb0, if_neg (fun z => by
                                rcases pu_vow_iff.mp z with (h | h | h | h | h) | ⟨h1, h2, h3⟩
                                · exact c52 h
                                · exact c58 h
                                · exact c64 h
                                · exact c70 h
                                · exact c76 h
                                · first | exact c82 h1 | omega | (rw [c35] at h3; cases h3))]⟩
                    · skip
                      refine sv_iload_n C rfl rfl d_Sm_markVowels_79 ?_
                      refine sv_bipush C (v := 121) (by decide) d_Sm_markVowels_80 ?_
                      refine sv_icmp_ne C 93 (by decide) d_Sm_markVowels_82 (fun c82 => ?_) (fun c82 => ?_)
                      · skip
                        refine sv_iconst C (v := 0) (by decide) d_Sm_markVowels_93 ?_
                        refine sv_zastN C _ 3 rfl (by omega) (by decide) (_ :: _ :: _ :: _ :: _) rfl d_Sm_markVowels_94 ?_
                        refine sv_iincN C 1 _ rfl [some _, some _, some _, some _] rfl d_Sm_markVowels_95 ?_
                        refine sv_goto C 2 (by decide) d_Sm_markVowels_98 ?_
                        exact ih (j + 1) _ _ _ ⟨by omega, by omega, fun i hi => by
                          rcases Nat.lt_or_ge i j with h | h
                          · rw [pk_un (by omega), q3 i h]
                          · have hij : i = j := by omega
                            subst hij
                            rw [pk_us]
                            first
                              | rw [pu_nb1, if_pos (pu_vow_iff.mpr (by first | exact Or.inl (Or.inl c52) | exact Or.inl (Or.inr (Or.inl c58)) | exact Or.inl (Or.inr (Or.inr (Or.inl c64))) | exact Or.inl (Or.inr (Or.inr (Or.inr (Or.inl c70)))) | exact Or.inl (Or.inr (Or.inr (Or.inr (Or.inr c76)))) | exact Or.inr ⟨c82, by omega, pu_vowF c35⟩))]
                              | rw [pu_nb0, if_neg (fun z => by
                                  rcases pu_vow_iff.mp z with (h | h | h | h | h) | ⟨h1, h2, h3⟩
                                  · exact c52 h
                                  · exact c58 h
                                  · exact c64 h
                                  · exact c70 h
                                  · exact c76 h
                                  · first | exact c82 h1 | omega | (rw [c35] at h3; cases h3))]⟩
                      · skip
                        refine sv_iload_n C rfl rfl d_Sm_markVowels_85 ?_
                        refine sv_ifZ_eq C 93 (by decide) d_Sm_markVowels_86 (fun c86 => ?_) (fun c86 => ?_)
                        · skip
                          exact absurd c86 (by decide)
                        · skip
                          refine sv_iconst C (v := 1) (by decide) d_Sm_markVowels_89 ?_
                          refine sv_goto C 94 (by decide) d_Sm_markVowels_90 ?_
                          refine sv_zastN C _ 3 rfl (by omega) (by decide) (_ :: _ :: _ :: _ :: _) rfl d_Sm_markVowels_94 ?_
                          refine sv_iincN C 1 _ rfl [some _, some _, some _, some _] rfl d_Sm_markVowels_95 ?_
                          refine sv_goto C 2 (by decide) d_Sm_markVowels_98 ?_
                          exact ih (j + 1) _ _ _ ⟨by omega, by omega, fun i hi => by
                            rcases Nat.lt_or_ge i j with h | h
                            · rw [pk_un (by omega), q3 i h]
                            · have hij : i = j := by omega
                              subst hij
                              rw [pk_us]
                              first
                                | rw [pu_nb1, if_pos (pu_vow_iff.mpr (by first | exact Or.inl (Or.inl c52) | exact Or.inl (Or.inr (Or.inl c58)) | exact Or.inl (Or.inr (Or.inr (Or.inl c64))) | exact Or.inl (Or.inr (Or.inr (Or.inr (Or.inl c70)))) | exact Or.inl (Or.inr (Or.inr (Or.inr (Or.inr c76)))) | exact Or.inr ⟨c82, by omega, pu_vowF c35⟩))]
                                | rw [pu_nb0, if_neg (fun z => by
                                    rcases pu_vow_iff.mp z with (h | h | h | h | h) | ⟨h1, h2, h3⟩
                                    · exact c52 h
                                    · exact c58 h
                                    · exact c64 h
                                    · exact c70 h
                                    · exact c76 h
                                    · first | exact c82 h1 | omega | (rw [c35] at h3; cases h3))]⟩
  refine sv_iconst C (v := 0) (by decide) d_Sm_markVowels_0 ?_
  refine sv_istore_n C rfl (by decide) [some _, some _, none, none] rfl d_Sm_markVowels_1 ?_
  exact L2 L.length 0 v none none ⟨by omega, by omega, fun i hi => absurd hi (Nat.not_lt_zero i)⟩

def rm_Sm_measure : Room := { frames := 0, cells := 0, slots := 0, locals := 0 }
set_option maxHeartbeats 4000000 in
set_option maxRecDepth 100000 in
theorem c_Sm_measure (l : Launch) (g : sv_G) (rest : va_W) (hS hW hwc hv x1 x2 x3 x4 x5 : Nat) (f v : Nat → Int32) (L : List Int32) (hL : L.length ≤ 255) (hf : pr_W f L) (hV : pr_V v L) (m : Nat) (hm : m ≤ L.length) : sv_Mi l y_Sm_measure b_Sm_measure 4 (some (.int)) rm_Sm_measure g [.ref hS, .int (nI m)] ((hS, .inr (2, [.ref hW, .ref hv, .ref x1, .ref x2, .ref x3, .ref x4, .ref x5])) :: (hW, .inr (5, [.ref hwc, .int (nI L.length)])) :: (hwc, .inl (g.2.1 0, 255, .inl f)) :: (hv, .inl (g.2.1 2, 255, .inl v)) :: rest) (fun r w => r = nI (pu_meas L m) ∧ w = ((hS, .inr (2, [.ref hW, .ref hv, .ref x1, .ref x2, .ref x3, .ref x4, .ref x5])) :: (hW, .inr (5, [.ref hwc, .int (nI L.length)])) :: (hwc, .inl (g.2.1 0, 255, .inl f)) :: (hv, .inl (g.2.1 2, 255, .inl v)) :: rest)) := by
  refine sv_enter_i (by decide) rfl rfl (Nat.le_of_ble_eq_true rfl) (fun X C hI hr => ?_)
  refine sv_lvE (lv' := [some _, some _, none, none]) rfl ?_
  have L4 : ∀ (k : Nat) (j q : Nat), (1 ≤ j ∧ (j ≤ m ∨ j = 1) ∧ m ≤ j + k ∧ q = pu_meas L j) → sv_V X 4 0 0 ((hS, .inr (2, [.ref hW, .ref hv, .ref x1, .ref x2, .ref x3, .ref x4, .ref x5])) :: (hW, .inr (5, [.ref hwc, .int (nI L.length)])) :: (hwc, .inl (g.2.1 0, 255, .inl f)) :: (hv, .inl (g.2.1 2, 255, .inl v)) :: rest) 4 [some (.ref hS), some (.int (nI m)), some (.int (nI q)), some (.int (nI j))] [] := by
    intro k
    induction k with
    | zero =>
      intro j q hq
      obtain ⟨q1, q2, q3, q4⟩ := hq
      have mle := pu_meas_le L j
      refine sv_iload_n C rfl rfl d_Sm_measure_4 ?_
      refine sv_iload_n C rfl rfl d_Sm_measure_5 ?_
      refine sv_icmpN_ge C _ _ (by omega) (by omega) 38 (by decide) d_Sm_measure_6 (fun c6 => ?_) (fun c6 => ?_)
      · skip
        refine sv_iload_n C rfl rfl d_Sm_measure_38 ?_
        exact hr _ _ _ _ d_Sm_measure_39 rfl ⟨congrArg nI (pu_meas_end q1 q2 c6 q4), rfl⟩
      · skip
        exact absurd c6 (by omega)
    | succ k ih =>
      intro j q hq
      obtain ⟨q1, q2, q3, q4⟩ := hq
      have mle := pu_meas_le L j
      refine sv_iload_n C rfl rfl d_Sm_measure_4 ?_
      refine sv_iload_n C rfl rfl d_Sm_measure_5 ?_
      refine sv_icmpN_ge C _ _ (by omega) (by omega) 38 (by decide) d_Sm_measure_6 (fun c6 => ?_) (fun c6 => ?_)
      · skip
        refine sv_iload_n C rfl rfl d_Sm_measure_38 ?_
        exact hr _ _ _ _ d_Sm_measure_39 rfl ⟨congrArg nI (pu_meas_end q1 q2 c6 q4), rfl⟩
      · skip
        refine sv_aload_n C rfl rfl d_Sm_measure_9 ?_
        refine sv_get C fg_Sm_157 0 rfl rfl d_Sm_measure_10 ?_
        refine sv_iload_n C rfl rfl d_Sm_measure_13 ?_
        refine sv_iconst C (v := 1) (by decide) d_Sm_measure_14 ?_
        refine sv_isubN C _ 1 (by omega) d_Sm_measure_15 ?_
        refine sv_zaldN C _ 3 rfl (by omega) (by decide) d_Sm_measure_16 ?_
        refine sv_eqi (hV (j - 1) (by omega)) ?_
        refine sv_ifB_eq C _ 32 (by decide) d_Sm_measure_17 (fun c17 => ?_) (fun c17 => ?_)
        · skip
          refine sv_iincN C 1 _ rfl [some _, some _, some _, some _] rfl d_Sm_measure_32 ?_
          refine sv_goto C 4 (by decide) d_Sm_measure_35 ?_
          first | exact ih (j + 1) (q + 1) ⟨by omega, by omega, by omega, by rw [pu_meas, if_pos ⟨q1, c17, pu_vowF c26⟩, q4]⟩ | exact ih (j + 1) q ⟨by omega, by omega, by omega, by rw [pu_meas, if_neg (fun z => by first | exact c17 z.2.1 | (have z3 := z.2.2; rw [c26] at z3; cases z3)), q4, Nat.add_zero]⟩
        · skip
          refine sv_aload_n C rfl rfl d_Sm_measure_20 ?_
          refine sv_get C fg_Sm_157 0 rfl rfl d_Sm_measure_21 ?_
          refine sv_iload_n C rfl rfl d_Sm_measure_24 ?_
          refine sv_zaldN C _ 3 rfl (by omega) (by decide) d_Sm_measure_25 ?_
          refine sv_eqi (hV j (by omega)) ?_
          refine sv_ifB_ne C _ 32 (by decide) d_Sm_measure_26 (fun c26 => ?_) (fun c26 => ?_)
          · skip
            refine sv_iincN C 1 _ rfl [some _, some _, some _, some _] rfl d_Sm_measure_32 ?_
            refine sv_goto C 4 (by decide) d_Sm_measure_35 ?_
            first | exact ih (j + 1) (q + 1) ⟨by omega, by omega, by omega, by rw [pu_meas, if_pos ⟨q1, c17, pu_vowF c26⟩, q4]⟩ | exact ih (j + 1) q ⟨by omega, by omega, by omega, by rw [pu_meas, if_neg (fun z => by first | exact c17 z.2.1 | (have z3 := z.2.2; rw [c26] at z3; cases z3)), q4, Nat.add_zero]⟩
          · skip
            refine sv_iincN C 1 _ rfl [some _, some _, some _, some _] rfl d_Sm_measure_29 ?_
            refine sv_iincN C 1 _ rfl [some _, some _, some _, some _] rfl d_Sm_measure_32 ?_
            refine sv_goto C 4 (by decide) d_Sm_measure_35 ?_
            first | exact ih (j + 1) (q + 1) ⟨by omega, by omega, by omega, by rw [pu_meas, if_pos ⟨q1, c17, pu_vowF c26⟩, q4]⟩ | exact ih (j + 1) q ⟨by omega, by omega, by omega, by rw [pu_meas, if_neg (fun z => by first | exact c17 z.2.1 | (have z3 := z.2.2; rw [c26] at z3; cases z3)), q4, Nat.add_zero]⟩
  refine sv_iconst C (v := 0) (by decide) d_Sm_measure_0 ?_
  refine sv_istore_n C rfl (by decide) [some _, some _, some _, none] rfl d_Sm_measure_1 ?_
  refine sv_iconst C (v := 1) (by decide) d_Sm_measure_2 ?_
  refine sv_istore_n C rfl (by decide) [some _, some _, some _, some _] rfl d_Sm_measure_3 ?_
  exact L4 m 1 0 ⟨by omega, by omega, by omega, by simp [pu_meas]⟩

def rm_Sm_hasVowel : Room := { frames := 0, cells := 0, slots := 0, locals := 0 }
set_option maxHeartbeats 4000000 in
set_option maxRecDepth 100000 in
theorem c_Sm_hasVowel (l : Launch) (g : sv_G) (rest : va_W) (hS hW hwc hv x1 x2 x3 x4 x5 : Nat) (f v : Nat → Int32) (L : List Int32) (hL : L.length ≤ 255) (hf : pr_W f L) (hV : pr_V v L) (m : Nat) (hm : m ≤ L.length) : sv_Mi l y_Sm_hasVowel b_Sm_hasVowel 3 (some (.boolean)) rm_Sm_hasVowel g [.ref hS, .int (nI m)] ((hS, .inr (2, [.ref hW, .ref hv, .ref x1, .ref x2, .ref x3, .ref x4, .ref x5])) :: (hW, .inr (5, [.ref hwc, .int (nI L.length)])) :: (hwc, .inl (g.2.1 0, 255, .inl f)) :: (hv, .inl (g.2.1 2, 255, .inl v)) :: rest) (fun r w => r = (if pu_anyV L m = true then 1 else 0) ∧ w = ((hS, .inr (2, [.ref hW, .ref hv, .ref x1, .ref x2, .ref x3, .ref x4, .ref x5])) :: (hW, .inr (5, [.ref hwc, .int (nI L.length)])) :: (hwc, .inl (g.2.1 0, 255, .inl f)) :: (hv, .inl (g.2.1 2, 255, .inl v)) :: rest)) := by
  refine sv_enter_i (by decide) rfl rfl (Nat.le_of_ble_eq_true rfl) (fun X C hI hr => ?_)
  refine sv_lvE (lv' := [some _, some _, none]) rfl ?_
  have L2 : ∀ (k : Nat) (j : Nat), (j ≤ m ∧ m ≤ j + k ∧ ∀ i, i < j → pu_vow L i = false) → sv_V X 3 0 0 ((hS, .inr (2, [.ref hW, .ref hv, .ref x1, .ref x2, .ref x3, .ref x4, .ref x5])) :: (hW, .inr (5, [.ref hwc, .int (nI L.length)])) :: (hwc, .inl (g.2.1 0, 255, .inl f)) :: (hv, .inl (g.2.1 2, 255, .inl v)) :: rest) 2 [some (.ref hS), some (.int (nI m)), some (.int (nI j))] [] := by
    intro k
    induction k with
    | zero =>
      intro j hq
      obtain ⟨q1, q2, q3⟩ := hq
      refine sv_iload_n C rfl rfl d_Sm_hasVowel_2 ?_
      refine sv_iload_n C rfl rfl d_Sm_hasVowel_3 ?_
      refine sv_icmpN_ge C _ _ (by omega) (by omega) 24 (by decide) d_Sm_hasVowel_4 (fun c4 => ?_) (fun c4 => ?_)
      · skip
        refine sv_iconst C (v := 0) (by decide) d_Sm_hasVowel_24 ?_
        exact hr _ _ _ _ d_Sm_hasVowel_25 rfl ⟨(if_neg (by rw [pu_anyV_false (fun i hi => q3 i (by omega))]; exact Bool.false_ne_true)).symm, rfl⟩
      · skip
        exact absurd c4 (by omega)
    | succ k ih =>
      intro j hq
      obtain ⟨q1, q2, q3⟩ := hq
      refine sv_iload_n C rfl rfl d_Sm_hasVowel_2 ?_
      refine sv_iload_n C rfl rfl d_Sm_hasVowel_3 ?_
      refine sv_icmpN_ge C _ _ (by omega) (by omega) 24 (by decide) d_Sm_hasVowel_4 (fun c4 => ?_) (fun c4 => ?_)
      · skip
        refine sv_iconst C (v := 0) (by decide) d_Sm_hasVowel_24 ?_
        exact hr _ _ _ _ d_Sm_hasVowel_25 rfl ⟨(if_neg (by rw [pu_anyV_false (fun i hi => q3 i (by omega))]; exact Bool.false_ne_true)).symm, rfl⟩
      · skip
        refine sv_aload_n C rfl rfl d_Sm_hasVowel_7 ?_
        refine sv_get C fg_Sm_157 0 rfl rfl d_Sm_hasVowel_8 ?_
        refine sv_iload_n C rfl rfl d_Sm_hasVowel_11 ?_
        refine sv_zaldN C _ 3 rfl (by omega) (by decide) d_Sm_hasVowel_12 ?_
        refine sv_eqi (hV j (by omega)) ?_
        refine sv_ifB_eq C _ 18 (by decide) d_Sm_hasVowel_13 (fun c13 => ?_) (fun c13 => ?_)
        · skip
          refine sv_iincN C 1 _ rfl [some _, some _, some _] rfl d_Sm_hasVowel_18 ?_
          refine sv_goto C 2 (by decide) d_Sm_hasVowel_21 ?_
          exact ih (j + 1) ⟨by omega, by omega, fun i hi => by
            rcases Nat.lt_or_ge i j with h | h
            · exact q3 i h
            · have hij : i = j := by omega
              subst hij
              exact pu_vowF c13⟩
        · skip
          refine sv_iconst C (v := 1) (by decide) d_Sm_hasVowel_16 ?_
          exact hr _ _ _ _ d_Sm_hasVowel_17 rfl ⟨(if_pos (pu_anyV_true (by omega) c13)).symm, rfl⟩
  refine sv_iconst C (v := 0) (by decide) d_Sm_hasVowel_0 ?_
  refine sv_istore_n C rfl (by decide) [some _, some _, some _] rfl d_Sm_hasVowel_1 ?_
  exact L2 m 0 ⟨by omega, by omega, fun i hi => absurd hi (Nat.not_lt_zero i)⟩

def rm_Sm_isDouble : Room := { frames := 0, cells := 0, slots := 0, locals := 0 }
set_option maxHeartbeats 4000000 in
set_option maxRecDepth 100000 in
theorem c_Sm_isDouble (l : Launch) (g : sv_G) (rest : va_W) (hS hW hwc hv x1 x2 x3 x4 x5 : Nat) (f v : Nat → Int32) (L : List Int32) (hL : L.length ≤ 255) (hf : pr_W f L) (hV : pr_V v L) (h1 : 1 ≤ L.length) : sv_Mi l y_Sm_isDouble b_Sm_isDouble 2 (some (.boolean)) rm_Sm_isDouble g [.ref hS] ((hS, .inr (2, [.ref hW, .ref hv, .ref x1, .ref x2, .ref x3, .ref x4, .ref x5])) :: (hW, .inr (5, [.ref hwc, .int (nI L.length)])) :: (hwc, .inl (g.2.1 0, 255, .inl f)) :: (hv, .inl (g.2.1 2, 255, .inl v)) :: rest) (fun r w => r = (if pu_dbl L then 1 else 0) ∧ w = ((hS, .inr (2, [.ref hW, .ref hv, .ref x1, .ref x2, .ref x3, .ref x4, .ref x5])) :: (hW, .inr (5, [.ref hwc, .int (nI L.length)])) :: (hwc, .inl (g.2.1 0, 255, .inl f)) :: (hv, .inl (g.2.1 2, 255, .inl v)) :: rest)) := by
  have e2 : L.length - 1 - 1 = L.length - 2 := by omega
  refine sv_enter_i (by decide) rfl rfl (Nat.le_of_ble_eq_true rfl) (fun X C hI hr => ?_)
  refine sv_lvE (lv' := [some _, none]) rfl ?_
  refine sv_aload_n C rfl rfl d_Sm_isDouble_0 ?_
  refine sv_get C fg_Sm_153 0 rfl rfl d_Sm_isDouble_1 ?_
  refine sv_get C fg_Sm_161 1 rfl rfl d_Sm_isDouble_4 ?_
  refine sv_iconst C (v := 1) (by decide) d_Sm_isDouble_7 ?_
  refine sv_isubN C _ 1 (by omega) d_Sm_isDouble_8 ?_
  refine sv_istore_n C rfl (by decide) [some _, some _] rfl d_Sm_isDouble_9 ?_
  refine sv_iload_n C rfl rfl d_Sm_isDouble_10 ?_
  refine sv_ifN_le C _ (by omega) 50 (by decide) d_Sm_isDouble_11 (fun c11 => ?_) (fun c11 => ?_)
  · skip
    refine sv_iconst C (v := 0) (by decide) d_Sm_isDouble_50 ?_
    exact hr _ _ _ _ d_Sm_isDouble_51 rfl ⟨(if_neg (fun z => by first | exact absurd z.1 (by omega) | exact c34 (by rw [e2]; exact z.2.1) | (have z3 := z.2.2; rw [c43] at z3; cases z3))).symm, rfl⟩
  · skip
    refine sv_aload_n C rfl rfl d_Sm_isDouble_14 ?_
    refine sv_get C fg_Sm_153 0 rfl rfl d_Sm_isDouble_15 ?_
    refine sv_get C fg_Sm_263 1 rfl rfl d_Sm_isDouble_18 ?_
    refine sv_iload_n C rfl rfl d_Sm_isDouble_21 ?_
    refine sv_ialdN C _ 2 rfl (by omega) (by decide) d_Sm_isDouble_22 ?_
    refine sv_eqi (hf _ (by omega)) ?_
    refine sv_aload_n C rfl rfl d_Sm_isDouble_23 ?_
    refine sv_get C fg_Sm_153 0 rfl rfl d_Sm_isDouble_24 ?_
    refine sv_get C fg_Sm_263 1 rfl rfl d_Sm_isDouble_27 ?_
    refine sv_iload_n C rfl rfl d_Sm_isDouble_30 ?_
    refine sv_iconst C (v := 1) (by decide) d_Sm_isDouble_31 ?_
    refine sv_isubN C _ 1 (by omega) d_Sm_isDouble_32 ?_
    refine sv_ialdN C _ 2 rfl (by omega) (by decide) d_Sm_isDouble_33 ?_
    refine sv_eqi (hf _ (by omega)) ?_
    refine sv_icmp_ne C 50 (by decide) d_Sm_isDouble_34 (fun c34 => ?_) (fun c34 => ?_)
    · skip
      refine sv_iconst C (v := 0) (by decide) d_Sm_isDouble_50 ?_
      exact hr _ _ _ _ d_Sm_isDouble_51 rfl ⟨(if_neg (fun z => by first | exact absurd z.1 (by omega) | exact c34 (by rw [e2]; exact z.2.1) | (have z3 := z.2.2; rw [c43] at z3; cases z3))).symm, rfl⟩
    · skip
      refine sv_aload_n C rfl rfl d_Sm_isDouble_37 ?_
      refine sv_get C fg_Sm_157 0 rfl rfl d_Sm_isDouble_38 ?_
      refine sv_iload_n C rfl rfl d_Sm_isDouble_41 ?_
      refine sv_zaldN C _ 3 rfl (by omega) (by decide) d_Sm_isDouble_42 ?_
      refine sv_eqi (hV _ (by omega)) ?_
      refine sv_ifB_ne C _ 50 (by decide) d_Sm_isDouble_43 (fun c43 => ?_) (fun c43 => ?_)
      · skip
        refine sv_iconst C (v := 0) (by decide) d_Sm_isDouble_50 ?_
        exact hr _ _ _ _ d_Sm_isDouble_51 rfl ⟨(if_neg (fun z => by first | exact absurd z.1 (by omega) | exact c34 (by rw [e2]; exact z.2.1) | (have z3 := z.2.2; rw [c43] at z3; cases z3))).symm, rfl⟩
      · skip
        refine sv_iconst C (v := 1) (by decide) d_Sm_isDouble_46 ?_
        refine sv_goto C 51 (by decide) d_Sm_isDouble_47 ?_
        exact hr _ _ _ _ d_Sm_isDouble_51 rfl ⟨(if_pos ⟨by omega, by rw [← e2]; exact c34, pu_vowF c43⟩).symm, rfl⟩

def rm_Sm_isCvc : Room := { frames := 0, cells := 0, slots := 0, locals := 0 }
set_option maxHeartbeats 4000000 in
set_option maxRecDepth 100000 in
theorem c_Sm_isCvc (l : Launch) (g : sv_G) (rest : va_W) (hS hW hwc hv x1 x2 x3 x4 x5 : Nat) (f v : Nat → Int32) (L : List Int32) (hL : L.length ≤ 255) (hf : pr_W f L) (hV : pr_V v L) (m : Nat) (hm : m ≤ L.length) : sv_Mi l y_Sm_isCvc b_Sm_isCvc 3 (some (.boolean)) rm_Sm_isCvc g [.ref hS, .int (nI m)] ((hS, .inr (2, [.ref hW, .ref hv, .ref x1, .ref x2, .ref x3, .ref x4, .ref x5])) :: (hW, .inr (5, [.ref hwc, .int (nI L.length)])) :: (hwc, .inl (g.2.1 0, 255, .inl f)) :: (hv, .inl (g.2.1 2, 255, .inl v)) :: rest) (fun r w => r = (if pu_cvc L m then 1 else 0) ∧ w = ((hS, .inr (2, [.ref hW, .ref hv, .ref x1, .ref x2, .ref x3, .ref x4, .ref x5])) :: (hW, .inr (5, [.ref hwc, .int (nI L.length)])) :: (hwc, .inl (g.2.1 0, 255, .inl f)) :: (hv, .inl (g.2.1 2, 255, .inl v)) :: rest)) := by
  refine sv_enter_i (by decide) rfl rfl (Nat.le_of_ble_eq_true rfl) (fun X C hI hr => ?_)
  refine sv_lvE (lv' := [some _, some _, none]) rfl ?_
  refine sv_iload_n C rfl rfl d_Sm_isCvc_0 ?_
  refine sv_iconst C (v := 3) (by decide) d_Sm_isCvc_1 ?_
  refine sv_icmpN_lt C _ 3 (by omega) (by omega) 38 (by decide) d_Sm_isCvc_2 (fun c2 => ?_) (fun c2 => ?_)
  · skip
    refine sv_iconst C (v := 0) (by decide) d_Sm_isCvc_38 ?_
    exact hr _ _ _ _ d_Sm_isCvc_39 rfl ⟨(if_neg (fun z => by first | exact absurd z.1 (by omega) | (have z3 := z.2.1; rw [c13] at z3; cases z3) | exact c24 z.2.2.1 | (have z3 := z.2.2.2.1; rw [c35] at z3; cases z3) | exact z.2.2.2.2.1 c55 | exact z.2.2.2.2.2.1 c61 | exact z.2.2.2.2.2.2 c67)).symm, rfl⟩
  · skip
    refine sv_aload_n C rfl rfl d_Sm_isCvc_5 ?_
    refine sv_get C fg_Sm_157 0 rfl rfl d_Sm_isCvc_6 ?_
    refine sv_iload_n C rfl rfl d_Sm_isCvc_9 ?_
    refine sv_iconst C (v := 3) (by decide) d_Sm_isCvc_10 ?_
    refine sv_isubN C _ 3 (by omega) d_Sm_isCvc_11 ?_
    refine sv_zaldN C _ 3 rfl (by omega) (by decide) d_Sm_isCvc_12 ?_
    refine sv_eqi (hV _ (by omega)) ?_
    refine sv_ifB_ne C _ 38 (by decide) d_Sm_isCvc_13 (fun c13 => ?_) (fun c13 => ?_)
    · skip
      refine sv_iconst C (v := 0) (by decide) d_Sm_isCvc_38 ?_
      exact hr _ _ _ _ d_Sm_isCvc_39 rfl ⟨(if_neg (fun z => by first | exact absurd z.1 (by omega) | (have z3 := z.2.1; rw [c13] at z3; cases z3) | exact c24 z.2.2.1 | (have z3 := z.2.2.2.1; rw [c35] at z3; cases z3) | exact z.2.2.2.2.1 c55 | exact z.2.2.2.2.2.1 c61 | exact z.2.2.2.2.2.2 c67)).symm, rfl⟩
    · skip
      refine sv_aload_n C rfl rfl d_Sm_isCvc_16 ?_
      refine sv_get C fg_Sm_157 0 rfl rfl d_Sm_isCvc_17 ?_
      refine sv_iload_n C rfl rfl d_Sm_isCvc_20 ?_
      refine sv_iconst C (v := 2) (by decide) d_Sm_isCvc_21 ?_
      refine sv_isubN C _ 2 (by omega) d_Sm_isCvc_22 ?_
      refine sv_zaldN C _ 3 rfl (by omega) (by decide) d_Sm_isCvc_23 ?_
      refine sv_eqi (hV _ (by omega)) ?_
      refine sv_ifB_eq C _ 38 (by decide) d_Sm_isCvc_24 (fun c24 => ?_) (fun c24 => ?_)
      · skip
        refine sv_iconst C (v := 0) (by decide) d_Sm_isCvc_38 ?_
        exact hr _ _ _ _ d_Sm_isCvc_39 rfl ⟨(if_neg (fun z => by first | exact absurd z.1 (by omega) | (have z3 := z.2.1; rw [c13] at z3; cases z3) | exact c24 z.2.2.1 | (have z3 := z.2.2.2.1; rw [c35] at z3; cases z3) | exact z.2.2.2.2.1 c55 | exact z.2.2.2.2.2.1 c61 | exact z.2.2.2.2.2.2 c67)).symm, rfl⟩
      · skip
        refine sv_aload_n C rfl rfl d_Sm_isCvc_27 ?_
        refine sv_get C fg_Sm_157 0 rfl rfl d_Sm_isCvc_28 ?_
        refine sv_iload_n C rfl rfl d_Sm_isCvc_31 ?_
        refine sv_iconst C (v := 1) (by decide) d_Sm_isCvc_32 ?_
        refine sv_isubN C _ 1 (by omega) d_Sm_isCvc_33 ?_
        refine sv_zaldN C _ 3 rfl (by omega) (by decide) d_Sm_isCvc_34 ?_
        refine sv_eqi (hV _ (by omega)) ?_
        refine sv_ifB_eq C _ 40 (by decide) d_Sm_isCvc_35 (fun c35 => ?_) (fun c35 => ?_)
        · skip
          refine sv_aload_n C rfl rfl d_Sm_isCvc_40 ?_
          refine sv_get C fg_Sm_153 0 rfl rfl d_Sm_isCvc_41 ?_
          refine sv_get C fg_Sm_263 1 rfl rfl d_Sm_isCvc_44 ?_
          refine sv_iload_n C rfl rfl d_Sm_isCvc_47 ?_
          refine sv_iconst C (v := 1) (by decide) d_Sm_isCvc_48 ?_
          refine sv_isubN C _ 1 (by omega) d_Sm_isCvc_49 ?_
          refine sv_ialdN C _ 2 rfl (by omega) (by decide) d_Sm_isCvc_50 ?_
          refine sv_eqi (hf _ (by omega)) ?_
          refine sv_istore_n C rfl (by decide) [some _, some _, some _] rfl d_Sm_isCvc_51 ?_
          refine sv_iload_n C rfl rfl d_Sm_isCvc_52 ?_
          refine sv_bipush C (v := 119) (by decide) d_Sm_isCvc_53 ?_
          refine sv_icmp_eq C 74 (by decide) d_Sm_isCvc_55 (fun c55 => ?_) (fun c55 => ?_)
          · skip
            refine sv_iconst C (v := 0) (by decide) d_Sm_isCvc_74 ?_
            exact hr _ _ _ _ d_Sm_isCvc_75 rfl ⟨(if_neg (fun z => by first | exact absurd z.1 (by omega) | (have z3 := z.2.1; rw [c13] at z3; cases z3) | exact c24 z.2.2.1 | (have z3 := z.2.2.2.1; rw [c35] at z3; cases z3) | exact z.2.2.2.2.1 c55 | exact z.2.2.2.2.2.1 c61 | exact z.2.2.2.2.2.2 c67)).symm, rfl⟩
          · skip
            refine sv_iload_n C rfl rfl d_Sm_isCvc_58 ?_
            refine sv_bipush C (v := 120) (by decide) d_Sm_isCvc_59 ?_
            refine sv_icmp_eq C 74 (by decide) d_Sm_isCvc_61 (fun c61 => ?_) (fun c61 => ?_)
            · skip
              refine sv_iconst C (v := 0) (by decide) d_Sm_isCvc_74 ?_
              exact hr _ _ _ _ d_Sm_isCvc_75 rfl ⟨(if_neg (fun z => by first | exact absurd z.1 (by omega) | (have z3 := z.2.1; rw [c13] at z3; cases z3) | exact c24 z.2.2.1 | (have z3 := z.2.2.2.1; rw [c35] at z3; cases z3) | exact z.2.2.2.2.1 c55 | exact z.2.2.2.2.2.1 c61 | exact z.2.2.2.2.2.2 c67)).symm, rfl⟩
            · skip
              refine sv_iload_n C rfl rfl d_Sm_isCvc_64 ?_
              refine sv_bipush C (v := 121) (by decide) d_Sm_isCvc_65 ?_
              refine sv_icmp_eq C 74 (by decide) d_Sm_isCvc_67 (fun c67 => ?_) (fun c67 => ?_)
              · skip
                refine sv_iconst C (v := 0) (by decide) d_Sm_isCvc_74 ?_
                exact hr _ _ _ _ d_Sm_isCvc_75 rfl ⟨(if_neg (fun z => by first | exact absurd z.1 (by omega) | (have z3 := z.2.1; rw [c13] at z3; cases z3) | exact c24 z.2.2.1 | (have z3 := z.2.2.2.1; rw [c35] at z3; cases z3) | exact z.2.2.2.2.1 c55 | exact z.2.2.2.2.2.1 c61 | exact z.2.2.2.2.2.2 c67)).symm, rfl⟩
              · skip
                refine sv_iconst C (v := 1) (by decide) d_Sm_isCvc_70 ?_
                refine sv_goto C 75 (by decide) d_Sm_isCvc_71 ?_
                exact hr _ _ _ _ d_Sm_isCvc_75 rfl ⟨(if_pos ⟨by omega, pu_vowF c13, c24, pu_vowF c35, c55, c61, c67⟩).symm, rfl⟩
        · skip
          refine sv_iconst C (v := 0) (by decide) d_Sm_isCvc_38 ?_
          exact hr _ _ _ _ d_Sm_isCvc_39 rfl ⟨(if_neg (fun z => by first | exact absurd z.1 (by omega) | (have z3 := z.2.1; rw [c13] at z3; cases z3) | exact c24 z.2.2.1 | (have z3 := z.2.2.2.1; rw [c35] at z3; cases z3) | exact z.2.2.2.2.1 c55 | exact z.2.2.2.2.2.1 c61 | exact z.2.2.2.2.2.2 c67)).symm, rfl⟩
