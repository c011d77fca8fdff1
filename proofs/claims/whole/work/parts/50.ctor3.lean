/-! CONTRACTS: constructors, 3: WordChain -/
def rm_X_init : Room := { frames := 7, cells := 71, slots := 41679, locals := 209 }
set_option maxHeartbeats 4000000 in
set_option maxRecDepth 100000 in
theorem c_X_init (l : Launch) (g : sv_G) (rest : va_W) (hX : Nat) : sv_Mv l y_X_init b_X_init 1 none rm_X_init g [.ref hX] ((hX, .inr (6, [.null, .int 0, .null, .null, .null, .null, .int 0])) :: rest) (fun w => ∃ (ad : Nat → Nat) (kf : Nat → Int32) (S9 : va_W), ad 0 = hX ∧ w = ((ad 0, .inr (6, [.ref (ad 1), .int (nI 0), .ref (ad 2), .ref (ad 4), .ref (ad 6), .ref (ad 10), .int (nI 0)])) :: (ad 1, .inl (g.2.1 1, 8192, .inl (fun _ => 0))) :: (ad 2, .inr (3, [.ref (ad 3), .int (nI 0)])) :: (ad 3, .inl (g.2.1 0, 8192, .inl (fun _ => 0))) :: (ad 4, .inr (1, [.ref (ad 5)])) :: (ad 5, .inl (g.2.1 0, 33, .inl kf)) :: (ad 6, .inr (2, [.ref (ad 7), .ref (ad 9), .ref (ad 14), .ref (ad 15), .ref (ad 16), .ref (ad 17), .ref (ad 18)])) :: (ad 7, .inr (5, [.ref (ad 8), .int (nI 0)])) :: (ad 8, .inl (g.2.1 0, 255, .inl (fun _ => 0))) :: (ad 9, .inl (g.2.1 2, 255, .inl (fun _ => 0))) :: (ad 10, .inr (4, [.ref (ad 11), .ref (ad 12), .ref (ad 13), .int (nI ([] : List (Nat × List Int32)).length)])) :: (ad 11, .inl (g.2.1 0, 8192, .inl (fun _ => 0))) :: (ad 12, .inl (g.2.1 0, 8192, .inl (fun _ => 0))) :: (ad 13, .inl (g.2.1 0, 8193, .inl (fun _ => 0))) :: (S9 ++ rest)) ∧ (∀ i, i < 33 → kf i = nI (pu_key (pu_stops.getD i []))) ∧ sv_E5 g S9 (ad 14) (ad 15) (ad 16) (ad 17) (ad 18)) := by
  refine sv_enter_v (by decide) rfl rfl (Nat.le_of_ble_eq_true rfl) (fun X C hI hr => ?_)
  refine sv_lvE (lv' := [some _]) rfl ?_
  have hI := hI rfl
  refine sv_aload_n C rfl rfl d_X_init_0 ?_
  refine sv_objInit C wo_X wo_2 wo_3 (by decide) (Nat.le_of_ble_eq_true rfl) d_X_init_1 ?_
  refine sv_aload_n C rfl rfl d_X_init_4 ?_
  refine sv_sipush C (v := 8192) (by decide) d_X_init_5 ?_
  refine sv_newB C wr_byte (by decide) (N := 8192) (by decide) (by decide) (by decide) (by decide) d_X_init_8 (fun aIN => ?_)
  refine sv_putF C hI fp_X_9 1 rfl rfl rfl (Nat.le_of_ble_eq_true rfl) (_ :: (_, .inr (_, [_, _, _, _, _, _, _])) :: _) rfl d_X_init_10 ?_
  refine sv_aload_n C rfl rfl d_X_init_13 ?_
  refine sv_iconst C (v := 0) (by decide) d_X_init_14 ?_
  refine sv_put C fp_X_13 1 rfl rfl rfl (Nat.le_of_ble_eq_true rfl) (_ :: (_, .inr (_, [_, _, _, _, _, _, _])) :: _) rfl d_X_init_15 ?_
  refine sv_aload_n C rfl rfl d_X_init_18 ?_
  refine sv_new_Te C wk_X_17 (by decide) (by decide) d_X_init_19 (fun aT => ?_)
  refine sv_dup C rfl d_X_init_22 ?_
  refine sv_sipush C (v := 8192) (by decide) d_X_init_23 ?_
  refine sv_callIv C (c_Te_init l g _ aT) lk_X_19  d_X_init_26 (by decide) (Nat.le_of_ble_eq_true rfl) (by decide) (fun w hw => ?_)
  obtain ⟨aTC, rfl⟩ := hw
  refine sv_putF C hI fp_X_22 3 rfl rfl rfl (Nat.le_of_ble_eq_true rfl) (_ :: _ :: _ :: (_, .inr (_, [_, _, _, _, _, _, _])) :: _) rfl d_X_init_29 ?_
  refine sv_aload_n C rfl rfl d_X_init_32 ?_
  refine sv_new_Si C wk_X_26 (by decide) (by decide) d_X_init_33 (fun aSW => ?_)
  refine sv_dup C rfl d_X_init_36 ?_
  refine sv_callIv C (c_Si_init l g _ aSW) lk_X_28  d_X_init_37 (by decide) (Nat.le_of_ble_eq_true rfl) (by decide) (fun w hw => ?_)
  obtain ⟨aK, kf, rfl, hkf⟩ := hw
  refine sv_putF C hI fp_X_29 5 rfl rfl rfl (Nat.le_of_ble_eq_true rfl) (_ :: _ :: _ :: _ :: _ :: (_, .inr (_, [_, _, _, _, _, _, _])) :: _) rfl d_X_init_40 ?_
  refine sv_aload_n C rfl rfl d_X_init_43 ?_
  refine sv_new_Sm C wk_X_33 (by decide) (by decide) d_X_init_44 (fun aS => ?_)
  refine sv_dup C rfl d_X_init_47 ?_
  refine sv_sipush C (v := 255) (by decide) d_X_init_48 ?_
  refine sv_callIv C (c_Sm_init l g _ aS) lk_X_35  d_X_init_51 (by decide) (Nat.le_of_ble_eq_true rfl) (by decide) (fun w hw => ?_)
  obtain ⟨aW, aC, aV, x1, x2, x3, x4, x5, S9, rfl, hE⟩ := hw
  refine sv_Perm (List.Perm.append_left [_, _, _, _] (List.perm_append_comm_assoc S9 [_, _, _, _, _, _] rest)) ?_
  refine sv_putF C hI fp_X_36 9 rfl rfl rfl (Nat.le_of_ble_eq_true rfl) (_ :: _ :: _ :: _ :: _ :: _ :: _ :: _ :: _ :: (_, .inr (_, [_, _, _, _, _, _, _])) :: _) rfl d_X_init_54 ?_
  refine sv_aload_n C rfl rfl d_X_init_57 ?_
  refine sv_new_To C wk_X_40 (by decide) (by decide) d_X_init_58 (fun aKK => ?_)
  refine sv_dup C rfl d_X_init_61 ?_
  refine sv_sipush C (v := 8192) (by decide) d_X_init_62 ?_
  refine sv_callIv C (c_To_init l g _ aKK) lk_X_42  d_X_init_65 (by decide) (Nat.le_of_ble_eq_true rfl) (by decide) (fun w hw => ?_)
  obtain ⟨aKC, aKP, aKS, rfl⟩ := hw
  refine sv_putF C hI fp_X_43 13 rfl rfl rfl (Nat.le_of_ble_eq_true rfl) (_ :: _ :: _ :: _ :: _ :: _ :: _ :: _ :: _ :: _ :: _ :: _ :: _ :: (_, .inr (_, [_, _, _, _, _, _, _])) :: _) rfl d_X_init_68 ?_
  refine sv_aload_n C rfl rfl d_X_init_71 ?_
  refine sv_iconst C (v := 0) (by decide) d_X_init_72 ?_
  refine sv_put C fp_X_47 13 rfl rfl rfl (Nat.le_of_ble_eq_true rfl) (_ :: _ :: _ :: _ :: _ :: _ :: _ :: _ :: _ :: _ :: _ :: _ :: _ :: (_, .inr (_, [_, _, _, _, _, _, _])) :: _) rfl d_X_init_73 ?_
  refine sv_front 7 (_ :: _ :: _ :: _ :: _ :: _ :: _ :: _ :: _ :: _ :: _ :: _ :: _ :: _ :: _) rfl rfl ?_
  refine sv_front 7 (_ :: _ :: _ :: _ :: _ :: _ :: _ :: _ :: _ :: _ :: _ :: _ :: _ :: _ :: _) rfl rfl ?_
  refine sv_front 7 (_ :: _ :: _ :: _ :: _ :: _ :: _ :: _ :: _ :: _ :: _ :: _ :: _ :: _ :: _) rfl rfl ?_
  refine sv_front 7 (_ :: _ :: _ :: _ :: _ :: _ :: _ :: _ :: _ :: _ :: _ :: _ :: _ :: _ :: _) rfl rfl ?_
  refine sv_front 8 (_ :: _ :: _ :: _ :: _ :: _ :: _ :: _ :: _ :: _ :: _ :: _ :: _ :: _ :: _) rfl rfl ?_
  refine sv_front 9 (_ :: _ :: _ :: _ :: _ :: _ :: _ :: _ :: _ :: _ :: _ :: _ :: _ :: _ :: _) rfl rfl ?_
  refine sv_front 11 (_ :: _ :: _ :: _ :: _ :: _ :: _ :: _ :: _ :: _ :: _ :: _ :: _ :: _ :: _) rfl rfl ?_
  refine sv_front 11 (_ :: _ :: _ :: _ :: _ :: _ :: _ :: _ :: _ :: _ :: _ :: _ :: _ :: _ :: _) rfl rfl ?_
  refine sv_front 12 (_ :: _ :: _ :: _ :: _ :: _ :: _ :: _ :: _ :: _ :: _ :: _ :: _ :: _ :: _) rfl rfl ?_
  refine sv_front 13 (_ :: _ :: _ :: _ :: _ :: _ :: _ :: _ :: _ :: _ :: _ :: _ :: _ :: _ :: _) rfl rfl ?_
  exact hr _ _ _ d_X_init_76 ⟨(fun k => [hX, aIN, aT, aTC, aSW, aK, aS, aW, aC, aV, aKK, aKC, aKP, aKS, x1, x2, x3, x4, x5].getD k 0), kf, S9, rfl, rfl, hkf, hE⟩
