/-! THE LAW: its loop -/
set_option maxHeartbeats 4000000 in
set_option maxRecDepth 100000 in
theorem lw_loop {X : sv_X} {l : Launch} {g : sv_G} (hfl : l.flags = pinnedFlags ++ [noTraceFlag]) (C : sv_C X l code 7 "WordChainLaw" room_1 g) (hT : sv_CT X) {bS L : Nat} {xs : Nat → Int32} (hL : L ≤ 3072) (hsc : sv_SX X bS L xs) (ax am : Nat → Nat) (aO : Nat) (kf : Nat → Int32) (R : va_W) (hkf : ∀ i, i < 33 → kf i = nI (pu_key (pu_stops.getD i []))) (hE : sv_E5 g R (ax 14) (ax 15) (ax 16) (ax 17) (ax 18)) (hS0 : sv_SA g R (am 7) 33 tm_0) (hS2 : sv_SA g R (am 8) (2 * 20) tm_2) (hS3 : sv_SA g R (am 9) (2 * 7) tm_3) (hS4 : sv_SA g R (am 10) (2 * 19) tm_4) (hr : ∀ (ws : va_W) (k n : Nat) (lv : List (Option Value)), k ≤ 601024 → n ≤ 7293034 → sv_V X 7 k n ws 541 lv [.int 1]) : ∀ (k i kc nc : Nat) (inl wd n : Nat) (wn th wm : Int32) (b tf wf vf ch po st b2 tf2 wf2 ch2 po2 st2 : Nat → Int32) (lo : Nat → Int64) (T : List (Nat × List Int32)) (o5 o6 : Option Value), (i ≤ 4000 ∧ L < i + 6 * (k + 1) ∧ kc + k ≤ 601024 ∧ nc + 6 * k ≤ 7293034 ∧ lw_J inl b ch po st b2 ch2 po2 st2 T) → sv_V X 7 kc nc ((lw_x g ax inl wd n wn b tf kf wf vf ch po st T) ++ (lw_o g aO lo :: ((lw_m g am inl wd n th wm b2 tf2 wf2 ch2 po2 st2 T) ++ R))) 23 [some (.ref bS), some (.ref (ax 0)), some (.ref (am 0)), some (.ref aO), some (.int (nI i)), o5, o6] [] := by
  intro k
  induction k with
  | zero =>
    intro i kc nc inl wd n wn th wm b tf wf vf ch po st b2 tf2 wf2 ch2 po2 st2 lo T o5 o6 hq
    obtain ⟨q1, q2, q3, q4, hJ⟩ := hq
    refine sv_iload C rfl d_L_law_23 ?_
    refine sv_aload_n C rfl rfl d_L_law_25 ?_
    refine sv_slen C hsc d_L_law_26 ?_
    refine sv_bipush C (v := 6) (by decide) d_L_law_27 ?_
    refine sv_isub C d_L_law_29 ?_
    refine sv_icmp_gt C 540 (by decide) d_L_law_30 (fun c30 => ?_) (fun c30 => ?_)
    · skip
      rw [lw_lt (by omega) (by omega)] at c30
      refine sv_iconst C (v := 1) (by decide) d_L_law_540 ?_
      exact hr _ _ _ _ (by omega) (by omega)
    · skip
      rw [lw_lt (by omega) (by omega)] at c30
      exact absurd c30 (by omega)
  | succ k ih =>
    intro i kc nc inl wd n wn th wm b tf wf vf ch po st b2 tf2 wf2 ch2 po2 st2 lo T o5 o6 hq
    obtain ⟨q1, q2, q3, q4, hJ⟩ := hq
    refine sv_iload C rfl d_L_law_23 ?_
    refine sv_aload_n C rfl rfl d_L_law_25 ?_
    refine sv_slen C hsc d_L_law_26 ?_
    refine sv_bipush C (v := 6) (by decide) d_L_law_27 ?_
    refine sv_isub C d_L_law_29 ?_
    refine sv_icmp_gt C 540 (by decide) d_L_law_30 (fun c30 => ?_) (fun c30 => ?_)
    · skip
      rw [lw_lt (by omega) (by omega)] at c30
      refine sv_iconst C (v := 1) (by decide) d_L_law_540 ?_
      exact hr _ _ _ _ (by omega) (by omega)
    · skip
      rw [lw_lt (by omega) (by omega)] at c30
      refine sv_aload_n C rfl rfl d_L_law_33 ?_
      refine sv_iload C rfl d_L_law_34 ?_
      refine sv_sld C hsc hL _ (by omega) d_L_law_36 ?_
      refine sv_bipush C (v := 7) (by decide) d_L_law_37 ?_
      refine sv_iand C d_L_law_39 ?_
      generalize xs i &&& 7 = q
      have hK : ∀ (inl wd n : Nat) (wn th wm : Int32) (b tf wf vf ch po st b2 tf2 wf2 ch2 po2 st2 : Nat → Int32) (lo : Nat → Int64) (T : List (Nat × List Int32)) (o5 o6 : Option Value), lw_J inl b ch po st b2 ch2 po2 st2 T → sv_V X 7 (kc + 1) (nc + 6) ((lw_x g ax inl wd n wn b tf kf wf vf ch po st T) ++ (lw_o g aO lo :: ((lw_m g am inl wd n th wm b2 tf2 wf2 ch2 po2 st2 T) ++ R))) 534 [some (.ref bS), some (.ref (ax 0)), some (.ref (am 0)), some (.ref aO), some (.int (nI i)), o5, o6] [] := by
        intro inl wd n wn th wm b tf wf vf ch po st b2 tf2 wf2 ch2 po2 st2 lo T o5 o6 hJ
        refine sv_iincN C 6 _ rfl [some _, some _, some _, some _, some _, _, _] rfl d_L_law_534 ?_
        refine sv_goto C 23 (by decide) d_L_law_537 ?_
        exact ih (i + 6) (kc + 1) (nc + 6) _ _ _ _ _ _ _ _ _ _ _ _ _ _ _ _ _ _ _ _ _ _ _ ⟨by omega, by omega, by omega, by omega, hJ⟩
      have hc : q.toInt = 0 ∨ q.toInt = 1 ∨ q.toInt = 2 ∨ q.toInt = 3 ∨ q.toInt = 4 ∨ q.toInt = 5 ∨ q.toInt = 6 ∨ q.toInt = 7 ∨ (q.toInt < 0 ∨ 7 < q.toInt) := by omega
      rcases hc with x | x | x | x | x | x | x | x | x
      · refine sv_tableIn C 88 d_L_law_40 (by omega) (by omega) (off := 48) (by rw [x]; rfl) (by decide) ?_
        exact lw_c0 hfl C hT hL hsc ax am aO kf R hkf hE hS0 hS2 hS3 hS4 i kc nc (by omega) (by omega) (by omega) inl wd n wn th wm b tf wf vf ch po st b2 tf2 wf2 ch2 po2 st2 lo T o5 o6 hJ hK
      · refine sv_tableIn C 192 d_L_law_40 (by omega) (by omega) (off := 152) (by rw [x]; rfl) (by decide) ?_
        exact lw_c1 hfl C hT hL hsc ax am aO kf R hkf hE hS0 hS2 hS3 hS4 i kc nc (by omega) (by omega) (by omega) inl wd n wn th wm b tf wf vf ch po st b2 tf2 wf2 ch2 po2 st2 lo T o5 o6 hJ hK
      · refine sv_tableIn C 248 d_L_law_40 (by omega) (by omega) (off := 208) (by rw [x]; rfl) (by decide) ?_
        exact lw_c2 hfl C hT hL hsc ax am aO kf R hkf hE hS0 hS2 hS3 hS4 i kc nc (by omega) (by omega) (by omega) inl wd n wn th wm b tf wf vf ch po st b2 tf2 wf2 ch2 po2 st2 lo T o5 o6 hJ hK
      · refine sv_tableIn C 261 d_L_law_40 (by omega) (by omega) (off := 221) (by rw [x]; rfl) (by decide) ?_
        exact lw_c3 hfl C hT hL hsc ax am aO kf R hkf hE hS0 hS2 hS3 hS4 i kc nc (by omega) (by omega) (by omega) inl wd n wn th wm b tf wf vf ch po st b2 tf2 wf2 ch2 po2 st2 lo T o5 o6 hJ hK
      · refine sv_tableIn C 329 d_L_law_40 (by omega) (by omega) (off := 289) (by rw [x]; rfl) (by decide) ?_
        exact lw_c4 hfl C hT hL hsc ax am aO kf R hkf hE hS0 hS2 hS3 hS4 i kc nc (by omega) (by omega) (by omega) inl wd n wn th wm b tf wf vf ch po st b2 tf2 wf2 ch2 po2 st2 lo T o5 o6 hJ hK
      · refine sv_tableIn C 397 d_L_law_40 (by omega) (by omega) (off := 357) (by rw [x]; rfl) (by decide) ?_
        exact lw_c5 hfl C hT hL hsc ax am aO kf R hkf hE hS0 hS2 hS3 hS4 i kc nc (by omega) (by omega) (by omega) inl wd n wn th wm b tf wf vf ch po st b2 tf2 wf2 ch2 po2 st2 lo T o5 o6 hJ hK
      · refine sv_tableIn C 453 d_L_law_40 (by omega) (by omega) (off := 413) (by rw [x]; rfl) (by decide) ?_
        exact lw_c6 hfl C hT hL hsc ax am aO kf R hkf hE hS0 hS2 hS3 hS4 i kc nc (by omega) (by omega) (by omega) inl wd n wn th wm b tf wf vf ch po st b2 tf2 wf2 ch2 po2 st2 lo T o5 o6 hJ hK
      · refine sv_tableIn C 509 d_L_law_40 (by omega) (by omega) (off := 469) (by rw [x]; rfl) (by decide) ?_
        exact lw_c7 hfl C hT hL hsc ax am aO kf R hkf hE hS0 hS2 hS3 hS4 i kc nc (by omega) (by omega) (by omega) inl wd n wn th wm b tf wf vf ch po st b2 tf2 wf2 ch2 po2 st2 lo T o5 o6 hJ hK
      · refine sv_tableOut C 534 d_L_law_40 x (by decide) ?_
        refine sv_widen (k2 := kc + 1) (n2 := nc + 6) (by omega) (by omega) ?_
        exact hK _ _ _ _ _ _ _ _ _ _ _ _ _ _ _ _ _ _ _ _ _ _ _ hJ
set_option maxHeartbeats 4000000 in
set_option maxRecDepth 100000 in
theorem lw_law {X : sv_X} {l : Launch} {g : sv_G} (hfl : l.flags = pinnedFlags ++ [noTraceFlag]) (C : sv_C X l code 7 "WordChainLaw" room_1 g) (hT : sv_CT X) {bS L : Nat} {xs : Nat → Int32} (hL : L ≤ 3072) (hsc : sv_SX X bS L xs)  (hr : ∀ (ws : va_W) (k n : Nat) (lv : List (Option Value)), k ≤ 601024 → n ≤ 7293034 → sv_V X 7 k n ws 541 lv [.int 1]) : sv_V X 7 0 0 [] 0 [some (.ref bS), none, none, none, none, none, none] [] := by
  refine sv_new_X C wk_L_8 (by decide) (by decide) d_L_law_0 (fun hX => ?_)
  refine sv_dup C rfl d_L_law_3 ?_
  refine sv_callIv C (c_X_init l g _ hX) lk_L_36 d_L_law_4 (by decide) (Nat.le_of_ble_eq_true rfl) (by decide) (fun w hw => ?_)
  obtain ⟨ax, kf, S9, rfl, rfl, hkf, hE⟩ := hw
  refine sv_astore_n C rfl (by decide) [some _, some _, none, none, none, none, none] rfl d_L_law_7 ?_
  refine sv_new_M C wk_L_37 (by decide) (by decide) d_L_law_8 (fun hM => ?_)
  refine sv_dup C rfl d_L_law_11 ?_
  refine sv_callIv C (c_M_init l g _ hM) lk_L_39 d_L_law_12 (by decide) (Nat.le_of_ble_eq_true rfl) (by decide) (fun w hw => ?_)
  obtain ⟨am, S8, rfl, rfl, hS0, hS2, hS3, hS4⟩ := hw
  refine sv_astore_n C rfl (by decide) [some _, some _, some _, none, none, none, none] rfl d_L_law_15 ?_
  refine sv_iconst C (v := 1) (by decide) d_L_law_16 ?_
  refine sv_newL C wr_long (by decide) (N := 1) (by decide) (by decide) (by decide) (by decide) d_L_law_17 (fun aO => ?_)
  refine sv_astore_n C rfl (by decide) [some _, some _, some _, some _, none, none, none] rfl d_L_law_19 ?_
  refine sv_iconst C (v := 0) (by decide) d_L_law_20 ?_
  refine sv_istore C (by decide) [some _, some _, some _, some _, some _, none, none] rfl d_L_law_21 ?_
  refine sv_Perm (ws' := (lw_x g ax 0 0 0 (nI 0) (fun _ => 0) (fun _ => 0) kf (fun _ => 0) (fun _ => 0) (fun _ => 0) (fun _ => 0) (fun _ => 0) []) ++ (lw_o g aO (fun _ => 0) :: ((lw_m g am 0 0 0 0 0 (fun _ => 0) (fun _ => 0) (fun _ => 0) (fun _ => 0) (fun _ => 0) (fun _ => 0) []) ++ (S8 ++ S9)))) ?_ ?_
  · refine List.Perm.trans (l₂ := lw_o g aO (fun _ => 0) :: ((lw_m g am 0 0 0 0 0 (fun _ => 0) (fun _ => 0) (fun _ => 0) (fun _ => 0) (fun _ => 0) (fun _ => 0) []) ++ (S8 ++ ((lw_x g ax 0 0 0 (nI 0) (fun _ => 0) (fun _ => 0) kf (fun _ => 0) (fun _ => 0) (fun _ => 0) (fun _ => 0) (fun _ => 0) []) ++ (S9 ++ []))))) (List.Perm.refl _) ?_
    rw [List.append_nil]
    refine List.Perm.trans (List.Perm.cons _ (List.Perm.append_left _ (List.perm_append_comm_assoc _ _ _))) ?_
    refine List.Perm.trans (List.Perm.cons _ (List.perm_append_comm_assoc _ _ _)) ?_
    exact (List.perm_middle (l₁ := (lw_x g ax 0 0 0 (nI 0) (fun _ => 0) (fun _ => 0) kf (fun _ => 0) (fun _ => 0) (fun _ => 0) (fun _ => 0) (fun _ => 0) []))).symm
  exact lw_loop hfl C hT hL hsc ax am aO kf (S8 ++ S9) hkf (hE.mono (fun q h => List.mem_append_right _ h)) (hS0.mono (fun q h => List.mem_append_left _ h)) (hS2.mono (fun q h => List.mem_append_left _ h)) (hS3.mono (fun q h => List.mem_append_left _ h)) (hS4.mono (fun q h => List.mem_append_left _ h)) hr 512 0 _ _ _ _ _ _ _ _ _ _ _ _ _ _ _ _ _ _ _ _ _ _ _ _ _ ⟨by omega, by omega, by decide, by decide, pu_Tok_nil rfl, pu_Tok_nil rfl, Nat.zero_le _, by decide, Nat.zero_le _, fun q _ => rfl, fun q => rfl⟩
