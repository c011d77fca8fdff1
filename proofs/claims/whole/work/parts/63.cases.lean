/-! THE LAW: its cases -/
set_option maxHeartbeats 4000000 in
set_option maxRecDepth 100000 in
theorem lw_c0 {X : sv_X} {l : Launch} {g : sv_G} (hfl : l.flags = pinnedFlags ++ [noTraceFlag]) (C : sv_C X l code 7 "WordChainLaw" room_1 g) (hT : sv_CT X) {bS L : Nat} {xs : Nat → Int32} (hL : L ≤ 3072) (hsc : sv_SX X bS L xs) (ax am : Nat → Nat) (aO : Nat) (kf : Nat → Int32) (R : va_W) (hkf : ∀ i, i < 33 → kf i = nI (pu_key (pu_stops.getD i []))) (hE : sv_E5 g R (ax 14) (ax 15) (ax 16) (ax 17) (ax 18)) (hS0 : sv_SA g R (am 7) 33 tm_0) (hS2 : sv_SA g R (am 8) (2 * 20) tm_2) (hS3 : sv_SA g R (am 9) (2 * 7) tm_3) (hS4 : sv_SA g R (am 10) (2 * 19) tm_4) (i kc nc : Nat) (hi6 : i + 6 ≤ L) (hkc : kc + 1 ≤ 601024) (hnc : nc + 6 ≤ 7293034) (inl wd n : Nat) (wn th wm : Int32) (b tf wf vf ch po st b2 tf2 wf2 ch2 po2 st2 : Nat → Int32) (lo : Nat → Int64) (T : List (Nat × List Int32)) (o5 o6 : Option Value) (hJ : lw_J inl b ch po st b2 ch2 po2 st2 T) (hk : ∀ (inl wd n : Nat) (wn th wm : Int32) (b tf wf vf ch po st b2 tf2 wf2 ch2 po2 st2 : Nat → Int32) (lo : Nat → Int64) (T : List (Nat × List Int32)) (o5 o6 : Option Value), lw_J inl b ch po st b2 ch2 po2 st2 T → sv_V X 7 (kc + 1) (nc + 6) ((lw_x g ax inl wd n wn b tf kf wf vf ch po st T) ++ (lw_o g aO lo :: ((lw_m g am inl wd n th wm b2 tf2 wf2 ch2 po2 st2 T) ++ R))) 534 [some (.ref bS), some (.ref (ax 0)), some (.ref (am 0)), some (.ref aO), some (.int (nI i)), o5, o6] []) : sv_V X 7 kc nc ((lw_x g ax inl wd n wn b tf kf wf vf ch po st T) ++ (lw_o g aO lo :: ((lw_m g am inl wd n th wm b2 tf2 wf2 ch2 po2 st2 T) ++ R))) 88 [some (.ref bS), some (.ref (ax 0)), some (.ref (am 0)), some (.ref aO), some (.int (nI i)), o5, o6] [] := by
  obtain ⟨j1, j2, j3, j4, j5, j6, j7⟩ := hJ
  rcases Nat.lt_or_ge 8192 (inl + 20) with h | h
  · skip
    refine sv_aload_n C rfl rfl d_L_law_88 ?_
    refine sv_aload_n C rfl rfl d_L_law_89 ?_
    refine sv_iload C rfl d_L_law_90 ?_
    refine sv_iconst C (v := 1) (by decide) d_L_law_92 ?_
    refine sv_iaddN C _ 1  d_L_law_93 ?_
    refine sv_sld C hsc hL _ (by omega) d_L_law_94 ?_
    refine sv_aload_n C rfl rfl d_L_law_95 ?_
    refine sv_iload C rfl d_L_law_96 ?_
    refine sv_iconst C (v := 2) (by decide) d_L_law_98 ?_
    refine sv_iaddN C _ 2  d_L_law_99 ?_
    refine sv_sld C hsc hL _ (by omega) d_L_law_100 ?_
    refine sv_aload_n C rfl rfl d_L_law_101 ?_
    refine sv_iload C rfl d_L_law_102 ?_
    refine sv_iconst C (v := 3) (by decide) d_L_law_104 ?_
    refine sv_iaddN C _ 3  d_L_law_105 ?_
    refine sv_sld C hsc hL _ (by omega) d_L_law_106 ?_
    refine sv_aload_n C rfl rfl d_L_law_107 ?_
    refine sv_iload C rfl d_L_law_108 ?_
    refine sv_iconst C (v := 4) (by decide) d_L_law_110 ?_
    refine sv_iaddN C _ 4  d_L_law_111 ?_
    refine sv_sld C hsc hL _ (by omega) d_L_law_112 ?_
    refine sv_aload_n C rfl rfl d_L_law_113 ?_
    refine sv_iload C rfl d_L_law_114 ?_
    refine sv_iconst C (v := 5) (by decide) d_L_law_116 ?_
    refine sv_iaddN C _ 5  d_L_law_117 ?_
    refine sv_sld C hsc hL _ (by omega) d_L_law_118 ?_
    refine sv_aload_n C rfl rfl d_L_law_119 ?_
    refine sv_callSh C hT (e_L_feed_x l hfl g _ ax aO lo inl wd n wn b tf kf wf vf ch po st T (xs (i + 1)) (xs (i + 2)) (xs (i + 3)) (xs (i + 4)) (xs (i + 5)) h j5) lk_L_40 d_L_law_120 (by decide) (Nat.le_of_ble_eq_true rfl) (lw_cs1 (by omega) (by omega)) (fun r w hw => ?_)
    obtain ⟨rfl, rfl⟩ := hw
    refine sv_kE (k' := kc + 1) (n' := nc + 6) rfl rfl ?_
    refine sv_istore C (by decide) [some _, some _, some _, some _, some _, some _, _] rfl d_L_law_123 ?_
    refine sv_aload_n C rfl rfl d_L_law_125 ?_
    refine sv_aload_n C rfl rfl d_L_law_126 ?_
    refine sv_iload C rfl d_L_law_127 ?_
    refine sv_iconst C (v := 1) (by decide) d_L_law_129 ?_
    refine sv_iaddN C _ 1  d_L_law_130 ?_
    refine sv_sld C hsc hL _ (by omega) d_L_law_131 ?_
    refine sv_aload_n C rfl rfl d_L_law_132 ?_
    refine sv_iload C rfl d_L_law_133 ?_
    refine sv_iconst C (v := 2) (by decide) d_L_law_135 ?_
    refine sv_iaddN C _ 2  d_L_law_136 ?_
    refine sv_sld C hsc hL _ (by omega) d_L_law_137 ?_
    refine sv_aload_n C rfl rfl d_L_law_138 ?_
    refine sv_iload C rfl d_L_law_139 ?_
    refine sv_iconst C (v := 3) (by decide) d_L_law_141 ?_
    refine sv_iaddN C _ 3  d_L_law_142 ?_
    refine sv_sld C hsc hL _ (by omega) d_L_law_143 ?_
    refine sv_aload_n C rfl rfl d_L_law_144 ?_
    refine sv_iload C rfl d_L_law_145 ?_
    refine sv_iconst C (v := 4) (by decide) d_L_law_147 ?_
    refine sv_iaddN C _ 4  d_L_law_148 ?_
    refine sv_sld C hsc hL _ (by omega) d_L_law_149 ?_
    refine sv_aload_n C rfl rfl d_L_law_150 ?_
    refine sv_iload C rfl d_L_law_151 ?_
    refine sv_iconst C (v := 5) (by decide) d_L_law_153 ?_
    refine sv_iaddN C _ 5  d_L_law_154 ?_
    refine sv_sld C hsc hL _ (by omega) d_L_law_155 ?_
    refine sv_Perm (lw_pm _ _ _ _) ?_
    refine sv_callVi C (e_M_feed_no l g _ am inl wd n th wm b2 tf2 wf2 ch2 po2 st2 T (xs (i + 1)) (xs (i + 2)) (xs (i + 3)) (xs (i + 4)) (xs (i + 5)) h j5) lk_L_45 List.mem_cons_self rfl d_L_law_156 (by decide) (Nat.le_of_ble_eq_true rfl) (lw_cs0 (by omega) (by omega)) (fun r w hw => ?_)
    obtain ⟨rfl, rfl⟩ := hw
    refine sv_Perm (lw_mp _ _ _ _) ?_
    refine sv_kE (k' := (kc + 1)) (n' := (nc + 6)) rfl rfl ?_
    refine sv_istore C (by decide) [some _, some _, some _, some _, some _, some _, some _] rfl d_L_law_159 ?_
    refine sv_aload_n C rfl rfl d_L_law_161 ?_
    refine sv_Perm (lw_pm _ _ _ _) ?_
    refine sv_callVi C (e_M_thrown l g _ am inl wd n 1 wm b2 tf2 wf2 ch2 po2 st2 T) lk_L_46 List.mem_cons_self rfl d_L_law_162 (by decide) (Nat.le_of_ble_eq_true rfl) (lw_cs0 (by omega) (by omega)) (fun r w hw => ?_)
    obtain ⟨rfl, rfl⟩ := hw
    refine sv_Perm (lw_mp _ _ _ _) ?_
    refine sv_kE (k' := (kc + 1)) (n' := (nc + 6)) rfl rfl ?_
    refine sv_iload C rfl d_L_law_165 ?_
    refine sv_icmpK_eq C (1) (by decide) 172 (by decide) d_L_law_167 (fun c167 => ?_) (fun c167 => ?_)
    · skip
      refine sv_iload C rfl d_L_law_172 ?_
      refine sv_ifZ_ne C 189 (by decide) d_L_law_174 (fun c174 => ?_) (fun c174 => ?_)
      · skip
        refine sv_goto C 534 (by decide) d_L_law_189 ?_
        exact hk _ _ _ _ _ _ _ _ _ _ _ _ _ _ _ _ _ _ _ _ _ _ _ ⟨j1, j2, j3, j4, j5, j6, j7⟩
      · skip
        exact absurd c174 (by decide)
    · skip
      exact absurd (by decide) c167
  · skip
    refine sv_aload_n C rfl rfl d_L_law_88 ?_
    refine sv_aload_n C rfl rfl d_L_law_89 ?_
    refine sv_iload C rfl d_L_law_90 ?_
    refine sv_iconst C (v := 1) (by decide) d_L_law_92 ?_
    refine sv_iaddN C _ 1  d_L_law_93 ?_
    refine sv_sld C hsc hL _ (by omega) d_L_law_94 ?_
    refine sv_aload_n C rfl rfl d_L_law_95 ?_
    refine sv_iload C rfl d_L_law_96 ?_
    refine sv_iconst C (v := 2) (by decide) d_L_law_98 ?_
    refine sv_iaddN C _ 2  d_L_law_99 ?_
    refine sv_sld C hsc hL _ (by omega) d_L_law_100 ?_
    refine sv_aload_n C rfl rfl d_L_law_101 ?_
    refine sv_iload C rfl d_L_law_102 ?_
    refine sv_iconst C (v := 3) (by decide) d_L_law_104 ?_
    refine sv_iaddN C _ 3  d_L_law_105 ?_
    refine sv_sld C hsc hL _ (by omega) d_L_law_106 ?_
    refine sv_aload_n C rfl rfl d_L_law_107 ?_
    refine sv_iload C rfl d_L_law_108 ?_
    refine sv_iconst C (v := 4) (by decide) d_L_law_110 ?_
    refine sv_iaddN C _ 4  d_L_law_111 ?_
    refine sv_sld C hsc hL _ (by omega) d_L_law_112 ?_
    refine sv_aload_n C rfl rfl d_L_law_113 ?_
    refine sv_iload C rfl d_L_law_114 ?_
    refine sv_iconst C (v := 5) (by decide) d_L_law_116 ?_
    refine sv_iaddN C _ 5  d_L_law_117 ?_
    refine sv_sld C hsc hL _ (by omega) d_L_law_118 ?_
    refine sv_aload_n C rfl rfl d_L_law_119 ?_
    refine sv_callSh C hT (e_L_feed l g _ ax aO lo inl wd n wn b tf kf wf vf ch po st T (xs (i + 1)) (xs (i + 2)) (xs (i + 3)) (xs (i + 4)) (xs (i + 5)) h) lk_L_40 d_L_law_120 (by decide) (Nat.le_of_ble_eq_true rfl) (lw_cs1 (by omega) (by omega)) (fun r w hw => ?_)
    obtain ⟨rfl, b9, rfl, hF⟩ := hw
    refine sv_kE (k' := kc + 1) (n' := nc + 6) rfl rfl ?_
    refine sv_istore C (by decide) [some _, some _, some _, some _, some _, some _, _] rfl d_L_law_123 ?_
    refine sv_aload_n C rfl rfl d_L_law_125 ?_
    refine sv_aload_n C rfl rfl d_L_law_126 ?_
    refine sv_iload C rfl d_L_law_127 ?_
    refine sv_iconst C (v := 1) (by decide) d_L_law_129 ?_
    refine sv_iaddN C _ 1  d_L_law_130 ?_
    refine sv_sld C hsc hL _ (by omega) d_L_law_131 ?_
    refine sv_aload_n C rfl rfl d_L_law_132 ?_
    refine sv_iload C rfl d_L_law_133 ?_
    refine sv_iconst C (v := 2) (by decide) d_L_law_135 ?_
    refine sv_iaddN C _ 2  d_L_law_136 ?_
    refine sv_sld C hsc hL _ (by omega) d_L_law_137 ?_
    refine sv_aload_n C rfl rfl d_L_law_138 ?_
    refine sv_iload C rfl d_L_law_139 ?_
    refine sv_iconst C (v := 3) (by decide) d_L_law_141 ?_
    refine sv_iaddN C _ 3  d_L_law_142 ?_
    refine sv_sld C hsc hL _ (by omega) d_L_law_143 ?_
    refine sv_aload_n C rfl rfl d_L_law_144 ?_
    refine sv_iload C rfl d_L_law_145 ?_
    refine sv_iconst C (v := 4) (by decide) d_L_law_147 ?_
    refine sv_iaddN C _ 4  d_L_law_148 ?_
    refine sv_sld C hsc hL _ (by omega) d_L_law_149 ?_
    refine sv_aload_n C rfl rfl d_L_law_150 ?_
    refine sv_iload C rfl d_L_law_151 ?_
    refine sv_iconst C (v := 5) (by decide) d_L_law_153 ?_
    refine sv_iaddN C _ 5  d_L_law_154 ?_
    refine sv_sld C hsc hL _ (by omega) d_L_law_155 ?_
    refine sv_Perm (lw_pm _ _ _ _) ?_
    refine sv_callVi C (e_M_feed l g _ am inl wd n th wm b2 tf2 wf2 ch2 po2 st2 T (xs (i + 1)) (xs (i + 2)) (xs (i + 3)) (xs (i + 4)) (xs (i + 5)) h) lk_L_45 List.mem_cons_self rfl d_L_law_156 (by decide) (Nat.le_of_ble_eq_true rfl) (lw_cs0 (by omega) (by omega)) (fun r w hw => ?_)
    obtain ⟨rfl, b8, rfl, hF2⟩ := hw
    refine sv_Perm (lw_mp _ _ _ _) ?_
    refine sv_kE (k' := (kc + 1)) (n' := (nc + 6)) rfl rfl ?_
    refine sv_istore C (by decide) [some _, some _, some _, some _, some _, some _, some _] rfl d_L_law_159 ?_
    refine sv_aload_n C rfl rfl d_L_law_161 ?_
    refine sv_Perm (lw_pm _ _ _ _) ?_
    refine sv_callVi C (e_M_thrown l g _ am (inl + 20) wd n 0 wm b8 tf2 wf2 ch2 po2 st2 T) lk_L_46 List.mem_cons_self rfl d_L_law_162 (by decide) (Nat.le_of_ble_eq_true rfl) (lw_cs0 (by omega) (by omega)) (fun r w hw => ?_)
    obtain ⟨rfl, rfl⟩ := hw
    refine sv_Perm (lw_mp _ _ _ _) ?_
    refine sv_kE (k' := (kc + 1)) (n' := (nc + 6)) rfl rfl ?_
    refine sv_iload C rfl d_L_law_165 ?_
    refine sv_icmpK_eq C (0) (by decide) 172 (by decide) d_L_law_167 (fun c167 => ?_) (fun c167 => ?_)
    · skip
      refine sv_iload C rfl d_L_law_172 ?_
      refine sv_ifZ_ne C 189 (by decide) d_L_law_174 (fun c174 => ?_) (fun c174 => ?_)
      · skip
        exact absurd c174 (by decide)
      · skip
        refine sv_aload_n C rfl rfl d_L_law_177 ?_
        refine sv_iconst C (v := 0) (by decide) d_L_law_178 ?_
        refine sv_lald C 14 rfl (by unfold vp_in; decide) d_L_law_179 ?_
        refine sv_iload C rfl d_L_law_180 ?_
        refine sv_i2l C d_L_law_182 ?_
        refine sv_lcmp C d_L_law_183 ?_
        refine sv_eqi (lw_cmp0 _ _) ?_
        refine sv_ifZ_eq C 189 (by decide) d_L_law_184 (fun c184 => ?_) (fun c184 => ?_)
        · skip
          refine sv_goto C 534 (by decide) d_L_law_189 ?_
          exact hk _ _ _ _ _ _ _ _ _ _ _ _ _ _ _ _ _ _ _ _ _ _ _ ⟨j1, j2, j3, j4, h, lw_feedE j6 hF hF2, hF.2.2 j7⟩
        · skip
          exact absurd c184 (by decide)
    · skip
      exact absurd (by decide) c167
set_option maxHeartbeats 4000000 in
set_option maxRecDepth 100000 in
theorem lw_c1 {X : sv_X} {l : Launch} {g : sv_G} (hfl : l.flags = pinnedFlags ++ [noTraceFlag]) (C : sv_C X l code 7 "WordChainLaw" room_1 g) (hT : sv_CT X) {bS L : Nat} {xs : Nat → Int32} (hL : L ≤ 3072) (hsc : sv_SX X bS L xs) (ax am : Nat → Nat) (aO : Nat) (kf : Nat → Int32) (R : va_W) (hkf : ∀ i, i < 33 → kf i = nI (pu_key (pu_stops.getD i []))) (hE : sv_E5 g R (ax 14) (ax 15) (ax 16) (ax 17) (ax 18)) (hS0 : sv_SA g R (am 7) 33 tm_0) (hS2 : sv_SA g R (am 8) (2 * 20) tm_2) (hS3 : sv_SA g R (am 9) (2 * 7) tm_3) (hS4 : sv_SA g R (am 10) (2 * 19) tm_4) (i kc nc : Nat) (hi6 : i + 6 ≤ L) (hkc : kc + 1 ≤ 601024) (hnc : nc + 6 ≤ 7293034) (inl wd n : Nat) (wn th wm : Int32) (b tf wf vf ch po st b2 tf2 wf2 ch2 po2 st2 : Nat → Int32) (lo : Nat → Int64) (T : List (Nat × List Int32)) (o5 o6 : Option Value) (hJ : lw_J inl b ch po st b2 ch2 po2 st2 T) (hk : ∀ (inl wd n : Nat) (wn th wm : Int32) (b tf wf vf ch po st b2 tf2 wf2 ch2 po2 st2 : Nat → Int32) (lo : Nat → Int64) (T : List (Nat × List Int32)) (o5 o6 : Option Value), lw_J inl b ch po st b2 ch2 po2 st2 T → sv_V X 7 (kc + 1) (nc + 6) ((lw_x g ax inl wd n wn b tf kf wf vf ch po st T) ++ (lw_o g aO lo :: ((lw_m g am inl wd n th wm b2 tf2 wf2 ch2 po2 st2 T) ++ R))) 534 [some (.ref bS), some (.ref (ax 0)), some (.ref (am 0)), some (.ref aO), some (.int (nI i)), o5, o6] []) : sv_V X 7 kc nc ((lw_x g ax inl wd n wn b tf kf wf vf ch po st T) ++ (lw_o g aO lo :: ((lw_m g am inl wd n th wm b2 tf2 wf2 ch2 po2 st2 T) ++ R))) 192 [some (.ref bS), some (.ref (ax 0)), some (.ref (am 0)), some (.ref aO), some (.int (nI i)), o5, o6] [] := by
  obtain ⟨j1, j2, j3, j4, j5, j6, j7⟩ := hJ
  have hc : (xs (i + 1)).toInt < 0 ∨ 19 < (xs (i + 1)).toInt ∨ (0 ≤ (xs (i + 1)).toInt ∧ (xs (i + 1)).toInt < (20 : Nat)) := by omega
  by_cases hq : (xs (i + 1)).toInt < 0 ∨ 19 < (xs (i + 1)).toInt
  · skip
    refine sv_aload_n C rfl rfl d_L_law_192 ?_
    refine sv_aload_n C rfl rfl d_L_law_193 ?_
    refine sv_iload C rfl d_L_law_194 ?_
    refine sv_iconst C (v := 1) (by decide) d_L_law_196 ?_
    refine sv_iaddN C _ 1  d_L_law_197 ?_
    refine sv_sld C hsc hL _ (by omega) d_L_law_198 ?_
    refine sv_aload_n C rfl rfl d_L_law_199 ?_
    refine sv_callSh C hT (e_L_end_x1 l hfl g _ ax aO lo inl wd n wn b tf kf wf vf ch po st T (xs (i + 1)) hq) lk_L_50 d_L_law_200 (by decide) (Nat.le_of_ble_eq_true rfl) (lw_cs1 (by omega) (by omega)) (fun r w hw => ?_)
    obtain ⟨rfl, rfl⟩ := hw
    refine sv_kE (k' := kc + 1) (n' := nc + 6) rfl rfl ?_
    refine sv_istore C (by decide) [some _, some _, some _, some _, some _, some _, _] rfl d_L_law_203 ?_
    refine sv_aload_n C rfl rfl d_L_law_205 ?_
    refine sv_aload_n C rfl rfl d_L_law_206 ?_
    refine sv_iload C rfl d_L_law_207 ?_
    refine sv_iconst C (v := 1) (by decide) d_L_law_209 ?_
    refine sv_iaddN C _ 1  d_L_law_210 ?_
    refine sv_sld C hsc hL _ (by omega) d_L_law_211 ?_
    refine sv_Perm (lw_pm _ _ _ _) ?_
    refine sv_callVi C (e_M_end_no1 l g _ am inl wd n th wm b2 tf2 wf2 ch2 po2 st2 T (xs (i + 1)) hq) lk_L_53 List.mem_cons_self rfl d_L_law_212 (by decide) (Nat.le_of_ble_eq_true rfl) (lw_cs0 (by omega) (by omega)) (fun r w hw => ?_)
    obtain ⟨rfl, rfl⟩ := hw
    refine sv_Perm (lw_mp _ _ _ _) ?_
    refine sv_kE (k' := (kc + 1)) (n' := (nc + 6)) rfl rfl ?_
    refine sv_istore C (by decide) [some _, some _, some _, some _, some _, some _, some _] rfl d_L_law_215 ?_
    refine sv_aload_n C rfl rfl d_L_law_217 ?_
    refine sv_Perm (lw_pm _ _ _ _) ?_
    refine sv_callVi C (e_M_thrown l g _ am inl wd n 1 wm b2 tf2 wf2 ch2 po2 st2 T) lk_L_46 List.mem_cons_self rfl d_L_law_218 (by decide) (Nat.le_of_ble_eq_true rfl) (lw_cs0 (by omega) (by omega)) (fun r w hw => ?_)
    obtain ⟨rfl, rfl⟩ := hw
    refine sv_Perm (lw_mp _ _ _ _) ?_
    refine sv_kE (k' := (kc + 1)) (n' := (nc + 6)) rfl rfl ?_
    refine sv_iload C rfl d_L_law_221 ?_
    refine sv_icmpK_eq C (1) (by decide) 228 (by decide) d_L_law_223 (fun c223 => ?_) (fun c223 => ?_)
    · skip
      refine sv_iload C rfl d_L_law_228 ?_
      refine sv_ifZ_ne C 245 (by decide) d_L_law_230 (fun c230 => ?_) (fun c230 => ?_)
      · skip
        refine sv_goto C 534 (by decide) d_L_law_245 ?_
        exact hk _ _ _ _ _ _ _ _ _ _ _ _ _ _ _ _ _ _ _ _ _ _ _ ⟨j1, j2, j3, j4, j5, j6, j7⟩
      · skip
        exact absurd c230 (by decide)
    · skip
      exact absurd (by decide) c223
  obtain ⟨m, hm, em⟩ := lw_in (n := 20) (v := xs (i + 1)) (by omega)
  rcases Nat.lt_or_ge inl (20 - m) with h | h
  · skip
    refine sv_aload_n C rfl rfl d_L_law_192 ?_
    refine sv_aload_n C rfl rfl d_L_law_193 ?_
    refine sv_iload C rfl d_L_law_194 ?_
    refine sv_iconst C (v := 1) (by decide) d_L_law_196 ?_
    refine sv_iaddN C _ 1  d_L_law_197 ?_
    refine sv_sld C hsc hL _ (by omega) d_L_law_198 ?_
    refine sv_eqi (em) ?_
    refine sv_aload_n C rfl rfl d_L_law_199 ?_
    refine sv_callSh C hT (e_L_end_x2 l hfl g _ ax aO lo inl wd n wn b tf kf wf vf ch po st T m hm h) lk_L_50 d_L_law_200 (by decide) (Nat.le_of_ble_eq_true rfl) (lw_cs1 (by omega) (by omega)) (fun r w hw => ?_)
    obtain ⟨rfl, rfl⟩ := hw
    refine sv_kE (k' := kc + 1) (n' := nc + 6) rfl rfl ?_
    refine sv_istore C (by decide) [some _, some _, some _, some _, some _, some _, _] rfl d_L_law_203 ?_
    refine sv_aload_n C rfl rfl d_L_law_205 ?_
    refine sv_aload_n C rfl rfl d_L_law_206 ?_
    refine sv_iload C rfl d_L_law_207 ?_
    refine sv_iconst C (v := 1) (by decide) d_L_law_209 ?_
    refine sv_iaddN C _ 1  d_L_law_210 ?_
    refine sv_sld C hsc hL _ (by omega) d_L_law_211 ?_
    refine sv_eqi (em) ?_
    refine sv_Perm (lw_pm _ _ _ _) ?_
    refine sv_callVi C (e_M_end_no2 l g _ am inl wd n th wm b2 tf2 wf2 ch2 po2 st2 T m hm h) lk_L_53 List.mem_cons_self rfl d_L_law_212 (by decide) (Nat.le_of_ble_eq_true rfl) (lw_cs0 (by omega) (by omega)) (fun r w hw => ?_)
    obtain ⟨rfl, rfl⟩ := hw
    refine sv_Perm (lw_mp _ _ _ _) ?_
    refine sv_kE (k' := (kc + 1)) (n' := (nc + 6)) rfl rfl ?_
    refine sv_istore C (by decide) [some _, some _, some _, some _, some _, some _, some _] rfl d_L_law_215 ?_
    refine sv_aload_n C rfl rfl d_L_law_217 ?_
    refine sv_Perm (lw_pm _ _ _ _) ?_
    refine sv_callVi C (e_M_thrown l g _ am inl wd n 1 wm b2 tf2 wf2 ch2 po2 st2 T) lk_L_46 List.mem_cons_self rfl d_L_law_218 (by decide) (Nat.le_of_ble_eq_true rfl) (lw_cs0 (by omega) (by omega)) (fun r w hw => ?_)
    obtain ⟨rfl, rfl⟩ := hw
    refine sv_Perm (lw_mp _ _ _ _) ?_
    refine sv_kE (k' := (kc + 1)) (n' := (nc + 6)) rfl rfl ?_
    refine sv_iload C rfl d_L_law_221 ?_
    refine sv_icmpK_eq C (1) (by decide) 228 (by decide) d_L_law_223 (fun c223 => ?_) (fun c223 => ?_)
    · skip
      refine sv_iload C rfl d_L_law_228 ?_
      refine sv_ifZ_ne C 245 (by decide) d_L_law_230 (fun c230 => ?_) (fun c230 => ?_)
      · skip
        refine sv_goto C 534 (by decide) d_L_law_245 ?_
        exact hk _ _ _ _ _ _ _ _ _ _ _ _ _ _ _ _ _ _ _ _ _ _ _ ⟨j1, j2, j3, j4, j5, j6, j7⟩
      · skip
        exact absurd c230 (by decide)
    · skip
      exact absurd (by decide) c223
  · skip
    refine sv_aload_n C rfl rfl d_L_law_192 ?_
    refine sv_aload_n C rfl rfl d_L_law_193 ?_
    refine sv_iload C rfl d_L_law_194 ?_
    refine sv_iconst C (v := 1) (by decide) d_L_law_196 ?_
    refine sv_iaddN C _ 1  d_L_law_197 ?_
    refine sv_sld C hsc hL _ (by omega) d_L_law_198 ?_
    refine sv_eqi (em) ?_
    refine sv_aload_n C rfl rfl d_L_law_199 ?_
    refine sv_callSh C hT (e_L_end l g _ ax aO lo inl wd n wn b tf kf wf vf ch po st T m hm h j5) lk_L_50 d_L_law_200 (by decide) (Nat.le_of_ble_eq_true rfl) (lw_cs1 (by omega) (by omega)) (fun r w hw => ?_)
    obtain ⟨rfl, rfl⟩ := hw
    refine sv_kE (k' := kc + 1) (n' := nc + 6) rfl rfl ?_
    refine sv_istore C (by decide) [some _, some _, some _, some _, some _, some _, _] rfl d_L_law_203 ?_
    refine sv_aload_n C rfl rfl d_L_law_205 ?_
    refine sv_aload_n C rfl rfl d_L_law_206 ?_
    refine sv_iload C rfl d_L_law_207 ?_
    refine sv_iconst C (v := 1) (by decide) d_L_law_209 ?_
    refine sv_iaddN C _ 1  d_L_law_210 ?_
    refine sv_sld C hsc hL _ (by omega) d_L_law_211 ?_
    refine sv_eqi (em) ?_
    refine sv_Perm (lw_pm _ _ _ _) ?_
    refine sv_callVi C (e_M_end l g _ am inl wd n th wm b2 tf2 wf2 ch2 po2 st2 T m hm h j5) lk_L_53 List.mem_cons_self rfl d_L_law_212 (by decide) (Nat.le_of_ble_eq_true rfl) (lw_cs0 (by omega) (by omega)) (fun r w hw => ?_)
    obtain ⟨rfl, rfl⟩ := hw
    refine sv_Perm (lw_mp _ _ _ _) ?_
    refine sv_kE (k' := (kc + 1)) (n' := (nc + 6)) rfl rfl ?_
    refine sv_istore C (by decide) [some _, some _, some _, some _, some _, some _, some _] rfl d_L_law_215 ?_
    refine sv_aload_n C rfl rfl d_L_law_217 ?_
    refine sv_Perm (lw_pm _ _ _ _) ?_
    refine sv_callVi C (e_M_thrown l g _ am (inl - (20 - m)) wd n 0 wm b2 tf2 wf2 ch2 po2 st2 T) lk_L_46 List.mem_cons_self rfl d_L_law_218 (by decide) (Nat.le_of_ble_eq_true rfl) (lw_cs0 (by omega) (by omega)) (fun r w hw => ?_)
    obtain ⟨rfl, rfl⟩ := hw
    refine sv_Perm (lw_mp _ _ _ _) ?_
    refine sv_kE (k' := (kc + 1)) (n' := (nc + 6)) rfl rfl ?_
    refine sv_iload C rfl d_L_law_221 ?_
    refine sv_icmpK_eq C (0) (by decide) 228 (by decide) d_L_law_223 (fun c223 => ?_) (fun c223 => ?_)
    · skip
      refine sv_iload C rfl d_L_law_228 ?_
      refine sv_ifZ_ne C 245 (by decide) d_L_law_230 (fun c230 => ?_) (fun c230 => ?_)
      · skip
        exact absurd c230 (by decide)
      · skip
        refine sv_aload_n C rfl rfl d_L_law_233 ?_
        refine sv_iconst C (v := 0) (by decide) d_L_law_234 ?_
        refine sv_lald C 14 rfl (by unfold vp_in; decide) d_L_law_235 ?_
        refine sv_iload C rfl d_L_law_236 ?_
        refine sv_i2l C d_L_law_238 ?_
        refine sv_lcmp C d_L_law_239 ?_
        refine sv_eqi (lw_cmp0 _ _) ?_
        refine sv_ifZ_eq C 245 (by decide) d_L_law_240 (fun c240 => ?_) (fun c240 => ?_)
        · skip
          refine sv_goto C 534 (by decide) d_L_law_245 ?_
          exact hk _ _ _ _ _ _ _ _ _ _ _ _ _ _ _ _ _ _ _ _ _ _ _ ⟨j1, j2, j3, j4, by omega, fun q hq => j6 q (by omega), j7⟩
        · skip
          exact absurd c240 (by decide)
    · skip
      exact absurd (by decide) c223
set_option maxHeartbeats 4000000 in
set_option maxRecDepth 100000 in
theorem lw_c2 {X : sv_X} {l : Launch} {g : sv_G} (hfl : l.flags = pinnedFlags ++ [noTraceFlag]) (C : sv_C X l code 7 "WordChainLaw" room_1 g) (hT : sv_CT X) {bS L : Nat} {xs : Nat → Int32} (hL : L ≤ 3072) (hsc : sv_SX X bS L xs) (ax am : Nat → Nat) (aO : Nat) (kf : Nat → Int32) (R : va_W) (hkf : ∀ i, i < 33 → kf i = nI (pu_key (pu_stops.getD i []))) (hE : sv_E5 g R (ax 14) (ax 15) (ax 16) (ax 17) (ax 18)) (hS0 : sv_SA g R (am 7) 33 tm_0) (hS2 : sv_SA g R (am 8) (2 * 20) tm_2) (hS3 : sv_SA g R (am 9) (2 * 7) tm_3) (hS4 : sv_SA g R (am 10) (2 * 19) tm_4) (i kc nc : Nat) (hi6 : i + 6 ≤ L) (hkc : kc + 1 ≤ 601024) (hnc : nc + 6 ≤ 7293034) (inl wd n : Nat) (wn th wm : Int32) (b tf wf vf ch po st b2 tf2 wf2 ch2 po2 st2 : Nat → Int32) (lo : Nat → Int64) (T : List (Nat × List Int32)) (o5 o6 : Option Value) (hJ : lw_J inl b ch po st b2 ch2 po2 st2 T) (hk : ∀ (inl wd n : Nat) (wn th wm : Int32) (b tf wf vf ch po st b2 tf2 wf2 ch2 po2 st2 : Nat → Int32) (lo : Nat → Int64) (T : List (Nat × List Int32)) (o5 o6 : Option Value), lw_J inl b ch po st b2 ch2 po2 st2 T → sv_V X 7 (kc + 1) (nc + 6) ((lw_x g ax inl wd n wn b tf kf wf vf ch po st T) ++ (lw_o g aO lo :: ((lw_m g am inl wd n th wm b2 tf2 wf2 ch2 po2 st2 T) ++ R))) 534 [some (.ref bS), some (.ref (ax 0)), some (.ref (am 0)), some (.ref aO), some (.int (nI i)), o5, o6] []) : sv_V X 7 kc nc ((lw_x g ax inl wd n wn b tf kf wf vf ch po st T) ++ (lw_o g aO lo :: ((lw_m g am inl wd n th wm b2 tf2 wf2 ch2 po2 st2 T) ++ R))) 248 [some (.ref bS), some (.ref (ax 0)), some (.ref (am 0)), some (.ref aO), some (.int (nI i)), o5, o6] [] := by
  obtain ⟨j1, j2, j3, j4, j5, j6, j7⟩ := hJ
  refine sv_aload_n C rfl rfl d_L_law_248 ?_
  refine sv_callVi C (e_X_cut l g _ ax inl wd n wn b tf kf wf vf ch po st T j1 j3 j4 hkf (hE.mono (fun q h => List.mem_cons_of_mem _ (List.mem_append_right _ h))) j5 j7) lk_L_54 List.mem_cons_self rfl d_L_law_249 (by decide) (Nat.le_of_ble_eq_true rfl) (lw_cs0 (by omega) (by omega)) (fun r w hw => ?_)
  obtain ⟨wn9, tf9, wf9, vf9, ch9, po9, st9, q1, rfl, rfl, q4, q5, q6⟩ := hw
  refine sv_kE (k' := kc) (n' := nc) rfl rfl ?_
  refine sv_aload_n C rfl rfl d_L_law_252 ?_
  refine sv_Perm (lw_pm _ _ _ _) ?_
  refine sv_callVi C (e_M_cut_v l g _ am inl wd n th wm b2 tf2 wf2 ch2 po2 st2 T j5 (hS0.mono (fun q h => List.mem_append_right _ (List.mem_cons_of_mem _ h))) (hS2.mono (fun q h => List.mem_append_right _ (List.mem_cons_of_mem _ h))) (hS3.mono (fun q h => List.mem_append_right _ (List.mem_cons_of_mem _ h))) (hS4.mono (fun q h => List.mem_append_right _ (List.mem_cons_of_mem _ h)))) lk_L_57 List.mem_cons_self rfl d_L_law_253 (by decide) (Nat.le_of_ble_eq_true rfl) (lw_cs0 (by omega) (by omega)) (fun r w hw => ?_)
  obtain ⟨wm8, tf8, wf8, ch8, po8, st8, t1, rfl, rfl, t4, t5, t6⟩ := hw
  obtain ⟨e1, e2⟩ := lw_cutE j6 q1 t1
  rw [e2] at t4 t5 t6
  rw [e2, e1]
  refine sv_Perm (lw_mp _ _ _ _) ?_
  refine sv_kE (k' := kc) (n' := nc) rfl rfl ?_
  refine sv_icmp_eq C 534 (by decide) d_L_law_256 (fun c256 => ?_) (fun c256 => ?_)
  · skip
    refine sv_widen (k2 := kc + 1) (n2 := nc + 6) (by omega) (by omega) ?_
    exact hk _ _ _ _ _ _ _ _ _ _ _ _ _ _ _ _ _ _ _ _ _ _ _ ⟨q4, t4, q6, q5, Nat.zero_le _, fun q hq => absurd hq (Nat.not_lt_zero q), j7⟩
  · skip
    exact absurd rfl c256
set_option maxHeartbeats 4000000 in
set_option maxRecDepth 100000 in
theorem lw_c3 {X : sv_X} {l : Launch} {g : sv_G} (hfl : l.flags = pinnedFlags ++ [noTraceFlag]) (C : sv_C X l code 7 "WordChainLaw" room_1 g) (hT : sv_CT X) {bS L : Nat} {xs : Nat → Int32} (hL : L ≤ 3072) (hsc : sv_SX X bS L xs) (ax am : Nat → Nat) (aO : Nat) (kf : Nat → Int32) (R : va_W) (hkf : ∀ i, i < 33 → kf i = nI (pu_key (pu_stops.getD i []))) (hE : sv_E5 g R (ax 14) (ax 15) (ax 16) (ax 17) (ax 18)) (hS0 : sv_SA g R (am 7) 33 tm_0) (hS2 : sv_SA g R (am 8) (2 * 20) tm_2) (hS3 : sv_SA g R (am 9) (2 * 7) tm_3) (hS4 : sv_SA g R (am 10) (2 * 19) tm_4) (i kc nc : Nat) (hi6 : i + 6 ≤ L) (hkc : kc + 1 ≤ 601024) (hnc : nc + 6 ≤ 7293034) (inl wd n : Nat) (wn th wm : Int32) (b tf wf vf ch po st b2 tf2 wf2 ch2 po2 st2 : Nat → Int32) (lo : Nat → Int64) (T : List (Nat × List Int32)) (o5 o6 : Option Value) (hJ : lw_J inl b ch po st b2 ch2 po2 st2 T) (hk : ∀ (inl wd n : Nat) (wn th wm : Int32) (b tf wf vf ch po st b2 tf2 wf2 ch2 po2 st2 : Nat → Int32) (lo : Nat → Int64) (T : List (Nat × List Int32)) (o5 o6 : Option Value), lw_J inl b ch po st b2 ch2 po2 st2 T → sv_V X 7 (kc + 1) (nc + 6) ((lw_x g ax inl wd n wn b tf kf wf vf ch po st T) ++ (lw_o g aO lo :: ((lw_m g am inl wd n th wm b2 tf2 wf2 ch2 po2 st2 T) ++ R))) 534 [some (.ref bS), some (.ref (ax 0)), some (.ref (am 0)), some (.ref aO), some (.int (nI i)), o5, o6] []) : sv_V X 7 kc nc ((lw_x g ax inl wd n wn b tf kf wf vf ch po st T) ++ (lw_o g aO lo :: ((lw_m g am inl wd n th wm b2 tf2 wf2 ch2 po2 st2 T) ++ R))) 261 [some (.ref bS), some (.ref (ax 0)), some (.ref (am 0)), some (.ref aO), some (.int (nI i)), o5, o6] [] := by
  obtain ⟨j1, j2, j3, j4, j5, j6, j7⟩ := hJ
  by_cases hq : (xs (i + 2)).toInt < 0 ∨ 1 < (xs (i + 2)).toInt
  · skip
    refine sv_aload_n C rfl rfl d_L_law_261 ?_
    refine sv_aload_n C rfl rfl d_L_law_262 ?_
    refine sv_iload C rfl d_L_law_263 ?_
    refine sv_iconst C (v := 1) (by decide) d_L_law_265 ?_
    refine sv_iaddN C _ 1  d_L_law_266 ?_
    refine sv_sld C hsc hL _ (by omega) d_L_law_267 ?_
    refine sv_aload_n C rfl rfl d_L_law_268 ?_
    refine sv_iload C rfl d_L_law_269 ?_
    refine sv_iconst C (v := 2) (by decide) d_L_law_271 ?_
    refine sv_iaddN C _ 2  d_L_law_272 ?_
    refine sv_sld C hsc hL _ (by omega) d_L_law_273 ?_
    refine sv_aload_n C rfl rfl d_L_law_274 ?_
    refine sv_callSh C hT (e_L_token_x1 l hfl g _ ax aO lo inl wd n wn b tf kf wf vf ch po st T (xs (i + 1)) (xs (i + 2)) hq) lk_L_58 d_L_law_275 (by decide) (Nat.le_of_ble_eq_true rfl) (lw_cs1 (by omega) (by omega)) (fun r w hw => ?_)
    obtain ⟨rfl, rfl⟩ := hw
    refine sv_kE (k' := kc + 1) (n' := nc + 6) rfl rfl ?_
    refine sv_istore C (by decide) [some _, some _, some _, some _, some _, some _, _] rfl d_L_law_278 ?_
    refine sv_aload_n C rfl rfl d_L_law_280 ?_
    refine sv_aload_n C rfl rfl d_L_law_281 ?_
    refine sv_iload C rfl d_L_law_282 ?_
    refine sv_iconst C (v := 1) (by decide) d_L_law_284 ?_
    refine sv_iaddN C _ 1  d_L_law_285 ?_
    refine sv_sld C hsc hL _ (by omega) d_L_law_286 ?_
    refine sv_aload_n C rfl rfl d_L_law_287 ?_
    refine sv_iload C rfl d_L_law_288 ?_
    refine sv_iconst C (v := 2) (by decide) d_L_law_290 ?_
    refine sv_iaddN C _ 2  d_L_law_291 ?_
    refine sv_sld C hsc hL _ (by omega) d_L_law_292 ?_
    refine sv_Perm (lw_pm _ _ _ _) ?_
    refine sv_callVi C (e_M_token_no1 l g _ am inl wd n th wm b2 tf2 wf2 ch2 po2 st2 T j2 j3 j4 (xs (i + 1)) (xs (i + 2)) hq) lk_L_61 List.mem_cons_self rfl d_L_law_293 (by decide) (Nat.le_of_ble_eq_true rfl) (lw_cs0 (by omega) (by omega)) (fun r w hw => ?_)
    obtain ⟨rfl, rfl⟩ := hw
    refine sv_Perm (lw_mp _ _ _ _) ?_
    refine sv_kE (k' := (kc + 1)) (n' := (nc + 6)) rfl rfl ?_
    refine sv_istore C (by decide) [some _, some _, some _, some _, some _, some _, some _] rfl d_L_law_296 ?_
    refine sv_aload_n C rfl rfl d_L_law_298 ?_
    refine sv_Perm (lw_pm _ _ _ _) ?_
    refine sv_callVi C (e_M_thrown l g _ am inl wd n 1 wm b2 tf2 wf2 ch2 po2 st2 T) lk_L_46 List.mem_cons_self rfl d_L_law_299 (by decide) (Nat.le_of_ble_eq_true rfl) (lw_cs0 (by omega) (by omega)) (fun r w hw => ?_)
    obtain ⟨rfl, rfl⟩ := hw
    refine sv_Perm (lw_mp _ _ _ _) ?_
    refine sv_kE (k' := (kc + 1)) (n' := (nc + 6)) rfl rfl ?_
    refine sv_iload C rfl d_L_law_302 ?_
    refine sv_icmpK_eq C (1) (by decide) 309 (by decide) d_L_law_304 (fun c304 => ?_) (fun c304 => ?_)
    · skip
      refine sv_iload C rfl d_L_law_309 ?_
      refine sv_ifZ_ne C 326 (by decide) d_L_law_311 (fun c311 => ?_) (fun c311 => ?_)
      · skip
        refine sv_goto C 534 (by decide) d_L_law_326 ?_
        exact hk _ _ _ _ _ _ _ _ _ _ _ _ _ _ _ _ _ _ _ _ _ _ _ ⟨j1, j2, j3, j4, j5, j6, j7⟩
      · skip
        exact absurd c311 (by decide)
    · skip
      exact absurd (by decide) c304
  have hq : (xs (i + 2)).toInt = 0 ∨ (xs (i + 2)).toInt = 1 := by omega
  by_cases hi : 0 ≤ (xs (i + 1)).toInt ∧ (xs (i + 1)).toInt < T.length
  · obtain ⟨i0, hi0, em⟩ := lw_in hi
    refine sv_aload_n C rfl rfl d_L_law_261 ?_
    refine sv_aload_n C rfl rfl d_L_law_262 ?_
    refine sv_iload C rfl d_L_law_263 ?_
    refine sv_iconst C (v := 1) (by decide) d_L_law_265 ?_
    refine sv_iaddN C _ 1  d_L_law_266 ?_
    refine sv_sld C hsc hL _ (by omega) d_L_law_267 ?_
    refine sv_eqi (em) ?_
    refine sv_aload_n C rfl rfl d_L_law_268 ?_
    refine sv_iload C rfl d_L_law_269 ?_
    refine sv_iconst C (v := 2) (by decide) d_L_law_271 ?_
    refine sv_iaddN C _ 2  d_L_law_272 ?_
    refine sv_sld C hsc hL _ (by omega) d_L_law_273 ?_
    refine sv_aload_n C rfl rfl d_L_law_274 ?_
    refine sv_callSh C hT (e_L_token l g _ ax aO lo inl wd n wn b tf kf wf vf ch po st T j1 j3 j4 i0 hi0 (xs (i + 2)) hq) lk_L_58 d_L_law_275 (by decide) (Nat.le_of_ble_eq_true rfl) (lw_cs1 (by omega) (by omega)) (fun r w hw => ?_)
    obtain ⟨rfl, rfl⟩ := hw
    refine sv_kE (k' := kc + 1) (n' := nc + 6) rfl rfl ?_
    refine sv_istore C (by decide) [some _, some _, some _, some _, some _, some _, _] rfl d_L_law_278 ?_
    refine sv_aload_n C rfl rfl d_L_law_280 ?_
    refine sv_aload_n C rfl rfl d_L_law_281 ?_
    refine sv_iload C rfl d_L_law_282 ?_
    refine sv_iconst C (v := 1) (by decide) d_L_law_284 ?_
    refine sv_iaddN C _ 1  d_L_law_285 ?_
    refine sv_sld C hsc hL _ (by omega) d_L_law_286 ?_
    refine sv_eqi (em) ?_
    refine sv_aload_n C rfl rfl d_L_law_287 ?_
    refine sv_iload C rfl d_L_law_288 ?_
    refine sv_iconst C (v := 2) (by decide) d_L_law_290 ?_
    refine sv_iaddN C _ 2  d_L_law_291 ?_
    refine sv_sld C hsc hL _ (by omega) d_L_law_292 ?_
    refine sv_Perm (lw_pm _ _ _ _) ?_
    refine sv_callVi C (e_M_token_II l g _ am inl wd n th wm b2 tf2 wf2 ch2 po2 st2 T j2 j3 j4 i0 hi0 (xs (i + 2)) hq) lk_L_61 List.mem_cons_self rfl d_L_law_293 (by decide) (Nat.le_of_ble_eq_true rfl) (lw_cs0 (by omega) (by omega)) (fun r w hw => ?_)
    obtain ⟨rfl, rfl⟩ := hw
    refine sv_Perm (lw_mp _ _ _ _) ?_
    refine sv_kE (k' := (kc + 1)) (n' := (nc + 6)) rfl rfl ?_
    refine sv_istore C (by decide) [some _, some _, some _, some _, some _, some _, some _] rfl d_L_law_296 ?_
    refine sv_aload_n C rfl rfl d_L_law_298 ?_
    refine sv_Perm (lw_pm _ _ _ _) ?_
    refine sv_callVi C (e_M_thrown l g _ am inl wd n 0 wm b2 tf2 wf2 ch2 po2 st2 T) lk_L_46 List.mem_cons_self rfl d_L_law_299 (by decide) (Nat.le_of_ble_eq_true rfl) (lw_cs0 (by omega) (by omega)) (fun r w hw => ?_)
    obtain ⟨rfl, rfl⟩ := hw
    refine sv_Perm (lw_mp _ _ _ _) ?_
    refine sv_kE (k' := (kc + 1)) (n' := (nc + 6)) rfl rfl ?_
    refine sv_iload C rfl d_L_law_302 ?_
    refine sv_icmpK_eq C (0) (by decide) 309 (by decide) d_L_law_304 (fun c304 => ?_) (fun c304 => ?_)
    · skip
      refine sv_iload C rfl d_L_law_309 ?_
      refine sv_ifZ_ne C 326 (by decide) d_L_law_311 (fun c311 => ?_) (fun c311 => ?_)
      · skip
        exact absurd c311 (by decide)
      · skip
        refine sv_aload_n C rfl rfl d_L_law_314 ?_
        refine sv_iconst C (v := 0) (by decide) d_L_law_315 ?_
        refine sv_lald C 14 rfl (by unfold vp_in; decide) d_L_law_316 ?_
        refine sv_iload C rfl d_L_law_317 ?_
        refine sv_i2l C d_L_law_319 ?_
        refine sv_lcmp C d_L_law_320 ?_
        refine sv_eqi (lw_cmp0 _ _) ?_
        refine sv_ifZ_eq C 326 (by decide) d_L_law_321 (fun c321 => ?_) (fun c321 => ?_)
        · skip
          refine sv_goto C 534 (by decide) d_L_law_326 ?_
          exact hk _ _ _ _ _ _ _ _ _ _ _ _ _ _ _ _ _ _ _ _ _ _ _ ⟨j1, j2, j3, j4, j5, j6, j7⟩
        · skip
          exact absurd c321 (by decide)
    · skip
      exact absurd (by decide) c304
  · skip
    refine sv_aload_n C rfl rfl d_L_law_261 ?_
    refine sv_aload_n C rfl rfl d_L_law_262 ?_
    refine sv_iload C rfl d_L_law_263 ?_
    refine sv_iconst C (v := 1) (by decide) d_L_law_265 ?_
    refine sv_iaddN C _ 1  d_L_law_266 ?_
    refine sv_sld C hsc hL _ (by omega) d_L_law_267 ?_
    refine sv_aload_n C rfl rfl d_L_law_268 ?_
    refine sv_iload C rfl d_L_law_269 ?_
    refine sv_iconst C (v := 2) (by decide) d_L_law_271 ?_
    refine sv_iaddN C _ 2  d_L_law_272 ?_
    refine sv_sld C hsc hL _ (by omega) d_L_law_273 ?_
    refine sv_aload_n C rfl rfl d_L_law_274 ?_
    refine sv_callSh C hT (e_L_token_x2 l hfl g _ ax aO lo inl wd n wn b tf kf wf vf ch po st T j1 j3 j4 (xs (i + 1)) (xs (i + 2)) hq hi) lk_L_58 d_L_law_275 (by decide) (Nat.le_of_ble_eq_true rfl) (lw_cs1 (by omega) (by omega)) (fun r w hw => ?_)
    obtain ⟨rfl, rfl⟩ := hw
    refine sv_kE (k' := kc + 1) (n' := nc + 6) rfl rfl ?_
    refine sv_istore C (by decide) [some _, some _, some _, some _, some _, some _, _] rfl d_L_law_278 ?_
    refine sv_aload_n C rfl rfl d_L_law_280 ?_
    refine sv_aload_n C rfl rfl d_L_law_281 ?_
    refine sv_iload C rfl d_L_law_282 ?_
    refine sv_iconst C (v := 1) (by decide) d_L_law_284 ?_
    refine sv_iaddN C _ 1  d_L_law_285 ?_
    refine sv_sld C hsc hL _ (by omega) d_L_law_286 ?_
    refine sv_aload_n C rfl rfl d_L_law_287 ?_
    refine sv_iload C rfl d_L_law_288 ?_
    refine sv_iconst C (v := 2) (by decide) d_L_law_290 ?_
    refine sv_iaddN C _ 2  d_L_law_291 ?_
    refine sv_sld C hsc hL _ (by omega) d_L_law_292 ?_
    refine sv_Perm (lw_pm _ _ _ _) ?_
    refine sv_callVi C (e_M_token_no2 l g _ am inl wd n th wm b2 tf2 wf2 ch2 po2 st2 T j2 j3 j4 (xs (i + 1)) (xs (i + 2)) hq hi) lk_L_61 List.mem_cons_self rfl d_L_law_293 (by decide) (Nat.le_of_ble_eq_true rfl) (lw_cs0 (by omega) (by omega)) (fun r w hw => ?_)
    obtain ⟨rfl, rfl⟩ := hw
    refine sv_Perm (lw_mp _ _ _ _) ?_
    refine sv_kE (k' := (kc + 1)) (n' := (nc + 6)) rfl rfl ?_
    refine sv_istore C (by decide) [some _, some _, some _, some _, some _, some _, some _] rfl d_L_law_296 ?_
    refine sv_aload_n C rfl rfl d_L_law_298 ?_
    refine sv_Perm (lw_pm _ _ _ _) ?_
    refine sv_callVi C (e_M_thrown l g _ am inl wd n 2 wm b2 tf2 wf2 ch2 po2 st2 T) lk_L_46 List.mem_cons_self rfl d_L_law_299 (by decide) (Nat.le_of_ble_eq_true rfl) (lw_cs0 (by omega) (by omega)) (fun r w hw => ?_)
    obtain ⟨rfl, rfl⟩ := hw
    refine sv_Perm (lw_mp _ _ _ _) ?_
    refine sv_kE (k' := (kc + 1)) (n' := (nc + 6)) rfl rfl ?_
    refine sv_iload C rfl d_L_law_302 ?_
    refine sv_icmpK_eq C (2) (by decide) 309 (by decide) d_L_law_304 (fun c304 => ?_) (fun c304 => ?_)
    · skip
      refine sv_iload C rfl d_L_law_309 ?_
      refine sv_ifZ_ne C 326 (by decide) d_L_law_311 (fun c311 => ?_) (fun c311 => ?_)
      · skip
        refine sv_goto C 534 (by decide) d_L_law_326 ?_
        exact hk _ _ _ _ _ _ _ _ _ _ _ _ _ _ _ _ _ _ _ _ _ _ _ ⟨j1, j2, j3, j4, j5, j6, j7⟩
      · skip
        exact absurd c311 (by decide)
    · skip
      exact absurd (by decide) c304
set_option maxHeartbeats 4000000 in
set_option maxRecDepth 100000 in
theorem lw_c4 {X : sv_X} {l : Launch} {g : sv_G} (hfl : l.flags = pinnedFlags ++ [noTraceFlag]) (C : sv_C X l code 7 "WordChainLaw" room_1 g) (hT : sv_CT X) {bS L : Nat} {xs : Nat → Int32} (hL : L ≤ 3072) (hsc : sv_SX X bS L xs) (ax am : Nat → Nat) (aO : Nat) (kf : Nat → Int32) (R : va_W) (hkf : ∀ i, i < 33 → kf i = nI (pu_key (pu_stops.getD i []))) (hE : sv_E5 g R (ax 14) (ax 15) (ax 16) (ax 17) (ax 18)) (hS0 : sv_SA g R (am 7) 33 tm_0) (hS2 : sv_SA g R (am 8) (2 * 20) tm_2) (hS3 : sv_SA g R (am 9) (2 * 7) tm_3) (hS4 : sv_SA g R (am 10) (2 * 19) tm_4) (i kc nc : Nat) (hi6 : i + 6 ≤ L) (hkc : kc + 1 ≤ 601024) (hnc : nc + 6 ≤ 7293034) (inl wd n : Nat) (wn th wm : Int32) (b tf wf vf ch po st b2 tf2 wf2 ch2 po2 st2 : Nat → Int32) (lo : Nat → Int64) (T : List (Nat × List Int32)) (o5 o6 : Option Value) (hJ : lw_J inl b ch po st b2 ch2 po2 st2 T) (hk : ∀ (inl wd n : Nat) (wn th wm : Int32) (b tf wf vf ch po st b2 tf2 wf2 ch2 po2 st2 : Nat → Int32) (lo : Nat → Int64) (T : List (Nat × List Int32)) (o5 o6 : Option Value), lw_J inl b ch po st b2 ch2 po2 st2 T → sv_V X 7 (kc + 1) (nc + 6) ((lw_x g ax inl wd n wn b tf kf wf vf ch po st T) ++ (lw_o g aO lo :: ((lw_m g am inl wd n th wm b2 tf2 wf2 ch2 po2 st2 T) ++ R))) 534 [some (.ref bS), some (.ref (ax 0)), some (.ref (am 0)), some (.ref aO), some (.int (nI i)), o5, o6] []) : sv_V X 7 kc nc ((lw_x g ax inl wd n wn b tf kf wf vf ch po st T) ++ (lw_o g aO lo :: ((lw_m g am inl wd n th wm b2 tf2 wf2 ch2 po2 st2 T) ++ R))) 329 [some (.ref bS), some (.ref (ax 0)), some (.ref (am 0)), some (.ref aO), some (.int (nI i)), o5, o6] [] := by
  obtain ⟨j1, j2, j3, j4, j5, j6, j7⟩ := hJ
  by_cases hi : 0 ≤ (xs (i + 1)).toInt ∧ (xs (i + 1)).toInt < T.length
  · obtain ⟨i0, hi0, em⟩ := lw_in hi
    by_cases hk2 : 0 ≤ (xs (i + 2)).toInt ∧ (xs (i + 2)).toInt < (T.getD i0 (0, [])).2.length
    · obtain ⟨k0, hk0, en⟩ := lw_in hk2
      refine sv_aload_n C rfl rfl d_L_law_329 ?_
      refine sv_aload_n C rfl rfl d_L_law_330 ?_
      refine sv_iload C rfl d_L_law_331 ?_
      refine sv_iconst C (v := 1) (by decide) d_L_law_333 ?_
      refine sv_iaddN C _ 1  d_L_law_334 ?_
      refine sv_sld C hsc hL _ (by omega) d_L_law_335 ?_
      refine sv_eqi (em) ?_
      refine sv_aload_n C rfl rfl d_L_law_336 ?_
      refine sv_iload C rfl d_L_law_337 ?_
      refine sv_iconst C (v := 2) (by decide) d_L_law_339 ?_
      refine sv_iaddN C _ 2  d_L_law_340 ?_
      refine sv_sld C hsc hL _ (by omega) d_L_law_341 ?_
      refine sv_eqi (en) ?_
      refine sv_aload_n C rfl rfl d_L_law_342 ?_
      refine sv_callSh C hT (e_L_character l g _ ax aO lo inl wd n wn b tf kf wf vf ch po st T j1 j3 j4 i0 hi0 k0 hk0) lk_L_62 d_L_law_343 (by decide) (Nat.le_of_ble_eq_true rfl) (lw_cs1 (by omega) (by omega)) (fun r w hw => ?_)
      obtain ⟨rfl, rfl⟩ := hw
      refine sv_kE (k' := kc + 1) (n' := nc + 6) rfl rfl ?_
      refine sv_istore C (by decide) [some _, some _, some _, some _, some _, some _, _] rfl d_L_law_346 ?_
      refine sv_aload_n C rfl rfl d_L_law_348 ?_
      refine sv_aload_n C rfl rfl d_L_law_349 ?_
      refine sv_iload C rfl d_L_law_350 ?_
      refine sv_iconst C (v := 1) (by decide) d_L_law_352 ?_
      refine sv_iaddN C _ 1  d_L_law_353 ?_
      refine sv_sld C hsc hL _ (by omega) d_L_law_354 ?_
      refine sv_eqi (em) ?_
      refine sv_aload_n C rfl rfl d_L_law_355 ?_
      refine sv_iload C rfl d_L_law_356 ?_
      refine sv_iconst C (v := 2) (by decide) d_L_law_358 ?_
      refine sv_iaddN C _ 2  d_L_law_359 ?_
      refine sv_sld C hsc hL _ (by omega) d_L_law_360 ?_
      refine sv_eqi (en) ?_
      refine sv_Perm (lw_pm _ _ _ _) ?_
      refine sv_callVi C (e_M_character l g _ am inl wd n th wm b2 tf2 wf2 ch2 po2 st2 T j2 j3 j4 i0 hi0 k0 hk0) lk_L_64 List.mem_cons_self rfl d_L_law_361 (by decide) (Nat.le_of_ble_eq_true rfl) (lw_cs0 (by omega) (by omega)) (fun r w hw => ?_)
      obtain ⟨rfl, rfl⟩ := hw
      refine sv_Perm (lw_mp _ _ _ _) ?_
      refine sv_kE (k' := (kc + 1)) (n' := (nc + 6)) rfl rfl ?_
      refine sv_istore C (by decide) [some _, some _, some _, some _, some _, some _, some _] rfl d_L_law_364 ?_
      refine sv_aload_n C rfl rfl d_L_law_366 ?_
      refine sv_Perm (lw_pm _ _ _ _) ?_
      refine sv_callVi C (e_M_thrown l g _ am inl wd n 0 wm b2 tf2 wf2 ch2 po2 st2 T) lk_L_46 List.mem_cons_self rfl d_L_law_367 (by decide) (Nat.le_of_ble_eq_true rfl) (lw_cs0 (by omega) (by omega)) (fun r w hw => ?_)
      obtain ⟨rfl, rfl⟩ := hw
      refine sv_Perm (lw_mp _ _ _ _) ?_
      refine sv_kE (k' := (kc + 1)) (n' := (nc + 6)) rfl rfl ?_
      refine sv_iload C rfl d_L_law_370 ?_
      refine sv_icmpK_eq C (0) (by decide) 377 (by decide) d_L_law_372 (fun c372 => ?_) (fun c372 => ?_)
      · skip
        refine sv_iload C rfl d_L_law_377 ?_
        refine sv_ifZ_ne C 394 (by decide) d_L_law_379 (fun c379 => ?_) (fun c379 => ?_)
        · skip
          exact absurd c379 (by decide)
        · skip
          refine sv_aload_n C rfl rfl d_L_law_382 ?_
          refine sv_iconst C (v := 0) (by decide) d_L_law_383 ?_
          refine sv_lald C 14 rfl (by unfold vp_in; decide) d_L_law_384 ?_
          refine sv_iload C rfl d_L_law_385 ?_
          refine sv_i2l C d_L_law_387 ?_
          refine sv_lcmp C d_L_law_388 ?_
          refine sv_eqi (lw_cmp0 _ _) ?_
          refine sv_ifZ_eq C 394 (by decide) d_L_law_389 (fun c389 => ?_) (fun c389 => ?_)
          · skip
            refine sv_goto C 534 (by decide) d_L_law_394 ?_
            exact hk _ _ _ _ _ _ _ _ _ _ _ _ _ _ _ _ _ _ _ _ _ _ _ ⟨j1, j2, j3, j4, j5, j6, j7⟩
          · skip
            exact absurd c389 (by decide)
      · skip
        exact absurd (by decide) c372
    · have hk3 : (xs (i + 2)).toInt < 0 ∨ ((T.getD i0 (0, [])).2.length : Int) ≤ (xs (i + 2)).toInt := by omega
      refine sv_aload_n C rfl rfl d_L_law_329 ?_
      refine sv_aload_n C rfl rfl d_L_law_330 ?_
      refine sv_iload C rfl d_L_law_331 ?_
      refine sv_iconst C (v := 1) (by decide) d_L_law_333 ?_
      refine sv_iaddN C _ 1  d_L_law_334 ?_
      refine sv_sld C hsc hL _ (by omega) d_L_law_335 ?_
      refine sv_eqi (em) ?_
      refine sv_aload_n C rfl rfl d_L_law_336 ?_
      refine sv_iload C rfl d_L_law_337 ?_
      refine sv_iconst C (v := 2) (by decide) d_L_law_339 ?_
      refine sv_iaddN C _ 2  d_L_law_340 ?_
      refine sv_sld C hsc hL _ (by omega) d_L_law_341 ?_
      refine sv_aload_n C rfl rfl d_L_law_342 ?_
      refine sv_callSh C hT (e_L_character_x2 l hfl g _ ax aO lo inl wd n wn b tf kf wf vf ch po st T j1 j3 j4 i0 hi0 (xs (i + 2)) hk3) lk_L_62 d_L_law_343 (by decide) (Nat.le_of_ble_eq_true rfl) (lw_cs1 (by omega) (by omega)) (fun r w hw => ?_)
      obtain ⟨rfl, rfl⟩ := hw
      refine sv_kE (k' := kc + 1) (n' := nc + 6) rfl rfl ?_
      refine sv_istore C (by decide) [some _, some _, some _, some _, some _, some _, _] rfl d_L_law_346 ?_
      refine sv_aload_n C rfl rfl d_L_law_348 ?_
      refine sv_aload_n C rfl rfl d_L_law_349 ?_
      refine sv_iload C rfl d_L_law_350 ?_
      refine sv_iconst C (v := 1) (by decide) d_L_law_352 ?_
      refine sv_iaddN C _ 1  d_L_law_353 ?_
      refine sv_sld C hsc hL _ (by omega) d_L_law_354 ?_
      refine sv_eqi (em) ?_
      refine sv_aload_n C rfl rfl d_L_law_355 ?_
      refine sv_iload C rfl d_L_law_356 ?_
      refine sv_iconst C (v := 2) (by decide) d_L_law_358 ?_
      refine sv_iaddN C _ 2  d_L_law_359 ?_
      refine sv_sld C hsc hL _ (by omega) d_L_law_360 ?_
      refine sv_Perm (lw_pm _ _ _ _) ?_
      refine sv_callVi C (e_M_character_no2 l g _ am inl wd n th wm b2 tf2 wf2 ch2 po2 st2 T j2 j3 j4 i0 hi0 (xs (i + 2)) hk3) lk_L_64 List.mem_cons_self rfl d_L_law_361 (by decide) (Nat.le_of_ble_eq_true rfl) (lw_cs0 (by omega) (by omega)) (fun r w hw => ?_)
      obtain ⟨rfl, rfl⟩ := hw
      refine sv_Perm (lw_mp _ _ _ _) ?_
      refine sv_kE (k' := (kc + 1)) (n' := (nc + 6)) rfl rfl ?_
      refine sv_istore C (by decide) [some _, some _, some _, some _, some _, some _, some _] rfl d_L_law_364 ?_
      refine sv_aload_n C rfl rfl d_L_law_366 ?_
      refine sv_Perm (lw_pm _ _ _ _) ?_
      refine sv_callVi C (e_M_thrown l g _ am inl wd n 1 wm b2 tf2 wf2 ch2 po2 st2 T) lk_L_46 List.mem_cons_self rfl d_L_law_367 (by decide) (Nat.le_of_ble_eq_true rfl) (lw_cs0 (by omega) (by omega)) (fun r w hw => ?_)
      obtain ⟨rfl, rfl⟩ := hw
      refine sv_Perm (lw_mp _ _ _ _) ?_
      refine sv_kE (k' := (kc + 1)) (n' := (nc + 6)) rfl rfl ?_
      refine sv_iload C rfl d_L_law_370 ?_
      refine sv_icmpK_eq C (1) (by decide) 377 (by decide) d_L_law_372 (fun c372 => ?_) (fun c372 => ?_)
      · skip
        refine sv_iload C rfl d_L_law_377 ?_
        refine sv_ifZ_ne C 394 (by decide) d_L_law_379 (fun c379 => ?_) (fun c379 => ?_)
        · skip
          refine sv_goto C 534 (by decide) d_L_law_394 ?_
          exact hk _ _ _ _ _ _ _ _ _ _ _ _ _ _ _ _ _ _ _ _ _ _ _ ⟨j1, j2, j3, j4, j5, j6, j7⟩
        · skip
          exact absurd c379 (by decide)
      · skip
        exact absurd (by decide) c372
  · skip
    refine sv_aload_n C rfl rfl d_L_law_329 ?_
    refine sv_aload_n C rfl rfl d_L_law_330 ?_
    refine sv_iload C rfl d_L_law_331 ?_
    refine sv_iconst C (v := 1) (by decide) d_L_law_333 ?_
    refine sv_iaddN C _ 1  d_L_law_334 ?_
    refine sv_sld C hsc hL _ (by omega) d_L_law_335 ?_
    refine sv_aload_n C rfl rfl d_L_law_336 ?_
    refine sv_iload C rfl d_L_law_337 ?_
    refine sv_iconst C (v := 2) (by decide) d_L_law_339 ?_
    refine sv_iaddN C _ 2  d_L_law_340 ?_
    refine sv_sld C hsc hL _ (by omega) d_L_law_341 ?_
    refine sv_aload_n C rfl rfl d_L_law_342 ?_
    refine sv_callSh C hT (e_L_character_x1 l hfl g _ ax aO lo inl wd n wn b tf kf wf vf ch po st T j1 j3 j4 (xs (i + 1)) (xs (i + 2)) hi) lk_L_62 d_L_law_343 (by decide) (Nat.le_of_ble_eq_true rfl) (lw_cs1 (by omega) (by omega)) (fun r w hw => ?_)
    obtain ⟨rfl, rfl⟩ := hw
    refine sv_kE (k' := kc + 1) (n' := nc + 6) rfl rfl ?_
    refine sv_istore C (by decide) [some _, some _, some _, some _, some _, some _, _] rfl d_L_law_346 ?_
    refine sv_aload_n C rfl rfl d_L_law_348 ?_
    refine sv_aload_n C rfl rfl d_L_law_349 ?_
    refine sv_iload C rfl d_L_law_350 ?_
    refine sv_iconst C (v := 1) (by decide) d_L_law_352 ?_
    refine sv_iaddN C _ 1  d_L_law_353 ?_
    refine sv_sld C hsc hL _ (by omega) d_L_law_354 ?_
    refine sv_aload_n C rfl rfl d_L_law_355 ?_
    refine sv_iload C rfl d_L_law_356 ?_
    refine sv_iconst C (v := 2) (by decide) d_L_law_358 ?_
    refine sv_iaddN C _ 2  d_L_law_359 ?_
    refine sv_sld C hsc hL _ (by omega) d_L_law_360 ?_
    refine sv_Perm (lw_pm _ _ _ _) ?_
    refine sv_callVi C (e_M_character_no1 l g _ am inl wd n th wm b2 tf2 wf2 ch2 po2 st2 T j2 j3 j4 (xs (i + 1)) (xs (i + 2)) hi) lk_L_64 List.mem_cons_self rfl d_L_law_361 (by decide) (Nat.le_of_ble_eq_true rfl) (lw_cs0 (by omega) (by omega)) (fun r w hw => ?_)
    obtain ⟨rfl, rfl⟩ := hw
    refine sv_Perm (lw_mp _ _ _ _) ?_
    refine sv_kE (k' := (kc + 1)) (n' := (nc + 6)) rfl rfl ?_
    refine sv_istore C (by decide) [some _, some _, some _, some _, some _, some _, some _] rfl d_L_law_364 ?_
    refine sv_aload_n C rfl rfl d_L_law_366 ?_
    refine sv_Perm (lw_pm _ _ _ _) ?_
    refine sv_callVi C (e_M_thrown l g _ am inl wd n 1 wm b2 tf2 wf2 ch2 po2 st2 T) lk_L_46 List.mem_cons_self rfl d_L_law_367 (by decide) (Nat.le_of_ble_eq_true rfl) (lw_cs0 (by omega) (by omega)) (fun r w hw => ?_)
    obtain ⟨rfl, rfl⟩ := hw
    refine sv_Perm (lw_mp _ _ _ _) ?_
    refine sv_kE (k' := (kc + 1)) (n' := (nc + 6)) rfl rfl ?_
    refine sv_iload C rfl d_L_law_370 ?_
    refine sv_icmpK_eq C (1) (by decide) 377 (by decide) d_L_law_372 (fun c372 => ?_) (fun c372 => ?_)
    · skip
      refine sv_iload C rfl d_L_law_377 ?_
      refine sv_ifZ_ne C 394 (by decide) d_L_law_379 (fun c379 => ?_) (fun c379 => ?_)
      · skip
        refine sv_goto C 534 (by decide) d_L_law_394 ?_
        exact hk _ _ _ _ _ _ _ _ _ _ _ _ _ _ _ _ _ _ _ _ _ _ _ ⟨j1, j2, j3, j4, j5, j6, j7⟩
      · skip
        exact absurd c379 (by decide)
    · skip
      exact absurd (by decide) c372
set_option maxHeartbeats 4000000 in
set_option maxRecDepth 100000 in
theorem lw_c5 {X : sv_X} {l : Launch} {g : sv_G} (hfl : l.flags = pinnedFlags ++ [noTraceFlag]) (C : sv_C X l code 7 "WordChainLaw" room_1 g) (hT : sv_CT X) {bS L : Nat} {xs : Nat → Int32} (hL : L ≤ 3072) (hsc : sv_SX X bS L xs) (ax am : Nat → Nat) (aO : Nat) (kf : Nat → Int32) (R : va_W) (hkf : ∀ i, i < 33 → kf i = nI (pu_key (pu_stops.getD i []))) (hE : sv_E5 g R (ax 14) (ax 15) (ax 16) (ax 17) (ax 18)) (hS0 : sv_SA g R (am 7) 33 tm_0) (hS2 : sv_SA g R (am 8) (2 * 20) tm_2) (hS3 : sv_SA g R (am 9) (2 * 7) tm_3) (hS4 : sv_SA g R (am 10) (2 * 19) tm_4) (i kc nc : Nat) (hi6 : i + 6 ≤ L) (hkc : kc + 1 ≤ 601024) (hnc : nc + 6 ≤ 7293034) (inl wd n : Nat) (wn th wm : Int32) (b tf wf vf ch po st b2 tf2 wf2 ch2 po2 st2 : Nat → Int32) (lo : Nat → Int64) (T : List (Nat × List Int32)) (o5 o6 : Option Value) (hJ : lw_J inl b ch po st b2 ch2 po2 st2 T) (hk : ∀ (inl wd n : Nat) (wn th wm : Int32) (b tf wf vf ch po st b2 tf2 wf2 ch2 po2 st2 : Nat → Int32) (lo : Nat → Int64) (T : List (Nat × List Int32)) (o5 o6 : Option Value), lw_J inl b ch po st b2 ch2 po2 st2 T → sv_V X 7 (kc + 1) (nc + 6) ((lw_x g ax inl wd n wn b tf kf wf vf ch po st T) ++ (lw_o g aO lo :: ((lw_m g am inl wd n th wm b2 tf2 wf2 ch2 po2 st2 T) ++ R))) 534 [some (.ref bS), some (.ref (ax 0)), some (.ref (am 0)), some (.ref aO), some (.int (nI i)), o5, o6] []) : sv_V X 7 kc nc ((lw_x g ax inl wd n wn b tf kf wf vf ch po st T) ++ (lw_o g aO lo :: ((lw_m g am inl wd n th wm b2 tf2 wf2 ch2 po2 st2 T) ++ R))) 397 [some (.ref bS), some (.ref (ax 0)), some (.ref (am 0)), some (.ref aO), some (.int (nI i)), o5, o6] [] := by
  obtain ⟨j1, j2, j3, j4, j5, j6, j7⟩ := hJ
  by_cases hi : 0 ≤ (xs (i + 1)).toInt ∧ (xs (i + 1)).toInt < T.length
  · obtain ⟨i0, hi0, em⟩ := lw_in hi
    refine sv_aload_n C rfl rfl d_L_law_397 ?_
    refine sv_aload_n C rfl rfl d_L_law_398 ?_
    refine sv_iload C rfl d_L_law_399 ?_
    refine sv_iconst C (v := 1) (by decide) d_L_law_401 ?_
    refine sv_iaddN C _ 1  d_L_law_402 ?_
    refine sv_sld C hsc hL _ (by omega) d_L_law_403 ?_
    refine sv_eqi (em) ?_
    refine sv_aload_n C rfl rfl d_L_law_404 ?_
    refine sv_callSh C hT (e_L_first l g _ ax aO lo inl wd n wn b tf kf wf vf ch po st T j1 j3 j4 i0 hi0) lk_L_65 d_L_law_405 (by decide) (Nat.le_of_ble_eq_true rfl) (lw_cs1 (by omega) (by omega)) (fun r w hw => ?_)
    obtain ⟨rfl, rfl⟩ := hw
    refine sv_kE (k' := kc + 1) (n' := nc + 6) rfl rfl ?_
    refine sv_istore C (by decide) [some _, some _, some _, some _, some _, some _, _] rfl d_L_law_408 ?_
    refine sv_aload_n C rfl rfl d_L_law_410 ?_
    refine sv_aload_n C rfl rfl d_L_law_411 ?_
    refine sv_iload C rfl d_L_law_412 ?_
    refine sv_iconst C (v := 1) (by decide) d_L_law_414 ?_
    refine sv_iaddN C _ 1  d_L_law_415 ?_
    refine sv_sld C hsc hL _ (by omega) d_L_law_416 ?_
    refine sv_eqi (em) ?_
    refine sv_Perm (lw_pm _ _ _ _) ?_
    refine sv_callVi C (e_M_first l g _ am inl wd n th wm b2 tf2 wf2 ch2 po2 st2 T j2 j3 j4 i0 hi0) lk_L_67 List.mem_cons_self rfl d_L_law_417 (by decide) (Nat.le_of_ble_eq_true rfl) (lw_cs0 (by omega) (by omega)) (fun r w hw => ?_)
    obtain ⟨rfl, rfl⟩ := hw
    refine sv_Perm (lw_mp _ _ _ _) ?_
    refine sv_kE (k' := (kc + 1)) (n' := (nc + 6)) rfl rfl ?_
    refine sv_istore C (by decide) [some _, some _, some _, some _, some _, some _, some _] rfl d_L_law_420 ?_
    refine sv_aload_n C rfl rfl d_L_law_422 ?_
    refine sv_Perm (lw_pm _ _ _ _) ?_
    refine sv_callVi C (e_M_thrown l g _ am inl wd n 0 wm b2 tf2 wf2 ch2 po2 st2 T) lk_L_46 List.mem_cons_self rfl d_L_law_423 (by decide) (Nat.le_of_ble_eq_true rfl) (lw_cs0 (by omega) (by omega)) (fun r w hw => ?_)
    obtain ⟨rfl, rfl⟩ := hw
    refine sv_Perm (lw_mp _ _ _ _) ?_
    refine sv_kE (k' := (kc + 1)) (n' := (nc + 6)) rfl rfl ?_
    refine sv_iload C rfl d_L_law_426 ?_
    refine sv_icmpK_eq C (0) (by decide) 433 (by decide) d_L_law_428 (fun c428 => ?_) (fun c428 => ?_)
    · skip
      refine sv_iload C rfl d_L_law_433 ?_
      refine sv_ifZ_ne C 450 (by decide) d_L_law_435 (fun c435 => ?_) (fun c435 => ?_)
      · skip
        exact absurd c435 (by decide)
      · skip
        refine sv_aload_n C rfl rfl d_L_law_438 ?_
        refine sv_iconst C (v := 0) (by decide) d_L_law_439 ?_
        refine sv_lald C 14 rfl (by unfold vp_in; decide) d_L_law_440 ?_
        refine sv_iload C rfl d_L_law_441 ?_
        refine sv_i2l C d_L_law_443 ?_
        refine sv_lcmp C d_L_law_444 ?_
        refine sv_eqi (lw_cmp0 _ _) ?_
        refine sv_ifZ_eq C 450 (by decide) d_L_law_445 (fun c445 => ?_) (fun c445 => ?_)
        · skip
          refine sv_goto C 534 (by decide) d_L_law_450 ?_
          exact hk _ _ _ _ _ _ _ _ _ _ _ _ _ _ _ _ _ _ _ _ _ _ _ ⟨j1, j2, j3, j4, j5, j6, j7⟩
        · skip
          exact absurd c445 (by decide)
    · skip
      exact absurd (by decide) c428
  · skip
    refine sv_aload_n C rfl rfl d_L_law_397 ?_
    refine sv_aload_n C rfl rfl d_L_law_398 ?_
    refine sv_iload C rfl d_L_law_399 ?_
    refine sv_iconst C (v := 1) (by decide) d_L_law_401 ?_
    refine sv_iaddN C _ 1  d_L_law_402 ?_
    refine sv_sld C hsc hL _ (by omega) d_L_law_403 ?_
    refine sv_aload_n C rfl rfl d_L_law_404 ?_
    refine sv_callSh C hT (e_L_first_x l hfl g _ ax aO lo inl wd n wn b tf kf wf vf ch po st T j1 j3 j4 (xs (i + 1)) hi) lk_L_65 d_L_law_405 (by decide) (Nat.le_of_ble_eq_true rfl) (lw_cs1 (by omega) (by omega)) (fun r w hw => ?_)
    obtain ⟨rfl, rfl⟩ := hw
    refine sv_kE (k' := kc + 1) (n' := nc + 6) rfl rfl ?_
    refine sv_istore C (by decide) [some _, some _, some _, some _, some _, some _, _] rfl d_L_law_408 ?_
    refine sv_aload_n C rfl rfl d_L_law_410 ?_
    refine sv_aload_n C rfl rfl d_L_law_411 ?_
    refine sv_iload C rfl d_L_law_412 ?_
    refine sv_iconst C (v := 1) (by decide) d_L_law_414 ?_
    refine sv_iaddN C _ 1  d_L_law_415 ?_
    refine sv_sld C hsc hL _ (by omega) d_L_law_416 ?_
    refine sv_Perm (lw_pm _ _ _ _) ?_
    refine sv_callVi C (e_M_first_no l g _ am inl wd n th wm b2 tf2 wf2 ch2 po2 st2 T j2 j3 j4 (xs (i + 1)) hi) lk_L_67 List.mem_cons_self rfl d_L_law_417 (by decide) (Nat.le_of_ble_eq_true rfl) (lw_cs0 (by omega) (by omega)) (fun r w hw => ?_)
    obtain ⟨rfl, rfl⟩ := hw
    refine sv_Perm (lw_mp _ _ _ _) ?_
    refine sv_kE (k' := (kc + 1)) (n' := (nc + 6)) rfl rfl ?_
    refine sv_istore C (by decide) [some _, some _, some _, some _, some _, some _, some _] rfl d_L_law_420 ?_
    refine sv_aload_n C rfl rfl d_L_law_422 ?_
    refine sv_Perm (lw_pm _ _ _ _) ?_
    refine sv_callVi C (e_M_thrown l g _ am inl wd n 1 wm b2 tf2 wf2 ch2 po2 st2 T) lk_L_46 List.mem_cons_self rfl d_L_law_423 (by decide) (Nat.le_of_ble_eq_true rfl) (lw_cs0 (by omega) (by omega)) (fun r w hw => ?_)
    obtain ⟨rfl, rfl⟩ := hw
    refine sv_Perm (lw_mp _ _ _ _) ?_
    refine sv_kE (k' := (kc + 1)) (n' := (nc + 6)) rfl rfl ?_
    refine sv_iload C rfl d_L_law_426 ?_
    refine sv_icmpK_eq C (1) (by decide) 433 (by decide) d_L_law_428 (fun c428 => ?_) (fun c428 => ?_)
    · skip
      refine sv_iload C rfl d_L_law_433 ?_
      refine sv_ifZ_ne C 450 (by decide) d_L_law_435 (fun c435 => ?_) (fun c435 => ?_)
      · skip
        refine sv_goto C 534 (by decide) d_L_law_450 ?_
        exact hk _ _ _ _ _ _ _ _ _ _ _ _ _ _ _ _ _ _ _ _ _ _ _ ⟨j1, j2, j3, j4, j5, j6, j7⟩
      · skip
        exact absurd c435 (by decide)
    · skip
      exact absurd (by decide) c428
set_option maxHeartbeats 4000000 in
set_option maxRecDepth 100000 in
theorem lw_c6 {X : sv_X} {l : Launch} {g : sv_G} (hfl : l.flags = pinnedFlags ++ [noTraceFlag]) (C : sv_C X l code 7 "WordChainLaw" room_1 g) (hT : sv_CT X) {bS L : Nat} {xs : Nat → Int32} (hL : L ≤ 3072) (hsc : sv_SX X bS L xs) (ax am : Nat → Nat) (aO : Nat) (kf : Nat → Int32) (R : va_W) (hkf : ∀ i, i < 33 → kf i = nI (pu_key (pu_stops.getD i []))) (hE : sv_E5 g R (ax 14) (ax 15) (ax 16) (ax 17) (ax 18)) (hS0 : sv_SA g R (am 7) 33 tm_0) (hS2 : sv_SA g R (am 8) (2 * 20) tm_2) (hS3 : sv_SA g R (am 9) (2 * 7) tm_3) (hS4 : sv_SA g R (am 10) (2 * 19) tm_4) (i kc nc : Nat) (hi6 : i + 6 ≤ L) (hkc : kc + 1 ≤ 601024) (hnc : nc + 6 ≤ 7293034) (inl wd n : Nat) (wn th wm : Int32) (b tf wf vf ch po st b2 tf2 wf2 ch2 po2 st2 : Nat → Int32) (lo : Nat → Int64) (T : List (Nat × List Int32)) (o5 o6 : Option Value) (hJ : lw_J inl b ch po st b2 ch2 po2 st2 T) (hk : ∀ (inl wd n : Nat) (wn th wm : Int32) (b tf wf vf ch po st b2 tf2 wf2 ch2 po2 st2 : Nat → Int32) (lo : Nat → Int64) (T : List (Nat × List Int32)) (o5 o6 : Option Value), lw_J inl b ch po st b2 ch2 po2 st2 T → sv_V X 7 (kc + 1) (nc + 6) ((lw_x g ax inl wd n wn b tf kf wf vf ch po st T) ++ (lw_o g aO lo :: ((lw_m g am inl wd n th wm b2 tf2 wf2 ch2 po2 st2 T) ++ R))) 534 [some (.ref bS), some (.ref (ax 0)), some (.ref (am 0)), some (.ref aO), some (.int (nI i)), o5, o6] []) : sv_V X 7 kc nc ((lw_x g ax inl wd n wn b tf kf wf vf ch po st T) ++ (lw_o g aO lo :: ((lw_m g am inl wd n th wm b2 tf2 wf2 ch2 po2 st2 T) ++ R))) 453 [some (.ref bS), some (.ref (ax 0)), some (.ref (am 0)), some (.ref aO), some (.int (nI i)), o5, o6] [] := by
  obtain ⟨j1, j2, j3, j4, j5, j6, j7⟩ := hJ
  by_cases hq : (xs (i + 1)).toInt < 0 ∨ 1114111 < (xs (i + 1)).toInt
  · skip
    refine sv_aload_n C rfl rfl d_L_law_453 ?_
    refine sv_aload_n C rfl rfl d_L_law_454 ?_
    refine sv_iload C rfl d_L_law_455 ?_
    refine sv_iconst C (v := 1) (by decide) d_L_law_457 ?_
    refine sv_iaddN C _ 1  d_L_law_458 ?_
    refine sv_sld C hsc hL _ (by omega) d_L_law_459 ?_
    refine sv_aload_n C rfl rfl d_L_law_460 ?_
    refine sv_callSh C hT (e_L_sort_x l hfl g _ ax aO lo inl wd n wn b tf kf wf vf ch po st T (xs (i + 1)) hq) lk_L_68 d_L_law_461 (by decide) (Nat.le_of_ble_eq_true rfl) (lw_cs1 (by omega) (by omega)) (fun r w hw => ?_)
    obtain ⟨rfl, rfl⟩ := hw
    refine sv_kE (k' := kc + 1) (n' := nc + 6) rfl rfl ?_
    refine sv_istore C (by decide) [some _, some _, some _, some _, some _, some _, _] rfl d_L_law_464 ?_
    refine sv_aload_n C rfl rfl d_L_law_466 ?_
    refine sv_aload_n C rfl rfl d_L_law_467 ?_
    refine sv_iload C rfl d_L_law_468 ?_
    refine sv_iconst C (v := 1) (by decide) d_L_law_470 ?_
    refine sv_iaddN C _ 1  d_L_law_471 ?_
    refine sv_sld C hsc hL _ (by omega) d_L_law_472 ?_
    refine sv_Perm (lw_pm _ _ _ _) ?_
    refine sv_callVi C (e_M_sort_no l g _ am inl wd n th wm b2 tf2 wf2 ch2 po2 st2 T (xs (i + 1)) hq) lk_L_70 List.mem_cons_self rfl d_L_law_473 (by decide) (Nat.le_of_ble_eq_true rfl) (lw_cs0 (by omega) (by omega)) (fun r w hw => ?_)
    obtain ⟨rfl, rfl⟩ := hw
    refine sv_Perm (lw_mp _ _ _ _) ?_
    refine sv_kE (k' := (kc + 1)) (n' := (nc + 6)) rfl rfl ?_
    refine sv_istore C (by decide) [some _, some _, some _, some _, some _, some _, some _] rfl d_L_law_476 ?_
    refine sv_aload_n C rfl rfl d_L_law_478 ?_
    refine sv_Perm (lw_pm _ _ _ _) ?_
    refine sv_callVi C (e_M_thrown l g _ am inl wd n 1 wm b2 tf2 wf2 ch2 po2 st2 T) lk_L_46 List.mem_cons_self rfl d_L_law_479 (by decide) (Nat.le_of_ble_eq_true rfl) (lw_cs0 (by omega) (by omega)) (fun r w hw => ?_)
    obtain ⟨rfl, rfl⟩ := hw
    refine sv_Perm (lw_mp _ _ _ _) ?_
    refine sv_kE (k' := (kc + 1)) (n' := (nc + 6)) rfl rfl ?_
    refine sv_iload C rfl d_L_law_482 ?_
    refine sv_icmpK_eq C (1) (by decide) 489 (by decide) d_L_law_484 (fun c484 => ?_) (fun c484 => ?_)
    · skip
      refine sv_iload C rfl d_L_law_489 ?_
      refine sv_ifZ_ne C 506 (by decide) d_L_law_491 (fun c491 => ?_) (fun c491 => ?_)
      · skip
        refine sv_goto C 534 (by decide) d_L_law_506 ?_
        exact hk _ _ _ _ _ _ _ _ _ _ _ _ _ _ _ _ _ _ _ _ _ _ _ ⟨j1, j2, j3, j4, j5, j6, j7⟩
      · skip
        exact absurd c491 (by decide)
    · skip
      exact absurd (by decide) c484
  · skip
    refine sv_aload_n C rfl rfl d_L_law_453 ?_
    refine sv_aload_n C rfl rfl d_L_law_454 ?_
    refine sv_iload C rfl d_L_law_455 ?_
    refine sv_iconst C (v := 1) (by decide) d_L_law_457 ?_
    refine sv_iaddN C _ 1  d_L_law_458 ?_
    refine sv_sld C hsc hL _ (by omega) d_L_law_459 ?_
    refine sv_aload_n C rfl rfl d_L_law_460 ?_
    refine sv_callSh C hT (e_L_sort l g _ ax aO lo inl wd n wn b tf kf wf vf ch po st T (xs (i + 1)) (by omega) (by omega)) lk_L_68 d_L_law_461 (by decide) (Nat.le_of_ble_eq_true rfl) (lw_cs1 (by omega) (by omega)) (fun r w hw => ?_)
    obtain ⟨rfl, rfl⟩ := hw
    refine sv_kE (k' := kc + 1) (n' := nc + 6) rfl rfl ?_
    refine sv_istore C (by decide) [some _, some _, some _, some _, some _, some _, _] rfl d_L_law_464 ?_
    refine sv_aload_n C rfl rfl d_L_law_466 ?_
    refine sv_aload_n C rfl rfl d_L_law_467 ?_
    refine sv_iload C rfl d_L_law_468 ?_
    refine sv_iconst C (v := 1) (by decide) d_L_law_470 ?_
    refine sv_iaddN C _ 1  d_L_law_471 ?_
    refine sv_sld C hsc hL _ (by omega) d_L_law_472 ?_
    refine sv_Perm (lw_pm _ _ _ _) ?_
    refine sv_callVi C (e_M_sort l g _ am inl wd n th wm b2 tf2 wf2 ch2 po2 st2 T (xs (i + 1)) (by omega) (by omega)) lk_L_70 List.mem_cons_self rfl d_L_law_473 (by decide) (Nat.le_of_ble_eq_true rfl) (lw_cs0 (by omega) (by omega)) (fun r w hw => ?_)
    obtain ⟨rfl, rfl⟩ := hw
    refine sv_Perm (lw_mp _ _ _ _) ?_
    refine sv_kE (k' := (kc + 1)) (n' := (nc + 6)) rfl rfl ?_
    refine sv_istore C (by decide) [some _, some _, some _, some _, some _, some _, some _] rfl d_L_law_476 ?_
    refine sv_aload_n C rfl rfl d_L_law_478 ?_
    refine sv_Perm (lw_pm _ _ _ _) ?_
    refine sv_callVi C (e_M_thrown l g _ am inl wd n 0 wm b2 tf2 wf2 ch2 po2 st2 T) lk_L_46 List.mem_cons_self rfl d_L_law_479 (by decide) (Nat.le_of_ble_eq_true rfl) (lw_cs0 (by omega) (by omega)) (fun r w hw => ?_)
    obtain ⟨rfl, rfl⟩ := hw
    refine sv_Perm (lw_mp _ _ _ _) ?_
    refine sv_kE (k' := (kc + 1)) (n' := (nc + 6)) rfl rfl ?_
    refine sv_iload C rfl d_L_law_482 ?_
    refine sv_icmpK_eq C (0) (by decide) 489 (by decide) d_L_law_484 (fun c484 => ?_) (fun c484 => ?_)
    · skip
      refine sv_iload C rfl d_L_law_489 ?_
      refine sv_ifZ_ne C 506 (by decide) d_L_law_491 (fun c491 => ?_) (fun c491 => ?_)
      · skip
        exact absurd c491 (by decide)
      · skip
        refine sv_aload_n C rfl rfl d_L_law_494 ?_
        refine sv_iconst C (v := 0) (by decide) d_L_law_495 ?_
        refine sv_lald C 14 rfl (by unfold vp_in; decide) d_L_law_496 ?_
        refine sv_iload C rfl d_L_law_497 ?_
        refine sv_i2l C d_L_law_499 ?_
        refine sv_lcmp C d_L_law_500 ?_
        refine sv_eqi (lw_cmp0 _ _) ?_
        refine sv_ifZ_eq C 506 (by decide) d_L_law_501 (fun c501 => ?_) (fun c501 => ?_)
        · skip
          refine sv_goto C 534 (by decide) d_L_law_506 ?_
          exact hk _ _ _ _ _ _ _ _ _ _ _ _ _ _ _ _ _ _ _ _ _ _ _ ⟨j1, j2, j3, j4, j5, j6, j7⟩
        · skip
          exact absurd c501 (by decide)
    · skip
      exact absurd (by decide) c484
set_option maxHeartbeats 4000000 in
set_option maxRecDepth 100000 in
theorem lw_c7 {X : sv_X} {l : Launch} {g : sv_G} (hfl : l.flags = pinnedFlags ++ [noTraceFlag]) (C : sv_C X l code 7 "WordChainLaw" room_1 g) (hT : sv_CT X) {bS L : Nat} {xs : Nat → Int32} (hL : L ≤ 3072) (hsc : sv_SX X bS L xs) (ax am : Nat → Nat) (aO : Nat) (kf : Nat → Int32) (R : va_W) (hkf : ∀ i, i < 33 → kf i = nI (pu_key (pu_stops.getD i []))) (hE : sv_E5 g R (ax 14) (ax 15) (ax 16) (ax 17) (ax 18)) (hS0 : sv_SA g R (am 7) 33 tm_0) (hS2 : sv_SA g R (am 8) (2 * 20) tm_2) (hS3 : sv_SA g R (am 9) (2 * 7) tm_3) (hS4 : sv_SA g R (am 10) (2 * 19) tm_4) (i kc nc : Nat) (hi6 : i + 6 ≤ L) (hkc : kc + 1 ≤ 601024) (hnc : nc + 6 ≤ 7293034) (inl wd n : Nat) (wn th wm : Int32) (b tf wf vf ch po st b2 tf2 wf2 ch2 po2 st2 : Nat → Int32) (lo : Nat → Int64) (T : List (Nat × List Int32)) (o5 o6 : Option Value) (hJ : lw_J inl b ch po st b2 ch2 po2 st2 T) (hk : ∀ (inl wd n : Nat) (wn th wm : Int32) (b tf wf vf ch po st b2 tf2 wf2 ch2 po2 st2 : Nat → Int32) (lo : Nat → Int64) (T : List (Nat × List Int32)) (o5 o6 : Option Value), lw_J inl b ch po st b2 ch2 po2 st2 T → sv_V X 7 (kc + 1) (nc + 6) ((lw_x g ax inl wd n wn b tf kf wf vf ch po st T) ++ (lw_o g aO lo :: ((lw_m g am inl wd n th wm b2 tf2 wf2 ch2 po2 st2 T) ++ R))) 534 [some (.ref bS), some (.ref (ax 0)), some (.ref (am 0)), some (.ref aO), some (.int (nI i)), o5, o6] []) : sv_V X 7 kc nc ((lw_x g ax inl wd n wn b tf kf wf vf ch po st T) ++ (lw_o g aO lo :: ((lw_m g am inl wd n th wm b2 tf2 wf2 ch2 po2 st2 T) ++ R))) 509 [some (.ref bS), some (.ref (ax 0)), some (.ref (am 0)), some (.ref aO), some (.int (nI i)), o5, o6] [] := by
  obtain ⟨j1, j2, j3, j4, j5, j6, j7⟩ := hJ
  refine sv_aload_n C rfl rfl d_L_law_509 ?_
  refine sv_aload_n C rfl rfl d_L_law_510 ?_
  refine sv_iload C rfl d_L_law_511 ?_
  refine sv_iconst C (v := 1) (by decide) d_L_law_513 ?_
  refine sv_iaddN C _ 1  d_L_law_514 ?_
  refine sv_sld C hsc hL _ (by omega) d_L_law_515 ?_
  refine sv_callVi C (e_X_count l g _ ax inl wd n wn b tf kf wf vf ch po st T j1 j3 j4 (xs (i + 1))) lk_L_71 List.mem_cons_self rfl d_L_law_516 (by decide) (Nat.le_of_ble_eq_true rfl) (lw_cs0 (by omega) (by omega)) (fun r w hw => ?_)
  obtain ⟨rfl, rfl⟩ := hw
  refine sv_kE (k' := kc) (n' := nc) rfl rfl ?_
  refine sv_aload_n C rfl rfl d_L_law_519 ?_
  refine sv_aload_n C rfl rfl d_L_law_520 ?_
  refine sv_iload C rfl d_L_law_521 ?_
  refine sv_iconst C (v := 1) (by decide) d_L_law_523 ?_
  refine sv_iaddN C _ 1  d_L_law_524 ?_
  refine sv_sld C hsc hL _ (by omega) d_L_law_525 ?_
  refine sv_Perm (lw_pm _ _ _ _) ?_
  refine sv_callVi C (e_M_count l g _ am inl wd n th wm b2 tf2 wf2 ch2 po2 st2 T j2 j3 j4 (xs (i + 1))) lk_L_74 List.mem_cons_self rfl d_L_law_526 (by decide) (Nat.le_of_ble_eq_true rfl) (lw_cs0 (by omega) (by omega)) (fun r w hw => ?_)
  obtain ⟨rfl, rfl⟩ := hw
  refine sv_Perm (lw_mp _ _ _ _) ?_
  refine sv_kE (k' := kc) (n' := nc) rfl rfl ?_
  refine sv_icmp_eq C 534 (by decide) d_L_law_529 (fun c529 => ?_) (fun c529 => ?_)
  · skip
    refine sv_widen (k2 := kc + 1) (n2 := nc + 6) (by omega) (by omega) ?_
    exact hk _ _ _ _ _ _ _ _ _ _ _ _ _ _ _ _ _ _ _ _ _ _ _ ⟨j1, j2, j3, j4, j5, j6, j7⟩
  · skip
    exact absurd rfl c529
