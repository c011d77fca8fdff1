/-! CONTRACTS: the JDK's strings -/
theorem sv_ascii : ∀ i, i < sv_nS → (sv_txt i).length < 200 ∧ ∀ c ∈ sv_txt i, 0 ≤ c.toInt ∧ c.toInt < 128 := by decide +kernel
theorem sv_len {i : Nat} (hi : i < sv_nS) : (sv_txt i).length < 200 := (sv_ascii i hi).1
theorem sv_ch {i j : Nat} (hi : i < sv_nS) (hj : j < (sv_txt i).length) : ∃ q : Nat, q < 128 ∧ (sv_txt i).getD j 0 = nI q := by
  have h1 : (sv_txt i).getD j 0 ∈ sv_txt i := by
    rw [List.getD_eq_getElem?_getD, List.getElem?_eq_getElem hj]
    exact List.getElem_mem _
  obtain ⟨h2, h3⟩ := (sv_ascii i hi).2 _ h1
  refine ⟨((sv_txt i).getD j 0).toInt.toNat, by omega, ?_⟩
  apply Int32.toInt_inj.mp
  rw [nI_toInt (by omega)]
  omega
theorem sv_ch8 : ∀ q, q < 128 → ((nI q &&& 255).toUInt32 % 65536).toInt32 = nI q := by decide +kernel
theorem sv_chE {i j : Nat} (hi : i < sv_nS) (hj : j < (sv_txt i).length) : (((sv_txt i).getD j 0 &&& 255).toUInt32 % 65536).toInt32 = (sv_txt i).getD j 0 := by
  obtain ⟨q, hq, e⟩ := sv_ch hi hj
  rw [e]
  exact sv_ch8 q hq
theorem sv_chN {i j : Nat} (hi : i < sv_nS) (hj : j < (sv_txt i).length) : narrow .char (.int ((sv_txt i).getD j 0)) = .int ((sv_txt i).getD j 0) := by
  obtain ⟨q, hq, e⟩ := sv_ch hi hj
  rw [e]
  exact (pk_charN (by omega)).1
def rm_Pre_checkIndex : Room := { frames := 1, cells := 0, slots := 0, locals := 80 }
set_option maxHeartbeats 4000000 in
set_option maxRecDepth 100000 in
theorem c_Pre_checkIndex (l : Launch) (g : sv_G) (ws : va_W) (a b : Nat) (v : Option Nat) (hab : a < b) (hb : b < 2 ^ 30) : sv_Mi l y_Pre_checkIndex b_Pre_checkIndex 3 (some (.int)) rm_Pre_checkIndex g [.int (nI a), .int (nI b), va_rf v] ws (fun r w => r = nI a ∧ w = ws) := by
  refine sv_enter_i (by decide) rfl (by cases v <;> rfl) (Nat.le_of_ble_eq_true rfl) (fun X C hI hr => ?_)
  refine sv_lvE (lv' := [some _, some _, some _]) rfl ?_
  refine sv_iload_n C rfl rfl d_Pre_checkIndex_0 ?_
  refine sv_ifZ_lt C 9 (by decide) d_Pre_checkIndex_1 (fun c1 => ?_) (fun c1 => ?_)
  · skip
    exact absurd c1 (by rw [nI_toInt (by omega)]; omega)
  · skip
    refine sv_iload_n C rfl rfl d_Pre_checkIndex_4 ?_
    refine sv_iload_n C rfl rfl d_Pre_checkIndex_5 ?_
    refine sv_icmpN_lt C _ _ (by omega) (by omega) 16 (by decide) d_Pre_checkIndex_6 (fun c6 => ?_) (fun c6 => ?_)
    · skip
      refine sv_iload_n C rfl rfl d_Pre_checkIndex_16 ?_
      exact hr _ _ _ _ d_Pre_checkIndex_17 rfl ⟨rfl, rfl⟩
    · skip
      exact absurd c6 (by omega)

def rm_Str_checkIndex : Room := { frames := 2, cells := 0, slots := 0, locals := 102 }
set_option maxHeartbeats 4000000 in
set_option maxRecDepth 100000 in
theorem c_Str_checkIndex (l : Launch) (g : sv_G) (ws : va_W) (a b : Nat) (hab : a < b) (hb : b < 2 ^ 30) : sv_Mv l y_Str_checkIndex b_Str_checkIndex 2 none rm_Str_checkIndex g [.int (nI a), .int (nI b)] ws (fun w => w = ws) := by
  refine sv_enter_v (by decide) rfl rfl (Nat.le_of_ble_eq_true rfl) (fun X C hI hr => ?_)
  refine sv_lvE (lv' := [some _, some _]) rfl ?_
  refine sv_iload_n C rfl rfl d_Str_checkIndex_0 ?_
  refine sv_iload_n C rfl rfl d_Str_checkIndex_1 ?_
  refine sv_getsF C wz_1053 d_Str_checkIndex_2 (fun v => ?_)
  refine sv_callSi C (c_Pre_checkIndex l g _ a b v hab hb) lk_Str_1059  d_Str_checkIndex_5 (by decide) (Nat.le_of_ble_eq_true rfl) (by decide) (fun r w hw => ?_)
  obtain ⟨rfl, rfl⟩ := hw
  refine sv_pop C rfl d_Str_checkIndex_8 ?_
  exact hr _ _ _ d_Str_checkIndex_9 rfl

def rm_Lat_charAt : Room := { frames := 3, cells := 0, slots := 0, locals := 123 }
set_option maxHeartbeats 4000000 in
set_option maxRecDepth 100000 in
theorem c_Lat_charAt (l : Launch) (g : sv_G) (ws : va_W) (i j : Nat) (hi : i < sv_nS) (hj : j < (sv_txt i).length) : sv_Mi l y_Lat_charAt b_Lat_charAt 2 (some (.char)) rm_Lat_charAt g [.ref (g.2.2.2 i), .int (nI j)] ws (fun r w => r = (sv_txt i).getD j 0 ∧ w = ws) := by
  have hl := sv_len hi
  refine sv_enter_i (by decide) rfl rfl (Nat.le_of_ble_eq_true rfl) (fun X C hI hr => ?_)
  refine sv_lvE (lv' := [some _, some _]) rfl ?_
  refine sv_iload_n C rfl rfl d_Lat_charAt_0 ?_
  refine sv_aload_n C rfl rfl d_Lat_charAt_1 ?_
  refine sv_lenS C i hi d_Lat_charAt_2 ?_
  refine sv_callSv C (c_Str_checkIndex l g _ j _ hj (by omega)) lk_Lat_9  d_Lat_charAt_3 (by decide) (Nat.le_of_ble_eq_true rfl) (by decide) (fun w hw => ?_)
  obtain rfl := hw
  refine sv_aload_n C rfl rfl d_Lat_charAt_6 ?_
  refine sv_iload_n C rfl rfl d_Lat_charAt_7 ?_
  refine sv_baldS C i j hi hj (by omega) d_Lat_charAt_8 ?_
  refine sv_sipush C (v := 255) (by decide) d_Lat_charAt_9 ?_
  refine sv_iand C d_Lat_charAt_12 ?_
  refine sv_i2c C d_Lat_charAt_13 ?_
  refine sv_eqi (sv_chE hi hj) ?_
  exact hr _ _ _ _ d_Lat_charAt_14 (sv_chN hi hj) ⟨rfl, rfl⟩

def rm_Str_isLatin1 : Room := { frames := 0, cells := 0, slots := 0, locals := 0 }
set_option maxHeartbeats 4000000 in
set_option maxRecDepth 100000 in
theorem c_Str_isLatin1 (l : Launch) (g : sv_G) (ws : va_W) (i : Nat) (hi : i < sv_nS) : sv_Mi l y_Str_isLatin1 b_Str_isLatin1 1 (some (.boolean)) rm_Str_isLatin1 g [.ref (g.2.2.1 i)] ws (fun r w => r = 1 ∧ w = ws) := by
  refine sv_enter_i (by decide) rfl rfl (Nat.le_of_ble_eq_true rfl) (fun X C hI hr => ?_)
  refine sv_lvE (lv' := [some _]) rfl ?_
  refine sv_getsC C wz_38 d_Str_isLatin1_0 ?_
  refine sv_ifZ_eq C 17 (by decide) d_Str_isLatin1_3 (fun c3 => ?_) (fun c3 => ?_)
  · skip
    exact absurd c3 (by decide)
  · skip
    refine sv_aload_n C rfl rfl d_Str_isLatin1_6 ?_
    refine sv_getSc C i hi wz_15 d_Str_isLatin1_7 ?_
    refine sv_ifZ_ne C 17 (by decide) d_Str_isLatin1_10 (fun c10 => ?_) (fun c10 => ?_)
    · skip
      exact absurd (show (0 : Int32).toInt = 0 from rfl) c10
    · skip
      refine sv_iconst C (v := 1) (by decide) d_Str_isLatin1_13 ?_
      refine sv_goto C 18 (by decide) d_Str_isLatin1_14 ?_
      exact hr _ _ _ _ d_Str_isLatin1_18 rfl ⟨rfl, rfl⟩

def rm_Str_charAt : Room := { frames := 5, cells := 0, slots := 0, locals := 165 }
set_option maxHeartbeats 4000000 in
set_option maxRecDepth 100000 in
theorem c_Str_charAt (l : Launch) (g : sv_G) (ws : va_W) (i j : Nat) (hi : i < sv_nS) (hj : j < (sv_txt i).length) : sv_Mi l y_Str_charAt b_Str_charAt 2 (some (.char)) rm_Str_charAt g [.ref (g.2.2.1 i), .int (nI j)] ws (fun r w => r = (sv_txt i).getD j 0 ∧ w = ws) := by
  refine sv_enter_i (by decide) rfl rfl (Nat.le_of_ble_eq_true rfl) (fun X C hI hr => ?_)
  refine sv_lvE (lv' := [some _, some _]) rfl ?_
  refine sv_aload_n C rfl rfl d_Str_charAt_0 ?_
  refine sv_callVsi C i hi (c_Str_isLatin1 l g _ i hi) lk_Str_492 rfl d_Str_charAt_1 (by decide) (Nat.le_of_ble_eq_true rfl) (by decide) (fun r w hw => ?_)
  obtain ⟨rfl, rfl⟩ := hw
  refine sv_ifZ_eq C 16 (by decide) d_Str_charAt_4 (fun c4 => ?_) (fun c4 => ?_)
  · skip
    exact absurd c4 (by decide)
  · skip
    refine sv_aload_n C rfl rfl d_Str_charAt_7 ?_
    refine sv_getSv C i hi wz_9 d_Str_charAt_8 ?_
    refine sv_iload_n C rfl rfl d_Str_charAt_11 ?_
    refine sv_callSi C (c_Lat_charAt l g _ i j hi hj) lk_Str_495  d_Str_charAt_12 (by decide) (Nat.le_of_ble_eq_true rfl) (by decide) (fun r w hw => ?_)
    obtain ⟨rfl, rfl⟩ := hw
    exact hr _ _ _ _ d_Str_charAt_15 (sv_chN hi hj) ⟨rfl, rfl⟩

def rm_Str_coder : Room := { frames := 0, cells := 0, slots := 0, locals := 0 }
set_option maxHeartbeats 4000000 in
set_option maxRecDepth 100000 in
theorem c_Str_coder (l : Launch) (g : sv_G) (ws : va_W) (i : Nat) (hi : i < sv_nS) : sv_Mi l y_Str_coder b_Str_coder 1 (some (.byte)) rm_Str_coder g [.ref (g.2.2.1 i)] ws (fun r w => r = 0 ∧ w = ws) := by
  refine sv_enter_i (by decide) rfl rfl (Nat.le_of_ble_eq_true rfl) (fun X C hI hr => ?_)
  refine sv_lvE (lv' := [some _]) rfl ?_
  refine sv_getsC C wz_38 d_Str_coder_0 ?_
  refine sv_ifZ_eq C 13 (by decide) d_Str_coder_3 (fun c3 => ?_) (fun c3 => ?_)
  · skip
    exact absurd c3 (by decide)
  · skip
    refine sv_aload_n C rfl rfl d_Str_coder_6 ?_
    refine sv_getSc C i hi wz_15 d_Str_coder_7 ?_
    refine sv_goto C 14 (by decide) d_Str_coder_10 ?_
    exact hr _ _ _ _ d_Str_coder_14 rfl ⟨rfl, rfl⟩

def rm_Str_length : Room := { frames := 1, cells := 0, slots := 0, locals := 20 }
set_option maxHeartbeats 4000000 in
set_option maxRecDepth 100000 in
theorem c_Str_length (l : Launch) (g : sv_G) (ws : va_W) (i : Nat) (hi : i < sv_nS) : sv_Mi l y_Str_length b_Str_length 1 (some (.int)) rm_Str_length g [.ref (g.2.2.1 i)] ws (fun r w => r = nI (sv_txt i).length ∧ w = ws) := by
  have hl := sv_len hi
  refine sv_enter_i (by decide) rfl rfl (Nat.le_of_ble_eq_true rfl) (fun X C hI hr => ?_)
  refine sv_lvE (lv' := [some _]) rfl ?_
  refine sv_aload_n C rfl rfl d_Str_length_0 ?_
  refine sv_getSv C i hi wz_9 d_Str_length_1 ?_
  refine sv_lenS C i hi d_Str_length_4 ?_
  refine sv_aload_n C rfl rfl d_Str_length_5 ?_
  refine sv_callVsi C i hi (c_Str_coder l g _ i hi) lk_Str_335 rfl d_Str_length_6 (by decide) (Nat.le_of_ble_eq_true rfl) (by decide) (fun r w hw => ?_)
  obtain ⟨rfl, rfl⟩ := hw
  refine sv_ishr C d_Str_length_9 ?_
  refine sv_eqi (sc_shr0 (by omega)) ?_
  exact hr _ _ _ _ d_Str_length_10 rfl ⟨rfl, rfl⟩
