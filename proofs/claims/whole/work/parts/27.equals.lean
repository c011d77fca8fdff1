/-! CONTRACTS: String.equals -/
section SVQ
variable {X : sv_X} {l : Launch} {cc : ByteArray} {nL k n pc : Nat} {own : String} {rm : Room} {g : sv_G} {ws : va_W} {lv : List (Option Value)} {st : List Value}
theorem sv_eqv {v w : Value} (h : v = w) (z : sv_V X nL k n ws pc lv (w :: st)) : sv_V X nL k n ws pc lv (v :: st) := by subst h; exact z
end SVQ
def rm_Lat_equals : Room := { frames := 0, cells := 0, slots := 0, locals := 0 }
set_option maxHeartbeats 4000000 in
set_option maxRecDepth 100000 in
theorem c_Lat_equals (l : Launch) (g : sv_G) (ws : va_W) (i j : Nat) (hi : i < sv_nS) (hj : j < sv_nS) : sv_Mi l y_Lat_equals b_Lat_equals 3 (some (.boolean)) rm_Lat_equals g [.ref (g.2.2.2 i), .ref (g.2.2.2 j)] ws (fun r w => r = (if sv_txt i = sv_txt j then 1 else 0) ∧ w = ws) := by
  have hl := sv_len hi
  have hl2 := sv_len hj
  refine sv_enter_i (by decide) rfl rfl (Nat.le_of_ble_eq_true rfl) (fun X C hI hr => ?_)
  refine sv_lvE (lv' := [some _, some _, none]) rfl ?_
  have L9 : ∀ (k : Nat) (q : Nat), ((sv_txt i).length = (sv_txt j).length ∧ q ≤ (sv_txt i).length ∧ (sv_txt i).length ≤ q + k ∧ ∀ m, m < q → (sv_txt i).getD m 0 = (sv_txt j).getD m 0) → sv_V X 3 0 0 ws 9 [some (.ref (g.2.2.2 i)), some (.ref (g.2.2.2 j)), some (.int (nI q))] [] := by
    intro k
    induction k with
    | zero =>
      intro q hq
      obtain ⟨q1, q2, q3, q4⟩ := hq
      refine sv_iload_n C rfl rfl d_Lat_equals_9 ?_
      refine sv_aload_n C rfl rfl d_Lat_equals_10 ?_
      refine sv_lenS C i hi d_Lat_equals_11 ?_
      refine sv_icmpN_ge C _ _ (by omega) (by omega) 32 (by decide) d_Lat_equals_12 (fun c12 => ?_) (fun c12 => ?_)
      · skip
        refine sv_iconst C (v := 1) (by decide) d_Lat_equals_32 ?_
        exact hr _ _ _ _ d_Lat_equals_33 rfl ⟨(if_pos (pu_eq_of q1 (fun m hm => q4 m (by omega)))).symm, rfl⟩
      · skip
        exact absurd c12 (by omega)
    | succ k ih =>
      intro q hq
      obtain ⟨q1, q2, q3, q4⟩ := hq
      refine sv_iload_n C rfl rfl d_Lat_equals_9 ?_
      refine sv_aload_n C rfl rfl d_Lat_equals_10 ?_
      refine sv_lenS C i hi d_Lat_equals_11 ?_
      refine sv_icmpN_ge C _ _ (by omega) (by omega) 32 (by decide) d_Lat_equals_12 (fun c12 => ?_) (fun c12 => ?_)
      · skip
        refine sv_iconst C (v := 1) (by decide) d_Lat_equals_32 ?_
        exact hr _ _ _ _ d_Lat_equals_33 rfl ⟨(if_pos (pu_eq_of q1 (fun m hm => q4 m (by omega)))).symm, rfl⟩
      · skip
        refine sv_aload_n C rfl rfl d_Lat_equals_15 ?_
        refine sv_iload_n C rfl rfl d_Lat_equals_16 ?_
        refine sv_baldS C i q hi (by omega) (by omega) d_Lat_equals_17 ?_
        refine sv_aload_n C rfl rfl d_Lat_equals_18 ?_
        refine sv_iload_n C rfl rfl d_Lat_equals_19 ?_
        refine sv_baldS C j q hj (by omega) (by omega) d_Lat_equals_20 ?_
        refine sv_icmp_eq C 26 (by decide) d_Lat_equals_21 (fun c21 => ?_) (fun c21 => ?_)
        · skip
          refine sv_iincN C 1 _ rfl [some _, some _, some _] rfl d_Lat_equals_26 ?_
          refine sv_goto C 9 (by decide) d_Lat_equals_29 ?_
          exact ih (q + 1) ⟨q1, by omega, by omega, fun m hm => by
            rcases Nat.lt_or_ge m q with h | h
            · exact q4 m h
            · have hmq : m = q := by omega
              subst hmq
              exact c21⟩
        · skip
          refine sv_iconst C (v := 0) (by decide) d_Lat_equals_24 ?_
          exact hr _ _ _ _ d_Lat_equals_25 rfl ⟨(if_neg (fun z => c21 (by rw [z]))).symm, rfl⟩
  refine sv_aload_n C rfl rfl d_Lat_equals_0 ?_
  refine sv_lenS C i hi d_Lat_equals_1 ?_
  refine sv_aload_n C rfl rfl d_Lat_equals_2 ?_
  refine sv_lenS C j hj d_Lat_equals_3 ?_
  refine sv_icmpN_ne C _ _ (by omega) (by omega) 34 (by decide) d_Lat_equals_4 (fun c4 => ?_) (fun c4 => ?_)
  · skip
    refine sv_iconst C (v := 0) (by decide) d_Lat_equals_34 ?_
    exact hr _ _ _ _ d_Lat_equals_35 rfl ⟨(if_neg (fun z => c4 (by rw [z]))).symm, rfl⟩
  · skip
    refine sv_iconst C (v := 0) (by decide) d_Lat_equals_7 ?_
    refine sv_istore_n C rfl (by decide) [some _, some _, some _] rfl d_Lat_equals_8 ?_
    exact L9 (sv_txt i).length 0 ⟨c4, by omega, by omega, fun m hm => absurd hm (Nat.not_lt_zero m)⟩

def rm_Str_equals : Room := { frames := 1, cells := 0, slots := 0, locals := 22 }
set_option maxHeartbeats 4000000 in
set_option maxRecDepth 100000 in
theorem c_Str_equals (l : Launch) (g : sv_G) (ws : va_W) (i j : Nat) (hi : i < sv_nS) (hj : j < sv_nS) : sv_Mi l y_Str_equals b_Str_equals 3 (some (.boolean)) rm_Str_equals g [.ref (g.2.2.1 i), .ref (g.2.2.1 j)] ws (fun r w => r = (if sv_txt i = sv_txt j then 1 else 0) ∧ w = ws) := by
  have hl := sv_len hi
  have hl2 := sv_len hj
  refine sv_enter_i (by decide) rfl rfl (Nat.le_of_ble_eq_true rfl) (fun X C hI hr => ?_)
  refine sv_lvE (lv' := [some _, some _, none]) rfl ?_
  have j7 : sv_V X 3 0 0 ws 7 [some (.ref (g.2.2.1 i)), some (.ref (g.2.2.1 j)), none] [] := by
    refine sv_aload_n C rfl rfl d_Str_equals_7 ?_
    refine sv_instS C j hj wk_Str_10 d_Str_equals_8 ?_
    refine sv_ifZ_eq C 54 (by decide) d_Str_equals_11 (fun c11 => ?_) (fun c11 => ?_)
    · skip
      exact absurd c11 (by decide)
    · skip
      refine sv_aload_n C rfl rfl d_Str_equals_14 ?_
      refine sv_castS C j hj wk_Str_10 d_Str_equals_15 ?_
      refine sv_astore_n C rfl (by decide) [some _, some _, some _] rfl d_Str_equals_18 ?_
      refine sv_getsC C wz_38 d_Str_equals_19 ?_
      refine sv_ifZ_eq C 36 (by decide) d_Str_equals_22 (fun c22 => ?_) (fun c22 => ?_)
      · skip
        exact absurd c22 (by decide)
      · skip
        refine sv_aload_n C rfl rfl d_Str_equals_25 ?_
        refine sv_getSc C i hi wz_15 d_Str_equals_26 ?_
        refine sv_aload_n C rfl rfl d_Str_equals_29 ?_
        refine sv_getSc C j hj wz_15 d_Str_equals_30 ?_
        refine sv_icmp_ne C 54 (by decide) d_Str_equals_33 (fun c33 => ?_) (fun c33 => ?_)
        · skip
          exact absurd rfl c33
        · skip
          refine sv_aload_n C rfl rfl d_Str_equals_36 ?_
          refine sv_getSv C i hi wz_9 d_Str_equals_37 ?_
          refine sv_aload_n C rfl rfl d_Str_equals_40 ?_
          refine sv_getSv C j hj wz_9 d_Str_equals_41 ?_
          refine sv_callSi C (c_Lat_equals l g _ i j hi hj) lk_Str_541  d_Str_equals_44 (by decide) (Nat.le_of_ble_eq_true rfl) (by decide) (fun r w hw => ?_)
          obtain ⟨rfl, rfl⟩ := hw
          refine sv_ifB_eq C _ 54 (by decide) d_Str_equals_47 (fun c47 => ?_) (fun c47 => ?_)
          · skip
            refine sv_iconst C (v := 0) (by decide) d_Str_equals_54 ?_
            exact hr _ _ _ _ d_Str_equals_55 rfl ⟨(if_neg c47).symm, rfl⟩
          · skip
            refine sv_iconst C (v := 1) (by decide) d_Str_equals_50 ?_
            refine sv_goto C 55 (by decide) d_Str_equals_51 ?_
            exact hr _ _ _ _ d_Str_equals_55 rfl ⟨(if_pos c47).symm, rfl⟩
  refine sv_aload_n C rfl rfl d_Str_equals_0 ?_
  refine sv_aload_n C rfl rfl d_Str_equals_1 ?_
  refine sv_acmp_ne C 7 (by decide) d_Str_equals_2 (fun c2 => j7) (fun c2 => ?_)
  refine sv_iconst C (v := 1) (by decide) d_Str_equals_5 ?_
  exact hr _ _ _ _ d_Str_equals_6 rfl ⟨(if_pos (sv_strEq C hi hj (by omega) (by omega) c2)).symm, rfl⟩
