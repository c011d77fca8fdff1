/-! CONTRACTS: Utf8, Text -/
theorem pu_size1 {u : Nat → Nat} {a e : Nat} (h : pu_size u a e = 1) : u a < 128 ∧ pu_char u a e = u a := by
  refine ⟨?_, ?_⟩
  · unfold pu_size at h
    (repeat' split at h) <;> omega
  · unfold pu_char
    rw [if_neg (by omega), if_pos h]
theorem pu_vl_succ {u : Nat → Nat} {a s j : Nat} (h : 1 ≤ j) : pu_vl u a s j * 64 + u (a + j) % 64 = pu_vl u a s (j + 1) := by
  cases j with
  | zero => omega
  | succ j => rfl
theorem pu_vl_end {u : Nat → Nat} {a e s j : Nat} (hs : pu_size u a e = s) (h2 : 2 ≤ s) (hj : j = s) : pu_vl u a s j = pu_char u a e := by
  subst hj; subst hs
  exact (pu_char_val h2).symm
theorem pu_max1 {s : Nat} (h : s < 2 ^ 31) : (if (1 : Int32) < nI s then nI s else 1) = nI (if s = 0 then 1 else s) := by
  have h1 : ((1 : Int32) < nI s) ↔ 1 < s := nI_ltI (a := 1) (by decide) h
  by_cases h2 : 1 < s
  · rw [if_pos (h1.mpr h2), if_neg (by omega)]
  · rw [if_neg (fun z => h2 (h1.mp z))]
    by_cases h3 : s = 0
    · rw [if_pos h3]; rfl
    · have : s = 1 := by omega
      subst this
      rfl
def rm_Ut_sizeByLead : Room := { frames := 0, cells := 0, slots := 0, locals := 0 }
set_option maxHeartbeats 4000000 in
set_option maxRecDepth 100000 in
theorem c_Ut_sizeByLead (l : Launch) (g : sv_G) (ws : va_W) (u : Nat) (hu : u < 256) : sv_Mi l y_Ut_sizeByLead b_Ut_sizeByLead 1 (some (.int)) rm_Ut_sizeByLead g [.int (nI u)] ws (fun r w => r = nI (pu_lead u) ∧ w = ws) := by
  refine sv_enter_i (by decide) rfl rfl (Nat.le_of_ble_eq_true rfl) (fun X C hI hr => ?_)
  refine sv_lvE (lv' := [some _]) rfl ?_
  refine sv_iload_n C rfl rfl d_Ut_sizeByLead_0 ?_
  refine sv_sipush C (v := 128) (by decide) d_Ut_sizeByLead_1 ?_
  refine sv_icmpN_ge C _ 128 (by omega) (by omega) 9 (by decide) d_Ut_sizeByLead_4 (fun c4 => ?_) (fun c4 => ?_)
  · skip
    refine sv_iload_n C rfl rfl d_Ut_sizeByLead_9 ?_
    refine sv_sipush C (v := 194) (by decide) d_Ut_sizeByLead_10 ?_
    refine sv_icmpN_lt C _ 194 (by omega) (by omega) 23 (by decide) d_Ut_sizeByLead_13 (fun c13 => ?_) (fun c13 => ?_)
    · skip
      refine sv_iconst C (v := 0) (by decide) d_Ut_sizeByLead_23 ?_
      exact hr _ _ _ _ d_Ut_sizeByLead_24 rfl ⟨(show (0 : Int32) = nI 0 from rfl).trans (congrArg nI (by unfold pu_lead; (repeat' split) <;> omega)), rfl⟩
    · skip
      refine sv_iload_n C rfl rfl d_Ut_sizeByLead_16 ?_
      refine sv_sipush C (v := 244) (by decide) d_Ut_sizeByLead_17 ?_
      refine sv_icmpN_le C _ 244 (by omega) (by omega) 25 (by decide) d_Ut_sizeByLead_20 (fun c20 => ?_) (fun c20 => ?_)
      · skip
        refine sv_iload_n C rfl rfl d_Ut_sizeByLead_25 ?_
        refine sv_sipush C (v := 224) (by decide) d_Ut_sizeByLead_26 ?_
        refine sv_icmpN_ge C _ 224 (by omega) (by omega) 36 (by decide) d_Ut_sizeByLead_29 (fun c29 => ?_) (fun c29 => ?_)
        · skip
          refine sv_iload_n C rfl rfl d_Ut_sizeByLead_36 ?_
          refine sv_sipush C (v := 240) (by decide) d_Ut_sizeByLead_37 ?_
          refine sv_icmpN_ge C _ 240 (by omega) (by omega) 47 (by decide) d_Ut_sizeByLead_40 (fun c40 => ?_) (fun c40 => ?_)
          · skip
            refine sv_iconst C (v := 4) (by decide) d_Ut_sizeByLead_47 ?_
            exact hr _ _ _ _ d_Ut_sizeByLead_48 rfl ⟨(show (4 : Int32) = nI 4 from rfl).trans (congrArg nI (by unfold pu_lead; (repeat' split) <;> omega)), rfl⟩
          · skip
            refine sv_iconst C (v := 3) (by decide) d_Ut_sizeByLead_43 ?_
            refine sv_goto C 48 (by decide) d_Ut_sizeByLead_44 ?_
            exact hr _ _ _ _ d_Ut_sizeByLead_48 rfl ⟨(show (3 : Int32) = nI 3 from rfl).trans (congrArg nI (by unfold pu_lead; (repeat' split) <;> omega)), rfl⟩
        · skip
          refine sv_iconst C (v := 2) (by decide) d_Ut_sizeByLead_32 ?_
          refine sv_goto C 48 (by decide) d_Ut_sizeByLead_33 ?_
          exact hr _ _ _ _ d_Ut_sizeByLead_48 rfl ⟨(show (2 : Int32) = nI 2 from rfl).trans (congrArg nI (by unfold pu_lead; (repeat' split) <;> omega)), rfl⟩
      · skip
        refine sv_iconst C (v := 0) (by decide) d_Ut_sizeByLead_23 ?_
        exact hr _ _ _ _ d_Ut_sizeByLead_24 rfl ⟨(show (0 : Int32) = nI 0 from rfl).trans (congrArg nI (by unfold pu_lead; (repeat' split) <;> omega)), rfl⟩
  · skip
    refine sv_iconst C (v := 1) (by decide) d_Ut_sizeByLead_7 ?_
    exact hr _ _ _ _ d_Ut_sizeByLead_8 rfl ⟨(show (1 : Int32) = nI 1 from rfl).trans (congrArg nI (by unfold pu_lead; (repeat' split) <;> omega)), rfl⟩

def rm_Ut_isSecond : Room := { frames := 0, cells := 0, slots := 0, locals := 0 }
set_option maxHeartbeats 4000000 in
set_option maxRecDepth 100000 in
theorem c_Ut_isSecond (l : Launch) (g : sv_G) (ws : va_W) (u v : Nat) (hu : u < 256) (hv : v < 256) : sv_Mi l y_Ut_isSecond b_Ut_isSecond 4 (some (.boolean)) rm_Ut_isSecond g [.int (nI u), .int (nI v)] ws (fun r w => r = (if pu_sec u v then 1 else 0) ∧ w = ws) := by
  refine sv_enter_i (by decide) rfl rfl (Nat.le_of_ble_eq_true rfl) (fun X C hI hr => ?_)
  refine sv_lvE (lv' := [some _, some _, none, none]) rfl ?_
  refine sv_iload_n C rfl rfl d_Ut_isSecond_0 ?_
  refine sv_sipush C (v := 224) (by decide) d_Ut_isSecond_1 ?_
  refine sv_icmpN_ne C _ 224 (by omega) (by omega) 13 (by decide) d_Ut_isSecond_4 (fun c4 => ?_) (fun c4 => ?_)
  · skip
    refine sv_iload_n C rfl rfl d_Ut_isSecond_13 ?_
    refine sv_sipush C (v := 240) (by decide) d_Ut_isSecond_14 ?_
    refine sv_icmpN_ne C _ 240 (by omega) (by omega) 26 (by decide) d_Ut_isSecond_17 (fun c17 => ?_) (fun c17 => ?_)
    · skip
      refine sv_sipush C (v := 128) (by decide) d_Ut_isSecond_26 ?_
      refine sv_istore_n C rfl (by decide) [some _, some _, some _, none] rfl d_Ut_isSecond_29 ?_
      refine sv_iload_n C rfl rfl d_Ut_isSecond_30 ?_
      refine sv_sipush C (v := 237) (by decide) d_Ut_isSecond_31 ?_
      refine sv_icmpN_ne C _ 237 (by omega) (by omega) 43 (by decide) d_Ut_isSecond_34 (fun c34 => ?_) (fun c34 => ?_)
      · skip
        refine sv_iload_n C rfl rfl d_Ut_isSecond_43 ?_
        refine sv_sipush C (v := 244) (by decide) d_Ut_isSecond_44 ?_
        refine sv_icmpN_ne C _ 244 (by omega) (by omega) 56 (by decide) d_Ut_isSecond_47 (fun c47 => ?_) (fun c47 => ?_)
        · skip
          refine sv_sipush C (v := 191) (by decide) d_Ut_isSecond_56 ?_
          refine sv_istore_n C rfl (by decide) [some _, some _, some _, some _] rfl d_Ut_isSecond_59 ?_
          refine sv_iload_n C rfl rfl d_Ut_isSecond_60 ?_
          refine sv_iload_n C rfl rfl d_Ut_isSecond_61 ?_
          refine sv_icmpN_lt C _ 128 (by omega) (by omega) 74 (by decide) d_Ut_isSecond_62 (fun c62 => ?_) (fun c62 => ?_)
          · skip
            refine sv_iconst C (v := 0) (by decide) d_Ut_isSecond_74 ?_
            exact hr _ _ _ _ d_Ut_isSecond_75 rfl ⟨(if_neg (by unfold pu_sec; (repeat' split) <;> omega)).symm, rfl⟩
          · skip
            refine sv_iload_n C rfl rfl d_Ut_isSecond_65 ?_
            refine sv_iload_n C rfl rfl d_Ut_isSecond_66 ?_
            refine sv_icmpN_gt C _ 191 (by omega) (by omega) 74 (by decide) d_Ut_isSecond_67 (fun c67 => ?_) (fun c67 => ?_)
            · skip
              refine sv_iconst C (v := 0) (by decide) d_Ut_isSecond_74 ?_
              exact hr _ _ _ _ d_Ut_isSecond_75 rfl ⟨(if_neg (by unfold pu_sec; (repeat' split) <;> omega)).symm, rfl⟩
            · skip
              refine sv_iconst C (v := 1) (by decide) d_Ut_isSecond_70 ?_
              refine sv_goto C 75 (by decide) d_Ut_isSecond_71 ?_
              exact hr _ _ _ _ d_Ut_isSecond_75 rfl ⟨(if_pos (by unfold pu_sec; (repeat' split) <;> omega)).symm, rfl⟩
        · skip
          refine sv_sipush C (v := 143) (by decide) d_Ut_isSecond_50 ?_
          refine sv_goto C 59 (by decide) d_Ut_isSecond_53 ?_
          refine sv_istore_n C rfl (by decide) [some _, some _, some _, some _] rfl d_Ut_isSecond_59 ?_
          refine sv_iload_n C rfl rfl d_Ut_isSecond_60 ?_
          refine sv_iload_n C rfl rfl d_Ut_isSecond_61 ?_
          refine sv_icmpN_lt C _ 128 (by omega) (by omega) 74 (by decide) d_Ut_isSecond_62 (fun c62 => ?_) (fun c62 => ?_)
          · skip
            refine sv_iconst C (v := 0) (by decide) d_Ut_isSecond_74 ?_
            exact hr _ _ _ _ d_Ut_isSecond_75 rfl ⟨(if_neg (by unfold pu_sec; (repeat' split) <;> omega)).symm, rfl⟩
          · skip
            refine sv_iload_n C rfl rfl d_Ut_isSecond_65 ?_
            refine sv_iload_n C rfl rfl d_Ut_isSecond_66 ?_
            refine sv_icmpN_gt C _ 143 (by omega) (by omega) 74 (by decide) d_Ut_isSecond_67 (fun c67 => ?_) (fun c67 => ?_)
            · skip
              refine sv_iconst C (v := 0) (by decide) d_Ut_isSecond_74 ?_
              exact hr _ _ _ _ d_Ut_isSecond_75 rfl ⟨(if_neg (by unfold pu_sec; (repeat' split) <;> omega)).symm, rfl⟩
            · skip
              refine sv_iconst C (v := 1) (by decide) d_Ut_isSecond_70 ?_
              refine sv_goto C 75 (by decide) d_Ut_isSecond_71 ?_
              exact hr _ _ _ _ d_Ut_isSecond_75 rfl ⟨(if_pos (by unfold pu_sec; (repeat' split) <;> omega)).symm, rfl⟩
      · skip
        refine sv_sipush C (v := 159) (by decide) d_Ut_isSecond_37 ?_
        refine sv_goto C 59 (by decide) d_Ut_isSecond_40 ?_
        refine sv_istore_n C rfl (by decide) [some _, some _, some _, some _] rfl d_Ut_isSecond_59 ?_
        refine sv_iload_n C rfl rfl d_Ut_isSecond_60 ?_
        refine sv_iload_n C rfl rfl d_Ut_isSecond_61 ?_
        refine sv_icmpN_lt C _ 128 (by omega) (by omega) 74 (by decide) d_Ut_isSecond_62 (fun c62 => ?_) (fun c62 => ?_)
        · skip
          refine sv_iconst C (v := 0) (by decide) d_Ut_isSecond_74 ?_
          exact hr _ _ _ _ d_Ut_isSecond_75 rfl ⟨(if_neg (by unfold pu_sec; (repeat' split) <;> omega)).symm, rfl⟩
        · skip
          refine sv_iload_n C rfl rfl d_Ut_isSecond_65 ?_
          refine sv_iload_n C rfl rfl d_Ut_isSecond_66 ?_
          refine sv_icmpN_gt C _ 159 (by omega) (by omega) 74 (by decide) d_Ut_isSecond_67 (fun c67 => ?_) (fun c67 => ?_)
          · skip
            refine sv_iconst C (v := 0) (by decide) d_Ut_isSecond_74 ?_
            exact hr _ _ _ _ d_Ut_isSecond_75 rfl ⟨(if_neg (by unfold pu_sec; (repeat' split) <;> omega)).symm, rfl⟩
          · skip
            refine sv_iconst C (v := 1) (by decide) d_Ut_isSecond_70 ?_
            refine sv_goto C 75 (by decide) d_Ut_isSecond_71 ?_
            exact hr _ _ _ _ d_Ut_isSecond_75 rfl ⟨(if_pos (by unfold pu_sec; (repeat' split) <;> omega)).symm, rfl⟩
    · skip
      refine sv_sipush C (v := 144) (by decide) d_Ut_isSecond_20 ?_
      refine sv_goto C 29 (by decide) d_Ut_isSecond_23 ?_
      refine sv_istore_n C rfl (by decide) [some _, some _, some _, none] rfl d_Ut_isSecond_29 ?_
      refine sv_iload_n C rfl rfl d_Ut_isSecond_30 ?_
      refine sv_sipush C (v := 237) (by decide) d_Ut_isSecond_31 ?_
      refine sv_icmpN_ne C _ 237 (by omega) (by omega) 43 (by decide) d_Ut_isSecond_34 (fun c34 => ?_) (fun c34 => ?_)
      · skip
        refine sv_iload_n C rfl rfl d_Ut_isSecond_43 ?_
        refine sv_sipush C (v := 244) (by decide) d_Ut_isSecond_44 ?_
        refine sv_icmpN_ne C _ 244 (by omega) (by omega) 56 (by decide) d_Ut_isSecond_47 (fun c47 => ?_) (fun c47 => ?_)
        · skip
          refine sv_sipush C (v := 191) (by decide) d_Ut_isSecond_56 ?_
          refine sv_istore_n C rfl (by decide) [some _, some _, some _, some _] rfl d_Ut_isSecond_59 ?_
          refine sv_iload_n C rfl rfl d_Ut_isSecond_60 ?_
          refine sv_iload_n C rfl rfl d_Ut_isSecond_61 ?_
          refine sv_icmpN_lt C _ 144 (by omega) (by omega) 74 (by decide) d_Ut_isSecond_62 (fun c62 => ?_) (fun c62 => ?_)
          · skip
            refine sv_iconst C (v := 0) (by decide) d_Ut_isSecond_74 ?_
            exact hr _ _ _ _ d_Ut_isSecond_75 rfl ⟨(if_neg (by unfold pu_sec; (repeat' split) <;> omega)).symm, rfl⟩
          · skip
            refine sv_iload_n C rfl rfl d_Ut_isSecond_65 ?_
            refine sv_iload_n C rfl rfl d_Ut_isSecond_66 ?_
            refine sv_icmpN_gt C _ 191 (by omega) (by omega) 74 (by decide) d_Ut_isSecond_67 (fun c67 => ?_) (fun c67 => ?_)
            · skip
              refine sv_iconst C (v := 0) (by decide) d_Ut_isSecond_74 ?_
              exact hr _ _ _ _ d_Ut_isSecond_75 rfl ⟨(if_neg (by unfold pu_sec; (repeat' split) <;> omega)).symm, rfl⟩
            · skip
              refine sv_iconst C (v := 1) (by decide) d_Ut_isSecond_70 ?_
              refine sv_goto C 75 (by decide) d_Ut_isSecond_71 ?_
              exact hr _ _ _ _ d_Ut_isSecond_75 rfl ⟨(if_pos (by unfold pu_sec; (repeat' split) <;> omega)).symm, rfl⟩
        · skip
          refine sv_sipush C (v := 143) (by decide) d_Ut_isSecond_50 ?_
          refine sv_goto C 59 (by decide) d_Ut_isSecond_53 ?_
          refine sv_istore_n C rfl (by decide) [some _, some _, some _, some _] rfl d_Ut_isSecond_59 ?_
          refine sv_iload_n C rfl rfl d_Ut_isSecond_60 ?_
          refine sv_iload_n C rfl rfl d_Ut_isSecond_61 ?_
          refine sv_icmpN_lt C _ 144 (by omega) (by omega) 74 (by decide) d_Ut_isSecond_62 (fun c62 => ?_) (fun c62 => ?_)
          · skip
            refine sv_iconst C (v := 0) (by decide) d_Ut_isSecond_74 ?_
            exact hr _ _ _ _ d_Ut_isSecond_75 rfl ⟨(if_neg (by unfold pu_sec; (repeat' split) <;> omega)).symm, rfl⟩
          · skip
            refine sv_iload_n C rfl rfl d_Ut_isSecond_65 ?_
            refine sv_iload_n C rfl rfl d_Ut_isSecond_66 ?_
            refine sv_icmpN_gt C _ 143 (by omega) (by omega) 74 (by decide) d_Ut_isSecond_67 (fun c67 => ?_) (fun c67 => ?_)
            · skip
              refine sv_iconst C (v := 0) (by decide) d_Ut_isSecond_74 ?_
              exact hr _ _ _ _ d_Ut_isSecond_75 rfl ⟨(if_neg (by unfold pu_sec; (repeat' split) <;> omega)).symm, rfl⟩
            · skip
              refine sv_iconst C (v := 1) (by decide) d_Ut_isSecond_70 ?_
              refine sv_goto C 75 (by decide) d_Ut_isSecond_71 ?_
              exact hr _ _ _ _ d_Ut_isSecond_75 rfl ⟨(if_pos (by unfold pu_sec; (repeat' split) <;> omega)).symm, rfl⟩
      · skip
        refine sv_sipush C (v := 159) (by decide) d_Ut_isSecond_37 ?_
        refine sv_goto C 59 (by decide) d_Ut_isSecond_40 ?_
        refine sv_istore_n C rfl (by decide) [some _, some _, some _, some _] rfl d_Ut_isSecond_59 ?_
        refine sv_iload_n C rfl rfl d_Ut_isSecond_60 ?_
        refine sv_iload_n C rfl rfl d_Ut_isSecond_61 ?_
        refine sv_icmpN_lt C _ 144 (by omega) (by omega) 74 (by decide) d_Ut_isSecond_62 (fun c62 => ?_) (fun c62 => ?_)
        · skip
          refine sv_iconst C (v := 0) (by decide) d_Ut_isSecond_74 ?_
          exact hr _ _ _ _ d_Ut_isSecond_75 rfl ⟨(if_neg (by unfold pu_sec; (repeat' split) <;> omega)).symm, rfl⟩
        · skip
          refine sv_iload_n C rfl rfl d_Ut_isSecond_65 ?_
          refine sv_iload_n C rfl rfl d_Ut_isSecond_66 ?_
          refine sv_icmpN_gt C _ 159 (by omega) (by omega) 74 (by decide) d_Ut_isSecond_67 (fun c67 => ?_) (fun c67 => ?_)
          · skip
            refine sv_iconst C (v := 0) (by decide) d_Ut_isSecond_74 ?_
            exact hr _ _ _ _ d_Ut_isSecond_75 rfl ⟨(if_neg (by unfold pu_sec; (repeat' split) <;> omega)).symm, rfl⟩
          · skip
            refine sv_iconst C (v := 1) (by decide) d_Ut_isSecond_70 ?_
            refine sv_goto C 75 (by decide) d_Ut_isSecond_71 ?_
            exact hr _ _ _ _ d_Ut_isSecond_75 rfl ⟨(if_pos (by unfold pu_sec; (repeat' split) <;> omega)).symm, rfl⟩
  · skip
    refine sv_sipush C (v := 160) (by decide) d_Ut_isSecond_7 ?_
    refine sv_goto C 29 (by decide) d_Ut_isSecond_10 ?_
    refine sv_istore_n C rfl (by decide) [some _, some _, some _, none] rfl d_Ut_isSecond_29 ?_
    refine sv_iload_n C rfl rfl d_Ut_isSecond_30 ?_
    refine sv_sipush C (v := 237) (by decide) d_Ut_isSecond_31 ?_
    refine sv_icmpN_ne C _ 237 (by omega) (by omega) 43 (by decide) d_Ut_isSecond_34 (fun c34 => ?_) (fun c34 => ?_)
    · skip
      refine sv_iload_n C rfl rfl d_Ut_isSecond_43 ?_
      refine sv_sipush C (v := 244) (by decide) d_Ut_isSecond_44 ?_
      refine sv_icmpN_ne C _ 244 (by omega) (by omega) 56 (by decide) d_Ut_isSecond_47 (fun c47 => ?_) (fun c47 => ?_)
      · skip
        refine sv_sipush C (v := 191) (by decide) d_Ut_isSecond_56 ?_
        refine sv_istore_n C rfl (by decide) [some _, some _, some _, some _] rfl d_Ut_isSecond_59 ?_
        refine sv_iload_n C rfl rfl d_Ut_isSecond_60 ?_
        refine sv_iload_n C rfl rfl d_Ut_isSecond_61 ?_
        refine sv_icmpN_lt C _ 160 (by omega) (by omega) 74 (by decide) d_Ut_isSecond_62 (fun c62 => ?_) (fun c62 => ?_)
        · skip
          refine sv_iconst C (v := 0) (by decide) d_Ut_isSecond_74 ?_
          exact hr _ _ _ _ d_Ut_isSecond_75 rfl ⟨(if_neg (by unfold pu_sec; (repeat' split) <;> omega)).symm, rfl⟩
        · skip
          refine sv_iload_n C rfl rfl d_Ut_isSecond_65 ?_
          refine sv_iload_n C rfl rfl d_Ut_isSecond_66 ?_
          refine sv_icmpN_gt C _ 191 (by omega) (by omega) 74 (by decide) d_Ut_isSecond_67 (fun c67 => ?_) (fun c67 => ?_)
          · skip
            refine sv_iconst C (v := 0) (by decide) d_Ut_isSecond_74 ?_
            exact hr _ _ _ _ d_Ut_isSecond_75 rfl ⟨(if_neg (by unfold pu_sec; (repeat' split) <;> omega)).symm, rfl⟩
          · skip
            refine sv_iconst C (v := 1) (by decide) d_Ut_isSecond_70 ?_
            refine sv_goto C 75 (by decide) d_Ut_isSecond_71 ?_
            exact hr _ _ _ _ d_Ut_isSecond_75 rfl ⟨(if_pos (by unfold pu_sec; (repeat' split) <;> omega)).symm, rfl⟩
      · skip
        refine sv_sipush C (v := 143) (by decide) d_Ut_isSecond_50 ?_
        refine sv_goto C 59 (by decide) d_Ut_isSecond_53 ?_
        refine sv_istore_n C rfl (by decide) [some _, some _, some _, some _] rfl d_Ut_isSecond_59 ?_
        refine sv_iload_n C rfl rfl d_Ut_isSecond_60 ?_
        refine sv_iload_n C rfl rfl d_Ut_isSecond_61 ?_
        refine sv_icmpN_lt C _ 160 (by omega) (by omega) 74 (by decide) d_Ut_isSecond_62 (fun c62 => ?_) (fun c62 => ?_)
        · skip
          refine sv_iconst C (v := 0) (by decide) d_Ut_isSecond_74 ?_
          exact hr _ _ _ _ d_Ut_isSecond_75 rfl ⟨(if_neg (by unfold pu_sec; (repeat' split) <;> omega)).symm, rfl⟩
        · skip
          refine sv_iload_n C rfl rfl d_Ut_isSecond_65 ?_
          refine sv_iload_n C rfl rfl d_Ut_isSecond_66 ?_
          refine sv_icmpN_gt C _ 143 (by omega) (by omega) 74 (by decide) d_Ut_isSecond_67 (fun c67 => ?_) (fun c67 => ?_)
          · skip
            refine sv_iconst C (v := 0) (by decide) d_Ut_isSecond_74 ?_
            exact hr _ _ _ _ d_Ut_isSecond_75 rfl ⟨(if_neg (by unfold pu_sec; (repeat' split) <;> omega)).symm, rfl⟩
          · skip
            refine sv_iconst C (v := 1) (by decide) d_Ut_isSecond_70 ?_
            refine sv_goto C 75 (by decide) d_Ut_isSecond_71 ?_
            exact hr _ _ _ _ d_Ut_isSecond_75 rfl ⟨(if_pos (by unfold pu_sec; (repeat' split) <;> omega)).symm, rfl⟩
    · skip
      refine sv_sipush C (v := 159) (by decide) d_Ut_isSecond_37 ?_
      refine sv_goto C 59 (by decide) d_Ut_isSecond_40 ?_
      refine sv_istore_n C rfl (by decide) [some _, some _, some _, some _] rfl d_Ut_isSecond_59 ?_
      refine sv_iload_n C rfl rfl d_Ut_isSecond_60 ?_
      refine sv_iload_n C rfl rfl d_Ut_isSecond_61 ?_
      refine sv_icmpN_lt C _ 160 (by omega) (by omega) 74 (by decide) d_Ut_isSecond_62 (fun c62 => ?_) (fun c62 => ?_)
      · skip
        refine sv_iconst C (v := 0) (by decide) d_Ut_isSecond_74 ?_
        exact hr _ _ _ _ d_Ut_isSecond_75 rfl ⟨(if_neg (by unfold pu_sec; (repeat' split) <;> omega)).symm, rfl⟩
      · skip
        refine sv_iload_n C rfl rfl d_Ut_isSecond_65 ?_
        refine sv_iload_n C rfl rfl d_Ut_isSecond_66 ?_
        refine sv_icmpN_gt C _ 159 (by omega) (by omega) 74 (by decide) d_Ut_isSecond_67 (fun c67 => ?_) (fun c67 => ?_)
        · skip
          refine sv_iconst C (v := 0) (by decide) d_Ut_isSecond_74 ?_
          exact hr _ _ _ _ d_Ut_isSecond_75 rfl ⟨(if_neg (by unfold pu_sec; (repeat' split) <;> omega)).symm, rfl⟩
        · skip
          refine sv_iconst C (v := 1) (by decide) d_Ut_isSecond_70 ?_
          refine sv_goto C 75 (by decide) d_Ut_isSecond_71 ?_
          exact hr _ _ _ _ d_Ut_isSecond_75 rfl ⟨(if_pos (by unfold pu_sec; (repeat' split) <;> omega)).symm, rfl⟩

def rm_Ut_sizeAt : Room := { frames := 1, cells := 0, slots := 0, locals := 23 }
set_option maxHeartbeats 4000000 in
set_option maxRecDepth 100000 in
theorem c_Ut_sizeAt (l : Launch) (g : sv_G) (rest : va_W) (hin a e : Nat) (f : Nat → Int32) (hae : a < e) (he : e ≤ 8192) : sv_Mi l y_Ut_sizeAt b_Ut_sizeAt 6 (some (.int)) rm_Ut_sizeAt g [.ref hin, .int (nI a), .int (nI e)] ((hin, .inl (g.2.1 1, 8192, .inl f)) :: rest) (fun r w => r = nI (pu_size (fun i => pu_u (f i)) a e) ∧ w = ((hin, .inl (g.2.1 1, 8192, .inl f)) :: rest)) := by
  have hld := pu_lead_le (pu_u (f a))
  refine sv_enter_i (by decide) rfl rfl (Nat.le_of_ble_eq_true rfl) (fun X C hI hr => ?_)
  refine sv_lvE (lv' := [some _, some _, some _, none, none, none]) rfl ?_
  have L51 : ∀ (k : Nat) (j : Nat), ((1 < pu_lead (pu_u (f a)) → pu_sec (pu_u (f a)) (pu_u (f (a + 1)))) ∧ pu_lead (pu_u (f a)) ≤ e - a ∧ (2 ≤ j ∧ j ≤ 5) ∧ pu_lead (pu_u (f a)) ≤ j + k ∧ ∀ i, 2 ≤ i → i < j → i < pu_lead (pu_u (f a)) → 128 ≤ pu_u (f (a + i)) ∧ pu_u (f (a + i)) < 192) → sv_V X 6 0 0 ((hin, .inl (g.2.1 1, 8192, .inl f)) :: rest) 51 [some (.ref hin), some (.int (nI a)), some (.int (nI e)), some (.int (nI (pu_u (f a)))), some (.int (nI (pu_lead (pu_u (f a))))), some (.int (nI j))] [] := by
    intro k
    induction k with
    | zero =>
      intro j hq
      obtain ⟨q1, q2, ⟨q3, q6⟩, q4, q5⟩ := hq
      have hu := pu_u_lt (f (a + j))
      refine sv_iload C rfl d_Ut_sizeAt_51 ?_
      refine sv_iload C rfl d_Ut_sizeAt_53 ?_
      refine sv_icmpN_ge C _ _ (by omega) (by omega) 82 (by decide) d_Ut_sizeAt_55 (fun c55 => ?_) (fun c55 => ?_)
      · skip
        refine sv_iload C rfl d_Ut_sizeAt_82 ?_
        exact hr _ _ _ _ d_Ut_sizeAt_84 rfl ⟨congrArg nI (pu_sizeD (u := (fun i => pu_u (f i))) hae q2 q1 (fun i h1 h2 => q5 i h1 (by have := h2; omega) h2)).symm, rfl⟩
      · skip
        exact absurd c55 (by omega)
    | succ k ih =>
      intro j hq
      obtain ⟨q1, q2, ⟨q3, q6⟩, q4, q5⟩ := hq
      have hu := pu_u_lt (f (a + j))
      refine sv_iload C rfl d_Ut_sizeAt_51 ?_
      refine sv_iload C rfl d_Ut_sizeAt_53 ?_
      refine sv_icmpN_ge C _ _ (by omega) (by omega) 82 (by decide) d_Ut_sizeAt_55 (fun c55 => ?_) (fun c55 => ?_)
      · skip
        refine sv_iload C rfl d_Ut_sizeAt_82 ?_
        exact hr _ _ _ _ d_Ut_sizeAt_84 rfl ⟨congrArg nI (pu_sizeD (u := (fun i => pu_u (f i))) hae q2 q1 (fun i h1 h2 => q5 i h1 (by have := h2; omega) h2)).symm, rfl⟩
      · skip
        refine sv_aload_n C rfl rfl d_Ut_sizeAt_58 ?_
        refine sv_iload_n C rfl rfl d_Ut_sizeAt_59 ?_
        refine sv_iload C rfl d_Ut_sizeAt_60 ?_
        refine sv_iaddN C _ _  d_Ut_sizeAt_62 ?_
        refine sv_baldN C _ 0 rfl (by omega) (by decide) d_Ut_sizeAt_63 ?_
        refine sv_sipush C (v := 192) (by decide) d_Ut_sizeAt_64 ?_
        refine sv_iand C d_Ut_sizeAt_67 ?_
        refine sv_eqi (pu_and192 _) ?_
        refine sv_sipush C (v := 128) (by decide) d_Ut_sizeAt_68 ?_
        refine sv_icmpN_eq C _ 128 (by omega) (by omega) 76 (by decide) d_Ut_sizeAt_71 (fun c71 => ?_) (fun c71 => ?_)
        · skip
          refine sv_iincN C 1 _ rfl [some _, some _, some _, some _, some _, some _] rfl d_Ut_sizeAt_76 ?_
          refine sv_goto C 51 (by decide) d_Ut_sizeAt_79 ?_
          exact ih (j + 1) ⟨q1, q2, ⟨by omega, by omega⟩, by omega, fun i h1 h2 h3 => by
            rcases Nat.lt_or_ge i j with h | h
            · exact q5 i h1 h h3
            · have hij : i = j := by omega
              subst hij
              omega⟩
        · skip
          refine sv_iconst C (v := 0) (by decide) d_Ut_sizeAt_74 ?_
          exact hr _ _ _ _ d_Ut_sizeAt_75 rfl ⟨(show (0 : Int32) = nI 0 from rfl).trans (congrArg nI ((pu_sizeC (u := (fun i => pu_u (f i))) (k := j) q3 c55 (by show ¬ (128 ≤ pu_u (f (a + j)) ∧ pu_u (f (a + j)) < 192); omega)).symm)), rfl⟩
  have j48 : (1 < pu_lead (pu_u (f a)) → pu_sec (pu_u (f a)) (pu_u (f (a + 1)))) ∧ pu_lead (pu_u (f a)) ≤ e - a → sv_V X 6 0 0 ((hin, .inl (g.2.1 1, 8192, .inl f)) :: rest) 48 [some (.ref hin), some (.int (nI a)), some (.int (nI e)), some (.int (nI (pu_u (f a)))), some (.int (nI (pu_lead (pu_u (f a))))), none] [] := by
    intro hj
    refine sv_iconst C (v := 2) (by decide) d_Ut_sizeAt_48 ?_
    refine sv_istore C (by decide) [some _, some _, some _, some _, some _, some _] rfl d_Ut_sizeAt_49 ?_
    exact L51 4 2 ⟨hj.1, hj.2, ⟨by omega, by omega⟩, by omega, fun i h1 h2 => absurd h2 (by omega)⟩
  refine sv_aload_n C rfl rfl d_Ut_sizeAt_0 ?_
  refine sv_iload_n C rfl rfl d_Ut_sizeAt_1 ?_
  refine sv_baldN C _ 0 rfl (by omega) (by decide) d_Ut_sizeAt_2 ?_
  refine sv_sipush C (v := 255) (by decide) d_Ut_sizeAt_3 ?_
  refine sv_iand C d_Ut_sizeAt_6 ?_
  refine sv_eqi (pu_and255 _) ?_
  refine sv_istore_n C rfl (by decide) [some _, some _, some _, some _, none, none] rfl d_Ut_sizeAt_7 ?_
  refine sv_iload_n C rfl rfl d_Ut_sizeAt_8 ?_
  refine sv_callSi C (c_Ut_sizeByLead l g _ (pu_u (f a)) (pu_u_lt _)) lk_Ut_7  d_Ut_sizeAt_9 (by decide) (Nat.le_of_ble_eq_true rfl) (by decide) (fun r w hw => ?_)
  obtain ⟨rfl, rfl⟩ := hw
  refine sv_istore C (by decide) [some _, some _, some _, some _, some _, none] rfl d_Ut_sizeAt_12 ?_
  refine sv_iload C rfl d_Ut_sizeAt_14 ?_
  refine sv_iload_n C rfl rfl d_Ut_sizeAt_16 ?_
  refine sv_iload_n C rfl rfl d_Ut_sizeAt_17 ?_
  refine sv_isubN C _ _ (by omega) d_Ut_sizeAt_18 ?_
  refine sv_icmpN_le C _ _ (by omega) (by omega) 24 (by decide) d_Ut_sizeAt_19 (fun c19 => ?_) (fun c19 => ?_)
  · skip
    refine sv_iload C rfl d_Ut_sizeAt_24 ?_
    refine sv_iconst C (v := 1) (by decide) d_Ut_sizeAt_26 ?_
    refine sv_icmpN_le C _ 1 (by omega) (by omega) 48 (by decide) d_Ut_sizeAt_27 (fun c27 => ?_) (fun c27 => ?_)
    · skip
      exact j48 ⟨fun z => by first | exact absurd z (by omega) | assumption, by omega⟩
    · skip
      refine sv_iload_n C rfl rfl d_Ut_sizeAt_30 ?_
      refine sv_aload_n C rfl rfl d_Ut_sizeAt_31 ?_
      refine sv_iload_n C rfl rfl d_Ut_sizeAt_32 ?_
      refine sv_iconst C (v := 1) (by decide) d_Ut_sizeAt_33 ?_
      refine sv_iaddN C _ 1  d_Ut_sizeAt_34 ?_
      refine sv_baldN C _ 0 rfl (by omega) (by decide) d_Ut_sizeAt_35 ?_
      refine sv_sipush C (v := 255) (by decide) d_Ut_sizeAt_36 ?_
      refine sv_iand C d_Ut_sizeAt_39 ?_
      refine sv_eqi (pu_and255 _) ?_
      refine sv_callSi C (c_Ut_isSecond l g _ (pu_u (f a)) (pu_u (f (a + 1))) (pu_u_lt _) (pu_u_lt _)) lk_Ut_13  d_Ut_sizeAt_40 (by decide) (Nat.le_of_ble_eq_true rfl) (by decide) (fun r w hw => ?_)
      obtain ⟨rfl, rfl⟩ := hw
      refine sv_ifB_ne C _ 48 (by decide) d_Ut_sizeAt_43 (fun c43 => ?_) (fun c43 => ?_)
      · skip
        exact j48 ⟨fun z => by first | exact absurd z (by omega) | assumption, by omega⟩
      · skip
        refine sv_iconst C (v := 0) (by decide) d_Ut_sizeAt_46 ?_
        exact hr _ _ _ _ d_Ut_sizeAt_47 rfl ⟨(show (0 : Int32) = nI 0 from rfl).trans (congrArg nI ((pu_sizeB (u := (fun i => pu_u (f i))) (by show 1 < pu_lead (pu_u (f a)); omega) c43).symm)), rfl⟩
  · skip
    refine sv_iconst C (v := 0) (by decide) d_Ut_sizeAt_22 ?_
    exact hr _ _ _ _ d_Ut_sizeAt_23 rfl ⟨(show (0 : Int32) = nI 0 from rfl).trans (congrArg nI ((pu_sizeA (u := (fun i => pu_u (f i))) hae (by show e - a < pu_lead (pu_u (f a)); omega)).symm)), rfl⟩

def rm_Ut_valueAt : Room := { frames := 0, cells := 0, slots := 0, locals := 0 }
set_option maxHeartbeats 4000000 in
set_option maxRecDepth 100000 in
theorem c_Ut_valueAt (l : Launch) (g : sv_G) (rest : va_W) (hin a e s : Nat) (f : Nat → Int32) (hs : pu_size (fun i => pu_u (f i)) a e = s) (h1 : 1 ≤ s) (h2 : a + s ≤ 8192) (hby : ∀ i, (f i).toInt8.toInt32 = f i) : sv_Mi l y_Ut_valueAt b_Ut_valueAt 5 (some (.int)) rm_Ut_valueAt g [.ref hin, .int (nI a), .int (nI s)] ((hin, .inl (g.2.1 1, 8192, .inl f)) :: rest) (fun r w => r = nI (pu_char (fun i => pu_u (f i)) a e) ∧ w = ((hin, .inl (g.2.1 1, 8192, .inl f)) :: rest)) := by
  have h4 := pu_size_le (fun i => pu_u (f i)) a e
  refine sv_enter_i (by decide) rfl rfl (Nat.le_of_ble_eq_true rfl) (fun X C hI hr => ?_)
  refine sv_lvE (lv' := [some _, some _, some _, none, none]) rfl ?_
  have L24 : ∀ (k : Nat) (j : Nat), (2 ≤ s ∧ 1 ≤ j ∧ j ≤ s ∧ s ≤ j + k) → sv_V X 5 0 0 ((hin, .inl (g.2.1 1, 8192, .inl f)) :: rest) 24 [some (.ref hin), some (.int (nI a)), some (.int (nI s)), some (.int (nI (pu_vl (fun i => pu_u (f i)) a s j))), some (.int (nI j))] [] := by
    intro k
    induction k with
    | zero =>
      intro j hq
      obtain ⟨q1, q2, q3, q4⟩ := hq
      refine sv_iload C rfl d_Ut_valueAt_24 ?_
      refine sv_iload_n C rfl rfl d_Ut_valueAt_26 ?_
      refine sv_icmpN_ge C _ _ (by omega) (by omega) 51 (by decide) d_Ut_valueAt_27 (fun c27 => ?_) (fun c27 => ?_)
      · skip
        refine sv_iload_n C rfl rfl d_Ut_valueAt_51 ?_
        exact hr _ _ _ _ d_Ut_valueAt_52 rfl ⟨congrArg nI (pu_vl_end (u := (fun i => pu_u (f i))) hs q1 (by omega)), rfl⟩
      · skip
        exact absurd c27 (by omega)
    | succ k ih =>
      intro j hq
      obtain ⟨q1, q2, q3, q4⟩ := hq
      refine sv_iload C rfl d_Ut_valueAt_24 ?_
      refine sv_iload_n C rfl rfl d_Ut_valueAt_26 ?_
      refine sv_icmpN_ge C _ _ (by omega) (by omega) 51 (by decide) d_Ut_valueAt_27 (fun c27 => ?_) (fun c27 => ?_)
      · skip
        refine sv_iload_n C rfl rfl d_Ut_valueAt_51 ?_
        exact hr _ _ _ _ d_Ut_valueAt_52 rfl ⟨congrArg nI (pu_vl_end (u := (fun i => pu_u (f i))) hs q1 (by omega)), rfl⟩
      · skip
        refine sv_iload_n C rfl rfl d_Ut_valueAt_30 ?_
        refine sv_bipush C (v := 6) (by decide) d_Ut_valueAt_31 ?_
        refine sv_ishl C d_Ut_valueAt_33 ?_
        refine sv_eqi (pu_shl6 (by have := pu_vl_lt (fun i => pu_u (f i)) a q1 j (by omega); omega)) ?_
        refine sv_aload_n C rfl rfl d_Ut_valueAt_34 ?_
        refine sv_iload_n C rfl rfl d_Ut_valueAt_35 ?_
        refine sv_iload C rfl d_Ut_valueAt_36 ?_
        refine sv_iaddN C _ _  d_Ut_valueAt_38 ?_
        refine sv_baldN C _ 0 rfl (by omega) (by decide) d_Ut_valueAt_39 ?_
        refine sv_bipush C (v := 63) (by decide) d_Ut_valueAt_40 ?_
        refine sv_iand C d_Ut_valueAt_42 ?_
        refine sv_eqi (pu_and63 _) ?_
        refine sv_ior C d_Ut_valueAt_43 ?_
        refine sv_eqi ((pu_or6 (Nat.mod_lt _ (by decide))).trans (congrArg nI (pu_vl_succ (u := (fun i => pu_u (f i))) q2))) ?_
        refine sv_istore_n C rfl (by decide) [some _, some _, some _, some _, some _] rfl d_Ut_valueAt_44 ?_
        refine sv_iincN C 1 _ rfl [some _, some _, some _, some _, some _] rfl d_Ut_valueAt_45 ?_
        refine sv_goto C 24 (by decide) d_Ut_valueAt_48 ?_
        exact ih (j + 1) ⟨q1, by omega, by omega, by omega⟩
  refine sv_iload_n C rfl rfl d_Ut_valueAt_0 ?_
  refine sv_iconst C (v := 1) (by decide) d_Ut_valueAt_1 ?_
  refine sv_icmpN_ne C _ 1 (by omega) (by omega) 9 (by decide) d_Ut_valueAt_2 (fun c2 => ?_) (fun c2 => ?_)
  · skip
    refine sv_aload_n C rfl rfl d_Ut_valueAt_9 ?_
    refine sv_iload_n C rfl rfl d_Ut_valueAt_10 ?_
    refine sv_baldN C _ 0 rfl (by omega) (by decide) d_Ut_valueAt_11 ?_
    refine sv_sipush C (v := 255) (by decide) d_Ut_valueAt_12 ?_
    refine sv_iload_n C rfl rfl d_Ut_valueAt_15 ?_
    refine sv_iconst C (v := 1) (by decide) d_Ut_valueAt_16 ?_
    refine sv_iaddN C _ 1  d_Ut_valueAt_17 ?_
    refine sv_ishr C d_Ut_valueAt_18 ?_
    refine sv_iand C d_Ut_valueAt_19 ?_
    refine sv_eqi (pu_mask (f a) (by omega)) ?_
    refine sv_istore_n C rfl (by decide) [some _, some _, some _, some _, none] rfl d_Ut_valueAt_20 ?_
    refine sv_iconst C (v := 1) (by decide) d_Ut_valueAt_21 ?_
    refine sv_istore C (by decide) [some _, some _, some _, some _, some _] rfl d_Ut_valueAt_22 ?_
    exact L24 s 1 ⟨by omega, by omega, by omega, by omega⟩
  · skip
    refine sv_aload_n C rfl rfl d_Ut_valueAt_5 ?_
    refine sv_iload_n C rfl rfl d_Ut_valueAt_6 ?_
    refine sv_baldN C _ 0 rfl (by omega) (by decide) d_Ut_valueAt_7 ?_
    exact hr _ _ _ _ d_Ut_valueAt_8 rfl ⟨by subst c2; exact (pu_neg (hby a) (pu_size1 (u := (fun i => pu_u (f i))) hs).1).trans (congrArg nI (pu_size1 (u := (fun i => pu_u (f i))) hs).2.symm), rfl⟩

def rm_Te_sortAt : Room := { frames := 2, cells := 0, slots := 0, locals := 40 }
set_option maxHeartbeats 4000000 in
set_option maxRecDepth 100000 in
theorem c_Te_sortAt (l : Launch) (g : sv_G) (rest : va_W) (hT hc n : Nat) (f : Nat → Int32) (hn : n ≤ 8192) (i : Nat) (hi : i < 8192) : sv_Mi l y_Te_sortAt b_Te_sortAt 2 (some (.int)) rm_Te_sortAt g [.ref hT, .int (nI i)] ((hT, .inr (3, [.ref hc, .int (nI n)])) :: (hc, .inl (g.2.1 0, 8192, .inl f)) :: rest) (fun r w => r = nI (pu_st f i) ∧ w = ((hT, .inr (3, [.ref hc, .int (nI n)])) :: (hc, .inl (g.2.1 0, 8192, .inl f)) :: rest)) := by
  refine sv_enter_i (by decide) rfl rfl (Nat.le_of_ble_eq_true rfl) (fun X C hI hr => ?_)
  refine sv_lvE (lv' := [some _, some _]) rfl ?_
  refine sv_aload_n C rfl rfl d_Te_sortAt_0 ?_
  refine sv_get C fg_Te_13 0 rfl rfl d_Te_sortAt_1 ?_
  refine sv_iload_n C rfl rfl d_Te_sortAt_4 ?_
  refine sv_ialdN C _ 1 rfl (by omega) (by decide) d_Te_sortAt_5 ?_
  refine sv_callSi C (c_So_of l g _ (f i)) lk_Te_50  d_Te_sortAt_6 (by decide) (Nat.le_of_ble_eq_true rfl) (by decide) (fun r w hw => ?_)
  obtain ⟨rfl, rfl⟩ := hw
  exact hr _ _ _ _ d_Te_sortAt_9 rfl ⟨rfl, rfl⟩

def rm_Te_isTie : Room := { frames := 3, cells := 0, slots := 0, locals := 61 }
set_option maxHeartbeats 4000000 in
set_option maxRecDepth 100000 in
theorem c_Te_isTie (l : Launch) (g : sv_G) (rest : va_W) (hT hc n : Nat) (f : Nat → Int32) (hn : n ≤ 8192) (m : Nat) (hm : m ≤ 8192) : sv_Mi l y_Te_isTie b_Te_isTie 3 (some (.boolean)) rm_Te_isTie g [.ref hT, .int (nI m)] ((hT, .inr (3, [.ref hc, .int (nI n)])) :: (hc, .inl (g.2.1 0, 8192, .inl f)) :: rest) (fun r w => r = (if pu_tie f n m then 1 else 0) ∧ w = ((hT, .inr (3, [.ref hc, .int (nI n)])) :: (hc, .inl (g.2.1 0, 8192, .inl f)) :: rest)) := by
  have s1 := pu_sort_lt (f (m - 1)).toInt
  have s2 := pu_sort_lt (f m).toInt
  have s3 := pu_sort_lt (f (m + 1)).toInt
  have e1 : pu_st f (m - 1) < 8 := s1
  have e2 : pu_st f m < 8 := s2
  have e3 : pu_st f (m + 1) < 8 := s3
  refine sv_enter_i (by decide) rfl rfl (Nat.le_of_ble_eq_true rfl) (fun X C hI hr => ?_)
  refine sv_lvE (lv' := [some _, some _, none]) rfl ?_
  refine sv_iload_n C rfl rfl d_Te_isTie_0 ?_
  refine sv_iconst C (v := 1) (by decide) d_Te_isTie_1 ?_
  refine sv_icmpN_lt C _ 1 (by omega) (by omega) 15 (by decide) d_Te_isTie_2 (fun c2 => ?_) (fun c2 => ?_)
  · skip
    refine sv_iconst C (v := 0) (by decide) d_Te_isTie_15 ?_
    exact hr _ _ _ _ d_Te_isTie_16 rfl ⟨(if_neg (fun z => by have := z.1; have := z.2.1; omega)).symm, rfl⟩
  · skip
    refine sv_iload_n C rfl rfl d_Te_isTie_5 ?_
    refine sv_iconst C (v := 1) (by decide) d_Te_isTie_6 ?_
    refine sv_iaddN C _ 1  d_Te_isTie_7 ?_
    refine sv_aload_n C rfl rfl d_Te_isTie_8 ?_
    refine sv_get C fg_Te_7 0 rfl rfl d_Te_isTie_9 ?_
    refine sv_icmpN_lt C _ _ (by omega) (by omega) 17 (by decide) d_Te_isTie_12 (fun c12 => ?_) (fun c12 => ?_)
    · skip
      refine sv_aload_n C rfl rfl d_Te_isTie_17 ?_
      refine sv_iload_n C rfl rfl d_Te_isTie_18 ?_
      refine sv_iconst C (v := 1) (by decide) d_Te_isTie_19 ?_
      refine sv_isubN C _ 1 (by omega) d_Te_isTie_20 ?_
      refine sv_callVi C (c_Te_sortAt l g rest hT hc n f hn (m - 1) (by omega)) lk_Te_33 List.mem_cons_self rfl d_Te_isTie_21 (by decide) (Nat.le_of_ble_eq_true rfl) (by decide) (fun r w hw => ?_)
      obtain ⟨rfl, rfl⟩ := hw
      refine sv_istore_n C rfl (by decide) [some _, some _, some _] rfl d_Te_isTie_24 ?_
      refine sv_aload_n C rfl rfl d_Te_isTie_25 ?_
      refine sv_iload_n C rfl rfl d_Te_isTie_26 ?_
      refine sv_iconst C (v := 1) (by decide) d_Te_isTie_27 ?_
      refine sv_iaddN C _ 1  d_Te_isTie_28 ?_
      refine sv_callVi C (c_Te_sortAt l g rest hT hc n f hn (m + 1) (by omega)) lk_Te_33 List.mem_cons_self rfl d_Te_isTie_29 (by decide) (Nat.le_of_ble_eq_true rfl) (by decide) (fun r w hw => ?_)
      obtain ⟨rfl, rfl⟩ := hw
      refine sv_iload_n C rfl rfl d_Te_isTie_32 ?_
      refine sv_icmpN_ne C _ _ (by omega) (by omega) 52 (by decide) d_Te_isTie_33 (fun c33 => ?_) (fun c33 => ?_)
      · skip
        refine sv_iconst C (v := 0) (by decide) d_Te_isTie_52 ?_
        exact hr _ _ _ _ d_Te_isTie_53 rfl ⟨(if_neg (fun z => by first | exact absurd z.2.2.1 c33 | exact c45 z.2.2.2)).symm, rfl⟩
      · skip
        refine sv_aload_n C rfl rfl d_Te_isTie_36 ?_
        refine sv_iload_n C rfl rfl d_Te_isTie_37 ?_
        refine sv_callVi C (c_Te_sortAt l g rest hT hc n f hn m (by omega)) lk_Te_33 List.mem_cons_self rfl d_Te_isTie_38 (by decide) (Nat.le_of_ble_eq_true rfl) (by decide) (fun r w hw => ?_)
        obtain ⟨rfl, rfl⟩ := hw
        refine sv_iload_n C rfl rfl d_Te_isTie_41 ?_
        refine sv_callSi C (c_So_ties l g _ (pu_st f m) (pu_st f (m - 1)) e2 e1) lk_Te_46  d_Te_isTie_42 (by decide) (Nat.le_of_ble_eq_true rfl) (by decide) (fun r w hw => ?_)
        obtain ⟨rfl, rfl⟩ := hw
        refine sv_ifB_eq C _ 52 (by decide) d_Te_isTie_45 (fun c45 => ?_) (fun c45 => ?_)
        · skip
          refine sv_iconst C (v := 0) (by decide) d_Te_isTie_52 ?_
          exact hr _ _ _ _ d_Te_isTie_53 rfl ⟨(if_neg (fun z => by first | exact absurd z.2.2.1 c33 | exact c45 z.2.2.2)).symm, rfl⟩
        · skip
          refine sv_iconst C (v := 1) (by decide) d_Te_isTie_48 ?_
          refine sv_goto C 53 (by decide) d_Te_isTie_49 ?_
          exact hr _ _ _ _ d_Te_isTie_53 rfl ⟨(if_pos ⟨by omega, by omega, c33, c45⟩).symm, rfl⟩
    · skip
      refine sv_iconst C (v := 0) (by decide) d_Te_isTie_15 ?_
      exact hr _ _ _ _ d_Te_isTie_16 rfl ⟨(if_neg (fun z => by have := z.1; have := z.2.1; omega)).symm, rfl⟩

def rm_Te_isWord : Room := { frames := 3, cells := 0, slots := 0, locals := 61 }
set_option maxHeartbeats 4000000 in
set_option maxRecDepth 100000 in
theorem c_Te_isWord (l : Launch) (g : sv_G) (rest : va_W) (hT hc n : Nat) (f : Nat → Int32) (hn : n ≤ 8192) (a e : Nat) (hae : a ≤ e) (he : e ≤ 8192) : sv_Mi l y_Te_isWord b_Te_isWord 5 (some (.boolean)) rm_Te_isWord g [.ref hT, .int (nI a), .int (nI e)] ((hT, .inr (3, [.ref hc, .int (nI n)])) :: (hc, .inl (g.2.1 0, 8192, .inl f)) :: rest) (fun r w => r = (if pu_any f (e - a) a = true then 1 else 0) ∧ w = ((hT, .inr (3, [.ref hc, .int (nI n)])) :: (hc, .inl (g.2.1 0, 8192, .inl f)) :: rest)) := by
  refine sv_enter_i (by decide) rfl rfl (Nat.le_of_ble_eq_true rfl) (fun X C hI hr => ?_)
  refine sv_lvE (lv' := [some _, some _, some _, none, none]) rfl ?_
  have L2 : ∀ (k : Nat) (b : Nat) (o : Option Value), (b ≤ e ∧ e - b = k ∧ pu_any f (e - a) a = pu_any f k b) → sv_V X 5 0 0 ((hT, .inr (3, [.ref hc, .int (nI n)])) :: (hc, .inl (g.2.1 0, 8192, .inl f)) :: rest) 2 [some (.ref hT), some (.int (nI a)), some (.int (nI e)), some (.int (nI b)), o] [] := by
    intro k
    induction k with
    | zero =>
      intro b o hq
      obtain ⟨q1, q2, q3⟩ := hq
      have s1 : pu_st f b < 8 := pu_sort_lt _
      refine sv_iload_n C rfl rfl d_Te_isWord_2 ?_
      refine sv_iload_n C rfl rfl d_Te_isWord_3 ?_
      refine sv_icmpN_ge C _ _ (by omega) (by omega) 41 (by decide) d_Te_isWord_4 (fun c4 => ?_) (fun c4 => ?_)
      · skip
        refine sv_iconst C (v := 0) (by decide) d_Te_isWord_41 ?_
        exact hr _ _ _ _ d_Te_isWord_42 rfl ⟨(if_neg (by rw [q3]; exact Bool.false_ne_true)).symm, rfl⟩
      · skip
        exact absurd c4 (by omega)
    | succ k ih =>
      intro b o hq
      obtain ⟨q1, q2, q3⟩ := hq
      have s1 : pu_st f b < 8 := pu_sort_lt _
      refine sv_iload_n C rfl rfl d_Te_isWord_2 ?_
      refine sv_iload_n C rfl rfl d_Te_isWord_3 ?_
      refine sv_icmpN_ge C _ _ (by omega) (by omega) 41 (by decide) d_Te_isWord_4 (fun c4 => ?_) (fun c4 => ?_)
      · skip
        exact absurd c4 (by omega)
      · skip
        refine sv_aload_n C rfl rfl d_Te_isWord_7 ?_
        refine sv_iload_n C rfl rfl d_Te_isWord_8 ?_
        refine sv_callVi C (c_Te_sortAt l g rest hT hc n f hn b (by omega)) lk_Te_33 List.mem_cons_self rfl d_Te_isWord_9 (by decide) (Nat.le_of_ble_eq_true rfl) (by decide) (fun r w hw => ?_)
        obtain ⟨rfl, rfl⟩ := hw
        refine sv_istore C (by decide) [some _, some _, some _, some _, some _] rfl d_Te_isWord_12 ?_
        refine sv_iload C rfl d_Te_isWord_14 ?_
        refine sv_iconst C (v := 1) (by decide) d_Te_isWord_16 ?_
        refine sv_icmpN_eq C _ 1 (by omega) (by omega) 33 (by decide) d_Te_isWord_17 (fun c17 => ?_) (fun c17 => ?_)
        · skip
          refine sv_iconst C (v := 1) (by decide) d_Te_isWord_33 ?_
          exact hr _ _ _ _ d_Te_isWord_34 rfl ⟨(if_pos (by rw [q3, pu_any, if_pos (by omega)])).symm, rfl⟩
        · skip
          refine sv_iload C rfl d_Te_isWord_20 ?_
          refine sv_iconst C (v := 2) (by decide) d_Te_isWord_22 ?_
          refine sv_icmpN_eq C _ 2 (by omega) (by omega) 33 (by decide) d_Te_isWord_23 (fun c23 => ?_) (fun c23 => ?_)
          · skip
            refine sv_iconst C (v := 1) (by decide) d_Te_isWord_33 ?_
            exact hr _ _ _ _ d_Te_isWord_34 rfl ⟨(if_pos (by rw [q3, pu_any, if_pos (by omega)])).symm, rfl⟩
          · skip
            refine sv_iload C rfl d_Te_isWord_26 ?_
            refine sv_bipush C (v := 7) (by decide) d_Te_isWord_28 ?_
            refine sv_icmpN_ne C _ 7 (by omega) (by omega) 35 (by decide) d_Te_isWord_30 (fun c30 => ?_) (fun c30 => ?_)
            · skip
              refine sv_iincN C 1 _ rfl [some _, some _, some _, some _, some _] rfl d_Te_isWord_35 ?_
              refine sv_goto C 2 (by decide) d_Te_isWord_38 ?_
              exact ih (b + 1) _ ⟨by omega, by omega, by rw [q3, pu_any, if_neg (by omega)]⟩
            · skip
              refine sv_iconst C (v := 1) (by decide) d_Te_isWord_33 ?_
              exact hr _ _ _ _ d_Te_isWord_34 rfl ⟨(if_pos (by rw [q3, pu_any, if_pos (by omega)])).symm, rfl⟩
  refine sv_iload_n C rfl rfl d_Te_isWord_0 ?_
  refine sv_istore_n C rfl (by decide) [some _, some _, some _, some _, none] rfl d_Te_isWord_1 ?_
  exact L2 (e - a) a none ⟨hae, rfl, rfl⟩

def rm_Te_spanEnd : Room := { frames := 4, cells := 0, slots := 0, locals := 83 }
set_option maxHeartbeats 4000000 in
set_option maxRecDepth 100000 in
theorem c_Te_spanEnd (l : Launch) (g : sv_G) (rest : va_W) (hT hc n : Nat) (f : Nat → Int32) (hn : n ≤ 8192) (a : Nat) (ha : a < n) : sv_Mi l y_Te_spanEnd b_Te_spanEnd 3 (some (.int)) rm_Te_spanEnd g [.ref hT, .int (nI a)] ((hT, .inr (3, [.ref hc, .int (nI n)])) :: (hc, .inl (g.2.1 0, 8192, .inl f)) :: rest) (fun r w => r = nI (pu_spanEnd f n a) ∧ w = ((hT, .inr (3, [.ref hc, .int (nI n)])) :: (hc, .inl (g.2.1 0, 8192, .inl f)) :: rest)) := by
  refine sv_enter_i (by decide) rfl rfl (Nat.le_of_ble_eq_true rfl) (fun X C hI hr => ?_)
  refine sv_lvE (lv' := [some _, some _, none]) rfl ?_
  have L17 : ∀ (k : Nat) (e : Nat), (e ≤ n ∧ n ≤ e + k ∧ pu_spanEnd f n a = pu_span f n k e) → sv_V X 3 0 0 ((hT, .inr (3, [.ref hc, .int (nI n)])) :: (hc, .inl (g.2.1 0, 8192, .inl f)) :: rest) 17 [some (.ref hT), some (.int (nI a)), some (.int (nI e))] [] := by
    intro k
    induction k with
    | zero =>
      intro e hq
      obtain ⟨q1, q2, q3⟩ := hq
      have s1 : pu_st f e < 8 := pu_sort_lt _
      refine sv_iload_n C rfl rfl d_Te_spanEnd_17 ?_
      refine sv_aload_n C rfl rfl d_Te_spanEnd_18 ?_
      refine sv_get C fg_Te_7 0 rfl rfl d_Te_spanEnd_19 ?_
      refine sv_icmpN_ge C _ _ (by omega) (by omega) 58 (by decide) d_Te_spanEnd_22 (fun c22 => ?_) (fun c22 => ?_)
      · skip
        refine sv_iload_n C rfl rfl d_Te_spanEnd_58 ?_
        exact hr _ _ _ _ d_Te_spanEnd_59 rfl ⟨congrArg nI q3.symm, rfl⟩
      · skip
        exact absurd c22 (by omega)
    | succ k ih =>
      intro e hq
      obtain ⟨q1, q2, q3⟩ := hq
      have s1 : pu_st f e < 8 := pu_sort_lt _
      refine sv_iload_n C rfl rfl d_Te_spanEnd_17 ?_
      refine sv_aload_n C rfl rfl d_Te_spanEnd_18 ?_
      refine sv_get C fg_Te_7 0 rfl rfl d_Te_spanEnd_19 ?_
      refine sv_icmpN_ge C _ _ (by omega) (by omega) 58 (by decide) d_Te_spanEnd_22 (fun c22 => ?_) (fun c22 => ?_)
      · skip
        refine sv_iload_n C rfl rfl d_Te_spanEnd_58 ?_
        exact hr _ _ _ _ d_Te_spanEnd_59 rfl ⟨congrArg nI (by rw [q3, pu_span, if_neg (by omega)]), rfl⟩
      · skip
        refine sv_aload_n C rfl rfl d_Te_spanEnd_25 ?_
        refine sv_iload_n C rfl rfl d_Te_spanEnd_26 ?_
        refine sv_callVi C (c_Te_sortAt l g rest hT hc n f hn e (by omega)) lk_Te_33 List.mem_cons_self rfl d_Te_spanEnd_27 (by decide) (Nat.le_of_ble_eq_true rfl) (by decide) (fun r w hw => ?_)
        obtain ⟨rfl, rfl⟩ := hw
        refine sv_callSi C (c_So_isInner l g _ (pu_st f e) s1) lk_Te_37  d_Te_spanEnd_30 (by decide) (Nat.le_of_ble_eq_true rfl) (by decide) (fun r w hw => ?_)
        obtain ⟨rfl, rfl⟩ := hw
        refine sv_ifB_eq C _ 42 (by decide) d_Te_spanEnd_33 (fun c33 => ?_) (fun c33 => ?_)
        · skip
          refine sv_aload_n C rfl rfl d_Te_spanEnd_42 ?_
          refine sv_iload_n C rfl rfl d_Te_spanEnd_43 ?_
          refine sv_callVi C (c_Te_isTie l g rest hT hc n f hn e (by omega)) lk_Te_43 List.mem_cons_self rfl d_Te_spanEnd_44 (by decide) (Nat.le_of_ble_eq_true rfl) (by decide) (fun r w hw => ?_)
          obtain ⟨rfl, rfl⟩ := hw
          refine sv_ifB_eq C _ 56 (by decide) d_Te_spanEnd_47 (fun c47 => ?_) (fun c47 => ?_)
          · skip
            refine sv_iload_n C rfl rfl d_Te_spanEnd_56 ?_
            exact hr _ _ _ _ d_Te_spanEnd_57 rfl ⟨congrArg nI (by rw [q3, pu_span, if_pos c22, if_neg c33, if_neg c47]), rfl⟩
          · skip
            have c48 := c47.2.1
            refine sv_iincN C 2 _ rfl [some _, some _, some _] rfl d_Te_spanEnd_50 ?_
            refine sv_goto C 17 (by decide) d_Te_spanEnd_53 ?_
            first | exact ih (e + 1) ⟨by omega, by omega, by rw [q3, pu_span, if_pos c22, if_pos c33]⟩ | exact ih (e + 2) ⟨by omega, by omega, by rw [q3, pu_span, if_pos c22, if_neg c33, if_pos c47]⟩
        · skip
          refine sv_iincN C 1 _ rfl [some _, some _, some _] rfl d_Te_spanEnd_36 ?_
          refine sv_goto C 17 (by decide) d_Te_spanEnd_39 ?_
          first | exact ih (e + 1) ⟨by omega, by omega, by rw [q3, pu_span, if_pos c22, if_pos c33]⟩ | exact ih (e + 2) ⟨by omega, by omega, by rw [q3, pu_span, if_pos c22, if_neg c33, if_pos c47]⟩
  refine sv_iload_n C rfl rfl d_Te_spanEnd_0 ?_
  refine sv_iconst C (v := 1) (by decide) d_Te_spanEnd_1 ?_
  refine sv_iaddN C _ 1  d_Te_spanEnd_2 ?_
  refine sv_istore_n C rfl (by decide) [some _, some _, some _] rfl d_Te_spanEnd_3 ?_
  refine sv_aload_n C rfl rfl d_Te_spanEnd_4 ?_
  refine sv_iload_n C rfl rfl d_Te_spanEnd_5 ?_
  refine sv_callVi C (c_Te_sortAt l g rest hT hc n f hn a (by omega)) lk_Te_33 List.mem_cons_self rfl d_Te_spanEnd_6 (by decide) (Nat.le_of_ble_eq_true rfl) (by decide) (fun r w hw => ?_)
  obtain ⟨rfl, rfl⟩ := hw
  refine sv_callSi C (c_So_isInner l g _ (pu_st f a) (pu_sort_lt _)) lk_Te_37  d_Te_spanEnd_9 (by decide) (Nat.le_of_ble_eq_true rfl) (by decide) (fun r w hw => ?_)
  obtain ⟨rfl, rfl⟩ := hw
  refine sv_ifB_ne C _ 17 (by decide) d_Te_spanEnd_12 (fun c12 => ?_) (fun c12 => ?_)
  · skip
    exact L17 n (a + 1) ⟨by omega, by omega, by rw [pu_spanEnd, if_pos c12]⟩
  · skip
    refine sv_iload_n C rfl rfl d_Te_spanEnd_15 ?_
    exact hr _ _ _ _ d_Te_spanEnd_16 rfl ⟨congrArg nI (by rw [pu_spanEnd, if_neg c12]), rfl⟩
