/-! CONTRACTS: the law's helpers -/
def rm_L : Room := { frames := 7, cells := 1, slots := 6, locals := 266 }
set_option maxHeartbeats 4000000 in
set_option maxRecDepth 100000 in
theorem c_L_feed (l : Launch)  (g : sv_G) (rest : va_W) (ad : Nat → Nat) (aO : Nat) (lo : Nat → Int64) (inl wd n : Nat) (wn : Int32) (b tf kf wf vf ch po st : Nat → Int32) (T : List (Nat × List Int32)) (p0 p1 p2 p3 p4 : Int32) (h : inl + 20 ≤ 8192) : sv_Mh l y_L_feed b_L_feed 8 (some (.int)) [(0, 16, 19, 13)] rm_L g [.ref (ad 0), .int p0, .int p1, .int p2, .int p3, .int p4, .ref aO] ((ad 0, .inr (6, [.ref (ad 1), .int (nI inl), .ref (ad 2), .ref (ad 4), .ref (ad 6), .ref (ad 10), .int (nI wd)])) :: (ad 1, .inl (g.2.1 1, 8192, .inl b)) :: (ad 2, .inr (3, [.ref (ad 3), .int (nI n)])) :: (ad 3, .inl (g.2.1 0, 8192, .inl tf)) :: (ad 4, .inr (1, [.ref (ad 5)])) :: (ad 5, .inl (g.2.1 0, 33, .inl kf)) :: (ad 6, .inr (2, [.ref (ad 7), .ref (ad 9), .ref (ad 14), .ref (ad 15), .ref (ad 16), .ref (ad 17), .ref (ad 18)])) :: (ad 7, .inr (5, [.ref (ad 8), .int wn])) :: (ad 8, .inl (g.2.1 0, 255, .inl wf)) :: (ad 9, .inl (g.2.1 2, 255, .inl vf)) :: (ad 10, .inr (4, [.ref (ad 11), .ref (ad 12), .ref (ad 13), .int (nI T.length)])) :: (ad 11, .inl (g.2.1 0, 8192, .inl ch)) :: (ad 12, .inl (g.2.1 0, 8192, .inl po)) :: (ad 13, .inl (g.2.1 0, 8193, .inl st)) :: ((aO, .inl (g.2.1 3, 1, .inr (.inl lo))) :: rest)) (fun r w => r = 0 ∧ ∃ b9 : Nat → Int32, w = ((ad 0, .inr (6, [.ref (ad 1), .int (nI (inl + 20)), .ref (ad 2), .ref (ad 4), .ref (ad 6), .ref (ad 10), .int (nI wd)])) :: (ad 1, .inl (g.2.1 1, 8192, .inl b9)) :: (ad 2, .inr (3, [.ref (ad 3), .int (nI n)])) :: (ad 3, .inl (g.2.1 0, 8192, .inl tf)) :: (ad 4, .inr (1, [.ref (ad 5)])) :: (ad 5, .inl (g.2.1 0, 33, .inl kf)) :: (ad 6, .inr (2, [.ref (ad 7), .ref (ad 9), .ref (ad 14), .ref (ad 15), .ref (ad 16), .ref (ad 17), .ref (ad 18)])) :: (ad 7, .inr (5, [.ref (ad 8), .int wn])) :: (ad 8, .inl (g.2.1 0, 255, .inl wf)) :: (ad 9, .inl (g.2.1 2, 255, .inl vf)) :: (ad 10, .inr (4, [.ref (ad 11), .ref (ad 12), .ref (ad 13), .int (nI T.length)])) :: (ad 11, .inl (g.2.1 0, 8192, .inl ch)) :: (ad 12, .inl (g.2.1 0, 8192, .inl po)) :: (ad 13, .inl (g.2.1 0, 8193, .inl st)) :: ((aO, .inl (g.2.1 3, 1, .inr (.inl (vp_updL lo 0 (nI (inl + 20)).toInt64)))) :: rest)) ∧ pf_F b b9 inl 20 p0 p1 p2 p3 p4) := by
  refine sv_enter_h (by decide) rfl rfl (Nat.le_of_ble_eq_true rfl) (fun X C hCT hH hr => ?_)
  refine sv_lvE (lv' := [some _, some _, some _, some _, some _, some _, some _, none]) rfl ?_
  refine sv_aload C rfl d_L_feed_0 ?_
  refine sv_iconst C (v := 0) (by decide) d_L_feed_2 ?_
  refine sv_aload_n C rfl rfl d_L_feed_3 ?_
  refine sv_iload_n C rfl rfl d_L_feed_4 ?_
  refine sv_iload_n C rfl rfl d_L_feed_5 ?_
  refine sv_iload_n C rfl rfl d_L_feed_6 ?_
  refine sv_iload C rfl d_L_feed_7 ?_
  refine sv_iload C rfl d_L_feed_9 ?_
  refine sv_callVi C (c_X_feed l g _ ad inl wd b p0 p1 p2 p3 p4 h) lk_L_7 List.mem_cons_self rfl d_L_feed_11 (by decide) (Nat.le_of_ble_eq_true rfl) (by decide) (fun r w hw => ?_)
  obtain ⟨rfl, b9, rfl, hF⟩ := hw
  refine sv_i2l C d_L_feed_14 ?_
  refine sv_last C 14 rfl (by unfold vp_in; decide) (_ :: _ :: _ :: _ :: _ :: _ :: _ :: _ :: _ :: _ :: _ :: _ :: _ :: _ :: _ :: _) rfl d_L_feed_15 ?_
  refine sv_goto C 23 (by decide) d_L_feed_16 ?_
  refine sv_iconst C (v := 0) (by decide) d_L_feed_23 ?_
  exact sv_widen (k2 := rm_L.cells) (n2 := rm_L.slots) (Nat.le_of_ble_eq_true rfl) (Nat.le_of_ble_eq_true rfl) (hr _ _ _ _ d_L_feed_24 rfl ⟨rfl, b9, rfl, hF⟩)

set_option maxHeartbeats 4000000 in
set_option maxRecDepth 100000 in
theorem c_L_feed_x (l : Launch) (hfl : l.flags = pinnedFlags ++ [noTraceFlag]) (g : sv_G) (rest : va_W) (ad : Nat → Nat) (aO : Nat) (lo : Nat → Int64) (inl wd n : Nat) (wn : Int32) (b tf kf wf vf ch po st : Nat → Int32) (T : List (Nat × List Int32)) (p0 p1 p2 p3 p4 : Int32) (h : 8192 < inl + 20) (hi : inl ≤ 8192) : sv_Mh l y_L_feed b_L_feed 8 (some (.int)) [(0, 16, 19, 13)] rm_L g [.ref (ad 0), .int p0, .int p1, .int p2, .int p3, .int p4, .ref aO] ((ad 0, .inr (6, [.ref (ad 1), .int (nI inl), .ref (ad 2), .ref (ad 4), .ref (ad 6), .ref (ad 10), .int (nI wd)])) :: (ad 1, .inl (g.2.1 1, 8192, .inl b)) :: (ad 2, .inr (3, [.ref (ad 3), .int (nI n)])) :: (ad 3, .inl (g.2.1 0, 8192, .inl tf)) :: (ad 4, .inr (1, [.ref (ad 5)])) :: (ad 5, .inl (g.2.1 0, 33, .inl kf)) :: (ad 6, .inr (2, [.ref (ad 7), .ref (ad 9), .ref (ad 14), .ref (ad 15), .ref (ad 16), .ref (ad 17), .ref (ad 18)])) :: (ad 7, .inr (5, [.ref (ad 8), .int wn])) :: (ad 8, .inl (g.2.1 0, 255, .inl wf)) :: (ad 9, .inl (g.2.1 2, 255, .inl vf)) :: (ad 10, .inr (4, [.ref (ad 11), .ref (ad 12), .ref (ad 13), .int (nI T.length)])) :: (ad 11, .inl (g.2.1 0, 8192, .inl ch)) :: (ad 12, .inl (g.2.1 0, 8192, .inl po)) :: (ad 13, .inl (g.2.1 0, 8193, .inl st)) :: ((aO, .inl (g.2.1 3, 1, .inr (.inl lo))) :: rest)) (fun r w => r = 1 ∧ w = ((ad 0, .inr (6, [.ref (ad 1), .int (nI inl), .ref (ad 2), .ref (ad 4), .ref (ad 6), .ref (ad 10), .int (nI wd)])) :: (ad 1, .inl (g.2.1 1, 8192, .inl b)) :: (ad 2, .inr (3, [.ref (ad 3), .int (nI n)])) :: (ad 3, .inl (g.2.1 0, 8192, .inl tf)) :: (ad 4, .inr (1, [.ref (ad 5)])) :: (ad 5, .inl (g.2.1 0, 33, .inl kf)) :: (ad 6, .inr (2, [.ref (ad 7), .ref (ad 9), .ref (ad 14), .ref (ad 15), .ref (ad 16), .ref (ad 17), .ref (ad 18)])) :: (ad 7, .inr (5, [.ref (ad 8), .int wn])) :: (ad 8, .inl (g.2.1 0, 255, .inl wf)) :: (ad 9, .inl (g.2.1 2, 255, .inl vf)) :: (ad 10, .inr (4, [.ref (ad 11), .ref (ad 12), .ref (ad 13), .int (nI T.length)])) :: (ad 11, .inl (g.2.1 0, 8192, .inl ch)) :: (ad 12, .inl (g.2.1 0, 8192, .inl po)) :: (ad 13, .inl (g.2.1 0, 8193, .inl st)) :: ((aO, .inl (g.2.1 3, 1, .inr (.inl lo))) :: rest))) := by
  refine sv_enter_h (by decide) rfl rfl (Nat.le_of_ble_eq_true rfl) (fun X C hCT hH hr => ?_)
  refine sv_lvE (lv' := [some _, some _, some _, some _, some _, some _, some _, none]) rfl ?_
  refine sv_aload C rfl d_L_feed_0 ?_
  refine sv_iconst C (v := 0) (by decide) d_L_feed_2 ?_
  refine sv_aload_n C rfl rfl d_L_feed_3 ?_
  refine sv_iload_n C rfl rfl d_L_feed_4 ?_
  refine sv_iload_n C rfl rfl d_L_feed_5 ?_
  refine sv_iload_n C rfl rfl d_L_feed_6 ?_
  refine sv_iload C rfl d_L_feed_7 ?_
  refine sv_iload C rfl d_L_feed_9 ?_
  refine sv_callVx C hCT hH (c_X_feed_x l hfl g _ ad inl wd n wn b tf kf wf vf ch po st T p0 p1 p2 p3 p4 h hi) lk_L_7 List.mem_cons_self rfl d_L_feed_11 (by decide) (Nat.le_of_ble_eq_true rfl) (by decide) (sv_Tb_hit rfl (by decide) wk_L_13 rfl) (fun x => ?_)
  refine sv_astore C (by decide) [some _, some _, some _, some _, some _, some _, some _, some _] rfl d_L_feed_19 ?_
  refine sv_iconst C (v := 1) (by decide) d_L_feed_21 ?_
  exact hr _ _ _ _ d_L_feed_22 rfl ⟨rfl, rfl⟩

set_option maxHeartbeats 4000000 in
set_option maxRecDepth 100000 in
theorem c_L_end (l : Launch)  (g : sv_G) (rest : va_W) (ad : Nat → Nat) (aO : Nat) (lo : Nat → Int64) (inl wd n : Nat) (wn : Int32) (b tf kf wf vf ch po st : Nat → Int32) (T : List (Nat × List Int32)) (m : Nat) (hm : m < 20) (h : 20 - m ≤ inl) (hi : inl ≤ 8192) : sv_Mh l y_L_end b_L_end 4 (some (.int)) [(0, 9, 12, 19)] rm_L g [.ref (ad 0), .int (nI m), .ref aO] ((ad 0, .inr (6, [.ref (ad 1), .int (nI inl), .ref (ad 2), .ref (ad 4), .ref (ad 6), .ref (ad 10), .int (nI wd)])) :: (ad 1, .inl (g.2.1 1, 8192, .inl b)) :: (ad 2, .inr (3, [.ref (ad 3), .int (nI n)])) :: (ad 3, .inl (g.2.1 0, 8192, .inl tf)) :: (ad 4, .inr (1, [.ref (ad 5)])) :: (ad 5, .inl (g.2.1 0, 33, .inl kf)) :: (ad 6, .inr (2, [.ref (ad 7), .ref (ad 9), .ref (ad 14), .ref (ad 15), .ref (ad 16), .ref (ad 17), .ref (ad 18)])) :: (ad 7, .inr (5, [.ref (ad 8), .int wn])) :: (ad 8, .inl (g.2.1 0, 255, .inl wf)) :: (ad 9, .inl (g.2.1 2, 255, .inl vf)) :: (ad 10, .inr (4, [.ref (ad 11), .ref (ad 12), .ref (ad 13), .int (nI T.length)])) :: (ad 11, .inl (g.2.1 0, 8192, .inl ch)) :: (ad 12, .inl (g.2.1 0, 8192, .inl po)) :: (ad 13, .inl (g.2.1 0, 8193, .inl st)) :: ((aO, .inl (g.2.1 3, 1, .inr (.inl lo))) :: rest)) (fun r w => r = 0 ∧ w = ((ad 0, .inr (6, [.ref (ad 1), .int (nI (inl - (20 - m))), .ref (ad 2), .ref (ad 4), .ref (ad 6), .ref (ad 10), .int (nI wd)])) :: (ad 1, .inl (g.2.1 1, 8192, .inl b)) :: (ad 2, .inr (3, [.ref (ad 3), .int (nI n)])) :: (ad 3, .inl (g.2.1 0, 8192, .inl tf)) :: (ad 4, .inr (1, [.ref (ad 5)])) :: (ad 5, .inl (g.2.1 0, 33, .inl kf)) :: (ad 6, .inr (2, [.ref (ad 7), .ref (ad 9), .ref (ad 14), .ref (ad 15), .ref (ad 16), .ref (ad 17), .ref (ad 18)])) :: (ad 7, .inr (5, [.ref (ad 8), .int wn])) :: (ad 8, .inl (g.2.1 0, 255, .inl wf)) :: (ad 9, .inl (g.2.1 2, 255, .inl vf)) :: (ad 10, .inr (4, [.ref (ad 11), .ref (ad 12), .ref (ad 13), .int (nI T.length)])) :: (ad 11, .inl (g.2.1 0, 8192, .inl ch)) :: (ad 12, .inl (g.2.1 0, 8192, .inl po)) :: (ad 13, .inl (g.2.1 0, 8193, .inl st)) :: ((aO, .inl (g.2.1 3, 1, .inr (.inl (vp_updL lo 0 (nI (inl - (20 - m))).toInt64)))) :: rest))) := by
  refine sv_enter_h (by decide) rfl rfl (Nat.le_of_ble_eq_true rfl) (fun X C hCT hH hr => ?_)
  refine sv_lvE (lv' := [some _, some _, some _, none]) rfl ?_
  refine sv_aload_n C rfl rfl d_L_end_0 ?_
  refine sv_iconst C (v := 0) (by decide) d_L_end_1 ?_
  refine sv_aload_n C rfl rfl d_L_end_2 ?_
  refine sv_iload_n C rfl rfl d_L_end_3 ?_
  refine sv_callVi C (c_X_end l g _ ad inl wd n wn b tf kf wf vf ch po st T m hm h hi) lk_L_15 List.mem_cons_self rfl d_L_end_4 (by decide) (Nat.le_of_ble_eq_true rfl) (by decide) (fun r w hw => ?_)
  obtain ⟨rfl, rfl⟩ := hw
  refine sv_i2l C d_L_end_7 ?_
  refine sv_last C 14 rfl (by unfold vp_in; decide) (_ :: _ :: _ :: _ :: _ :: _ :: _ :: _ :: _ :: _ :: _ :: _ :: _ :: _ :: _ :: _) rfl d_L_end_8 ?_
  refine sv_goto C 15 (by decide) d_L_end_9 ?_
  refine sv_iconst C (v := 0) (by decide) d_L_end_15 ?_
  exact sv_widen (k2 := rm_L.cells) (n2 := rm_L.slots) (Nat.le_of_ble_eq_true rfl) (Nat.le_of_ble_eq_true rfl) (hr _ _ _ _ d_L_end_16 rfl ⟨rfl, rfl⟩)

set_option maxHeartbeats 4000000 in
set_option maxRecDepth 100000 in
theorem c_L_end_x1 (l : Launch) (hfl : l.flags = pinnedFlags ++ [noTraceFlag]) (g : sv_G) (rest : va_W) (ad : Nat → Nat) (aO : Nat) (lo : Nat → Int64) (inl wd n : Nat) (wn : Int32) (b tf kf wf vf ch po st : Nat → Int32) (T : List (Nat × List Int32)) (q : Int32) (hq : q.toInt < 0 ∨ 19 < q.toInt) : sv_Mh l y_L_end b_L_end 4 (some (.int)) [(0, 9, 12, 19)] rm_L g [.ref (ad 0), .int q, .ref aO] ((ad 0, .inr (6, [.ref (ad 1), .int (nI inl), .ref (ad 2), .ref (ad 4), .ref (ad 6), .ref (ad 10), .int (nI wd)])) :: (ad 1, .inl (g.2.1 1, 8192, .inl b)) :: (ad 2, .inr (3, [.ref (ad 3), .int (nI n)])) :: (ad 3, .inl (g.2.1 0, 8192, .inl tf)) :: (ad 4, .inr (1, [.ref (ad 5)])) :: (ad 5, .inl (g.2.1 0, 33, .inl kf)) :: (ad 6, .inr (2, [.ref (ad 7), .ref (ad 9), .ref (ad 14), .ref (ad 15), .ref (ad 16), .ref (ad 17), .ref (ad 18)])) :: (ad 7, .inr (5, [.ref (ad 8), .int wn])) :: (ad 8, .inl (g.2.1 0, 255, .inl wf)) :: (ad 9, .inl (g.2.1 2, 255, .inl vf)) :: (ad 10, .inr (4, [.ref (ad 11), .ref (ad 12), .ref (ad 13), .int (nI T.length)])) :: (ad 11, .inl (g.2.1 0, 8192, .inl ch)) :: (ad 12, .inl (g.2.1 0, 8192, .inl po)) :: (ad 13, .inl (g.2.1 0, 8193, .inl st)) :: ((aO, .inl (g.2.1 3, 1, .inr (.inl lo))) :: rest)) (fun r w => r = 1 ∧ w = ((ad 0, .inr (6, [.ref (ad 1), .int (nI inl), .ref (ad 2), .ref (ad 4), .ref (ad 6), .ref (ad 10), .int (nI wd)])) :: (ad 1, .inl (g.2.1 1, 8192, .inl b)) :: (ad 2, .inr (3, [.ref (ad 3), .int (nI n)])) :: (ad 3, .inl (g.2.1 0, 8192, .inl tf)) :: (ad 4, .inr (1, [.ref (ad 5)])) :: (ad 5, .inl (g.2.1 0, 33, .inl kf)) :: (ad 6, .inr (2, [.ref (ad 7), .ref (ad 9), .ref (ad 14), .ref (ad 15), .ref (ad 16), .ref (ad 17), .ref (ad 18)])) :: (ad 7, .inr (5, [.ref (ad 8), .int wn])) :: (ad 8, .inl (g.2.1 0, 255, .inl wf)) :: (ad 9, .inl (g.2.1 2, 255, .inl vf)) :: (ad 10, .inr (4, [.ref (ad 11), .ref (ad 12), .ref (ad 13), .int (nI T.length)])) :: (ad 11, .inl (g.2.1 0, 8192, .inl ch)) :: (ad 12, .inl (g.2.1 0, 8192, .inl po)) :: (ad 13, .inl (g.2.1 0, 8193, .inl st)) :: ((aO, .inl (g.2.1 3, 1, .inr (.inl lo))) :: rest))) := by
  refine sv_enter_h (by decide) rfl rfl (Nat.le_of_ble_eq_true rfl) (fun X C hCT hH hr => ?_)
  refine sv_lvE (lv' := [some _, some _, some _, none]) rfl ?_
  refine sv_aload_n C rfl rfl d_L_end_0 ?_
  refine sv_iconst C (v := 0) (by decide) d_L_end_1 ?_
  refine sv_aload_n C rfl rfl d_L_end_2 ?_
  refine sv_iload_n C rfl rfl d_L_end_3 ?_
  refine sv_callVx C hCT hH (c_X_end_x1 l hfl g _ ad inl wd n wn b tf kf wf vf ch po st T q hq) lk_L_15 List.mem_cons_self rfl d_L_end_4 (by decide) (Nat.le_of_ble_eq_true rfl) (by decide) (sv_Tb_hit rfl (by decide) wk_L_19 rfl) (fun x => ?_)
  refine sv_astore_n C rfl (by decide) [some _, some _, some _, some _] rfl d_L_end_12 ?_
  refine sv_iconst C (v := 1) (by decide) d_L_end_13 ?_
  exact hr _ _ _ _ d_L_end_14 rfl ⟨rfl, rfl⟩

set_option maxHeartbeats 4000000 in
set_option maxRecDepth 100000 in
theorem c_L_end_x2 (l : Launch) (hfl : l.flags = pinnedFlags ++ [noTraceFlag]) (g : sv_G) (rest : va_W) (ad : Nat → Nat) (aO : Nat) (lo : Nat → Int64) (inl wd n : Nat) (wn : Int32) (b tf kf wf vf ch po st : Nat → Int32) (T : List (Nat × List Int32)) (m : Nat) (hm : m < 20) (h : inl < 20 - m) : sv_Mh l y_L_end b_L_end 4 (some (.int)) [(0, 9, 12, 19)] rm_L g [.ref (ad 0), .int (nI m), .ref aO] ((ad 0, .inr (6, [.ref (ad 1), .int (nI inl), .ref (ad 2), .ref (ad 4), .ref (ad 6), .ref (ad 10), .int (nI wd)])) :: (ad 1, .inl (g.2.1 1, 8192, .inl b)) :: (ad 2, .inr (3, [.ref (ad 3), .int (nI n)])) :: (ad 3, .inl (g.2.1 0, 8192, .inl tf)) :: (ad 4, .inr (1, [.ref (ad 5)])) :: (ad 5, .inl (g.2.1 0, 33, .inl kf)) :: (ad 6, .inr (2, [.ref (ad 7), .ref (ad 9), .ref (ad 14), .ref (ad 15), .ref (ad 16), .ref (ad 17), .ref (ad 18)])) :: (ad 7, .inr (5, [.ref (ad 8), .int wn])) :: (ad 8, .inl (g.2.1 0, 255, .inl wf)) :: (ad 9, .inl (g.2.1 2, 255, .inl vf)) :: (ad 10, .inr (4, [.ref (ad 11), .ref (ad 12), .ref (ad 13), .int (nI T.length)])) :: (ad 11, .inl (g.2.1 0, 8192, .inl ch)) :: (ad 12, .inl (g.2.1 0, 8192, .inl po)) :: (ad 13, .inl (g.2.1 0, 8193, .inl st)) :: ((aO, .inl (g.2.1 3, 1, .inr (.inl lo))) :: rest)) (fun r w => r = 1 ∧ w = ((ad 0, .inr (6, [.ref (ad 1), .int (nI inl), .ref (ad 2), .ref (ad 4), .ref (ad 6), .ref (ad 10), .int (nI wd)])) :: (ad 1, .inl (g.2.1 1, 8192, .inl b)) :: (ad 2, .inr (3, [.ref (ad 3), .int (nI n)])) :: (ad 3, .inl (g.2.1 0, 8192, .inl tf)) :: (ad 4, .inr (1, [.ref (ad 5)])) :: (ad 5, .inl (g.2.1 0, 33, .inl kf)) :: (ad 6, .inr (2, [.ref (ad 7), .ref (ad 9), .ref (ad 14), .ref (ad 15), .ref (ad 16), .ref (ad 17), .ref (ad 18)])) :: (ad 7, .inr (5, [.ref (ad 8), .int wn])) :: (ad 8, .inl (g.2.1 0, 255, .inl wf)) :: (ad 9, .inl (g.2.1 2, 255, .inl vf)) :: (ad 10, .inr (4, [.ref (ad 11), .ref (ad 12), .ref (ad 13), .int (nI T.length)])) :: (ad 11, .inl (g.2.1 0, 8192, .inl ch)) :: (ad 12, .inl (g.2.1 0, 8192, .inl po)) :: (ad 13, .inl (g.2.1 0, 8193, .inl st)) :: ((aO, .inl (g.2.1 3, 1, .inr (.inl lo))) :: rest))) := by
  refine sv_enter_h (by decide) rfl rfl (Nat.le_of_ble_eq_true rfl) (fun X C hCT hH hr => ?_)
  refine sv_lvE (lv' := [some _, some _, some _, none]) rfl ?_
  refine sv_aload_n C rfl rfl d_L_end_0 ?_
  refine sv_iconst C (v := 0) (by decide) d_L_end_1 ?_
  refine sv_aload_n C rfl rfl d_L_end_2 ?_
  refine sv_iload_n C rfl rfl d_L_end_3 ?_
  refine sv_callVx C hCT hH (c_X_end_x2 l hfl g _ ad inl wd n wn b tf kf wf vf ch po st T m hm h) lk_L_15 List.mem_cons_self rfl d_L_end_4 (by decide) (Nat.le_of_ble_eq_true rfl) (by decide) (sv_Tb_hit rfl (by decide) wk_L_19 rfl) (fun x => ?_)
  refine sv_astore_n C rfl (by decide) [some _, some _, some _, some _] rfl d_L_end_12 ?_
  refine sv_iconst C (v := 1) (by decide) d_L_end_13 ?_
  exact hr _ _ _ _ d_L_end_14 rfl ⟨rfl, rfl⟩

set_option maxHeartbeats 4000000 in
set_option maxRecDepth 100000 in
theorem c_L_token (l : Launch)  (g : sv_G) (rest : va_W) (ad : Nat → Nat) (aO : Nat) (lo : Nat → Int64) (inl wd n : Nat) (wn : Int32) (b tf kf wf vf ch po st : Nat → Int32) (T : List (Nat × List Int32)) (hT : pu_Tok ch po st T) (hn : T.length ≤ 8192) (ho : pu_off T T.length ≤ 8192) (i : Nat) (hi : i < T.length) (q : Int32) (hq : q.toInt = 0 ∨ q.toInt = 1) : sv_Mh l y_L_token b_L_token 5 (some (.int)) [(0, 10, 13, 19), (0, 10, 17, 25)] rm_L g [.ref (ad 0), .int (nI i), .int q, .ref aO] ((ad 0, .inr (6, [.ref (ad 1), .int (nI inl), .ref (ad 2), .ref (ad 4), .ref (ad 6), .ref (ad 10), .int (nI wd)])) :: (ad 1, .inl (g.2.1 1, 8192, .inl b)) :: (ad 2, .inr (3, [.ref (ad 3), .int (nI n)])) :: (ad 3, .inl (g.2.1 0, 8192, .inl tf)) :: (ad 4, .inr (1, [.ref (ad 5)])) :: (ad 5, .inl (g.2.1 0, 33, .inl kf)) :: (ad 6, .inr (2, [.ref (ad 7), .ref (ad 9), .ref (ad 14), .ref (ad 15), .ref (ad 16), .ref (ad 17), .ref (ad 18)])) :: (ad 7, .inr (5, [.ref (ad 8), .int wn])) :: (ad 8, .inl (g.2.1 0, 255, .inl wf)) :: (ad 9, .inl (g.2.1 2, 255, .inl vf)) :: (ad 10, .inr (4, [.ref (ad 11), .ref (ad 12), .ref (ad 13), .int (nI T.length)])) :: (ad 11, .inl (g.2.1 0, 8192, .inl ch)) :: (ad 12, .inl (g.2.1 0, 8192, .inl po)) :: (ad 13, .inl (g.2.1 0, 8193, .inl st)) :: ((aO, .inl (g.2.1 3, 1, .inr (.inl lo))) :: rest)) (fun r w => r = 0 ∧ w = ((ad 0, .inr (6, [.ref (ad 1), .int (nI inl), .ref (ad 2), .ref (ad 4), .ref (ad 6), .ref (ad 10), .int (nI wd)])) :: (ad 1, .inl (g.2.1 1, 8192, .inl b)) :: (ad 2, .inr (3, [.ref (ad 3), .int (nI n)])) :: (ad 3, .inl (g.2.1 0, 8192, .inl tf)) :: (ad 4, .inr (1, [.ref (ad 5)])) :: (ad 5, .inl (g.2.1 0, 33, .inl kf)) :: (ad 6, .inr (2, [.ref (ad 7), .ref (ad 9), .ref (ad 14), .ref (ad 15), .ref (ad 16), .ref (ad 17), .ref (ad 18)])) :: (ad 7, .inr (5, [.ref (ad 8), .int wn])) :: (ad 8, .inl (g.2.1 0, 255, .inl wf)) :: (ad 9, .inl (g.2.1 2, 255, .inl vf)) :: (ad 10, .inr (4, [.ref (ad 11), .ref (ad 12), .ref (ad 13), .int (nI T.length)])) :: (ad 11, .inl (g.2.1 0, 8192, .inl ch)) :: (ad 12, .inl (g.2.1 0, 8192, .inl po)) :: (ad 13, .inl (g.2.1 0, 8193, .inl st)) :: ((aO, .inl (g.2.1 3, 1, .inr (.inl (vp_updL lo 0 ((if q.toInt = 0 then nI (T.getD i (0, [])).1 else nI (T.getD i (0, [])).2.length)).toInt64)))) :: rest))) := by
  refine sv_enter_h (by decide) rfl rfl (Nat.le_of_ble_eq_true rfl) (fun X C hCT hH hr => ?_)
  refine sv_lvE (lv' := [some _, some _, some _, some _, none]) rfl ?_
  refine sv_aload_n C rfl rfl d_L_token_0 ?_
  refine sv_iconst C (v := 0) (by decide) d_L_token_1 ?_
  refine sv_aload_n C rfl rfl d_L_token_2 ?_
  refine sv_iload_n C rfl rfl d_L_token_3 ?_
  refine sv_iload_n C rfl rfl d_L_token_4 ?_
  refine sv_callVi C (c_X_token l g _ ad inl wd n wn b tf kf wf vf ch po st T hT hn ho i hi q hq) lk_L_21 List.mem_cons_self rfl d_L_token_5 (by decide) (Nat.le_of_ble_eq_true rfl) (by decide) (fun r w hw => ?_)
  obtain ⟨rfl, rfl⟩ := hw
  refine sv_i2l C d_L_token_8 ?_
  refine sv_last C 14 rfl (by unfold vp_in; decide) (_ :: _ :: _ :: _ :: _ :: _ :: _ :: _ :: _ :: _ :: _ :: _ :: _ :: _ :: _ :: _) rfl d_L_token_9 ?_
  refine sv_goto C 21 (by decide) d_L_token_10 ?_
  refine sv_iconst C (v := 0) (by decide) d_L_token_21 ?_
  exact sv_widen (k2 := rm_L.cells) (n2 := rm_L.slots) (Nat.le_of_ble_eq_true rfl) (Nat.le_of_ble_eq_true rfl) (hr _ _ _ _ d_L_token_22 rfl ⟨rfl, rfl⟩)

set_option maxHeartbeats 4000000 in
set_option maxRecDepth 100000 in
theorem c_L_token_x1 (l : Launch) (hfl : l.flags = pinnedFlags ++ [noTraceFlag]) (g : sv_G) (rest : va_W) (ad : Nat → Nat) (aO : Nat) (lo : Nat → Int64) (inl wd n : Nat) (wn : Int32) (b tf kf wf vf ch po st : Nat → Int32) (T : List (Nat × List Int32)) (i q : Int32) (hq : q.toInt < 0 ∨ 1 < q.toInt) : sv_Mh l y_L_token b_L_token 5 (some (.int)) [(0, 10, 13, 19), (0, 10, 17, 25)] rm_L g [.ref (ad 0), .int i, .int q, .ref aO] ((ad 0, .inr (6, [.ref (ad 1), .int (nI inl), .ref (ad 2), .ref (ad 4), .ref (ad 6), .ref (ad 10), .int (nI wd)])) :: (ad 1, .inl (g.2.1 1, 8192, .inl b)) :: (ad 2, .inr (3, [.ref (ad 3), .int (nI n)])) :: (ad 3, .inl (g.2.1 0, 8192, .inl tf)) :: (ad 4, .inr (1, [.ref (ad 5)])) :: (ad 5, .inl (g.2.1 0, 33, .inl kf)) :: (ad 6, .inr (2, [.ref (ad 7), .ref (ad 9), .ref (ad 14), .ref (ad 15), .ref (ad 16), .ref (ad 17), .ref (ad 18)])) :: (ad 7, .inr (5, [.ref (ad 8), .int wn])) :: (ad 8, .inl (g.2.1 0, 255, .inl wf)) :: (ad 9, .inl (g.2.1 2, 255, .inl vf)) :: (ad 10, .inr (4, [.ref (ad 11), .ref (ad 12), .ref (ad 13), .int (nI T.length)])) :: (ad 11, .inl (g.2.1 0, 8192, .inl ch)) :: (ad 12, .inl (g.2.1 0, 8192, .inl po)) :: (ad 13, .inl (g.2.1 0, 8193, .inl st)) :: ((aO, .inl (g.2.1 3, 1, .inr (.inl lo))) :: rest)) (fun r w => r = 1 ∧ w = ((ad 0, .inr (6, [.ref (ad 1), .int (nI inl), .ref (ad 2), .ref (ad 4), .ref (ad 6), .ref (ad 10), .int (nI wd)])) :: (ad 1, .inl (g.2.1 1, 8192, .inl b)) :: (ad 2, .inr (3, [.ref (ad 3), .int (nI n)])) :: (ad 3, .inl (g.2.1 0, 8192, .inl tf)) :: (ad 4, .inr (1, [.ref (ad 5)])) :: (ad 5, .inl (g.2.1 0, 33, .inl kf)) :: (ad 6, .inr (2, [.ref (ad 7), .ref (ad 9), .ref (ad 14), .ref (ad 15), .ref (ad 16), .ref (ad 17), .ref (ad 18)])) :: (ad 7, .inr (5, [.ref (ad 8), .int wn])) :: (ad 8, .inl (g.2.1 0, 255, .inl wf)) :: (ad 9, .inl (g.2.1 2, 255, .inl vf)) :: (ad 10, .inr (4, [.ref (ad 11), .ref (ad 12), .ref (ad 13), .int (nI T.length)])) :: (ad 11, .inl (g.2.1 0, 8192, .inl ch)) :: (ad 12, .inl (g.2.1 0, 8192, .inl po)) :: (ad 13, .inl (g.2.1 0, 8193, .inl st)) :: ((aO, .inl (g.2.1 3, 1, .inr (.inl lo))) :: rest))) := by
  refine sv_enter_h (by decide) rfl rfl (Nat.le_of_ble_eq_true rfl) (fun X C hCT hH hr => ?_)
  refine sv_lvE (lv' := [some _, some _, some _, some _, none]) rfl ?_
  refine sv_aload_n C rfl rfl d_L_token_0 ?_
  refine sv_iconst C (v := 0) (by decide) d_L_token_1 ?_
  refine sv_aload_n C rfl rfl d_L_token_2 ?_
  refine sv_iload_n C rfl rfl d_L_token_3 ?_
  refine sv_iload_n C rfl rfl d_L_token_4 ?_
  refine sv_callVx C hCT hH (c_X_token_x1 l hfl g _ ad inl wd n wn b tf kf wf vf ch po st T i q hq) lk_L_21 List.mem_cons_self rfl d_L_token_5 (by decide) (Nat.le_of_ble_eq_true rfl) (by decide) (sv_Tb_hit rfl (by decide) wk_L_19 rfl) (fun x => ?_)
  refine sv_astore C (by decide) [some _, some _, some _, some _, some _] rfl d_L_token_13 ?_
  refine sv_iconst C (v := 1) (by decide) d_L_token_15 ?_
  exact hr _ _ _ _ d_L_token_16 rfl ⟨rfl, rfl⟩

set_option maxHeartbeats 4000000 in
set_option maxRecDepth 100000 in
theorem c_L_token_x2 (l : Launch) (hfl : l.flags = pinnedFlags ++ [noTraceFlag]) (g : sv_G) (rest : va_W) (ad : Nat → Nat) (aO : Nat) (lo : Nat → Int64) (inl wd n : Nat) (wn : Int32) (b tf kf wf vf ch po st : Nat → Int32) (T : List (Nat × List Int32)) (hT : pu_Tok ch po st T) (hn : T.length ≤ 8192) (ho : pu_off T T.length ≤ 8192) (i q : Int32) (hq : q.toInt = 0 ∨ q.toInt = 1) (hi : ¬ (0 ≤ i.toInt ∧ i.toInt < T.length)) : sv_Mh l y_L_token b_L_token 5 (some (.int)) [(0, 10, 13, 19), (0, 10, 17, 25)] rm_L g [.ref (ad 0), .int i, .int q, .ref aO] ((ad 0, .inr (6, [.ref (ad 1), .int (nI inl), .ref (ad 2), .ref (ad 4), .ref (ad 6), .ref (ad 10), .int (nI wd)])) :: (ad 1, .inl (g.2.1 1, 8192, .inl b)) :: (ad 2, .inr (3, [.ref (ad 3), .int (nI n)])) :: (ad 3, .inl (g.2.1 0, 8192, .inl tf)) :: (ad 4, .inr (1, [.ref (ad 5)])) :: (ad 5, .inl (g.2.1 0, 33, .inl kf)) :: (ad 6, .inr (2, [.ref (ad 7), .ref (ad 9), .ref (ad 14), .ref (ad 15), .ref (ad 16), .ref (ad 17), .ref (ad 18)])) :: (ad 7, .inr (5, [.ref (ad 8), .int wn])) :: (ad 8, .inl (g.2.1 0, 255, .inl wf)) :: (ad 9, .inl (g.2.1 2, 255, .inl vf)) :: (ad 10, .inr (4, [.ref (ad 11), .ref (ad 12), .ref (ad 13), .int (nI T.length)])) :: (ad 11, .inl (g.2.1 0, 8192, .inl ch)) :: (ad 12, .inl (g.2.1 0, 8192, .inl po)) :: (ad 13, .inl (g.2.1 0, 8193, .inl st)) :: ((aO, .inl (g.2.1 3, 1, .inr (.inl lo))) :: rest)) (fun r w => r = 2 ∧ w = ((ad 0, .inr (6, [.ref (ad 1), .int (nI inl), .ref (ad 2), .ref (ad 4), .ref (ad 6), .ref (ad 10), .int (nI wd)])) :: (ad 1, .inl (g.2.1 1, 8192, .inl b)) :: (ad 2, .inr (3, [.ref (ad 3), .int (nI n)])) :: (ad 3, .inl (g.2.1 0, 8192, .inl tf)) :: (ad 4, .inr (1, [.ref (ad 5)])) :: (ad 5, .inl (g.2.1 0, 33, .inl kf)) :: (ad 6, .inr (2, [.ref (ad 7), .ref (ad 9), .ref (ad 14), .ref (ad 15), .ref (ad 16), .ref (ad 17), .ref (ad 18)])) :: (ad 7, .inr (5, [.ref (ad 8), .int wn])) :: (ad 8, .inl (g.2.1 0, 255, .inl wf)) :: (ad 9, .inl (g.2.1 2, 255, .inl vf)) :: (ad 10, .inr (4, [.ref (ad 11), .ref (ad 12), .ref (ad 13), .int (nI T.length)])) :: (ad 11, .inl (g.2.1 0, 8192, .inl ch)) :: (ad 12, .inl (g.2.1 0, 8192, .inl po)) :: (ad 13, .inl (g.2.1 0, 8193, .inl st)) :: ((aO, .inl (g.2.1 3, 1, .inr (.inl lo))) :: rest))) := by
  refine sv_enter_h (by decide) rfl rfl (Nat.le_of_ble_eq_true rfl) (fun X C hCT hH hr => ?_)
  refine sv_lvE (lv' := [some _, some _, some _, some _, none]) rfl ?_
  refine sv_aload_n C rfl rfl d_L_token_0 ?_
  refine sv_iconst C (v := 0) (by decide) d_L_token_1 ?_
  refine sv_aload_n C rfl rfl d_L_token_2 ?_
  refine sv_iload_n C rfl rfl d_L_token_3 ?_
  refine sv_iload_n C rfl rfl d_L_token_4 ?_
  refine sv_callVx C hCT hH (c_X_token_x2 l hfl g _ ad inl wd n wn b tf kf wf vf ch po st T hT hn ho i q hq hi) lk_L_21 List.mem_cons_self rfl d_L_token_5 (by decide) (Nat.le_of_ble_eq_true rfl) (by decide) (sv_Tb_pass rfl (by decide) wk_L_19 sv_nc_NI (sv_Tb_hit rfl (by decide) wk_L_25 rfl)) (fun x => ?_)
  refine sv_astore C (by decide) [some _, some _, some _, some _, some _] rfl d_L_token_17 ?_
  refine sv_iconst C (v := 2) (by decide) d_L_token_19 ?_
  exact hr _ _ _ _ d_L_token_20 rfl ⟨rfl, rfl⟩

set_option maxHeartbeats 4000000 in
set_option maxRecDepth 100000 in
theorem c_L_character (l : Launch)  (g : sv_G) (rest : va_W) (ad : Nat → Nat) (aO : Nat) (lo : Nat → Int64) (inl wd n : Nat) (wn : Int32) (b tf kf wf vf ch po st : Nat → Int32) (T : List (Nat × List Int32)) (hT : pu_Tok ch po st T) (hn : T.length ≤ 8192) (ho : pu_off T T.length ≤ 8192) (i : Nat) (hi : i < T.length) (k0 : Nat) (hk : k0 < (T.getD i (0, [])).2.length) : sv_Mh l y_L_character b_L_character 5 (some (.int)) [(0, 10, 13, 25)] rm_L g [.ref (ad 0), .int (nI i), .int (nI k0), .ref aO] ((ad 0, .inr (6, [.ref (ad 1), .int (nI inl), .ref (ad 2), .ref (ad 4), .ref (ad 6), .ref (ad 10), .int (nI wd)])) :: (ad 1, .inl (g.2.1 1, 8192, .inl b)) :: (ad 2, .inr (3, [.ref (ad 3), .int (nI n)])) :: (ad 3, .inl (g.2.1 0, 8192, .inl tf)) :: (ad 4, .inr (1, [.ref (ad 5)])) :: (ad 5, .inl (g.2.1 0, 33, .inl kf)) :: (ad 6, .inr (2, [.ref (ad 7), .ref (ad 9), .ref (ad 14), .ref (ad 15), .ref (ad 16), .ref (ad 17), .ref (ad 18)])) :: (ad 7, .inr (5, [.ref (ad 8), .int wn])) :: (ad 8, .inl (g.2.1 0, 255, .inl wf)) :: (ad 9, .inl (g.2.1 2, 255, .inl vf)) :: (ad 10, .inr (4, [.ref (ad 11), .ref (ad 12), .ref (ad 13), .int (nI T.length)])) :: (ad 11, .inl (g.2.1 0, 8192, .inl ch)) :: (ad 12, .inl (g.2.1 0, 8192, .inl po)) :: (ad 13, .inl (g.2.1 0, 8193, .inl st)) :: ((aO, .inl (g.2.1 3, 1, .inr (.inl lo))) :: rest)) (fun r w => r = 0 ∧ w = ((ad 0, .inr (6, [.ref (ad 1), .int (nI inl), .ref (ad 2), .ref (ad 4), .ref (ad 6), .ref (ad 10), .int (nI wd)])) :: (ad 1, .inl (g.2.1 1, 8192, .inl b)) :: (ad 2, .inr (3, [.ref (ad 3), .int (nI n)])) :: (ad 3, .inl (g.2.1 0, 8192, .inl tf)) :: (ad 4, .inr (1, [.ref (ad 5)])) :: (ad 5, .inl (g.2.1 0, 33, .inl kf)) :: (ad 6, .inr (2, [.ref (ad 7), .ref (ad 9), .ref (ad 14), .ref (ad 15), .ref (ad 16), .ref (ad 17), .ref (ad 18)])) :: (ad 7, .inr (5, [.ref (ad 8), .int wn])) :: (ad 8, .inl (g.2.1 0, 255, .inl wf)) :: (ad 9, .inl (g.2.1 2, 255, .inl vf)) :: (ad 10, .inr (4, [.ref (ad 11), .ref (ad 12), .ref (ad 13), .int (nI T.length)])) :: (ad 11, .inl (g.2.1 0, 8192, .inl ch)) :: (ad 12, .inl (g.2.1 0, 8192, .inl po)) :: (ad 13, .inl (g.2.1 0, 8193, .inl st)) :: ((aO, .inl (g.2.1 3, 1, .inr (.inl (vp_updL lo 0 ((T.getD i (0, [])).2.getD k0 0).toInt64)))) :: rest))) := by
  refine sv_enter_h (by decide) rfl rfl (Nat.le_of_ble_eq_true rfl) (fun X C hCT hH hr => ?_)
  refine sv_lvE (lv' := [some _, some _, some _, some _, none]) rfl ?_
  refine sv_aload_n C rfl rfl d_L_character_0 ?_
  refine sv_iconst C (v := 0) (by decide) d_L_character_1 ?_
  refine sv_aload_n C rfl rfl d_L_character_2 ?_
  refine sv_iload_n C rfl rfl d_L_character_3 ?_
  refine sv_iload_n C rfl rfl d_L_character_4 ?_
  refine sv_callVi C (c_X_character l g _ ad inl wd n wn b tf kf wf vf ch po st T hT hn ho i hi k0 hk) lk_L_27 List.mem_cons_self rfl d_L_character_5 (by decide) (Nat.le_of_ble_eq_true rfl) (by decide) (fun r w hw => ?_)
  obtain ⟨rfl, rfl⟩ := hw
  refine sv_i2l C d_L_character_8 ?_
  refine sv_last C 14 rfl (by unfold vp_in; decide) (_ :: _ :: _ :: _ :: _ :: _ :: _ :: _ :: _ :: _ :: _ :: _ :: _ :: _ :: _ :: _) rfl d_L_character_9 ?_
  refine sv_goto C 17 (by decide) d_L_character_10 ?_
  refine sv_iconst C (v := 0) (by decide) d_L_character_17 ?_
  exact sv_widen (k2 := rm_L.cells) (n2 := rm_L.slots) (Nat.le_of_ble_eq_true rfl) (Nat.le_of_ble_eq_true rfl) (hr _ _ _ _ d_L_character_18 rfl ⟨rfl, rfl⟩)

set_option maxHeartbeats 4000000 in
set_option maxRecDepth 100000 in
theorem c_L_character_x1 (l : Launch) (hfl : l.flags = pinnedFlags ++ [noTraceFlag]) (g : sv_G) (rest : va_W) (ad : Nat → Nat) (aO : Nat) (lo : Nat → Int64) (inl wd n : Nat) (wn : Int32) (b tf kf wf vf ch po st : Nat → Int32) (T : List (Nat × List Int32)) (hT : pu_Tok ch po st T) (hn : T.length ≤ 8192) (ho : pu_off T T.length ≤ 8192) (i k0 : Int32) (hi : ¬ (0 ≤ i.toInt ∧ i.toInt < T.length)) : sv_Mh l y_L_character b_L_character 5 (some (.int)) [(0, 10, 13, 25)] rm_L g [.ref (ad 0), .int i, .int k0, .ref aO] ((ad 0, .inr (6, [.ref (ad 1), .int (nI inl), .ref (ad 2), .ref (ad 4), .ref (ad 6), .ref (ad 10), .int (nI wd)])) :: (ad 1, .inl (g.2.1 1, 8192, .inl b)) :: (ad 2, .inr (3, [.ref (ad 3), .int (nI n)])) :: (ad 3, .inl (g.2.1 0, 8192, .inl tf)) :: (ad 4, .inr (1, [.ref (ad 5)])) :: (ad 5, .inl (g.2.1 0, 33, .inl kf)) :: (ad 6, .inr (2, [.ref (ad 7), .ref (ad 9), .ref (ad 14), .ref (ad 15), .ref (ad 16), .ref (ad 17), .ref (ad 18)])) :: (ad 7, .inr (5, [.ref (ad 8), .int wn])) :: (ad 8, .inl (g.2.1 0, 255, .inl wf)) :: (ad 9, .inl (g.2.1 2, 255, .inl vf)) :: (ad 10, .inr (4, [.ref (ad 11), .ref (ad 12), .ref (ad 13), .int (nI T.length)])) :: (ad 11, .inl (g.2.1 0, 8192, .inl ch)) :: (ad 12, .inl (g.2.1 0, 8192, .inl po)) :: (ad 13, .inl (g.2.1 0, 8193, .inl st)) :: ((aO, .inl (g.2.1 3, 1, .inr (.inl lo))) :: rest)) (fun r w => r = 1 ∧ w = ((ad 0, .inr (6, [.ref (ad 1), .int (nI inl), .ref (ad 2), .ref (ad 4), .ref (ad 6), .ref (ad 10), .int (nI wd)])) :: (ad 1, .inl (g.2.1 1, 8192, .inl b)) :: (ad 2, .inr (3, [.ref (ad 3), .int (nI n)])) :: (ad 3, .inl (g.2.1 0, 8192, .inl tf)) :: (ad 4, .inr (1, [.ref (ad 5)])) :: (ad 5, .inl (g.2.1 0, 33, .inl kf)) :: (ad 6, .inr (2, [.ref (ad 7), .ref (ad 9), .ref (ad 14), .ref (ad 15), .ref (ad 16), .ref (ad 17), .ref (ad 18)])) :: (ad 7, .inr (5, [.ref (ad 8), .int wn])) :: (ad 8, .inl (g.2.1 0, 255, .inl wf)) :: (ad 9, .inl (g.2.1 2, 255, .inl vf)) :: (ad 10, .inr (4, [.ref (ad 11), .ref (ad 12), .ref (ad 13), .int (nI T.length)])) :: (ad 11, .inl (g.2.1 0, 8192, .inl ch)) :: (ad 12, .inl (g.2.1 0, 8192, .inl po)) :: (ad 13, .inl (g.2.1 0, 8193, .inl st)) :: ((aO, .inl (g.2.1 3, 1, .inr (.inl lo))) :: rest))) := by
  refine sv_enter_h (by decide) rfl rfl (Nat.le_of_ble_eq_true rfl) (fun X C hCT hH hr => ?_)
  refine sv_lvE (lv' := [some _, some _, some _, some _, none]) rfl ?_
  refine sv_aload_n C rfl rfl d_L_character_0 ?_
  refine sv_iconst C (v := 0) (by decide) d_L_character_1 ?_
  refine sv_aload_n C rfl rfl d_L_character_2 ?_
  refine sv_iload_n C rfl rfl d_L_character_3 ?_
  refine sv_iload_n C rfl rfl d_L_character_4 ?_
  refine sv_callVx C hCT hH (c_X_character_x1 l hfl g _ ad inl wd n wn b tf kf wf vf ch po st T hT hn ho i k0 hi) lk_L_27 List.mem_cons_self rfl d_L_character_5 (by decide) (Nat.le_of_ble_eq_true rfl) (by decide) (sv_Tb_hit rfl (by decide) wk_L_25 rfl) (fun x => ?_)
  refine sv_astore C (by decide) [some _, some _, some _, some _, some _] rfl d_L_character_13 ?_
  refine sv_iconst C (v := 1) (by decide) d_L_character_15 ?_
  exact hr _ _ _ _ d_L_character_16 rfl ⟨rfl, rfl⟩

set_option maxHeartbeats 4000000 in
set_option maxRecDepth 100000 in
theorem c_L_character_x2 (l : Launch) (hfl : l.flags = pinnedFlags ++ [noTraceFlag]) (g : sv_G) (rest : va_W) (ad : Nat → Nat) (aO : Nat) (lo : Nat → Int64) (inl wd n : Nat) (wn : Int32) (b tf kf wf vf ch po st : Nat → Int32) (T : List (Nat × List Int32)) (hT : pu_Tok ch po st T) (hn : T.length ≤ 8192) (ho : pu_off T T.length ≤ 8192) (i : Nat) (hi : i < T.length) (k0 : Int32) (hk : k0.toInt < 0 ∨ ((T.getD i (0, [])).2.length : Int) ≤ k0.toInt) : sv_Mh l y_L_character b_L_character 5 (some (.int)) [(0, 10, 13, 25)] rm_L g [.ref (ad 0), .int (nI i), .int k0, .ref aO] ((ad 0, .inr (6, [.ref (ad 1), .int (nI inl), .ref (ad 2), .ref (ad 4), .ref (ad 6), .ref (ad 10), .int (nI wd)])) :: (ad 1, .inl (g.2.1 1, 8192, .inl b)) :: (ad 2, .inr (3, [.ref (ad 3), .int (nI n)])) :: (ad 3, .inl (g.2.1 0, 8192, .inl tf)) :: (ad 4, .inr (1, [.ref (ad 5)])) :: (ad 5, .inl (g.2.1 0, 33, .inl kf)) :: (ad 6, .inr (2, [.ref (ad 7), .ref (ad 9), .ref (ad 14), .ref (ad 15), .ref (ad 16), .ref (ad 17), .ref (ad 18)])) :: (ad 7, .inr (5, [.ref (ad 8), .int wn])) :: (ad 8, .inl (g.2.1 0, 255, .inl wf)) :: (ad 9, .inl (g.2.1 2, 255, .inl vf)) :: (ad 10, .inr (4, [.ref (ad 11), .ref (ad 12), .ref (ad 13), .int (nI T.length)])) :: (ad 11, .inl (g.2.1 0, 8192, .inl ch)) :: (ad 12, .inl (g.2.1 0, 8192, .inl po)) :: (ad 13, .inl (g.2.1 0, 8193, .inl st)) :: ((aO, .inl (g.2.1 3, 1, .inr (.inl lo))) :: rest)) (fun r w => r = 1 ∧ w = ((ad 0, .inr (6, [.ref (ad 1), .int (nI inl), .ref (ad 2), .ref (ad 4), .ref (ad 6), .ref (ad 10), .int (nI wd)])) :: (ad 1, .inl (g.2.1 1, 8192, .inl b)) :: (ad 2, .inr (3, [.ref (ad 3), .int (nI n)])) :: (ad 3, .inl (g.2.1 0, 8192, .inl tf)) :: (ad 4, .inr (1, [.ref (ad 5)])) :: (ad 5, .inl (g.2.1 0, 33, .inl kf)) :: (ad 6, .inr (2, [.ref (ad 7), .ref (ad 9), .ref (ad 14), .ref (ad 15), .ref (ad 16), .ref (ad 17), .ref (ad 18)])) :: (ad 7, .inr (5, [.ref (ad 8), .int wn])) :: (ad 8, .inl (g.2.1 0, 255, .inl wf)) :: (ad 9, .inl (g.2.1 2, 255, .inl vf)) :: (ad 10, .inr (4, [.ref (ad 11), .ref (ad 12), .ref (ad 13), .int (nI T.length)])) :: (ad 11, .inl (g.2.1 0, 8192, .inl ch)) :: (ad 12, .inl (g.2.1 0, 8192, .inl po)) :: (ad 13, .inl (g.2.1 0, 8193, .inl st)) :: ((aO, .inl (g.2.1 3, 1, .inr (.inl lo))) :: rest))) := by
  refine sv_enter_h (by decide) rfl rfl (Nat.le_of_ble_eq_true rfl) (fun X C hCT hH hr => ?_)
  refine sv_lvE (lv' := [some _, some _, some _, some _, none]) rfl ?_
  refine sv_aload_n C rfl rfl d_L_character_0 ?_
  refine sv_iconst C (v := 0) (by decide) d_L_character_1 ?_
  refine sv_aload_n C rfl rfl d_L_character_2 ?_
  refine sv_iload_n C rfl rfl d_L_character_3 ?_
  refine sv_iload_n C rfl rfl d_L_character_4 ?_
  refine sv_callVx C hCT hH (c_X_character_x2 l hfl g _ ad inl wd n wn b tf kf wf vf ch po st T hT hn ho i hi k0 hk) lk_L_27 List.mem_cons_self rfl d_L_character_5 (by decide) (Nat.le_of_ble_eq_true rfl) (by decide) (sv_Tb_hit rfl (by decide) wk_L_25 rfl) (fun x => ?_)
  refine sv_astore C (by decide) [some _, some _, some _, some _, some _] rfl d_L_character_13 ?_
  refine sv_iconst C (v := 1) (by decide) d_L_character_15 ?_
  exact hr _ _ _ _ d_L_character_16 rfl ⟨rfl, rfl⟩

set_option maxHeartbeats 4000000 in
set_option maxRecDepth 100000 in
theorem c_L_first (l : Launch)  (g : sv_G) (rest : va_W) (ad : Nat → Nat) (aO : Nat) (lo : Nat → Int64) (inl wd n : Nat) (wn : Int32) (b tf kf wf vf ch po st : Nat → Int32) (T : List (Nat × List Int32)) (hT : pu_Tok ch po st T) (hn : T.length ≤ 8192) (ho : pu_off T T.length ≤ 8192) (i : Nat) (hi : i < T.length) : sv_Mh l y_L_first b_L_first 4 (some (.int)) [(0, 9, 12, 25)] rm_L g [.ref (ad 0), .int (nI i), .ref aO] ((ad 0, .inr (6, [.ref (ad 1), .int (nI inl), .ref (ad 2), .ref (ad 4), .ref (ad 6), .ref (ad 10), .int (nI wd)])) :: (ad 1, .inl (g.2.1 1, 8192, .inl b)) :: (ad 2, .inr (3, [.ref (ad 3), .int (nI n)])) :: (ad 3, .inl (g.2.1 0, 8192, .inl tf)) :: (ad 4, .inr (1, [.ref (ad 5)])) :: (ad 5, .inl (g.2.1 0, 33, .inl kf)) :: (ad 6, .inr (2, [.ref (ad 7), .ref (ad 9), .ref (ad 14), .ref (ad 15), .ref (ad 16), .ref (ad 17), .ref (ad 18)])) :: (ad 7, .inr (5, [.ref (ad 8), .int wn])) :: (ad 8, .inl (g.2.1 0, 255, .inl wf)) :: (ad 9, .inl (g.2.1 2, 255, .inl vf)) :: (ad 10, .inr (4, [.ref (ad 11), .ref (ad 12), .ref (ad 13), .int (nI T.length)])) :: (ad 11, .inl (g.2.1 0, 8192, .inl ch)) :: (ad 12, .inl (g.2.1 0, 8192, .inl po)) :: (ad 13, .inl (g.2.1 0, 8193, .inl st)) :: ((aO, .inl (g.2.1 3, 1, .inr (.inl lo))) :: rest)) (fun r w => r = 0 ∧ w = ((ad 0, .inr (6, [.ref (ad 1), .int (nI inl), .ref (ad 2), .ref (ad 4), .ref (ad 6), .ref (ad 10), .int (nI wd)])) :: (ad 1, .inl (g.2.1 1, 8192, .inl b)) :: (ad 2, .inr (3, [.ref (ad 3), .int (nI n)])) :: (ad 3, .inl (g.2.1 0, 8192, .inl tf)) :: (ad 4, .inr (1, [.ref (ad 5)])) :: (ad 5, .inl (g.2.1 0, 33, .inl kf)) :: (ad 6, .inr (2, [.ref (ad 7), .ref (ad 9), .ref (ad 14), .ref (ad 15), .ref (ad 16), .ref (ad 17), .ref (ad 18)])) :: (ad 7, .inr (5, [.ref (ad 8), .int wn])) :: (ad 8, .inl (g.2.1 0, 255, .inl wf)) :: (ad 9, .inl (g.2.1 2, 255, .inl vf)) :: (ad 10, .inr (4, [.ref (ad 11), .ref (ad 12), .ref (ad 13), .int (nI T.length)])) :: (ad 11, .inl (g.2.1 0, 8192, .inl ch)) :: (ad 12, .inl (g.2.1 0, 8192, .inl po)) :: (ad 13, .inl (g.2.1 0, 8193, .inl st)) :: ((aO, .inl (g.2.1 3, 1, .inr (.inl (vp_updL lo 0 (nI (pu_first T i i 0)).toInt64)))) :: rest))) := by
  refine sv_enter_h (by decide) rfl rfl (Nat.le_of_ble_eq_true rfl) (fun X C hCT hH hr => ?_)
  refine sv_lvE (lv' := [some _, some _, some _, none]) rfl ?_
  refine sv_aload_n C rfl rfl d_L_first_0 ?_
  refine sv_iconst C (v := 0) (by decide) d_L_first_1 ?_
  refine sv_aload_n C rfl rfl d_L_first_2 ?_
  refine sv_iload_n C rfl rfl d_L_first_3 ?_
  refine sv_callVi C (c_X_first l g _ ad inl wd n wn b tf kf wf vf ch po st T hT hn ho i hi) lk_L_30 List.mem_cons_self rfl d_L_first_4 (by decide) (Nat.le_of_ble_eq_true rfl) (by decide) (fun r w hw => ?_)
  obtain ⟨rfl, rfl⟩ := hw
  refine sv_i2l C d_L_first_7 ?_
  refine sv_last C 14 rfl (by unfold vp_in; decide) (_ :: _ :: _ :: _ :: _ :: _ :: _ :: _ :: _ :: _ :: _ :: _ :: _ :: _ :: _ :: _) rfl d_L_first_8 ?_
  refine sv_goto C 15 (by decide) d_L_first_9 ?_
  refine sv_iconst C (v := 0) (by decide) d_L_first_15 ?_
  exact sv_widen (k2 := rm_L.cells) (n2 := rm_L.slots) (Nat.le_of_ble_eq_true rfl) (Nat.le_of_ble_eq_true rfl) (hr _ _ _ _ d_L_first_16 rfl ⟨rfl, rfl⟩)

set_option maxHeartbeats 4000000 in
set_option maxRecDepth 100000 in
theorem c_L_first_x (l : Launch) (hfl : l.flags = pinnedFlags ++ [noTraceFlag]) (g : sv_G) (rest : va_W) (ad : Nat → Nat) (aO : Nat) (lo : Nat → Int64) (inl wd n : Nat) (wn : Int32) (b tf kf wf vf ch po st : Nat → Int32) (T : List (Nat × List Int32)) (hT : pu_Tok ch po st T) (hn : T.length ≤ 8192) (ho : pu_off T T.length ≤ 8192) (i : Int32) (hi : ¬ (0 ≤ i.toInt ∧ i.toInt < T.length)) : sv_Mh l y_L_first b_L_first 4 (some (.int)) [(0, 9, 12, 25)] rm_L g [.ref (ad 0), .int i, .ref aO] ((ad 0, .inr (6, [.ref (ad 1), .int (nI inl), .ref (ad 2), .ref (ad 4), .ref (ad 6), .ref (ad 10), .int (nI wd)])) :: (ad 1, .inl (g.2.1 1, 8192, .inl b)) :: (ad 2, .inr (3, [.ref (ad 3), .int (nI n)])) :: (ad 3, .inl (g.2.1 0, 8192, .inl tf)) :: (ad 4, .inr (1, [.ref (ad 5)])) :: (ad 5, .inl (g.2.1 0, 33, .inl kf)) :: (ad 6, .inr (2, [.ref (ad 7), .ref (ad 9), .ref (ad 14), .ref (ad 15), .ref (ad 16), .ref (ad 17), .ref (ad 18)])) :: (ad 7, .inr (5, [.ref (ad 8), .int wn])) :: (ad 8, .inl (g.2.1 0, 255, .inl wf)) :: (ad 9, .inl (g.2.1 2, 255, .inl vf)) :: (ad 10, .inr (4, [.ref (ad 11), .ref (ad 12), .ref (ad 13), .int (nI T.length)])) :: (ad 11, .inl (g.2.1 0, 8192, .inl ch)) :: (ad 12, .inl (g.2.1 0, 8192, .inl po)) :: (ad 13, .inl (g.2.1 0, 8193, .inl st)) :: ((aO, .inl (g.2.1 3, 1, .inr (.inl lo))) :: rest)) (fun r w => r = 1 ∧ w = ((ad 0, .inr (6, [.ref (ad 1), .int (nI inl), .ref (ad 2), .ref (ad 4), .ref (ad 6), .ref (ad 10), .int (nI wd)])) :: (ad 1, .inl (g.2.1 1, 8192, .inl b)) :: (ad 2, .inr (3, [.ref (ad 3), .int (nI n)])) :: (ad 3, .inl (g.2.1 0, 8192, .inl tf)) :: (ad 4, .inr (1, [.ref (ad 5)])) :: (ad 5, .inl (g.2.1 0, 33, .inl kf)) :: (ad 6, .inr (2, [.ref (ad 7), .ref (ad 9), .ref (ad 14), .ref (ad 15), .ref (ad 16), .ref (ad 17), .ref (ad 18)])) :: (ad 7, .inr (5, [.ref (ad 8), .int wn])) :: (ad 8, .inl (g.2.1 0, 255, .inl wf)) :: (ad 9, .inl (g.2.1 2, 255, .inl vf)) :: (ad 10, .inr (4, [.ref (ad 11), .ref (ad 12), .ref (ad 13), .int (nI T.length)])) :: (ad 11, .inl (g.2.1 0, 8192, .inl ch)) :: (ad 12, .inl (g.2.1 0, 8192, .inl po)) :: (ad 13, .inl (g.2.1 0, 8193, .inl st)) :: ((aO, .inl (g.2.1 3, 1, .inr (.inl lo))) :: rest))) := by
  refine sv_enter_h (by decide) rfl rfl (Nat.le_of_ble_eq_true rfl) (fun X C hCT hH hr => ?_)
  refine sv_lvE (lv' := [some _, some _, some _, none]) rfl ?_
  refine sv_aload_n C rfl rfl d_L_first_0 ?_
  refine sv_iconst C (v := 0) (by decide) d_L_first_1 ?_
  refine sv_aload_n C rfl rfl d_L_first_2 ?_
  refine sv_iload_n C rfl rfl d_L_first_3 ?_
  refine sv_callVx C hCT hH (c_X_first_x l hfl g _ ad inl wd n wn b tf kf wf vf ch po st T hT hn ho i hi) lk_L_30 List.mem_cons_self rfl d_L_first_4 (by decide) (Nat.le_of_ble_eq_true rfl) (by decide) (sv_Tb_hit rfl (by decide) wk_L_25 rfl) (fun x => ?_)
  refine sv_astore_n C rfl (by decide) [some _, some _, some _, some _] rfl d_L_first_12 ?_
  refine sv_iconst C (v := 1) (by decide) d_L_first_13 ?_
  exact hr _ _ _ _ d_L_first_14 rfl ⟨rfl, rfl⟩

set_option maxHeartbeats 4000000 in
set_option maxRecDepth 100000 in
theorem c_L_sort (l : Launch)  (g : sv_G) (rest : va_W) (ad : Nat → Nat) (aO : Nat) (lo : Nat → Int64) (inl wd n : Nat) (wn : Int32) (b tf kf wf vf ch po st : Nat → Int32) (T : List (Nat × List Int32)) (c : Int32) (h1 : 0 ≤ c.toInt) (h2 : c.toInt ≤ 1114111) : sv_Mh l y_L_sort b_L_sort 4 (some (.int)) [(0, 9, 12, 19)] rm_L g [.ref (ad 0), .int c, .ref aO] ((ad 0, .inr (6, [.ref (ad 1), .int (nI inl), .ref (ad 2), .ref (ad 4), .ref (ad 6), .ref (ad 10), .int (nI wd)])) :: (ad 1, .inl (g.2.1 1, 8192, .inl b)) :: (ad 2, .inr (3, [.ref (ad 3), .int (nI n)])) :: (ad 3, .inl (g.2.1 0, 8192, .inl tf)) :: (ad 4, .inr (1, [.ref (ad 5)])) :: (ad 5, .inl (g.2.1 0, 33, .inl kf)) :: (ad 6, .inr (2, [.ref (ad 7), .ref (ad 9), .ref (ad 14), .ref (ad 15), .ref (ad 16), .ref (ad 17), .ref (ad 18)])) :: (ad 7, .inr (5, [.ref (ad 8), .int wn])) :: (ad 8, .inl (g.2.1 0, 255, .inl wf)) :: (ad 9, .inl (g.2.1 2, 255, .inl vf)) :: (ad 10, .inr (4, [.ref (ad 11), .ref (ad 12), .ref (ad 13), .int (nI T.length)])) :: (ad 11, .inl (g.2.1 0, 8192, .inl ch)) :: (ad 12, .inl (g.2.1 0, 8192, .inl po)) :: (ad 13, .inl (g.2.1 0, 8193, .inl st)) :: ((aO, .inl (g.2.1 3, 1, .inr (.inl lo))) :: rest)) (fun r w => r = 0 ∧ w = ((ad 0, .inr (6, [.ref (ad 1), .int (nI inl), .ref (ad 2), .ref (ad 4), .ref (ad 6), .ref (ad 10), .int (nI wd)])) :: (ad 1, .inl (g.2.1 1, 8192, .inl b)) :: (ad 2, .inr (3, [.ref (ad 3), .int (nI n)])) :: (ad 3, .inl (g.2.1 0, 8192, .inl tf)) :: (ad 4, .inr (1, [.ref (ad 5)])) :: (ad 5, .inl (g.2.1 0, 33, .inl kf)) :: (ad 6, .inr (2, [.ref (ad 7), .ref (ad 9), .ref (ad 14), .ref (ad 15), .ref (ad 16), .ref (ad 17), .ref (ad 18)])) :: (ad 7, .inr (5, [.ref (ad 8), .int wn])) :: (ad 8, .inl (g.2.1 0, 255, .inl wf)) :: (ad 9, .inl (g.2.1 2, 255, .inl vf)) :: (ad 10, .inr (4, [.ref (ad 11), .ref (ad 12), .ref (ad 13), .int (nI T.length)])) :: (ad 11, .inl (g.2.1 0, 8192, .inl ch)) :: (ad 12, .inl (g.2.1 0, 8192, .inl po)) :: (ad 13, .inl (g.2.1 0, 8193, .inl st)) :: ((aO, .inl (g.2.1 3, 1, .inr (.inl (vp_updL lo 0 (nI (pu_sort c.toInt)).toInt64)))) :: rest))) := by
  refine sv_enter_h (by decide) rfl rfl (Nat.le_of_ble_eq_true rfl) (fun X C hCT hH hr => ?_)
  refine sv_lvE (lv' := [some _, some _, some _, none]) rfl ?_
  refine sv_aload_n C rfl rfl d_L_sort_0 ?_
  refine sv_iconst C (v := 0) (by decide) d_L_sort_1 ?_
  refine sv_aload_n C rfl rfl d_L_sort_2 ?_
  refine sv_iload_n C rfl rfl d_L_sort_3 ?_
  refine sv_callVi C (c_X_sort l g _ (ad 0) c h1 h2) lk_L_33 List.mem_cons_self rfl d_L_sort_4 (by decide) (Nat.le_of_ble_eq_true rfl) (by decide) (fun r w hw => ?_)
  obtain ⟨rfl, rfl⟩ := hw
  refine sv_i2l C d_L_sort_7 ?_
  refine sv_last C 14 rfl (by unfold vp_in; decide) (_ :: _ :: _ :: _ :: _ :: _ :: _ :: _ :: _ :: _ :: _ :: _ :: _ :: _ :: _ :: _) rfl d_L_sort_8 ?_
  refine sv_goto C 15 (by decide) d_L_sort_9 ?_
  refine sv_iconst C (v := 0) (by decide) d_L_sort_15 ?_
  exact sv_widen (k2 := rm_L.cells) (n2 := rm_L.slots) (Nat.le_of_ble_eq_true rfl) (Nat.le_of_ble_eq_true rfl) (hr _ _ _ _ d_L_sort_16 rfl ⟨rfl, rfl⟩)

set_option maxHeartbeats 4000000 in
set_option maxRecDepth 100000 in
theorem c_L_sort_x (l : Launch) (hfl : l.flags = pinnedFlags ++ [noTraceFlag]) (g : sv_G) (rest : va_W) (ad : Nat → Nat) (aO : Nat) (lo : Nat → Int64) (inl wd n : Nat) (wn : Int32) (b tf kf wf vf ch po st : Nat → Int32) (T : List (Nat × List Int32)) (c : Int32) (h1 : c.toInt < 0 ∨ 1114111 < c.toInt) : sv_Mh l y_L_sort b_L_sort 4 (some (.int)) [(0, 9, 12, 19)] rm_L g [.ref (ad 0), .int c, .ref aO] ((ad 0, .inr (6, [.ref (ad 1), .int (nI inl), .ref (ad 2), .ref (ad 4), .ref (ad 6), .ref (ad 10), .int (nI wd)])) :: (ad 1, .inl (g.2.1 1, 8192, .inl b)) :: (ad 2, .inr (3, [.ref (ad 3), .int (nI n)])) :: (ad 3, .inl (g.2.1 0, 8192, .inl tf)) :: (ad 4, .inr (1, [.ref (ad 5)])) :: (ad 5, .inl (g.2.1 0, 33, .inl kf)) :: (ad 6, .inr (2, [.ref (ad 7), .ref (ad 9), .ref (ad 14), .ref (ad 15), .ref (ad 16), .ref (ad 17), .ref (ad 18)])) :: (ad 7, .inr (5, [.ref (ad 8), .int wn])) :: (ad 8, .inl (g.2.1 0, 255, .inl wf)) :: (ad 9, .inl (g.2.1 2, 255, .inl vf)) :: (ad 10, .inr (4, [.ref (ad 11), .ref (ad 12), .ref (ad 13), .int (nI T.length)])) :: (ad 11, .inl (g.2.1 0, 8192, .inl ch)) :: (ad 12, .inl (g.2.1 0, 8192, .inl po)) :: (ad 13, .inl (g.2.1 0, 8193, .inl st)) :: ((aO, .inl (g.2.1 3, 1, .inr (.inl lo))) :: rest)) (fun r w => r = 1 ∧ w = ((ad 0, .inr (6, [.ref (ad 1), .int (nI inl), .ref (ad 2), .ref (ad 4), .ref (ad 6), .ref (ad 10), .int (nI wd)])) :: (ad 1, .inl (g.2.1 1, 8192, .inl b)) :: (ad 2, .inr (3, [.ref (ad 3), .int (nI n)])) :: (ad 3, .inl (g.2.1 0, 8192, .inl tf)) :: (ad 4, .inr (1, [.ref (ad 5)])) :: (ad 5, .inl (g.2.1 0, 33, .inl kf)) :: (ad 6, .inr (2, [.ref (ad 7), .ref (ad 9), .ref (ad 14), .ref (ad 15), .ref (ad 16), .ref (ad 17), .ref (ad 18)])) :: (ad 7, .inr (5, [.ref (ad 8), .int wn])) :: (ad 8, .inl (g.2.1 0, 255, .inl wf)) :: (ad 9, .inl (g.2.1 2, 255, .inl vf)) :: (ad 10, .inr (4, [.ref (ad 11), .ref (ad 12), .ref (ad 13), .int (nI T.length)])) :: (ad 11, .inl (g.2.1 0, 8192, .inl ch)) :: (ad 12, .inl (g.2.1 0, 8192, .inl po)) :: (ad 13, .inl (g.2.1 0, 8193, .inl st)) :: ((aO, .inl (g.2.1 3, 1, .inr (.inl lo))) :: rest))) := by
  refine sv_enter_h (by decide) rfl rfl (Nat.le_of_ble_eq_true rfl) (fun X C hCT hH hr => ?_)
  refine sv_lvE (lv' := [some _, some _, some _, none]) rfl ?_
  refine sv_aload_n C rfl rfl d_L_sort_0 ?_
  refine sv_iconst C (v := 0) (by decide) d_L_sort_1 ?_
  refine sv_aload_n C rfl rfl d_L_sort_2 ?_
  refine sv_iload_n C rfl rfl d_L_sort_3 ?_
  refine sv_callVx C hCT hH (c_X_sort_x l hfl g _ (ad 0) c h1) lk_L_33 List.mem_cons_self rfl d_L_sort_4 (by decide) (Nat.le_of_ble_eq_true rfl) (by decide) (sv_Tb_hit rfl (by decide) wk_L_19 rfl) (fun x => ?_)
  refine sv_astore_n C rfl (by decide) [some _, some _, some _, some _] rfl d_L_sort_12 ?_
  refine sv_iconst C (v := 1) (by decide) d_L_sort_13 ?_
  exact hr _ _ _ _ d_L_sort_14 rfl ⟨rfl, rfl⟩
