/-! CONTRACTS: constructors, 1 -/
section SVT
variable {X : sv_X} {nL k n pc : Nat} {ws : va_W} {lv : List (Option Value)} {st : List Value} {l : Launch} {cc : ByteArray} {own : String} {rm : Room} {g : sv_G}
theorem ty_En : ∀ j, j < 2 → parseFieldDescriptor (F_En j).2.2.1 = some (t_En j) := by decide +kernel
theorem dv_En : ∀ j, j < 2 → defaultValue (t_En j) = vp_V [.null, .null] j := fun j hj => by
  rcases (by omega : j = 0 ∨ j = 1) with rfl | rfl <;> rfl
theorem sv_new_En (C : sv_C X l cc nL own rm g) {ix : Nat} (h1 : Cond.classLink own ix R_En ∈ sv_tbl) (hcells : k + 1 ≤ rm.cells) (hslots : n + 2 ≤ rm.slots) (hd : decode cc pc = .ok (.new ix, 3)) (z : ∀ q : Nat, sv_V X nL (k + 1) (n + 2) ((q, .inr (0, [.null, .null])) :: ws) (pc + 3) lv (.ref q :: st)) : sv_V X nL k n ws pc lv st :=
  sv_new C (ci := 0) t_En rfl i_En ty_En h1 wn_En wi_En dv_En hcells hslots hd z
theorem ty_Si : ∀ j, j < 1 → parseFieldDescriptor (F_Si j).2.2.1 = some (t_Si j) := by decide +kernel
theorem dv_Si : ∀ j, j < 1 → defaultValue (t_Si j) = vp_V [.null] j := fun j hj => by
  rcases (by omega : j = 0) with rfl <;> rfl
theorem sv_new_Si (C : sv_C X l cc nL own rm g) {ix : Nat} (h1 : Cond.classLink own ix R_Si ∈ sv_tbl) (hcells : k + 1 ≤ rm.cells) (hslots : n + 1 ≤ rm.slots) (hd : decode cc pc = .ok (.new ix, 3)) (z : ∀ q : Nat, sv_V X nL (k + 1) (n + 1) ((q, .inr (1, [.null])) :: ws) (pc + 3) lv (.ref q :: st)) : sv_V X nL k n ws pc lv st :=
  sv_new C (ci := 1) t_Si rfl i_Si ty_Si h1 wn_Si wi_Si dv_Si hcells hslots hd z
theorem ty_Sm : ∀ j, j < 7 → parseFieldDescriptor (F_Sm j).2.2.1 = some (t_Sm j) := by decide +kernel
theorem dv_Sm : ∀ j, j < 7 → defaultValue (t_Sm j) = vp_V [.null, .null, .null, .null, .null, .null, .null] j := fun j hj => by
  rcases (by omega : j = 0 ∨ j = 1 ∨ j = 2 ∨ j = 3 ∨ j = 4 ∨ j = 5 ∨ j = 6) with rfl | rfl | rfl | rfl | rfl | rfl | rfl <;> rfl
theorem sv_new_Sm (C : sv_C X l cc nL own rm g) {ix : Nat} (h1 : Cond.classLink own ix R_Sm ∈ sv_tbl) (hcells : k + 1 ≤ rm.cells) (hslots : n + 7 ≤ rm.slots) (hd : decode cc pc = .ok (.new ix, 3)) (z : ∀ q : Nat, sv_V X nL (k + 1) (n + 7) ((q, .inr (2, [.null, .null, .null, .null, .null, .null, .null])) :: ws) (pc + 3) lv (.ref q :: st)) : sv_V X nL k n ws pc lv st :=
  sv_new C (ci := 2) t_Sm rfl i_Sm ty_Sm h1 wn_Sm wi_Sm dv_Sm hcells hslots hd z
theorem ty_Te : ∀ j, j < 2 → parseFieldDescriptor (F_Te j).2.2.1 = some (t_Te j) := by decide +kernel
theorem dv_Te : ∀ j, j < 2 → defaultValue (t_Te j) = vp_V [.null, .int 0] j := fun j hj => by
  rcases (by omega : j = 0 ∨ j = 1) with rfl | rfl <;> rfl
theorem sv_new_Te (C : sv_C X l cc nL own rm g) {ix : Nat} (h1 : Cond.classLink own ix R_Te ∈ sv_tbl) (hcells : k + 1 ≤ rm.cells) (hslots : n + 2 ≤ rm.slots) (hd : decode cc pc = .ok (.new ix, 3)) (z : ∀ q : Nat, sv_V X nL (k + 1) (n + 2) ((q, .inr (3, [.null, .int 0])) :: ws) (pc + 3) lv (.ref q :: st)) : sv_V X nL k n ws pc lv st :=
  sv_new C (ci := 3) t_Te rfl i_Te ty_Te h1 wn_Te wi_Te dv_Te hcells hslots hd z
theorem ty_To : ∀ j, j < 4 → parseFieldDescriptor (F_To j).2.2.1 = some (t_To j) := by decide +kernel
theorem dv_To : ∀ j, j < 4 → defaultValue (t_To j) = vp_V [.null, .null, .null, .int 0] j := fun j hj => by
  rcases (by omega : j = 0 ∨ j = 1 ∨ j = 2 ∨ j = 3) with rfl | rfl | rfl | rfl <;> rfl
theorem sv_new_To (C : sv_C X l cc nL own rm g) {ix : Nat} (h1 : Cond.classLink own ix R_To ∈ sv_tbl) (hcells : k + 1 ≤ rm.cells) (hslots : n + 4 ≤ rm.slots) (hd : decode cc pc = .ok (.new ix, 3)) (z : ∀ q : Nat, sv_V X nL (k + 1) (n + 4) ((q, .inr (4, [.null, .null, .null, .int 0])) :: ws) (pc + 3) lv (.ref q :: st)) : sv_V X nL k n ws pc lv st :=
  sv_new C (ci := 4) t_To rfl i_To ty_To h1 wn_To wi_To dv_To hcells hslots hd z
theorem ty_Wo : ∀ j, j < 2 → parseFieldDescriptor (F_Wo j).2.2.1 = some (t_Wo j) := by decide +kernel
theorem dv_Wo : ∀ j, j < 2 → defaultValue (t_Wo j) = vp_V [.null, .int 0] j := fun j hj => by
  rcases (by omega : j = 0 ∨ j = 1) with rfl | rfl <;> rfl
theorem sv_new_Wo (C : sv_C X l cc nL own rm g) {ix : Nat} (h1 : Cond.classLink own ix R_Wo ∈ sv_tbl) (hcells : k + 1 ≤ rm.cells) (hslots : n + 2 ≤ rm.slots) (hd : decode cc pc = .ok (.new ix, 3)) (z : ∀ q : Nat, sv_V X nL (k + 1) (n + 2) ((q, .inr (5, [.null, .int 0])) :: ws) (pc + 3) lv (.ref q :: st)) : sv_V X nL k n ws pc lv st :=
  sv_new C (ci := 5) t_Wo rfl i_Wo ty_Wo h1 wn_Wo wi_Wo dv_Wo hcells hslots hd z
theorem ty_X : ∀ j, j < 7 → parseFieldDescriptor (F_X j).2.2.1 = some (t_X j) := by decide +kernel
theorem dv_X : ∀ j, j < 7 → defaultValue (t_X j) = vp_V [.null, .int 0, .null, .null, .null, .null, .int 0] j := fun j hj => by
  rcases (by omega : j = 0 ∨ j = 1 ∨ j = 2 ∨ j = 3 ∨ j = 4 ∨ j = 5 ∨ j = 6) with rfl | rfl | rfl | rfl | rfl | rfl | rfl <;> rfl
theorem sv_new_X (C : sv_C X l cc nL own rm g) {ix : Nat} (h1 : Cond.classLink own ix R_X ∈ sv_tbl) (hcells : k + 1 ≤ rm.cells) (hslots : n + 7 ≤ rm.slots) (hd : decode cc pc = .ok (.new ix, 3)) (z : ∀ q : Nat, sv_V X nL (k + 1) (n + 7) ((q, .inr (6, [.null, .int 0, .null, .null, .null, .null, .int 0])) :: ws) (pc + 3) lv (.ref q :: st)) : sv_V X nL k n ws pc lv st :=
  sv_new C (ci := 6) t_X rfl i_X ty_X h1 wn_X wi_X dv_X hcells hslots hd z
theorem ty_M : ∀ j, j < 16 → parseFieldDescriptor (F_M j).2.2.1 = some (t_M j) := by decide +kernel
theorem dv_M : ∀ j, j < 16 → defaultValue (t_M j) = vp_V [.null, .null, .null, .null, .null, .int 0, .int 0, .null, .int 0, .null, .null, .null, .int 0, .int 0, .null, .int 0] j := fun j hj => by
  rcases (by omega : j = 0 ∨ j = 1 ∨ j = 2 ∨ j = 3 ∨ j = 4 ∨ j = 5 ∨ j = 6 ∨ j = 7 ∨ j = 8 ∨ j = 9 ∨ j = 10 ∨ j = 11 ∨ j = 12 ∨ j = 13 ∨ j = 14 ∨ j = 15) with rfl | rfl | rfl | rfl | rfl | rfl | rfl | rfl | rfl | rfl | rfl | rfl | rfl | rfl | rfl | rfl <;> rfl
theorem sv_new_M (C : sv_C X l cc nL own rm g) {ix : Nat} (h1 : Cond.classLink own ix R_M ∈ sv_tbl) (hcells : k + 1 ≤ rm.cells) (hslots : n + 16 ≤ rm.slots) (hd : decode cc pc = .ok (.new ix, 3)) (z : ∀ q : Nat, sv_V X nL (k + 1) (n + 16) ((q, .inr (7, [.null, .null, .null, .null, .null, .int 0, .int 0, .null, .int 0, .null, .null, .null, .int 0, .int 0, .null, .int 0])) :: ws) (pc + 3) lv (.ref q :: st)) : sv_V X nL k n ws pc lv st :=
  sv_new C (ci := 7) t_M rfl i_M ty_M h1 wn_M wi_M dv_M hcells hslots hd z
end SVT
def rm_En_init : Room := { frames := 1, cells := 0, slots := 0, locals := 80 }
set_option maxHeartbeats 4000000 in
set_option maxRecDepth 100000 in
theorem c_En_init (l : Launch) (g : sv_G) (rest : va_W) (h i j : Nat) : sv_Mv l y_En_init b_En_init 3 none rm_En_init g [.ref h, .ref (g.2.2.1 i), .ref (g.2.2.1 j)] ((h, .inr (0, [.null, .null])) :: rest) (fun w => w = ((h, .inr (0, [.ref (g.2.2.1 i), .ref (g.2.2.1 j)])) :: rest)) := by
  refine sv_enter_v (by decide) rfl rfl (Nat.le_of_ble_eq_true rfl) (fun X C hI hr => ?_)
  refine sv_lvE (lv' := [some _, some _, some _]) rfl ?_
  have hI := hI rfl
  refine sv_aload_n C rfl rfl d_En_init_0 ?_
  refine sv_objInit C wo_En wo_2 wo_3 (by decide) (Nat.le_of_ble_eq_true rfl) d_En_init_1 ?_
  refine sv_aload_n C rfl rfl d_En_init_4 ?_
  refine sv_aload_n C rfl rfl d_En_init_5 ?_
  refine sv_putF C hI fp_En_7 0 rfl rfl rfl (Nat.le_of_ble_eq_true rfl) ((_, .inr (_, [_, _])) :: _) rfl d_En_init_6 ?_
  refine sv_aload_n C rfl rfl d_En_init_9 ?_
  refine sv_aload_n C rfl rfl d_En_init_10 ?_
  refine sv_putF C hI fp_En_13 0 rfl rfl rfl (Nat.le_of_ble_eq_true rfl) ((_, .inr (_, [_, _])) :: _) rfl d_En_init_11 ?_
  exact hr _ _ _ d_En_init_14 rfl

def rm_Wo_init : Room := { frames := 1, cells := 1, slots := 255, locals := 80 }
set_option maxHeartbeats 4000000 in
set_option maxRecDepth 100000 in
theorem c_Wo_init (l : Launch) (g : sv_G) (rest : va_W) (h : Nat) : sv_Mv l y_Wo_init b_Wo_init 2 none rm_Wo_init g [.ref h, .int 255] ((h, .inr (5, [.null, .int 0])) :: rest) (fun w => ∃ a : Nat, w = ((h, .inr (5, [.ref a, .int (nI 0)])) :: (a, .inl (g.2.1 0, 255, .inl (fun _ => 0))) :: rest)) := by
  refine sv_enter_v (by decide) rfl rfl (Nat.le_of_ble_eq_true rfl) (fun X C hI hr => ?_)
  refine sv_lvE (lv' := [some _, some _]) rfl ?_
  have hI := hI rfl
  refine sv_aload_n C rfl rfl d_Wo_init_0 ?_
  refine sv_objInit C wo_Wo wo_2 wo_3 (by decide) (Nat.le_of_ble_eq_true rfl) d_Wo_init_1 ?_
  refine sv_aload_n C rfl rfl d_Wo_init_4 ?_
  refine sv_iconst C (v := 0) (by decide) d_Wo_init_5 ?_
  refine sv_put C fp_Wo_7 0 rfl rfl rfl (Nat.le_of_ble_eq_true rfl) ((_, .inr (_, [_, _])) :: _) rfl d_Wo_init_6 ?_
  refine sv_aload_n C rfl rfl d_Wo_init_9 ?_
  refine sv_iload_n C rfl rfl d_Wo_init_10 ?_
  refine sv_newI C wr_int (by decide) (N := 255) (by decide) (by decide) (by decide) (by decide) d_Wo_init_11 (fun a => ?_)
  refine sv_putF C hI fp_Wo_13 1 rfl rfl rfl (Nat.le_of_ble_eq_true rfl) (_ :: (_, .inr (_, [_, _])) :: _) rfl d_Wo_init_13 ?_
  refine sv_front 1 (_ :: _ :: _) rfl rfl ?_
  exact hr _ _ _ d_Wo_init_16 ⟨a, rfl⟩

def rm_Te_init : Room := { frames := 1, cells := 1, slots := 8192, locals := 80 }
set_option maxHeartbeats 4000000 in
set_option maxRecDepth 100000 in
theorem c_Te_init (l : Launch) (g : sv_G) (rest : va_W) (h : Nat) : sv_Mv l y_Te_init b_Te_init 2 none rm_Te_init g [.ref h, .int 8192] ((h, .inr (3, [.null, .int 0])) :: rest) (fun w => ∃ a : Nat, w = ((h, .inr (3, [.ref a, .int (nI 0)])) :: (a, .inl (g.2.1 0, 8192, .inl (fun _ => 0))) :: rest)) := by
  refine sv_enter_v (by decide) rfl rfl (Nat.le_of_ble_eq_true rfl) (fun X C hI hr => ?_)
  refine sv_lvE (lv' := [some _, some _]) rfl ?_
  have hI := hI rfl
  refine sv_aload_n C rfl rfl d_Te_init_0 ?_
  refine sv_objInit C wo_Te wo_2 wo_3 (by decide) (Nat.le_of_ble_eq_true rfl) d_Te_init_1 ?_
  refine sv_aload_n C rfl rfl d_Te_init_4 ?_
  refine sv_iconst C (v := 0) (by decide) d_Te_init_5 ?_
  refine sv_put C fp_Te_7 0 rfl rfl rfl (Nat.le_of_ble_eq_true rfl) ((_, .inr (_, [_, _])) :: _) rfl d_Te_init_6 ?_
  refine sv_aload_n C rfl rfl d_Te_init_9 ?_
  refine sv_iload_n C rfl rfl d_Te_init_10 ?_
  refine sv_newI C wr_int (by decide) (N := 8192) (by decide) (by decide) (by decide) (by decide) d_Te_init_11 (fun a => ?_)
  refine sv_putF C hI fp_Te_13 1 rfl rfl rfl (Nat.le_of_ble_eq_true rfl) (_ :: (_, .inr (_, [_, _])) :: _) rfl d_Te_init_13 ?_
  refine sv_front 1 (_ :: _ :: _) rfl rfl ?_
  exact hr _ _ _ d_Te_init_16 ⟨a, rfl⟩

def rm_To_init : Room := { frames := 1, cells := 3, slots := 24577, locals := 80 }
set_option maxHeartbeats 4000000 in
set_option maxRecDepth 100000 in
theorem c_To_init (l : Launch) (g : sv_G) (rest : va_W) (h : Nat) : sv_Mv l y_To_init b_To_init 2 none rm_To_init g [.ref h, .int 8192] ((h, .inr (4, [.null, .null, .null, .int 0])) :: rest) (fun w => ∃ a b c : Nat, w = ((h, .inr (4, [.ref a, .ref b, .ref c, .int (nI 0)])) :: (a, .inl (g.2.1 0, 8192, .inl (fun _ => 0))) :: (b, .inl (g.2.1 0, 8192, .inl (fun _ => 0))) :: (c, .inl (g.2.1 0, 8193, .inl (fun _ => 0))) :: rest)) := by
  refine sv_enter_v (by decide) rfl rfl (Nat.le_of_ble_eq_true rfl) (fun X C hI hr => ?_)
  refine sv_lvE (lv' := [some _, some _]) rfl ?_
  have hI := hI rfl
  refine sv_aload_n C rfl rfl d_To_init_0 ?_
  refine sv_objInit C wo_To wo_2 wo_3 (by decide) (Nat.le_of_ble_eq_true rfl) d_To_init_1 ?_
  refine sv_aload_n C rfl rfl d_To_init_4 ?_
  refine sv_iconst C (v := 0) (by decide) d_To_init_5 ?_
  refine sv_put C fp_To_7 0 rfl rfl rfl (Nat.le_of_ble_eq_true rfl) ((_, .inr (_, [_, _, _, _])) :: _) rfl d_To_init_6 ?_
  refine sv_aload_n C rfl rfl d_To_init_9 ?_
  refine sv_iload_n C rfl rfl d_To_init_10 ?_
  refine sv_newI C wr_int (by decide) (N := 8192) (by decide) (by decide) (by decide) (by decide) d_To_init_11 (fun a => ?_)
  refine sv_putF C hI fp_To_13 1 rfl rfl rfl (Nat.le_of_ble_eq_true rfl) (_ :: (_, .inr (_, [_, _, _, _])) :: _) rfl d_To_init_13 ?_
  refine sv_aload_n C rfl rfl d_To_init_16 ?_
  refine sv_iload_n C rfl rfl d_To_init_17 ?_
  refine sv_newI C wr_int (by decide) (N := 8192) (by decide) (by decide) (by decide) (by decide) d_To_init_18 (fun b => ?_)
  refine sv_putF C hI fp_To_17 2 rfl rfl rfl (Nat.le_of_ble_eq_true rfl) (_ :: _ :: (_, .inr (_, [_, _, _, _])) :: _) rfl d_To_init_20 ?_
  refine sv_aload_n C rfl rfl d_To_init_23 ?_
  refine sv_iload_n C rfl rfl d_To_init_24 ?_
  refine sv_iconst C (v := 1) (by decide) d_To_init_25 ?_
  refine sv_iadd C d_To_init_26 ?_
  refine sv_newI C wr_int (by decide) (N := 8193) (by decide) (by decide) (by decide) (by decide) d_To_init_27 (fun c => ?_)
  refine sv_putF C hI fp_To_20 3 rfl rfl rfl (Nat.le_of_ble_eq_true rfl) (_ :: _ :: _ :: (_, .inr (_, [_, _, _, _])) :: _) rfl d_To_init_29 ?_
  refine sv_front 1 (_ :: _ :: _ :: _ :: _) rfl rfl ?_
  refine sv_front 2 (_ :: _ :: _ :: _ :: _) rfl rfl ?_
  refine sv_front 3 (_ :: _ :: _ :: _ :: _) rfl rfl ?_
  exact hr _ _ _ d_To_init_32 ⟨a, b, c, rfl⟩
