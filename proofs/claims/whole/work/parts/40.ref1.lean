/-! CONTRACTS: the reference, 1: bytes and sorts -/
abbrev pu_tl (y : Nat) : Prop := 128 ≤ y ∧ y < 192
def pf_formed (x y z w : Nat) : Nat :=
  if x < 128 then 1 else if 194 ≤ x ∧ x ≤ 223 then (if pu_tl y then 2 else 0)
  else if x = 224 then (if 160 ≤ y ∧ pu_tl y ∧ pu_tl z then 3 else 0) else if x = 237 then (if pu_tl y ∧ y < 160 ∧ pu_tl z then 3 else 0)
  else if 225 ≤ x ∧ x ≤ 239 then (if pu_tl y ∧ pu_tl z then 3 else 0) else if x = 240 then (if 144 ≤ y ∧ pu_tl y ∧ pu_tl z ∧ pu_tl w then 4 else 0)
  else if 241 ≤ x ∧ x ≤ 243 then (if pu_tl y ∧ pu_tl z ∧ pu_tl w then 4 else 0) else if x = 244 then (if pu_tl y ∧ y < 144 ∧ pu_tl z ∧ pu_tl w then 4 else 0) else 0
abbrev pf_at (u : Nat → Nat) (e i y : Nat) : Prop := (i < e ∧ y = u i) ∨ (e ≤ i ∧ y = 0)
theorem pf_formed_eq {u : Nat → Nat} {a e y z w : Nat} (hy : pf_at u e (a + 1) y) (hz : pf_at u e (a + 2) z) (hw : pf_at u e (a + 3) w) : pu_size u a e = pf_formed (u a) y z w := by
  unfold pf_at at hy hz hw
  unfold pu_size pf_formed
  generalize u a = x at *
  generalize u (a + 1) = y' at *
  generalize u (a + 2) = z' at *
  generalize u (a + 3) = w' at *
  by_cases h1 : x < 128
  · rw [if_pos h1, if_pos h1]
  rw [if_neg h1, if_neg h1]
  by_cases h2 : 194 ≤ x ∧ x ≤ 223
  · rw [if_pos h2, if_pos h2]; (repeat' split) <;> omega
  rw [if_neg h2, if_neg h2]
  by_cases h3 : 224 ≤ x ∧ x ≤ 239
  · rw [if_pos h3]; (repeat' split) <;> omega
  rw [if_neg h3, if_neg (by omega : ¬ x = 224), if_neg (by omega : ¬ x = 237), if_neg (by omega : ¬ (225 ≤ x ∧ x ≤ 239))]
  by_cases h4 : 240 ≤ x ∧ x ≤ 244
  · rw [if_pos h4]; (repeat' split) <;> omega
  rw [if_neg h4]; (repeat' split) <;> omega
def pu_fur (f : Nat → Int32) (n a : Nat) : Nat := if a + 1 < n then (if pu_inn (pu_st f (a + 1)) then 1 else if pu_tie f n (a + 1) then 2 else 0) else 0
theorem pu_fur_eq {f : Nat → Int32} {n a b c : Nat} (ha : pu_inn (pu_st f a)) (hb : pf_at (pu_st f) n (a + 1) b) (hc : pf_at (pu_st f) n (a + 2) c) : pu_fur f n a = (if pu_inn b then 1 else if (pu_st f a = 1 ∧ c = 1 ∧ (b = 4 ∨ b = 6)) ∨ (pu_st f a = 2 ∧ c = 2 ∧ (b = 5 ∨ b = 6)) then 2 else 0) := by
  unfold pf_at at hb hc
  unfold pu_fur pu_tie pu_ties
  rw [show a + 1 - 1 = a by omega, show a + 1 + 1 = a + 2 by omega]
  generalize pu_st f a = x at *
  generalize pu_st f (a + 1) = y at *
  generalize pu_st f (a + 2) = z at *
  (repeat' split) <;> omega
theorem pf_sub : pu_st = fun f i => pu_sort (f i).toInt := rfl
def rm_M_tail : Room := { frames := 0, cells := 0, slots := 0, locals := 0 }
set_option maxHeartbeats 4000000 in
set_option maxRecDepth 100000 in
theorem c_M_tail (l : Launch) (g : sv_G) (ws : va_W) (y : Nat) (hy : y < 256) : sv_Mi l y_M_tail b_M_tail 1 (some (.boolean)) rm_M_tail g [.int (nI y)] ws (fun r w => r = (if pu_tl y then 1 else 0) ∧ w = ws) := by
  refine sv_enter_i (by decide) rfl rfl (Nat.le_of_ble_eq_true rfl) (fun X C hI hr => ?_)
  refine sv_lvE (lv' := [some _]) rfl ?_
  refine sv_iload_n C rfl rfl d_M_tail_0 ?_
  refine sv_sipush C (v := 128) (by decide) d_M_tail_1 ?_
  refine sv_icmpN_lt C _ 128 (by omega) (by omega) 18 (by decide) d_M_tail_4 (fun c4 => ?_) (fun c4 => ?_)
  · skip
    refine sv_iconst C (v := 0) (by decide) d_M_tail_18 ?_
    exact hr _ _ _ _ d_M_tail_19 rfl ⟨(if_neg (by omega)).symm, rfl⟩
  · skip
    refine sv_iload_n C rfl rfl d_M_tail_7 ?_
    refine sv_sipush C (v := 192) (by decide) d_M_tail_8 ?_
    refine sv_icmpN_ge C _ 192 (by omega) (by omega) 18 (by decide) d_M_tail_11 (fun c11 => ?_) (fun c11 => ?_)
    · skip
      refine sv_iconst C (v := 0) (by decide) d_M_tail_18 ?_
      exact hr _ _ _ _ d_M_tail_19 rfl ⟨(if_neg (by omega)).symm, rfl⟩
    · skip
      refine sv_iconst C (v := 1) (by decide) d_M_tail_14 ?_
      refine sv_goto C 19 (by decide) d_M_tail_15 ?_
      exact hr _ _ _ _ d_M_tail_19 rfl ⟨(if_pos ⟨by omega, by omega⟩).symm, rfl⟩

def rm_M_formed : Room := { frames := 1, cells := 0, slots := 0, locals := 20 }
set_option maxHeartbeats 4000000 in
set_option maxRecDepth 100000 in
theorem c_M_formed (l : Launch) (g : sv_G) (rest : va_W) (hin a e : Nat) (f : Nat → Int32) (hae : a < e) (he : e ≤ 8192) : sv_Mi l y_M_formed b_M_formed 7 (some (.int)) rm_M_formed g [.ref hin, .int (nI a), .int (nI e)] ((hin, .inl (g.2.1 1, 8192, .inl f)) :: rest) (fun r w => r = nI (pu_size (fun i => pu_u (f i)) a e) ∧ w = ((hin, .inl (g.2.1 1, 8192, .inl f)) :: rest)) := by
  have hx := pu_u_lt (f a)
  refine sv_enter_i (by decide) rfl rfl (Nat.le_of_ble_eq_true rfl) (fun X C hI hr => ?_)
  refine sv_lvE (lv' := [some _, some _, some _, none, none, none, none]) rfl ?_
  have j355 : ∀ y z w : Nat, pf_at (fun i => pu_u (f i)) e (a + 1) y ∧ y < 256 → pf_at (fun i => pu_u (f i)) e (a + 2) z ∧ z < 256 → pf_at (fun i => pu_u (f i)) e (a + 3) w ∧ w < 256 → ¬ pu_u (f a) < 128 ∧ ¬ (194 ≤ pu_u (f a) ∧ pu_u (f a) ≤ 244) → sv_V X 7 0 0 ((hin, .inl (g.2.1 1, 8192, .inl f)) :: rest) 355 [some (.ref hin), some (.int (nI a)), some (.int (nI e)), some (.int (nI (pu_u (f a)))), some (.int (nI y)), some (.int (nI z)), some (.int (nI w))] [] := by
    intro y z w hy hz hw hc
    obtain ⟨hy, by1⟩ := hy
    obtain ⟨hz, bz⟩ := hz
    obtain ⟨hw, bw⟩ := hw
    refine sv_iconst C (v := 0) (by decide) d_M_formed_355 ?_
    exact hr _ _ _ _ d_M_formed_356 rfl ⟨(show (0 : Int32) = nI 0 from rfl).trans (congrArg nI (by rw [pf_formed_eq hy hz hw]; unfold pf_formed; (repeat' split) <;> omega)), rfl⟩
  have j310 : ∀ y z w : Nat, pf_at (fun i => pu_u (f i)) e (a + 1) y ∧ y < 256 → pf_at (fun i => pu_u (f i)) e (a + 2) z ∧ z < 256 → pf_at (fun i => pu_u (f i)) e (a + 3) w ∧ w < 256 → ¬ pu_u (f a) < 128 ∧ ¬ (194 ≤ pu_u (f a) ∧ pu_u (f a) ≤ 243) → sv_V X 7 0 0 ((hin, .inl (g.2.1 1, 8192, .inl f)) :: rest) 310 [some (.ref hin), some (.int (nI a)), some (.int (nI e)), some (.int (nI (pu_u (f a)))), some (.int (nI y)), some (.int (nI z)), some (.int (nI w))] [] := by
    intro y z w hy hz hw hc
    obtain ⟨hy, by1⟩ := hy
    obtain ⟨hz, bz⟩ := hz
    obtain ⟨hw, bw⟩ := hw
    refine sv_iload_n C rfl rfl d_M_formed_310 ?_
    refine sv_sipush C (v := 244) (by decide) d_M_formed_311 ?_
    refine sv_icmpN_ne C _ 244 (by omega) (by omega) 355 (by decide) d_M_formed_314 (fun c314 => ?_) (fun c314 => ?_)
    · skip
      exact j355 y z w ⟨hy, by1⟩ ⟨hz, bz⟩ ⟨hw, bw⟩ (by omega)
    · skip
      refine sv_iload C rfl d_M_formed_317 ?_
      refine sv_callSi C (c_M_tail l g _ y (by omega)) lk_M_214  d_M_formed_319 (by decide) (Nat.le_of_ble_eq_true rfl) (by decide) (fun r w hw => ?_)
      obtain ⟨rfl, rfl⟩ := hw
      refine sv_ifB_eq C _ 353 (by decide) d_M_formed_322 (fun c322 => ?_) (fun c322 => ?_)
      · skip
        refine sv_iconst C (v := 0) (by decide) d_M_formed_353 ?_
        exact hr _ _ _ _ d_M_formed_354 rfl ⟨(show (0 : Int32) = nI 0 from rfl).trans (congrArg nI (by rw [pf_formed_eq hy hz hw]; unfold pf_formed; (repeat' split) <;> omega)), rfl⟩
      · skip
        refine sv_iload C rfl d_M_formed_325 ?_
        refine sv_sipush C (v := 144) (by decide) d_M_formed_327 ?_
        refine sv_icmpN_ge C _ 144 (by omega) (by omega) 353 (by decide) d_M_formed_330 (fun c330 => ?_) (fun c330 => ?_)
        · skip
          refine sv_iconst C (v := 0) (by decide) d_M_formed_353 ?_
          exact hr _ _ _ _ d_M_formed_354 rfl ⟨(show (0 : Int32) = nI 0 from rfl).trans (congrArg nI (by rw [pf_formed_eq hy hz hw]; unfold pf_formed; (repeat' split) <;> omega)), rfl⟩
        · skip
          refine sv_iload C rfl d_M_formed_333 ?_
          refine sv_callSi C (c_M_tail l g _ z (by omega)) lk_M_214  d_M_formed_335 (by decide) (Nat.le_of_ble_eq_true rfl) (by decide) (fun r w hw => ?_)
          obtain ⟨rfl, rfl⟩ := hw
          refine sv_ifB_eq C _ 353 (by decide) d_M_formed_338 (fun c338 => ?_) (fun c338 => ?_)
          · skip
            refine sv_iconst C (v := 0) (by decide) d_M_formed_353 ?_
            exact hr _ _ _ _ d_M_formed_354 rfl ⟨(show (0 : Int32) = nI 0 from rfl).trans (congrArg nI (by rw [pf_formed_eq hy hz hw]; unfold pf_formed; (repeat' split) <;> omega)), rfl⟩
          · skip
            refine sv_iload C rfl d_M_formed_341 ?_
            refine sv_callSi C (c_M_tail l g _ w (by omega)) lk_M_214  d_M_formed_343 (by decide) (Nat.le_of_ble_eq_true rfl) (by decide) (fun r w hw => ?_)
            obtain ⟨rfl, rfl⟩ := hw
            refine sv_ifB_eq C _ 353 (by decide) d_M_formed_346 (fun c346 => ?_) (fun c346 => ?_)
            · skip
              refine sv_iconst C (v := 0) (by decide) d_M_formed_353 ?_
              exact hr _ _ _ _ d_M_formed_354 rfl ⟨(show (0 : Int32) = nI 0 from rfl).trans (congrArg nI (by rw [pf_formed_eq hy hz hw]; unfold pf_formed; (repeat' split) <;> omega)), rfl⟩
            · skip
              refine sv_iconst C (v := 4) (by decide) d_M_formed_349 ?_
              refine sv_goto C 354 (by decide) d_M_formed_350 ?_
              exact hr _ _ _ _ d_M_formed_354 rfl ⟨(show (4 : Int32) = nI 4 from rfl).trans (congrArg nI (by rw [pf_formed_eq hy hz hw]; unfold pf_formed; (repeat' split) <;> omega)), rfl⟩
  have j266 : ∀ y z w : Nat, pf_at (fun i => pu_u (f i)) e (a + 1) y ∧ y < 256 → pf_at (fun i => pu_u (f i)) e (a + 2) z ∧ z < 256 → pf_at (fun i => pu_u (f i)) e (a + 3) w ∧ w < 256 → ¬ pu_u (f a) < 128 ∧ ¬ (194 ≤ pu_u (f a) ∧ pu_u (f a) ≤ 240) → sv_V X 7 0 0 ((hin, .inl (g.2.1 1, 8192, .inl f)) :: rest) 266 [some (.ref hin), some (.int (nI a)), some (.int (nI e)), some (.int (nI (pu_u (f a)))), some (.int (nI y)), some (.int (nI z)), some (.int (nI w))] [] := by
    intro y z w hy hz hw hc
    obtain ⟨hy, by1⟩ := hy
    obtain ⟨hz, bz⟩ := hz
    obtain ⟨hw, bw⟩ := hw
    refine sv_iload_n C rfl rfl d_M_formed_266 ?_
    refine sv_sipush C (v := 241) (by decide) d_M_formed_267 ?_
    refine sv_icmpN_lt C _ 241 (by omega) (by omega) 310 (by decide) d_M_formed_270 (fun c270 => ?_) (fun c270 => ?_)
    · skip
      exact j310 y z w ⟨hy, by1⟩ ⟨hz, bz⟩ ⟨hw, bw⟩ (by omega)
    · skip
      refine sv_iload_n C rfl rfl d_M_formed_273 ?_
      refine sv_sipush C (v := 243) (by decide) d_M_formed_274 ?_
      refine sv_icmpN_gt C _ 243 (by omega) (by omega) 310 (by decide) d_M_formed_277 (fun c277 => ?_) (fun c277 => ?_)
      · skip
        exact j310 y z w ⟨hy, by1⟩ ⟨hz, bz⟩ ⟨hw, bw⟩ (by omega)
      · skip
        refine sv_iload C rfl d_M_formed_280 ?_
        refine sv_callSi C (c_M_tail l g _ y (by omega)) lk_M_214  d_M_formed_282 (by decide) (Nat.le_of_ble_eq_true rfl) (by decide) (fun r w hw => ?_)
        obtain ⟨rfl, rfl⟩ := hw
        refine sv_ifB_eq C _ 308 (by decide) d_M_formed_285 (fun c285 => ?_) (fun c285 => ?_)
        · skip
          refine sv_iconst C (v := 0) (by decide) d_M_formed_308 ?_
          exact hr _ _ _ _ d_M_formed_309 rfl ⟨(show (0 : Int32) = nI 0 from rfl).trans (congrArg nI (by rw [pf_formed_eq hy hz hw]; unfold pf_formed; (repeat' split) <;> omega)), rfl⟩
        · skip
          refine sv_iload C rfl d_M_formed_288 ?_
          refine sv_callSi C (c_M_tail l g _ z (by omega)) lk_M_214  d_M_formed_290 (by decide) (Nat.le_of_ble_eq_true rfl) (by decide) (fun r w hw => ?_)
          obtain ⟨rfl, rfl⟩ := hw
          refine sv_ifB_eq C _ 308 (by decide) d_M_formed_293 (fun c293 => ?_) (fun c293 => ?_)
          · skip
            refine sv_iconst C (v := 0) (by decide) d_M_formed_308 ?_
            exact hr _ _ _ _ d_M_formed_309 rfl ⟨(show (0 : Int32) = nI 0 from rfl).trans (congrArg nI (by rw [pf_formed_eq hy hz hw]; unfold pf_formed; (repeat' split) <;> omega)), rfl⟩
          · skip
            refine sv_iload C rfl d_M_formed_296 ?_
            refine sv_callSi C (c_M_tail l g _ w (by omega)) lk_M_214  d_M_formed_298 (by decide) (Nat.le_of_ble_eq_true rfl) (by decide) (fun r w hw => ?_)
            obtain ⟨rfl, rfl⟩ := hw
            refine sv_ifB_eq C _ 308 (by decide) d_M_formed_301 (fun c301 => ?_) (fun c301 => ?_)
            · skip
              refine sv_iconst C (v := 0) (by decide) d_M_formed_308 ?_
              exact hr _ _ _ _ d_M_formed_309 rfl ⟨(show (0 : Int32) = nI 0 from rfl).trans (congrArg nI (by rw [pf_formed_eq hy hz hw]; unfold pf_formed; (repeat' split) <;> omega)), rfl⟩
            · skip
              refine sv_iconst C (v := 4) (by decide) d_M_formed_304 ?_
              refine sv_goto C 309 (by decide) d_M_formed_305 ?_
              exact hr _ _ _ _ d_M_formed_309 rfl ⟨(show (4 : Int32) = nI 4 from rfl).trans (congrArg nI (by rw [pf_formed_eq hy hz hw]; unfold pf_formed; (repeat' split) <;> omega)), rfl⟩
  have j221 : ∀ y z w : Nat, pf_at (fun i => pu_u (f i)) e (a + 1) y ∧ y < 256 → pf_at (fun i => pu_u (f i)) e (a + 2) z ∧ z < 256 → pf_at (fun i => pu_u (f i)) e (a + 3) w ∧ w < 256 → ¬ pu_u (f a) < 128 ∧ ¬ (194 ≤ pu_u (f a) ∧ pu_u (f a) ≤ 239) → sv_V X 7 0 0 ((hin, .inl (g.2.1 1, 8192, .inl f)) :: rest) 221 [some (.ref hin), some (.int (nI a)), some (.int (nI e)), some (.int (nI (pu_u (f a)))), some (.int (nI y)), some (.int (nI z)), some (.int (nI w))] [] := by
    intro y z w hy hz hw hc
    obtain ⟨hy, by1⟩ := hy
    obtain ⟨hz, bz⟩ := hz
    obtain ⟨hw, bw⟩ := hw
    refine sv_iload_n C rfl rfl d_M_formed_221 ?_
    refine sv_sipush C (v := 240) (by decide) d_M_formed_222 ?_
    refine sv_icmpN_ne C _ 240 (by omega) (by omega) 266 (by decide) d_M_formed_225 (fun c225 => ?_) (fun c225 => ?_)
    · skip
      exact j266 y z w ⟨hy, by1⟩ ⟨hz, bz⟩ ⟨hw, bw⟩ (by omega)
    · skip
      refine sv_iload C rfl d_M_formed_228 ?_
      refine sv_sipush C (v := 144) (by decide) d_M_formed_230 ?_
      refine sv_icmpN_lt C _ 144 (by omega) (by omega) 264 (by decide) d_M_formed_233 (fun c233 => ?_) (fun c233 => ?_)
      · skip
        refine sv_iconst C (v := 0) (by decide) d_M_formed_264 ?_
        exact hr _ _ _ _ d_M_formed_265 rfl ⟨(show (0 : Int32) = nI 0 from rfl).trans (congrArg nI (by rw [pf_formed_eq hy hz hw]; unfold pf_formed; (repeat' split) <;> omega)), rfl⟩
      · skip
        refine sv_iload C rfl d_M_formed_236 ?_
        refine sv_callSi C (c_M_tail l g _ y (by omega)) lk_M_214  d_M_formed_238 (by decide) (Nat.le_of_ble_eq_true rfl) (by decide) (fun r w hw => ?_)
        obtain ⟨rfl, rfl⟩ := hw
        refine sv_ifB_eq C _ 264 (by decide) d_M_formed_241 (fun c241 => ?_) (fun c241 => ?_)
        · skip
          refine sv_iconst C (v := 0) (by decide) d_M_formed_264 ?_
          exact hr _ _ _ _ d_M_formed_265 rfl ⟨(show (0 : Int32) = nI 0 from rfl).trans (congrArg nI (by rw [pf_formed_eq hy hz hw]; unfold pf_formed; (repeat' split) <;> omega)), rfl⟩
        · skip
          refine sv_iload C rfl d_M_formed_244 ?_
          refine sv_callSi C (c_M_tail l g _ z (by omega)) lk_M_214  d_M_formed_246 (by decide) (Nat.le_of_ble_eq_true rfl) (by decide) (fun r w hw => ?_)
          obtain ⟨rfl, rfl⟩ := hw
          refine sv_ifB_eq C _ 264 (by decide) d_M_formed_249 (fun c249 => ?_) (fun c249 => ?_)
          · skip
            refine sv_iconst C (v := 0) (by decide) d_M_formed_264 ?_
            exact hr _ _ _ _ d_M_formed_265 rfl ⟨(show (0 : Int32) = nI 0 from rfl).trans (congrArg nI (by rw [pf_formed_eq hy hz hw]; unfold pf_formed; (repeat' split) <;> omega)), rfl⟩
          · skip
            refine sv_iload C rfl d_M_formed_252 ?_
            refine sv_callSi C (c_M_tail l g _ w (by omega)) lk_M_214  d_M_formed_254 (by decide) (Nat.le_of_ble_eq_true rfl) (by decide) (fun r w hw => ?_)
            obtain ⟨rfl, rfl⟩ := hw
            refine sv_ifB_eq C _ 264 (by decide) d_M_formed_257 (fun c257 => ?_) (fun c257 => ?_)
            · skip
              refine sv_iconst C (v := 0) (by decide) d_M_formed_264 ?_
              exact hr _ _ _ _ d_M_formed_265 rfl ⟨(show (0 : Int32) = nI 0 from rfl).trans (congrArg nI (by rw [pf_formed_eq hy hz hw]; unfold pf_formed; (repeat' split) <;> omega)), rfl⟩
            · skip
              refine sv_iconst C (v := 4) (by decide) d_M_formed_260 ?_
              refine sv_goto C 265 (by decide) d_M_formed_261 ?_
              exact hr _ _ _ _ d_M_formed_265 rfl ⟨(show (4 : Int32) = nI 4 from rfl).trans (congrArg nI (by rw [pf_formed_eq hy hz hw]; unfold pf_formed; (repeat' split) <;> omega)), rfl⟩
  have j185 : ∀ y z w : Nat, pf_at (fun i => pu_u (f i)) e (a + 1) y ∧ y < 256 → pf_at (fun i => pu_u (f i)) e (a + 2) z ∧ z < 256 → pf_at (fun i => pu_u (f i)) e (a + 3) w ∧ w < 256 → ¬ pu_u (f a) < 128 ∧ ¬ (194 ≤ pu_u (f a) ∧ pu_u (f a) ≤ 224) ∧ ¬ pu_u (f a) = 237 → sv_V X 7 0 0 ((hin, .inl (g.2.1 1, 8192, .inl f)) :: rest) 185 [some (.ref hin), some (.int (nI a)), some (.int (nI e)), some (.int (nI (pu_u (f a)))), some (.int (nI y)), some (.int (nI z)), some (.int (nI w))] [] := by
    intro y z w hy hz hw hc
    obtain ⟨hy, by1⟩ := hy
    obtain ⟨hz, bz⟩ := hz
    obtain ⟨hw, bw⟩ := hw
    refine sv_iload_n C rfl rfl d_M_formed_185 ?_
    refine sv_sipush C (v := 225) (by decide) d_M_formed_186 ?_
    refine sv_icmpN_lt C _ 225 (by omega) (by omega) 221 (by decide) d_M_formed_189 (fun c189 => ?_) (fun c189 => ?_)
    · skip
      exact j221 y z w ⟨hy, by1⟩ ⟨hz, bz⟩ ⟨hw, bw⟩ (by omega)
    · skip
      refine sv_iload_n C rfl rfl d_M_formed_192 ?_
      refine sv_sipush C (v := 239) (by decide) d_M_formed_193 ?_
      refine sv_icmpN_gt C _ 239 (by omega) (by omega) 221 (by decide) d_M_formed_196 (fun c196 => ?_) (fun c196 => ?_)
      · skip
        exact j221 y z w ⟨hy, by1⟩ ⟨hz, bz⟩ ⟨hw, bw⟩ (by omega)
      · skip
        refine sv_iload C rfl d_M_formed_199 ?_
        refine sv_callSi C (c_M_tail l g _ y (by omega)) lk_M_214  d_M_formed_201 (by decide) (Nat.le_of_ble_eq_true rfl) (by decide) (fun r w hw => ?_)
        obtain ⟨rfl, rfl⟩ := hw
        refine sv_ifB_eq C _ 219 (by decide) d_M_formed_204 (fun c204 => ?_) (fun c204 => ?_)
        · skip
          refine sv_iconst C (v := 0) (by decide) d_M_formed_219 ?_
          exact hr _ _ _ _ d_M_formed_220 rfl ⟨(show (0 : Int32) = nI 0 from rfl).trans (congrArg nI (by rw [pf_formed_eq hy hz hw]; unfold pf_formed; (repeat' split) <;> omega)), rfl⟩
        · skip
          refine sv_iload C rfl d_M_formed_207 ?_
          refine sv_callSi C (c_M_tail l g _ z (by omega)) lk_M_214  d_M_formed_209 (by decide) (Nat.le_of_ble_eq_true rfl) (by decide) (fun r w hw => ?_)
          obtain ⟨rfl, rfl⟩ := hw
          refine sv_ifB_eq C _ 219 (by decide) d_M_formed_212 (fun c212 => ?_) (fun c212 => ?_)
          · skip
            refine sv_iconst C (v := 0) (by decide) d_M_formed_219 ?_
            exact hr _ _ _ _ d_M_formed_220 rfl ⟨(show (0 : Int32) = nI 0 from rfl).trans (congrArg nI (by rw [pf_formed_eq hy hz hw]; unfold pf_formed; (repeat' split) <;> omega)), rfl⟩
          · skip
            refine sv_iconst C (v := 3) (by decide) d_M_formed_215 ?_
            refine sv_goto C 220 (by decide) d_M_formed_216 ?_
            exact hr _ _ _ _ d_M_formed_220 rfl ⟨(show (3 : Int32) = nI 3 from rfl).trans (congrArg nI (by rw [pf_formed_eq hy hz hw]; unfold pf_formed; (repeat' split) <;> omega)), rfl⟩
  have j148 : ∀ y z w : Nat, pf_at (fun i => pu_u (f i)) e (a + 1) y ∧ y < 256 → pf_at (fun i => pu_u (f i)) e (a + 2) z ∧ z < 256 → pf_at (fun i => pu_u (f i)) e (a + 3) w ∧ w < 256 → ¬ pu_u (f a) < 128 ∧ ¬ (194 ≤ pu_u (f a) ∧ pu_u (f a) ≤ 224) → sv_V X 7 0 0 ((hin, .inl (g.2.1 1, 8192, .inl f)) :: rest) 148 [some (.ref hin), some (.int (nI a)), some (.int (nI e)), some (.int (nI (pu_u (f a)))), some (.int (nI y)), some (.int (nI z)), some (.int (nI w))] [] := by
    intro y z w hy hz hw hc
    obtain ⟨hy, by1⟩ := hy
    obtain ⟨hz, bz⟩ := hz
    obtain ⟨hw, bw⟩ := hw
    refine sv_iload_n C rfl rfl d_M_formed_148 ?_
    refine sv_sipush C (v := 237) (by decide) d_M_formed_149 ?_
    refine sv_icmpN_ne C _ 237 (by omega) (by omega) 185 (by decide) d_M_formed_152 (fun c152 => ?_) (fun c152 => ?_)
    · skip
      exact j185 y z w ⟨hy, by1⟩ ⟨hz, bz⟩ ⟨hw, bw⟩ (by omega)
    · skip
      refine sv_iload C rfl d_M_formed_155 ?_
      refine sv_callSi C (c_M_tail l g _ y (by omega)) lk_M_214  d_M_formed_157 (by decide) (Nat.le_of_ble_eq_true rfl) (by decide) (fun r w hw => ?_)
      obtain ⟨rfl, rfl⟩ := hw
      refine sv_ifB_eq C _ 183 (by decide) d_M_formed_160 (fun c160 => ?_) (fun c160 => ?_)
      · skip
        refine sv_iconst C (v := 0) (by decide) d_M_formed_183 ?_
        exact hr _ _ _ _ d_M_formed_184 rfl ⟨(show (0 : Int32) = nI 0 from rfl).trans (congrArg nI (by rw [pf_formed_eq hy hz hw]; unfold pf_formed; (repeat' split) <;> omega)), rfl⟩
      · skip
        refine sv_iload C rfl d_M_formed_163 ?_
        refine sv_sipush C (v := 160) (by decide) d_M_formed_165 ?_
        refine sv_icmpN_ge C _ 160 (by omega) (by omega) 183 (by decide) d_M_formed_168 (fun c168 => ?_) (fun c168 => ?_)
        · skip
          refine sv_iconst C (v := 0) (by decide) d_M_formed_183 ?_
          exact hr _ _ _ _ d_M_formed_184 rfl ⟨(show (0 : Int32) = nI 0 from rfl).trans (congrArg nI (by rw [pf_formed_eq hy hz hw]; unfold pf_formed; (repeat' split) <;> omega)), rfl⟩
        · skip
          refine sv_iload C rfl d_M_formed_171 ?_
          refine sv_callSi C (c_M_tail l g _ z (by omega)) lk_M_214  d_M_formed_173 (by decide) (Nat.le_of_ble_eq_true rfl) (by decide) (fun r w hw => ?_)
          obtain ⟨rfl, rfl⟩ := hw
          refine sv_ifB_eq C _ 183 (by decide) d_M_formed_176 (fun c176 => ?_) (fun c176 => ?_)
          · skip
            refine sv_iconst C (v := 0) (by decide) d_M_formed_183 ?_
            exact hr _ _ _ _ d_M_formed_184 rfl ⟨(show (0 : Int32) = nI 0 from rfl).trans (congrArg nI (by rw [pf_formed_eq hy hz hw]; unfold pf_formed; (repeat' split) <;> omega)), rfl⟩
          · skip
            refine sv_iconst C (v := 3) (by decide) d_M_formed_179 ?_
            refine sv_goto C 184 (by decide) d_M_formed_180 ?_
            exact hr _ _ _ _ d_M_formed_184 rfl ⟨(show (3 : Int32) = nI 3 from rfl).trans (congrArg nI (by rw [pf_formed_eq hy hz hw]; unfold pf_formed; (repeat' split) <;> omega)), rfl⟩
  have j111 : ∀ y z w : Nat, pf_at (fun i => pu_u (f i)) e (a + 1) y ∧ y < 256 → pf_at (fun i => pu_u (f i)) e (a + 2) z ∧ z < 256 → pf_at (fun i => pu_u (f i)) e (a + 3) w ∧ w < 256 → ¬ pu_u (f a) < 128 ∧ ¬ (194 ≤ pu_u (f a) ∧ pu_u (f a) ≤ 223) → sv_V X 7 0 0 ((hin, .inl (g.2.1 1, 8192, .inl f)) :: rest) 111 [some (.ref hin), some (.int (nI a)), some (.int (nI e)), some (.int (nI (pu_u (f a)))), some (.int (nI y)), some (.int (nI z)), some (.int (nI w))] [] := by
    intro y z w hy hz hw hc
    obtain ⟨hy, by1⟩ := hy
    obtain ⟨hz, bz⟩ := hz
    obtain ⟨hw, bw⟩ := hw
    refine sv_iload_n C rfl rfl d_M_formed_111 ?_
    refine sv_sipush C (v := 224) (by decide) d_M_formed_112 ?_
    refine sv_icmpN_ne C _ 224 (by omega) (by omega) 148 (by decide) d_M_formed_115 (fun c115 => ?_) (fun c115 => ?_)
    · skip
      exact j148 y z w ⟨hy, by1⟩ ⟨hz, bz⟩ ⟨hw, bw⟩ (by omega)
    · skip
      refine sv_iload C rfl d_M_formed_118 ?_
      refine sv_sipush C (v := 160) (by decide) d_M_formed_120 ?_
      refine sv_icmpN_lt C _ 160 (by omega) (by omega) 146 (by decide) d_M_formed_123 (fun c123 => ?_) (fun c123 => ?_)
      · skip
        refine sv_iconst C (v := 0) (by decide) d_M_formed_146 ?_
        exact hr _ _ _ _ d_M_formed_147 rfl ⟨(show (0 : Int32) = nI 0 from rfl).trans (congrArg nI (by rw [pf_formed_eq hy hz hw]; unfold pf_formed; (repeat' split) <;> omega)), rfl⟩
      · skip
        refine sv_iload C rfl d_M_formed_126 ?_
        refine sv_callSi C (c_M_tail l g _ y (by omega)) lk_M_214  d_M_formed_128 (by decide) (Nat.le_of_ble_eq_true rfl) (by decide) (fun r w hw => ?_)
        obtain ⟨rfl, rfl⟩ := hw
        refine sv_ifB_eq C _ 146 (by decide) d_M_formed_131 (fun c131 => ?_) (fun c131 => ?_)
        · skip
          refine sv_iconst C (v := 0) (by decide) d_M_formed_146 ?_
          exact hr _ _ _ _ d_M_formed_147 rfl ⟨(show (0 : Int32) = nI 0 from rfl).trans (congrArg nI (by rw [pf_formed_eq hy hz hw]; unfold pf_formed; (repeat' split) <;> omega)), rfl⟩
        · skip
          refine sv_iload C rfl d_M_formed_134 ?_
          refine sv_callSi C (c_M_tail l g _ z (by omega)) lk_M_214  d_M_formed_136 (by decide) (Nat.le_of_ble_eq_true rfl) (by decide) (fun r w hw => ?_)
          obtain ⟨rfl, rfl⟩ := hw
          refine sv_ifB_eq C _ 146 (by decide) d_M_formed_139 (fun c139 => ?_) (fun c139 => ?_)
          · skip
            refine sv_iconst C (v := 0) (by decide) d_M_formed_146 ?_
            exact hr _ _ _ _ d_M_formed_147 rfl ⟨(show (0 : Int32) = nI 0 from rfl).trans (congrArg nI (by rw [pf_formed_eq hy hz hw]; unfold pf_formed; (repeat' split) <;> omega)), rfl⟩
          · skip
            refine sv_iconst C (v := 3) (by decide) d_M_formed_142 ?_
            refine sv_goto C 147 (by decide) d_M_formed_143 ?_
            exact hr _ _ _ _ d_M_formed_147 rfl ⟨(show (3 : Int32) = nI 3 from rfl).trans (congrArg nI (by rw [pf_formed_eq hy hz hw]; unfold pf_formed; (repeat' split) <;> omega)), rfl⟩
  have j83 : ∀ y z w : Nat, pf_at (fun i => pu_u (f i)) e (a + 1) y ∧ y < 256 → pf_at (fun i => pu_u (f i)) e (a + 2) z ∧ z < 256 → pf_at (fun i => pu_u (f i)) e (a + 3) w ∧ w < 256 → ¬ pu_u (f a) < 128 → sv_V X 7 0 0 ((hin, .inl (g.2.1 1, 8192, .inl f)) :: rest) 83 [some (.ref hin), some (.int (nI a)), some (.int (nI e)), some (.int (nI (pu_u (f a)))), some (.int (nI y)), some (.int (nI z)), some (.int (nI w))] [] := by
    intro y z w hy hz hw hc
    obtain ⟨hy, by1⟩ := hy
    obtain ⟨hz, bz⟩ := hz
    obtain ⟨hw, bw⟩ := hw
    refine sv_iload_n C rfl rfl d_M_formed_83 ?_
    refine sv_sipush C (v := 194) (by decide) d_M_formed_84 ?_
    refine sv_icmpN_lt C _ 194 (by omega) (by omega) 111 (by decide) d_M_formed_87 (fun c87 => ?_) (fun c87 => ?_)
    · skip
      exact j111 y z w ⟨hy, by1⟩ ⟨hz, bz⟩ ⟨hw, bw⟩ (by omega)
    · skip
      refine sv_iload_n C rfl rfl d_M_formed_90 ?_
      refine sv_sipush C (v := 223) (by decide) d_M_formed_91 ?_
      refine sv_icmpN_gt C _ 223 (by omega) (by omega) 111 (by decide) d_M_formed_94 (fun c94 => ?_) (fun c94 => ?_)
      · skip
        exact j111 y z w ⟨hy, by1⟩ ⟨hz, bz⟩ ⟨hw, bw⟩ (by omega)
      · skip
        refine sv_iload C rfl d_M_formed_97 ?_
        refine sv_callSi C (c_M_tail l g _ y (by omega)) lk_M_214  d_M_formed_99 (by decide) (Nat.le_of_ble_eq_true rfl) (by decide) (fun r w hw => ?_)
        obtain ⟨rfl, rfl⟩ := hw
        refine sv_ifB_eq C _ 109 (by decide) d_M_formed_102 (fun c102 => ?_) (fun c102 => ?_)
        · skip
          refine sv_iconst C (v := 0) (by decide) d_M_formed_109 ?_
          exact hr _ _ _ _ d_M_formed_110 rfl ⟨(show (0 : Int32) = nI 0 from rfl).trans (congrArg nI (by rw [pf_formed_eq hy hz hw]; unfold pf_formed; (repeat' split) <;> omega)), rfl⟩
        · skip
          refine sv_iconst C (v := 2) (by decide) d_M_formed_105 ?_
          refine sv_goto C 110 (by decide) d_M_formed_106 ?_
          exact hr _ _ _ _ d_M_formed_110 rfl ⟨(show (2 : Int32) = nI 2 from rfl).trans (congrArg nI (by rw [pf_formed_eq hy hz hw]; unfold pf_formed; (repeat' split) <;> omega)), rfl⟩
  have j61 : ∀ y z : Nat, pf_at (fun i => pu_u (f i)) e (a + 1) y ∧ y < 256 → pf_at (fun i => pu_u (f i)) e (a + 2) z ∧ z < 256 → ¬ pu_u (f a) < 128 → sv_V X 7 0 0 ((hin, .inl (g.2.1 1, 8192, .inl f)) :: rest) 61 [some (.ref hin), some (.int (nI a)), some (.int (nI e)), some (.int (nI (pu_u (f a)))), some (.int (nI y)), some (.int (nI z)), none] [] := by
    intro y z hy hz hc
    refine sv_iload_n C rfl rfl d_M_formed_61 ?_
    refine sv_iconst C (v := 3) (by decide) d_M_formed_62 ?_
    refine sv_iaddN C _ 3  d_M_formed_63 ?_
    refine sv_iload_n C rfl rfl d_M_formed_64 ?_
    refine sv_icmpN_ge C _ _ (by omega) (by omega) 80 (by decide) d_M_formed_65 (fun c65 => ?_) (fun c65 => ?_)
    · skip
      refine sv_iconst C (v := 0) (by decide) d_M_formed_80 ?_
      refine sv_istore C (by decide) [some _, some _, some _, some _, some _, some _, some _] rfl d_M_formed_81 ?_
      exact j83 y z _ hy hz (by first | exact ⟨Or.inl ⟨c65, rfl⟩, pu_u_lt _⟩ | exact ⟨Or.inr ⟨c65, rfl⟩, by decide⟩) hc
    · skip
      refine sv_aload_n C rfl rfl d_M_formed_68 ?_
      refine sv_iload_n C rfl rfl d_M_formed_69 ?_
      refine sv_iconst C (v := 3) (by decide) d_M_formed_70 ?_
      refine sv_iaddN C _ 3  d_M_formed_71 ?_
      refine sv_baldN C _ 0 rfl (by omega) (by decide) d_M_formed_72 ?_
      refine sv_sipush C (v := 255) (by decide) d_M_formed_73 ?_
      refine sv_iand C d_M_formed_76 ?_
      refine sv_eqi (pu_and255 _) ?_
      refine sv_goto C 81 (by decide) d_M_formed_77 ?_
      refine sv_istore C (by decide) [some _, some _, some _, some _, some _, some _, some _] rfl d_M_formed_81 ?_
      exact j83 y z _ hy hz (by first | exact ⟨Or.inl ⟨c65, rfl⟩, pu_u_lt _⟩ | exact ⟨Or.inr ⟨c65, rfl⟩, by decide⟩) hc
  have j39 : ∀ y : Nat, pf_at (fun i => pu_u (f i)) e (a + 1) y ∧ y < 256 → ¬ pu_u (f a) < 128 → sv_V X 7 0 0 ((hin, .inl (g.2.1 1, 8192, .inl f)) :: rest) 39 [some (.ref hin), some (.int (nI a)), some (.int (nI e)), some (.int (nI (pu_u (f a)))), some (.int (nI y)), none, none] [] := by
    intro y hy hc
    refine sv_iload_n C rfl rfl d_M_formed_39 ?_
    refine sv_iconst C (v := 2) (by decide) d_M_formed_40 ?_
    refine sv_iaddN C _ 2  d_M_formed_41 ?_
    refine sv_iload_n C rfl rfl d_M_formed_42 ?_
    refine sv_icmpN_ge C _ _ (by omega) (by omega) 58 (by decide) d_M_formed_43 (fun c43 => ?_) (fun c43 => ?_)
    · skip
      refine sv_iconst C (v := 0) (by decide) d_M_formed_58 ?_
      refine sv_istore C (by decide) [some _, some _, some _, some _, some _, some _, none] rfl d_M_formed_59 ?_
      exact j61 y _ hy (by first | exact ⟨Or.inl ⟨c43, rfl⟩, pu_u_lt _⟩ | exact ⟨Or.inr ⟨c43, rfl⟩, by decide⟩) hc
    · skip
      refine sv_aload_n C rfl rfl d_M_formed_46 ?_
      refine sv_iload_n C rfl rfl d_M_formed_47 ?_
      refine sv_iconst C (v := 2) (by decide) d_M_formed_48 ?_
      refine sv_iaddN C _ 2  d_M_formed_49 ?_
      refine sv_baldN C _ 0 rfl (by omega) (by decide) d_M_formed_50 ?_
      refine sv_sipush C (v := 255) (by decide) d_M_formed_51 ?_
      refine sv_iand C d_M_formed_54 ?_
      refine sv_eqi (pu_and255 _) ?_
      refine sv_goto C 59 (by decide) d_M_formed_55 ?_
      refine sv_istore C (by decide) [some _, some _, some _, some _, some _, some _, none] rfl d_M_formed_59 ?_
      exact j61 y _ hy (by first | exact ⟨Or.inl ⟨c43, rfl⟩, pu_u_lt _⟩ | exact ⟨Or.inr ⟨c43, rfl⟩, by decide⟩) hc
  refine sv_aload_n C rfl rfl d_M_formed_0 ?_
  refine sv_iload_n C rfl rfl d_M_formed_1 ?_
  refine sv_baldN C _ 0 rfl (by omega) (by decide) d_M_formed_2 ?_
  refine sv_sipush C (v := 255) (by decide) d_M_formed_3 ?_
  refine sv_iand C d_M_formed_6 ?_
  refine sv_eqi (pu_and255 _) ?_
  refine sv_istore_n C rfl (by decide) [some _, some _, some _, some _, none, none, none] rfl d_M_formed_7 ?_
  refine sv_iload_n C rfl rfl d_M_formed_8 ?_
  refine sv_sipush C (v := 128) (by decide) d_M_formed_9 ?_
  refine sv_icmpN_ge C _ 128 (by omega) (by omega) 17 (by decide) d_M_formed_12 (fun c12 => ?_) (fun c12 => ?_)
  · skip
    refine sv_iload_n C rfl rfl d_M_formed_17 ?_
    refine sv_iconst C (v := 1) (by decide) d_M_formed_18 ?_
    refine sv_iaddN C _ 1  d_M_formed_19 ?_
    refine sv_iload_n C rfl rfl d_M_formed_20 ?_
    refine sv_icmpN_ge C _ _ (by omega) (by omega) 36 (by decide) d_M_formed_21 (fun c21 => ?_) (fun c21 => ?_)
    · skip
      refine sv_iconst C (v := 0) (by decide) d_M_formed_36 ?_
      refine sv_istore C (by decide) [some _, some _, some _, some _, some _, none, none] rfl d_M_formed_37 ?_
      exact j39 _ (by first | exact ⟨Or.inl ⟨c21, rfl⟩, pu_u_lt _⟩ | exact ⟨Or.inr ⟨c21, rfl⟩, by decide⟩) (by omega)
    · skip
      refine sv_aload_n C rfl rfl d_M_formed_24 ?_
      refine sv_iload_n C rfl rfl d_M_formed_25 ?_
      refine sv_iconst C (v := 1) (by decide) d_M_formed_26 ?_
      refine sv_iaddN C _ 1  d_M_formed_27 ?_
      refine sv_baldN C _ 0 rfl (by omega) (by decide) d_M_formed_28 ?_
      refine sv_sipush C (v := 255) (by decide) d_M_formed_29 ?_
      refine sv_iand C d_M_formed_32 ?_
      refine sv_eqi (pu_and255 _) ?_
      refine sv_goto C 37 (by decide) d_M_formed_33 ?_
      refine sv_istore C (by decide) [some _, some _, some _, some _, some _, none, none] rfl d_M_formed_37 ?_
      exact j39 _ (by first | exact ⟨Or.inl ⟨c21, rfl⟩, pu_u_lt _⟩ | exact ⟨Or.inr ⟨c21, rfl⟩, by decide⟩) (by omega)
  · skip
    refine sv_iconst C (v := 1) (by decide) d_M_formed_15 ?_
    exact hr _ _ _ _ d_M_formed_16 rfl ⟨(show (1 : Int32) = nI 1 from rfl).trans (congrArg nI (by unfold pu_size; rw [if_pos (show pu_u (f a) < 128 by omega)])), rfl⟩

def rm_M_sortOf : Room := { frames := 0, cells := 0, slots := 0, locals := 0 }
set_option maxHeartbeats 4000000 in
set_option maxRecDepth 100000 in
theorem c_M_sortOf (l : Launch) (g : sv_G) (ws : va_W) (c : Int32) : sv_Mi l y_M_sortOf b_M_sortOf 1 (some (.int)) rm_M_sortOf g [.int c] ws (fun r w => r = nI (pu_sort c.toInt) ∧ w = ws) := by
  refine sv_enter_i (by decide) rfl rfl (Nat.le_of_ble_eq_true rfl) (fun X C hI hr => ?_)
  refine sv_lvE (lv' := [some _]) rfl ?_
  have j183 : ¬ ((97 ≤ c.toInt ∧ c.toInt ≤ 122) ∨ (65 ≤ c.toInt ∧ c.toInt ≤ 90) ∨ c.toInt = 95) ∧ ¬ (48 ≤ c.toInt ∧ c.toInt ≤ 57) ∧ ¬ (192 ≤ c.toInt ∧ c.toInt ≤ 591) ∧ ¬ ((913 ≤ c.toInt ∧ c.toInt ≤ 1023) ∨ (1024 ≤ c.toInt ∧ c.toInt ≤ 1279)) ∧ ¬ (19968 ≤ c.toInt ∧ c.toInt ≤ 40959) ∧ ¬ (c.toInt = 183) ∧ ¬ (c.toInt = 44 ∨ c.toInt = 59) ∧ ¬ (c.toInt = 39 ∨ c.toInt = 46 ∨ c.toInt = 8217) → sv_V X 1 0 0 ws 183 [some (.int c)] [] := by
    intro hj
    refine sv_iconst C (v := 0) (by decide) d_M_sortOf_183 ?_
    exact hr _ _ _ _ d_M_sortOf_184 rfl ⟨(show (0 : Int32) = nI 0 from rfl).trans (congrArg nI (by unfold pu_sort; (repeat' split) <;> first | rfl | (exfalso; omega))), rfl⟩
  have j178 : ¬ ((97 ≤ c.toInt ∧ c.toInt ≤ 122) ∨ (65 ≤ c.toInt ∧ c.toInt ≤ 90) ∨ c.toInt = 95) ∧ ¬ (48 ≤ c.toInt ∧ c.toInt ≤ 57) ∧ ¬ (192 ≤ c.toInt ∧ c.toInt ≤ 591) ∧ ¬ ((913 ≤ c.toInt ∧ c.toInt ≤ 1023) ∨ (1024 ≤ c.toInt ∧ c.toInt ≤ 1279)) ∧ ¬ (19968 ≤ c.toInt ∧ c.toInt ≤ 40959) ∧ ¬ (c.toInt = 183) ∧ ¬ (c.toInt = 44 ∨ c.toInt = 59) ∧ (c.toInt = 39 ∨ c.toInt = 46 ∨ c.toInt = 8217) → sv_V X 1 0 0 ws 178 [some (.int c)] [] := by
    intro hj
    refine sv_bipush C (v := 6) (by decide) d_M_sortOf_178 ?_
    refine sv_goto C 184 (by decide) d_M_sortOf_180 ?_
    exact hr _ _ _ _ d_M_sortOf_184 rfl ⟨(show (6 : Int32) = nI 6 from rfl).trans (congrArg nI (by unfold pu_sort; (repeat' split) <;> first | rfl | (exfalso; omega))), rfl⟩
  have j159 : ¬ ((97 ≤ c.toInt ∧ c.toInt ≤ 122) ∨ (65 ≤ c.toInt ∧ c.toInt ≤ 90) ∨ c.toInt = 95) ∧ ¬ (48 ≤ c.toInt ∧ c.toInt ≤ 57) ∧ ¬ (192 ≤ c.toInt ∧ c.toInt ≤ 591) ∧ ¬ ((913 ≤ c.toInt ∧ c.toInt ≤ 1023) ∨ (1024 ≤ c.toInt ∧ c.toInt ≤ 1279)) ∧ ¬ (19968 ≤ c.toInt ∧ c.toInt ≤ 40959) ∧ ¬ (c.toInt = 183) ∧ ¬ (c.toInt = 44 ∨ c.toInt = 59) → sv_V X 1 0 0 ws 159 [some (.int c)] [] := by
    intro hj
    refine sv_iload_n C rfl rfl d_M_sortOf_159 ?_
    refine sv_bipush C (v := 39) (by decide) d_M_sortOf_160 ?_
    refine sv_icmpK_eq C (39) (by decide) 178 (by decide) d_M_sortOf_162 (fun c162 => ?_) (fun c162 => ?_)
    · skip
      exact j178 (by omega)
    · skip
      refine sv_iload_n C rfl rfl d_M_sortOf_165 ?_
      refine sv_bipush C (v := 46) (by decide) d_M_sortOf_166 ?_
      refine sv_icmpK_eq C (46) (by decide) 178 (by decide) d_M_sortOf_168 (fun c168 => ?_) (fun c168 => ?_)
      · skip
        exact j178 (by omega)
      · skip
        refine sv_iload_n C rfl rfl d_M_sortOf_171 ?_
        refine sv_sipush C (v := 8217) (by decide) d_M_sortOf_172 ?_
        refine sv_icmpK_ne C (8217) (by decide) 183 (by decide) d_M_sortOf_175 (fun c175 => ?_) (fun c175 => ?_)
        · skip
          exact j183 (by omega)
        · skip
          exact j178 (by omega)
  have j157 : ¬ ((97 ≤ c.toInt ∧ c.toInt ≤ 122) ∨ (65 ≤ c.toInt ∧ c.toInt ≤ 90) ∨ c.toInt = 95) ∧ ¬ (48 ≤ c.toInt ∧ c.toInt ≤ 57) ∧ ¬ (192 ≤ c.toInt ∧ c.toInt ≤ 591) ∧ ¬ ((913 ≤ c.toInt ∧ c.toInt ≤ 1023) ∨ (1024 ≤ c.toInt ∧ c.toInt ≤ 1279)) ∧ ¬ (19968 ≤ c.toInt ∧ c.toInt ≤ 40959) ∧ ¬ (c.toInt = 183) ∧ (c.toInt = 44 ∨ c.toInt = 59) → sv_V X 1 0 0 ws 157 [some (.int c)] [] := by
    intro hj
    refine sv_iconst C (v := 5) (by decide) d_M_sortOf_157 ?_
    exact hr _ _ _ _ d_M_sortOf_158 rfl ⟨(show (5 : Int32) = nI 5 from rfl).trans (congrArg nI (by unfold pu_sort; (repeat' split) <;> first | rfl | (exfalso; omega))), rfl⟩
  have j145 : ¬ ((97 ≤ c.toInt ∧ c.toInt ≤ 122) ∨ (65 ≤ c.toInt ∧ c.toInt ≤ 90) ∨ c.toInt = 95) ∧ ¬ (48 ≤ c.toInt ∧ c.toInt ≤ 57) ∧ ¬ (192 ≤ c.toInt ∧ c.toInt ≤ 591) ∧ ¬ ((913 ≤ c.toInt ∧ c.toInt ≤ 1023) ∨ (1024 ≤ c.toInt ∧ c.toInt ≤ 1279)) ∧ ¬ (19968 ≤ c.toInt ∧ c.toInt ≤ 40959) ∧ ¬ (c.toInt = 183) → sv_V X 1 0 0 ws 145 [some (.int c)] [] := by
    intro hj
    refine sv_iload_n C rfl rfl d_M_sortOf_145 ?_
    refine sv_bipush C (v := 44) (by decide) d_M_sortOf_146 ?_
    refine sv_icmpK_eq C (44) (by decide) 157 (by decide) d_M_sortOf_148 (fun c148 => ?_) (fun c148 => ?_)
    · skip
      exact j157 (by omega)
    · skip
      refine sv_iload_n C rfl rfl d_M_sortOf_151 ?_
      refine sv_bipush C (v := 59) (by decide) d_M_sortOf_152 ?_
      refine sv_icmpK_ne C (59) (by decide) 159 (by decide) d_M_sortOf_154 (fun c154 => ?_) (fun c154 => ?_)
      · skip
        exact j159 (by omega)
      · skip
        exact j157 (by omega)
  have j136 : ¬ ((97 ≤ c.toInt ∧ c.toInt ≤ 122) ∨ (65 ≤ c.toInt ∧ c.toInt ≤ 90) ∨ c.toInt = 95) ∧ ¬ (48 ≤ c.toInt ∧ c.toInt ≤ 57) ∧ ¬ (192 ≤ c.toInt ∧ c.toInt ≤ 591) ∧ ¬ ((913 ≤ c.toInt ∧ c.toInt ≤ 1023) ∨ (1024 ≤ c.toInt ∧ c.toInt ≤ 1279)) ∧ ¬ (19968 ≤ c.toInt ∧ c.toInt ≤ 40959) → sv_V X 1 0 0 ws 136 [some (.int c)] [] := by
    intro hj
    refine sv_iload_n C rfl rfl d_M_sortOf_136 ?_
    refine sv_sipush C (v := 183) (by decide) d_M_sortOf_137 ?_
    refine sv_icmpK_ne C (183) (by decide) 145 (by decide) d_M_sortOf_140 (fun c140 => ?_) (fun c140 => ?_)
    · skip
      exact j145 (by omega)
    · skip
      refine sv_iconst C (v := 4) (by decide) d_M_sortOf_143 ?_
      exact hr _ _ _ _ d_M_sortOf_144 rfl ⟨(show (4 : Int32) = nI 4 from rfl).trans (congrArg nI (by unfold pu_sort; (repeat' split) <;> first | rfl | (exfalso; omega))), rfl⟩
  have j120 : ¬ ((97 ≤ c.toInt ∧ c.toInt ≤ 122) ∨ (65 ≤ c.toInt ∧ c.toInt ≤ 90) ∨ c.toInt = 95) ∧ ¬ (48 ≤ c.toInt ∧ c.toInt ≤ 57) ∧ ¬ (192 ≤ c.toInt ∧ c.toInt ≤ 591) ∧ ¬ ((913 ≤ c.toInt ∧ c.toInt ≤ 1023) ∨ (1024 ≤ c.toInt ∧ c.toInt ≤ 1279)) → sv_V X 1 0 0 ws 120 [some (.int c)] [] := by
    intro hj
    refine sv_iload_n C rfl rfl d_M_sortOf_120 ?_
    refine sv_sipush C (v := 19968) (by decide) d_M_sortOf_121 ?_
    refine sv_icmpK_lt C (19968) (by decide) 136 (by decide) d_M_sortOf_124 (fun c124 => ?_) (fun c124 => ?_)
    · skip
      exact j136 (by omega)
    · skip
      refine sv_iload_n C rfl rfl d_M_sortOf_127 ?_
      refine sv_ldc C wc_M_226 d_M_sortOf_128 ?_
      refine sv_icmpK_gt C (40959) (by decide) 136 (by decide) d_M_sortOf_130 (fun c130 => ?_) (fun c130 => ?_)
      · skip
        exact j136 (by omega)
      · skip
        refine sv_bipush C (v := 7) (by decide) d_M_sortOf_133 ?_
        exact hr _ _ _ _ d_M_sortOf_135 rfl ⟨(show (7 : Int32) = nI 7 from rfl).trans (congrArg nI (by unfold pu_sort; (repeat' split) <;> first | rfl | (exfalso; omega))), rfl⟩
  have j118 : ¬ ((97 ≤ c.toInt ∧ c.toInt ≤ 122) ∨ (65 ≤ c.toInt ∧ c.toInt ≤ 90) ∨ c.toInt = 95) ∧ ¬ (48 ≤ c.toInt ∧ c.toInt ≤ 57) ∧ ¬ (192 ≤ c.toInt ∧ c.toInt ≤ 591) ∧ ((913 ≤ c.toInt ∧ c.toInt ≤ 1023) ∨ (1024 ≤ c.toInt ∧ c.toInt ≤ 1279)) → sv_V X 1 0 0 ws 118 [some (.int c)] [] := by
    intro hj
    refine sv_iconst C (v := 1) (by decide) d_M_sortOf_118 ?_
    exact hr _ _ _ _ d_M_sortOf_119 rfl ⟨(show (1 : Int32) = nI 1 from rfl).trans (congrArg nI (by unfold pu_sort; (repeat' split) <;> first | rfl | (exfalso; omega))), rfl⟩
  have j90 : ¬ ((97 ≤ c.toInt ∧ c.toInt ≤ 122) ∨ (65 ≤ c.toInt ∧ c.toInt ≤ 90) ∨ c.toInt = 95) ∧ ¬ (48 ≤ c.toInt ∧ c.toInt ≤ 57) ∧ ¬ (192 ≤ c.toInt ∧ c.toInt ≤ 591) → sv_V X 1 0 0 ws 90 [some (.int c)] [] := by
    intro hj
    refine sv_iload_n C rfl rfl d_M_sortOf_90 ?_
    refine sv_sipush C (v := 913) (by decide) d_M_sortOf_91 ?_
    refine sv_icmpK_lt C (913) (by decide) 104 (by decide) d_M_sortOf_94 (fun c94 => ?_) (fun c94 => ?_)
    · skip
      refine sv_iload_n C rfl rfl d_M_sortOf_104 ?_
      refine sv_sipush C (v := 1024) (by decide) d_M_sortOf_105 ?_
      refine sv_icmpK_lt C (1024) (by decide) 120 (by decide) d_M_sortOf_108 (fun c108 => ?_) (fun c108 => ?_)
      · skip
        exact j120 (by omega)
      · skip
        refine sv_iload_n C rfl rfl d_M_sortOf_111 ?_
        refine sv_sipush C (v := 1279) (by decide) d_M_sortOf_112 ?_
        refine sv_icmpK_gt C (1279) (by decide) 120 (by decide) d_M_sortOf_115 (fun c115 => ?_) (fun c115 => ?_)
        · skip
          exact j120 (by omega)
        · skip
          exact j118 (by omega)
    · skip
      refine sv_iload_n C rfl rfl d_M_sortOf_97 ?_
      refine sv_sipush C (v := 1023) (by decide) d_M_sortOf_98 ?_
      refine sv_icmpK_le C (1023) (by decide) 118 (by decide) d_M_sortOf_101 (fun c101 => ?_) (fun c101 => ?_)
      · skip
        exact j118 (by omega)
      · skip
        refine sv_iload_n C rfl rfl d_M_sortOf_104 ?_
        refine sv_sipush C (v := 1024) (by decide) d_M_sortOf_105 ?_
        refine sv_icmpK_lt C (1024) (by decide) 120 (by decide) d_M_sortOf_108 (fun c108 => ?_) (fun c108 => ?_)
        · skip
          exact j120 (by omega)
        · skip
          refine sv_iload_n C rfl rfl d_M_sortOf_111 ?_
          refine sv_sipush C (v := 1279) (by decide) d_M_sortOf_112 ?_
          refine sv_icmpK_gt C (1279) (by decide) 120 (by decide) d_M_sortOf_115 (fun c115 => ?_) (fun c115 => ?_)
          · skip
            exact j120 (by omega)
          · skip
            exact j118 (by omega)
  have j56 : ¬ ((97 ≤ c.toInt ∧ c.toInt ≤ 122) ∨ (65 ≤ c.toInt ∧ c.toInt ≤ 90) ∨ c.toInt = 95) ∧ ¬ (48 ≤ c.toInt ∧ c.toInt ≤ 57) → sv_V X 1 0 0 ws 56 [some (.int c)] [] := by
    intro hj
    refine sv_iload_n C rfl rfl d_M_sortOf_56 ?_
    refine sv_sipush C (v := 192) (by decide) d_M_sortOf_57 ?_
    refine sv_icmpK_lt C (192) (by decide) 90 (by decide) d_M_sortOf_60 (fun c60 => ?_) (fun c60 => ?_)
    · skip
      exact j90 (by omega)
    · skip
      refine sv_iload_n C rfl rfl d_M_sortOf_63 ?_
      refine sv_sipush C (v := 591) (by decide) d_M_sortOf_64 ?_
      refine sv_icmpK_gt C (591) (by decide) 90 (by decide) d_M_sortOf_67 (fun c67 => ?_) (fun c67 => ?_)
      · skip
        exact j90 (by omega)
      · skip
        refine sv_iload_n C rfl rfl d_M_sortOf_70 ?_
        refine sv_sipush C (v := 215) (by decide) d_M_sortOf_71 ?_
        refine sv_icmpK_eq C (215) (by decide) 84 (by decide) d_M_sortOf_74 (fun c74 => ?_) (fun c74 => ?_)
        · skip
          refine sv_iconst C (v := 0) (by decide) d_M_sortOf_84 ?_
          refine sv_goto C 89 (by decide) d_M_sortOf_85 ?_
          exact hr _ _ _ _ d_M_sortOf_89 rfl ⟨(show (0 : Int32) = nI 0 from rfl).trans (congrArg nI (by unfold pu_sort; (repeat' split) <;> first | rfl | (exfalso; omega))), rfl⟩
        · skip
          refine sv_iload_n C rfl rfl d_M_sortOf_77 ?_
          refine sv_sipush C (v := 247) (by decide) d_M_sortOf_78 ?_
          refine sv_icmpK_ne C (247) (by decide) 88 (by decide) d_M_sortOf_81 (fun c81 => ?_) (fun c81 => ?_)
          · skip
            refine sv_iconst C (v := 1) (by decide) d_M_sortOf_88 ?_
            exact hr _ _ _ _ d_M_sortOf_89 rfl ⟨(show (1 : Int32) = nI 1 from rfl).trans (congrArg nI (by unfold pu_sort; (repeat' split) <;> first | rfl | (exfalso; omega))), rfl⟩
          · skip
            refine sv_iconst C (v := 0) (by decide) d_M_sortOf_84 ?_
            refine sv_goto C 89 (by decide) d_M_sortOf_85 ?_
            exact hr _ _ _ _ d_M_sortOf_89 rfl ⟨(show (0 : Int32) = nI 0 from rfl).trans (congrArg nI (by unfold pu_sort; (repeat' split) <;> first | rfl | (exfalso; omega))), rfl⟩
  have j42 : ¬ ((97 ≤ c.toInt ∧ c.toInt ≤ 122) ∨ (65 ≤ c.toInt ∧ c.toInt ≤ 90) ∨ c.toInt = 95) → sv_V X 1 0 0 ws 42 [some (.int c)] [] := by
    intro hj
    refine sv_iload_n C rfl rfl d_M_sortOf_42 ?_
    refine sv_bipush C (v := 48) (by decide) d_M_sortOf_43 ?_
    refine sv_icmpK_lt C (48) (by decide) 56 (by decide) d_M_sortOf_45 (fun c45 => ?_) (fun c45 => ?_)
    · skip
      exact j56 (by omega)
    · skip
      refine sv_iload_n C rfl rfl d_M_sortOf_48 ?_
      refine sv_bipush C (v := 57) (by decide) d_M_sortOf_49 ?_
      refine sv_icmpK_gt C (57) (by decide) 56 (by decide) d_M_sortOf_51 (fun c51 => ?_) (fun c51 => ?_)
      · skip
        exact j56 (by omega)
      · skip
        refine sv_iconst C (v := 2) (by decide) d_M_sortOf_54 ?_
        exact hr _ _ _ _ d_M_sortOf_55 rfl ⟨(show (2 : Int32) = nI 2 from rfl).trans (congrArg nI (by unfold pu_sort; (repeat' split) <;> first | rfl | (exfalso; omega))), rfl⟩
  have j30 : ((97 ≤ c.toInt ∧ c.toInt ≤ 122) ∨ (65 ≤ c.toInt ∧ c.toInt ≤ 90) ∨ c.toInt = 95) → sv_V X 1 0 0 ws 30 [some (.int c)] [] := by
    intro hj
    refine sv_iload_n C rfl rfl d_M_sortOf_30 ?_
    refine sv_bipush C (v := 95) (by decide) d_M_sortOf_31 ?_
    refine sv_icmpK_ne C (95) (by decide) 40 (by decide) d_M_sortOf_33 (fun c33 => ?_) (fun c33 => ?_)
    · skip
      refine sv_iconst C (v := 1) (by decide) d_M_sortOf_40 ?_
      exact hr _ _ _ _ d_M_sortOf_41 rfl ⟨(show (1 : Int32) = nI 1 from rfl).trans (congrArg nI (by unfold pu_sort; (repeat' split) <;> first | rfl | (exfalso; omega))), rfl⟩
    · skip
      refine sv_iconst C (v := 3) (by decide) d_M_sortOf_36 ?_
      refine sv_goto C 41 (by decide) d_M_sortOf_37 ?_
      exact hr _ _ _ _ d_M_sortOf_41 rfl ⟨(show (3 : Int32) = nI 3 from rfl).trans (congrArg nI (by unfold pu_sort; (repeat' split) <;> first | rfl | (exfalso; omega))), rfl⟩
  refine sv_iload_n C rfl rfl d_M_sortOf_0 ?_
  refine sv_bipush C (v := 97) (by decide) d_M_sortOf_1 ?_
  refine sv_icmpK_lt C (97) (by decide) 12 (by decide) d_M_sortOf_3 (fun c3 => ?_) (fun c3 => ?_)
  · skip
    refine sv_iload_n C rfl rfl d_M_sortOf_12 ?_
    refine sv_bipush C (v := 65) (by decide) d_M_sortOf_13 ?_
    refine sv_icmpK_lt C (65) (by decide) 24 (by decide) d_M_sortOf_15 (fun c15 => ?_) (fun c15 => ?_)
    · skip
      refine sv_iload_n C rfl rfl d_M_sortOf_24 ?_
      refine sv_bipush C (v := 95) (by decide) d_M_sortOf_25 ?_
      refine sv_icmpK_ne C (95) (by decide) 42 (by decide) d_M_sortOf_27 (fun c27 => ?_) (fun c27 => ?_)
      · skip
        exact j42 (by omega)
      · skip
        exact j30 (by omega)
    · skip
      refine sv_iload_n C rfl rfl d_M_sortOf_18 ?_
      refine sv_bipush C (v := 90) (by decide) d_M_sortOf_19 ?_
      refine sv_icmpK_le C (90) (by decide) 30 (by decide) d_M_sortOf_21 (fun c21 => ?_) (fun c21 => ?_)
      · skip
        exact j30 (by omega)
      · skip
        refine sv_iload_n C rfl rfl d_M_sortOf_24 ?_
        refine sv_bipush C (v := 95) (by decide) d_M_sortOf_25 ?_
        refine sv_icmpK_ne C (95) (by decide) 42 (by decide) d_M_sortOf_27 (fun c27 => ?_) (fun c27 => ?_)
        · skip
          exact j42 (by omega)
        · skip
          exact j30 (by omega)
  · skip
    refine sv_iload_n C rfl rfl d_M_sortOf_6 ?_
    refine sv_bipush C (v := 122) (by decide) d_M_sortOf_7 ?_
    refine sv_icmpK_le C (122) (by decide) 30 (by decide) d_M_sortOf_9 (fun c9 => ?_) (fun c9 => ?_)
    · skip
      exact j30 (by omega)
    · skip
      refine sv_iload_n C rfl rfl d_M_sortOf_12 ?_
      refine sv_bipush C (v := 65) (by decide) d_M_sortOf_13 ?_
      refine sv_icmpK_lt C (65) (by decide) 24 (by decide) d_M_sortOf_15 (fun c15 => ?_) (fun c15 => ?_)
      · skip
        refine sv_iload_n C rfl rfl d_M_sortOf_24 ?_
        refine sv_bipush C (v := 95) (by decide) d_M_sortOf_25 ?_
        refine sv_icmpK_ne C (95) (by decide) 42 (by decide) d_M_sortOf_27 (fun c27 => ?_) (fun c27 => ?_)
        · skip
          exact j42 (by omega)
        · skip
          exact j30 (by omega)
      · skip
        refine sv_iload_n C rfl rfl d_M_sortOf_18 ?_
        refine sv_bipush C (v := 90) (by decide) d_M_sortOf_19 ?_
        refine sv_icmpK_le C (90) (by decide) 30 (by decide) d_M_sortOf_21 (fun c21 => ?_) (fun c21 => ?_)
        · skip
          exact j30 (by omega)
        · skip
          refine sv_iload_n C rfl rfl d_M_sortOf_24 ?_
          refine sv_bipush C (v := 95) (by decide) d_M_sortOf_25 ?_
          refine sv_icmpK_ne C (95) (by decide) 42 (by decide) d_M_sortOf_27 (fun c27 => ?_) (fun c27 => ?_)
          · skip
            exact j42 (by omega)
          · skip
            exact j30 (by omega)

def rm_M_inWord : Room := { frames := 0, cells := 0, slots := 0, locals := 0 }
set_option maxHeartbeats 4000000 in
set_option maxRecDepth 100000 in
theorem c_M_inWord (l : Launch) (g : sv_G) (ws : va_W) (s : Nat) (hs : s < 8) : sv_Mi l y_M_inWord b_M_inWord 1 (some (.boolean)) rm_M_inWord g [.int (nI s)] ws (fun r w => r = (if pu_inn s then 1 else 0) ∧ w = ws) := by
  refine sv_enter_i (by decide) rfl rfl (Nat.le_of_ble_eq_true rfl) (fun X C hI hr => ?_)
  refine sv_lvE (lv' := [some _]) rfl ?_
  refine sv_iload_n C rfl rfl d_M_inWord_0 ?_
  refine sv_iconst C (v := 1) (by decide) d_M_inWord_1 ?_
  refine sv_icmpN_eq C _ 1 (by omega) (by omega) 15 (by decide) d_M_inWord_2 (fun c2 => ?_) (fun c2 => ?_)
  · skip
    refine sv_iconst C (v := 1) (by decide) d_M_inWord_15 ?_
    refine sv_goto C 20 (by decide) d_M_inWord_16 ?_
    exact hr _ _ _ _ d_M_inWord_20 rfl ⟨(if_pos (by omega)).symm, rfl⟩
  · skip
    refine sv_iload_n C rfl rfl d_M_inWord_5 ?_
    refine sv_iconst C (v := 2) (by decide) d_M_inWord_6 ?_
    refine sv_icmpN_eq C _ 2 (by omega) (by omega) 15 (by decide) d_M_inWord_7 (fun c7 => ?_) (fun c7 => ?_)
    · skip
      refine sv_iconst C (v := 1) (by decide) d_M_inWord_15 ?_
      refine sv_goto C 20 (by decide) d_M_inWord_16 ?_
      exact hr _ _ _ _ d_M_inWord_20 rfl ⟨(if_pos (by omega)).symm, rfl⟩
    · skip
      refine sv_iload_n C rfl rfl d_M_inWord_10 ?_
      refine sv_iconst C (v := 3) (by decide) d_M_inWord_11 ?_
      refine sv_icmpN_ne C _ 3 (by omega) (by omega) 19 (by decide) d_M_inWord_12 (fun c12 => ?_) (fun c12 => ?_)
      · skip
        refine sv_iconst C (v := 0) (by decide) d_M_inWord_19 ?_
        exact hr _ _ _ _ d_M_inWord_20 rfl ⟨(if_neg (by omega)).symm, rfl⟩
      · skip
        refine sv_iconst C (v := 1) (by decide) d_M_inWord_15 ?_
        refine sv_goto C 20 (by decide) d_M_inWord_16 ?_
        exact hr _ _ _ _ d_M_inWord_20 rfl ⟨(if_pos (by omega)).symm, rfl⟩

def rm_M_further : Room := { frames := 1, cells := 0, slots := 0, locals := 20 }
set_option maxHeartbeats 4000000 in
set_option maxRecDepth 100000 in
theorem c_M_further (l : Launch) (g : sv_G) (rest : va_W) (hc a n : Nat) (f : Nat → Int32) (han : a < n) (hn : n ≤ 8192) (ha : pu_inn (pu_st f a)) : sv_Mi l y_M_further b_M_further 6 (some (.int)) rm_M_further g [.ref hc, .int (nI a), .int (nI n)] ((hc, .inl (g.2.1 0, 8192, .inl f)) :: rest) (fun r w => r = nI (pu_fur f n a) ∧ w = ((hc, .inl (g.2.1 0, 8192, .inl f)) :: rest)) := by
  have a8 : pu_st f a < 8 := pu_sort_lt _
  refine sv_enter_i (by decide) rfl rfl (Nat.le_of_ble_eq_true rfl) (fun X C hI hr => ?_)
  refine sv_lvE (lv' := [some _, some _, some _, none, none, none]) rfl ?_
  have j118 : ∀ b c : Nat, pf_at (pu_st f) n (a + 1) b → b < 8 → pf_at (pu_st f) n (a + 2) c → c < 8 → ¬ pu_inn b ∧ ¬ (pu_st f a = 1 ∧ c = 1 ∧ (b = 4 ∨ b = 6)) ∧ ¬ (pu_st f a = 2 ∧ c = 2 ∧ (b = 5 ∨ b = 6)) → sv_V X 6 0 0 ((hc, .inl (g.2.1 0, 8192, .inl f)) :: rest) 118 [some (.ref hc), some (.int (nI a)), some (.int (nI n)), some (.int (nI (pu_st f a))), some (.int (nI b)), some (.int (nI c))] [] := by
    intro b c hb b8 hcc c8 hq
    refine sv_iconst C (v := 0) (by decide) d_M_further_118 ?_
    exact hr _ _ _ _ d_M_further_119 rfl ⟨(show (0 : Int32) = nI 0 from rfl).trans (congrArg nI (by rw [pu_fur_eq ha hb hcc]; (repeat' split) <;> omega)), rfl⟩
  have j92 : ∀ b c : Nat, pf_at (pu_st f) n (a + 1) b → b < 8 → pf_at (pu_st f) n (a + 2) c → c < 8 → ¬ pu_inn b ∧ ¬ (pu_st f a = 1 ∧ c = 1 ∧ (b = 4 ∨ b = 6)) → sv_V X 6 0 0 ((hc, .inl (g.2.1 0, 8192, .inl f)) :: rest) 92 [some (.ref hc), some (.int (nI a)), some (.int (nI n)), some (.int (nI (pu_st f a))), some (.int (nI b)), some (.int (nI c))] [] := by
    intro b c hb b8 hcc c8 hq
    refine sv_iload_n C rfl rfl d_M_further_92 ?_
    refine sv_iconst C (v := 2) (by decide) d_M_further_93 ?_
    refine sv_icmpN_ne C _ 2 (by omega) (by omega) 118 (by decide) d_M_further_94 (fun c94 => ?_) (fun c94 => ?_)
    · skip
      exact j118 b c hb b8 hcc c8 (by omega)
    · skip
      refine sv_iload C rfl d_M_further_97 ?_
      refine sv_iconst C (v := 2) (by decide) d_M_further_99 ?_
      refine sv_icmpN_ne C _ 2 (by omega) (by omega) 118 (by decide) d_M_further_100 (fun c100 => ?_) (fun c100 => ?_)
      · skip
        exact j118 b c hb b8 hcc c8 (by omega)
      · skip
        refine sv_iload C rfl d_M_further_103 ?_
        refine sv_iconst C (v := 5) (by decide) d_M_further_105 ?_
        refine sv_icmpN_eq C _ 5 (by omega) (by omega) 116 (by decide) d_M_further_106 (fun c106 => ?_) (fun c106 => ?_)
        · skip
          refine sv_iconst C (v := 2) (by decide) d_M_further_116 ?_
          exact hr _ _ _ _ d_M_further_117 rfl ⟨(show (2 : Int32) = nI 2 from rfl).trans (congrArg nI (by rw [pu_fur_eq ha hb hcc]; (repeat' split) <;> omega)), rfl⟩
        · skip
          refine sv_iload C rfl d_M_further_109 ?_
          refine sv_bipush C (v := 6) (by decide) d_M_further_111 ?_
          refine sv_icmpN_ne C _ 6 (by omega) (by omega) 118 (by decide) d_M_further_113 (fun c113 => ?_) (fun c113 => ?_)
          · skip
            exact j118 b c hb b8 hcc c8 (by omega)
          · skip
            refine sv_iconst C (v := 2) (by decide) d_M_further_116 ?_
            exact hr _ _ _ _ d_M_further_117 rfl ⟨(show (2 : Int32) = nI 2 from rfl).trans (congrArg nI (by rw [pu_fur_eq ha hb hcc]; (repeat' split) <;> omega)), rfl⟩
  have j66 : ∀ b c : Nat, pf_at (pu_st f) n (a + 1) b → b < 8 → pf_at (pu_st f) n (a + 2) c → c < 8 → ¬ pu_inn b → sv_V X 6 0 0 ((hc, .inl (g.2.1 0, 8192, .inl f)) :: rest) 66 [some (.ref hc), some (.int (nI a)), some (.int (nI n)), some (.int (nI (pu_st f a))), some (.int (nI b)), some (.int (nI c))] [] := by
    intro b c hb b8 hcc c8 hq
    refine sv_iload_n C rfl rfl d_M_further_66 ?_
    refine sv_iconst C (v := 1) (by decide) d_M_further_67 ?_
    refine sv_icmpN_ne C _ 1 (by omega) (by omega) 92 (by decide) d_M_further_68 (fun c68 => ?_) (fun c68 => ?_)
    · skip
      exact j92 b c hb b8 hcc c8 (by omega)
    · skip
      refine sv_iload C rfl d_M_further_71 ?_
      refine sv_iconst C (v := 1) (by decide) d_M_further_73 ?_
      refine sv_icmpN_ne C _ 1 (by omega) (by omega) 92 (by decide) d_M_further_74 (fun c74 => ?_) (fun c74 => ?_)
      · skip
        exact j92 b c hb b8 hcc c8 (by omega)
      · skip
        refine sv_iload C rfl d_M_further_77 ?_
        refine sv_iconst C (v := 4) (by decide) d_M_further_79 ?_
        refine sv_icmpN_eq C _ 4 (by omega) (by omega) 90 (by decide) d_M_further_80 (fun c80 => ?_) (fun c80 => ?_)
        · skip
          refine sv_iconst C (v := 2) (by decide) d_M_further_90 ?_
          exact hr _ _ _ _ d_M_further_91 rfl ⟨(show (2 : Int32) = nI 2 from rfl).trans (congrArg nI (by rw [pu_fur_eq ha hb hcc]; (repeat' split) <;> omega)), rfl⟩
        · skip
          refine sv_iload C rfl d_M_further_83 ?_
          refine sv_bipush C (v := 6) (by decide) d_M_further_85 ?_
          refine sv_icmpN_ne C _ 6 (by omega) (by omega) 92 (by decide) d_M_further_87 (fun c87 => ?_) (fun c87 => ?_)
          · skip
            exact j92 b c hb b8 hcc c8 (by omega)
          · skip
            refine sv_iconst C (v := 2) (by decide) d_M_further_90 ?_
            exact hr _ _ _ _ d_M_further_91 rfl ⟨(show (2 : Int32) = nI 2 from rfl).trans (congrArg nI (by rw [pu_fur_eq ha hb hcc]; (repeat' split) <;> omega)), rfl⟩
  have j49 : ∀ b c : Nat, pf_at (pu_st f) n (a + 1) b → b < 8 → pf_at (pu_st f) n (a + 2) c → c < 8 → sv_V X 6 0 0 ((hc, .inl (g.2.1 0, 8192, .inl f)) :: rest) 49 [some (.ref hc), some (.int (nI a)), some (.int (nI n)), some (.int (nI (pu_st f a))), some (.int (nI b)), some (.int (nI c))] [] := by
    intro b c hb b8 hcc c8
    refine sv_iload_n C rfl rfl d_M_further_49 ?_
    refine sv_callSi C (c_M_inWord l g _ (pu_st f a) a8) lk_M_231  d_M_further_50 (by decide) (Nat.le_of_ble_eq_true rfl) (by decide) (fun r w hw => ?_)
    obtain ⟨rfl, rfl⟩ := hw
    refine sv_ifB_eq C _ 66 (by decide) d_M_further_53 (fun c53 => ?_) (fun c53 => ?_)
    · skip
      exact absurd ha c53
    · skip
      refine sv_iload C rfl d_M_further_56 ?_
      refine sv_callSi C (c_M_inWord l g _ b b8) lk_M_231  d_M_further_58 (by decide) (Nat.le_of_ble_eq_true rfl) (by decide) (fun r w hw => ?_)
      obtain ⟨rfl, rfl⟩ := hw
      refine sv_ifB_eq C _ 66 (by decide) d_M_further_61 (fun c61 => ?_) (fun c61 => ?_)
      · skip
        exact j66 b c hb b8 hcc c8 (by omega)
      · skip
        refine sv_iconst C (v := 1) (by decide) d_M_further_64 ?_
        exact hr _ _ _ _ d_M_further_65 rfl ⟨(show (1 : Int32) = nI 1 from rfl).trans (congrArg nI (by rw [pu_fur_eq ha hb hcc]; (repeat' split) <;> omega)), rfl⟩
  have j28 : ∀ b : Nat, pf_at (pu_st f) n (a + 1) b → b < 8 → sv_V X 6 0 0 ((hc, .inl (g.2.1 0, 8192, .inl f)) :: rest) 28 [some (.ref hc), some (.int (nI a)), some (.int (nI n)), some (.int (nI (pu_st f a))), some (.int (nI b)), none] [] := by
    intro b hb b8
    refine sv_iload_n C rfl rfl d_M_further_28 ?_
    refine sv_iconst C (v := 2) (by decide) d_M_further_29 ?_
    refine sv_iaddN C _ 2  d_M_further_30 ?_
    refine sv_iload_n C rfl rfl d_M_further_31 ?_
    refine sv_icmpN_ge C _ _ (by omega) (by omega) 46 (by decide) d_M_further_32 (fun c32 => ?_) (fun c32 => ?_)
    · skip
      refine sv_iconst C (v := 0) (by decide) d_M_further_46 ?_
      refine sv_istore C (by decide) [some _, some _, some _, some _, some _, some _] rfl d_M_further_47 ?_
      first | exact j49 b _ hb b8 (Or.inl ⟨c32, rfl⟩) (pu_sort_lt _) | exact j49 b _ hb b8 (Or.inr ⟨c32, rfl⟩) (by decide)
    · skip
      refine sv_aload_n C rfl rfl d_M_further_35 ?_
      refine sv_iload_n C rfl rfl d_M_further_36 ?_
      refine sv_iconst C (v := 2) (by decide) d_M_further_37 ?_
      refine sv_iaddN C _ 2  d_M_further_38 ?_
      refine sv_ialdN C _ 0 rfl (by omega) (by decide) d_M_further_39 ?_
      refine sv_callSi C (c_M_sortOf l g _ (f (a + 2))) lk_M_227  d_M_further_40 (by decide) (Nat.le_of_ble_eq_true rfl) (by decide) (fun r w hw => ?_)
      obtain ⟨rfl, rfl⟩ := hw
      refine sv_goto C 47 (by decide) d_M_further_43 ?_
      refine sv_istore C (by decide) [some _, some _, some _, some _, some _, some _] rfl d_M_further_47 ?_
      first | exact j49 b _ hb b8 (Or.inl ⟨c32, rfl⟩) (pu_sort_lt _) | exact j49 b _ hb b8 (Or.inr ⟨c32, rfl⟩) (by decide)
  refine sv_aload_n C rfl rfl d_M_further_0 ?_
  refine sv_iload_n C rfl rfl d_M_further_1 ?_
  refine sv_ialdN C _ 0 rfl (by omega) (by decide) d_M_further_2 ?_
  refine sv_callSi C (c_M_sortOf l g _ (f a)) lk_M_227  d_M_further_3 (by decide) (Nat.le_of_ble_eq_true rfl) (by decide) (fun r w hw => ?_)
  obtain ⟨rfl, rfl⟩ := hw
  refine sv_istore_n C rfl (by decide) [some _, some _, some _, some _, none, none] rfl d_M_further_6 ?_
  refine sv_iload_n C rfl rfl d_M_further_7 ?_
  refine sv_iconst C (v := 1) (by decide) d_M_further_8 ?_
  refine sv_iaddN C _ 1  d_M_further_9 ?_
  refine sv_iload_n C rfl rfl d_M_further_10 ?_
  refine sv_icmpN_ge C _ _ (by omega) (by omega) 25 (by decide) d_M_further_11 (fun c11 => ?_) (fun c11 => ?_)
  · skip
    refine sv_iconst C (v := 0) (by decide) d_M_further_25 ?_
    refine sv_istore C (by decide) [some _, some _, some _, some _, some _, none] rfl d_M_further_26 ?_
    first | exact j28 _ (Or.inl ⟨c11, rfl⟩) (pu_sort_lt _) | exact j28 _ (Or.inr ⟨c11, rfl⟩) (by decide)
  · skip
    refine sv_aload_n C rfl rfl d_M_further_14 ?_
    refine sv_iload_n C rfl rfl d_M_further_15 ?_
    refine sv_iconst C (v := 1) (by decide) d_M_further_16 ?_
    refine sv_iaddN C _ 1  d_M_further_17 ?_
    refine sv_ialdN C _ 0 rfl (by omega) (by decide) d_M_further_18 ?_
    refine sv_callSi C (c_M_sortOf l g _ (f (a + 1))) lk_M_227  d_M_further_19 (by decide) (Nat.le_of_ble_eq_true rfl) (by decide) (fun r w hw => ?_)
    obtain ⟨rfl, rfl⟩ := hw
    refine sv_goto C 26 (by decide) d_M_further_22 ?_
    refine sv_istore C (by decide) [some _, some _, some _, some _, some _, none] rfl d_M_further_26 ?_
    first | exact j28 _ (Or.inl ⟨c11, rfl⟩) (pu_sort_lt _) | exact j28 _ (Or.inr ⟨c11, rfl⟩) (by decide)

def rm_M_lowered : Room := { frames := 0, cells := 0, slots := 0, locals := 0 }
set_option maxHeartbeats 4000000 in
set_option maxRecDepth 100000 in
theorem c_M_lowered (l : Launch) (g : sv_G) (ws : va_W) (c : Int32) : sv_Mi l y_M_lowered b_M_lowered 1 (some (.int)) rm_M_lowered g [.int c] ws (fun r w => r = pu_low c ∧ w = ws) := by
  refine sv_enter_i (by decide) rfl rfl (Nat.le_of_ble_eq_true rfl) (fun X C hI hr => ?_)
  refine sv_lvE (lv' := [some _]) rfl ?_
  have j88 : ¬ (65 ≤ c.toInt ∧ c.toInt ≤ 90) ∧ ¬ (192 ≤ c.toInt ∧ c.toInt ≤ 222 ∧ c.toInt ≠ 215) ∧ ¬ (913 ≤ c.toInt ∧ c.toInt ≤ 939 ∧ c.toInt ≠ 930) ∧ ¬ (1040 ≤ c.toInt ∧ c.toInt ≤ 1071) → sv_V X 1 0 0 ws 88 [some (.int c)] [] := by
    intro hj
    refine sv_iload_n C rfl rfl d_M_lowered_88 ?_
    refine sv_sipush C (v := 1024) (by decide) d_M_lowered_89 ?_
    refine sv_icmpK_lt C (1024) (by decide) 109 (by decide) d_M_lowered_92 (fun c92 => ?_) (fun c92 => ?_)
    · skip
      refine sv_iload_n C rfl rfl d_M_lowered_109 ?_
      exact hr _ _ _ _ d_M_lowered_110 rfl ⟨by unfold pu_low; (repeat' split) <;> first | rfl | (exfalso; omega), rfl⟩
    · skip
      refine sv_iload_n C rfl rfl d_M_lowered_95 ?_
      refine sv_sipush C (v := 1039) (by decide) d_M_lowered_96 ?_
      refine sv_icmpK_gt C (1039) (by decide) 109 (by decide) d_M_lowered_99 (fun c99 => ?_) (fun c99 => ?_)
      · skip
        refine sv_iload_n C rfl rfl d_M_lowered_109 ?_
        exact hr _ _ _ _ d_M_lowered_110 rfl ⟨by unfold pu_low; (repeat' split) <;> first | rfl | (exfalso; omega), rfl⟩
      · skip
        refine sv_iload_n C rfl rfl d_M_lowered_102 ?_
        refine sv_bipush C (v := 80) (by decide) d_M_lowered_103 ?_
        refine sv_iadd C d_M_lowered_105 ?_
        refine sv_goto C 110 (by decide) d_M_lowered_106 ?_
        exact hr _ _ _ _ d_M_lowered_110 rfl ⟨by unfold pu_low; (repeat' split) <;> first | rfl | (exfalso; omega), rfl⟩
  have j69 : ¬ (65 ≤ c.toInt ∧ c.toInt ≤ 90) ∧ ¬ (192 ≤ c.toInt ∧ c.toInt ≤ 222 ∧ c.toInt ≠ 215) ∧ ¬ (913 ≤ c.toInt ∧ c.toInt ≤ 939 ∧ c.toInt ≠ 930) → sv_V X 1 0 0 ws 69 [some (.int c)] [] := by
    intro hj
    refine sv_iload_n C rfl rfl d_M_lowered_69 ?_
    refine sv_sipush C (v := 1040) (by decide) d_M_lowered_70 ?_
    refine sv_icmpK_lt C (1040) (by decide) 88 (by decide) d_M_lowered_73 (fun c73 => ?_) (fun c73 => ?_)
    · skip
      exact j88 (by omega)
    · skip
      refine sv_iload_n C rfl rfl d_M_lowered_76 ?_
      refine sv_sipush C (v := 1071) (by decide) d_M_lowered_77 ?_
      refine sv_icmpK_gt C (1071) (by decide) 88 (by decide) d_M_lowered_80 (fun c80 => ?_) (fun c80 => ?_)
      · skip
        exact j88 (by omega)
      · skip
        refine sv_iload_n C rfl rfl d_M_lowered_83 ?_
        refine sv_bipush C (v := 32) (by decide) d_M_lowered_84 ?_
        refine sv_iadd C d_M_lowered_86 ?_
        exact hr _ _ _ _ d_M_lowered_87 rfl ⟨by unfold pu_low; (repeat' split) <;> first | rfl | (exfalso; omega), rfl⟩
  have j43 : ¬ (65 ≤ c.toInt ∧ c.toInt ≤ 90) ∧ ¬ (192 ≤ c.toInt ∧ c.toInt ≤ 222 ∧ c.toInt ≠ 215) → sv_V X 1 0 0 ws 43 [some (.int c)] [] := by
    intro hj
    refine sv_iload_n C rfl rfl d_M_lowered_43 ?_
    refine sv_sipush C (v := 913) (by decide) d_M_lowered_44 ?_
    refine sv_icmpK_lt C (913) (by decide) 69 (by decide) d_M_lowered_47 (fun c47 => ?_) (fun c47 => ?_)
    · skip
      exact j69 (by omega)
    · skip
      refine sv_iload_n C rfl rfl d_M_lowered_50 ?_
      refine sv_sipush C (v := 939) (by decide) d_M_lowered_51 ?_
      refine sv_icmpK_gt C (939) (by decide) 69 (by decide) d_M_lowered_54 (fun c54 => ?_) (fun c54 => ?_)
      · skip
        exact j69 (by omega)
      · skip
        refine sv_iload_n C rfl rfl d_M_lowered_57 ?_
        refine sv_sipush C (v := 930) (by decide) d_M_lowered_58 ?_
        refine sv_icmpK_eq C (930) (by decide) 69 (by decide) d_M_lowered_61 (fun c61 => ?_) (fun c61 => ?_)
        · skip
          exact j69 (by omega)
        · skip
          refine sv_iload_n C rfl rfl d_M_lowered_64 ?_
          refine sv_bipush C (v := 32) (by decide) d_M_lowered_65 ?_
          refine sv_iadd C d_M_lowered_67 ?_
          exact hr _ _ _ _ d_M_lowered_68 rfl ⟨by unfold pu_low; (repeat' split) <;> first | rfl | (exfalso; omega), rfl⟩
  have j17 : ¬ (65 ≤ c.toInt ∧ c.toInt ≤ 90) → sv_V X 1 0 0 ws 17 [some (.int c)] [] := by
    intro hj
    refine sv_iload_n C rfl rfl d_M_lowered_17 ?_
    refine sv_sipush C (v := 192) (by decide) d_M_lowered_18 ?_
    refine sv_icmpK_lt C (192) (by decide) 43 (by decide) d_M_lowered_21 (fun c21 => ?_) (fun c21 => ?_)
    · skip
      exact j43 (by omega)
    · skip
      refine sv_iload_n C rfl rfl d_M_lowered_24 ?_
      refine sv_sipush C (v := 222) (by decide) d_M_lowered_25 ?_
      refine sv_icmpK_gt C (222) (by decide) 43 (by decide) d_M_lowered_28 (fun c28 => ?_) (fun c28 => ?_)
      · skip
        exact j43 (by omega)
      · skip
        refine sv_iload_n C rfl rfl d_M_lowered_31 ?_
        refine sv_sipush C (v := 215) (by decide) d_M_lowered_32 ?_
        refine sv_icmpK_eq C (215) (by decide) 43 (by decide) d_M_lowered_35 (fun c35 => ?_) (fun c35 => ?_)
        · skip
          exact j43 (by omega)
        · skip
          refine sv_iload_n C rfl rfl d_M_lowered_38 ?_
          refine sv_bipush C (v := 32) (by decide) d_M_lowered_39 ?_
          refine sv_iadd C d_M_lowered_41 ?_
          exact hr _ _ _ _ d_M_lowered_42 rfl ⟨by unfold pu_low; (repeat' split) <;> first | rfl | (exfalso; omega), rfl⟩
  refine sv_iload_n C rfl rfl d_M_lowered_0 ?_
  refine sv_bipush C (v := 65) (by decide) d_M_lowered_1 ?_
  refine sv_icmpK_lt C (65) (by decide) 17 (by decide) d_M_lowered_3 (fun c3 => ?_) (fun c3 => ?_)
  · skip
    exact j17 (by omega)
  · skip
    refine sv_iload_n C rfl rfl d_M_lowered_6 ?_
    refine sv_bipush C (v := 90) (by decide) d_M_lowered_7 ?_
    refine sv_icmpK_gt C (90) (by decide) 17 (by decide) d_M_lowered_9 (fun c9 => ?_) (fun c9 => ?_)
    · skip
      exact j17 (by omega)
    · skip
      refine sv_iload_n C rfl rfl d_M_lowered_12 ?_
      refine sv_bipush C (v := 32) (by decide) d_M_lowered_13 ?_
      refine sv_iadd C d_M_lowered_15 ?_
      exact hr _ _ _ _ d_M_lowered_16 rfl ⟨by unfold pu_low; (repeat' split) <;> first | rfl | (exfalso; omega), rfl⟩
