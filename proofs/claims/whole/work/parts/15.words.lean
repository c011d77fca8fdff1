/-! WORDS: fields, calls, constants, makings -/
set_option maxRecDepth 100000 in
theorem i_En : ∀ w ∈ u_ws R_En F_En 2, w ∈ sv_tbl := (List.forall_mem_cons.mpr ⟨(sv_at 166 rfl rfl), List.forall_mem_cons.mpr ⟨(sv_at 168 rfl rfl), fun _ h => absurd h List.not_mem_nil⟩⟩ : ∀ w ∈ [Cond.laysFinal "WordChain$Ending" "WordChain$Ending" "text" "Ljava/lang/String;", Cond.laysFinal "WordChain$Ending" "WordChain$Ending" "substitute" "Ljava/lang/String;"], w ∈ sv_tbl)
set_option maxRecDepth 100000 in
theorem i_Si : ∀ w ∈ u_ws R_Si F_Si 1, w ∈ sv_tbl := (List.forall_mem_cons.mpr ⟨(sv_at 144 rfl rfl), fun _ h => absurd h List.not_mem_nil⟩ : ∀ w ∈ [Cond.laysFinal "WordChain$SilentWords" "WordChain$SilentWords" "keys" "[I"], w ∈ sv_tbl)
set_option maxRecDepth 100000 in
theorem i_Sm : ∀ w ∈ u_ws R_Sm F_Sm 7, w ∈ sv_tbl := (List.forall_mem_cons.mpr ⟨(sv_at 255 rfl rfl), List.forall_mem_cons.mpr ⟨(sv_at 257 rfl rfl), List.forall_mem_cons.mpr ⟨(sv_at 259 rfl rfl), List.forall_mem_cons.mpr ⟨(sv_at 261 rfl rfl), List.forall_mem_cons.mpr ⟨(sv_at 263 rfl rfl), List.forall_mem_cons.mpr ⟨(sv_at 265 rfl rfl), List.forall_mem_cons.mpr ⟨(sv_at 267 rfl rfl), fun _ h => absurd h List.not_mem_nil⟩⟩⟩⟩⟩⟩⟩ : ∀ w ∈ [Cond.laysFinal "WordChain$Stemmer" "WordChain$Stemmer" "word" "LWordChain$Word;", Cond.laysFinal "WordChain$Stemmer" "WordChain$Stemmer" "vowels" "[Z", Cond.laysFinal "WordChain$Stemmer" "WordChain$Stemmer" "endings1a" "[LWordChain$Ending;", Cond.laysFinal "WordChain$Stemmer" "WordChain$Stemmer" "endings1b" "[LWordChain$Ending;", Cond.laysFinal "WordChain$Stemmer" "WordChain$Stemmer" "endings2" "[LWordChain$Ending;", Cond.laysFinal "WordChain$Stemmer" "WordChain$Stemmer" "endings3" "[LWordChain$Ending;", Cond.laysFinal "WordChain$Stemmer" "WordChain$Stemmer" "endings4" "[LWordChain$Ending;"], w ∈ sv_tbl)
set_option maxRecDepth 100000 in
theorem i_Te : ∀ w ∈ u_ws R_Te F_Te 2, w ∈ sv_tbl := (List.forall_mem_cons.mpr ⟨(sv_at 78 rfl rfl), List.forall_mem_cons.mpr ⟨(sv_at 80 rfl rfl), fun _ h => absurd h List.not_mem_nil⟩⟩ : ∀ w ∈ [Cond.laysFinal "WordChain$Text" "WordChain$Text" "characters" "[I", Cond.lays "WordChain$Text" "WordChain$Text" "length" "I"], w ∈ sv_tbl)
set_option maxRecDepth 100000 in
theorem i_To : ∀ w ∈ u_ws R_To F_To 4, w ∈ sv_tbl := (List.forall_mem_cons.mpr ⟨(sv_at 285 rfl rfl), List.forall_mem_cons.mpr ⟨(sv_at 287 rfl rfl), List.forall_mem_cons.mpr ⟨(sv_at 289 rfl rfl), List.forall_mem_cons.mpr ⟨(sv_at 291 rfl rfl), fun _ h => absurd h List.not_mem_nil⟩⟩⟩⟩ : ∀ w ∈ [Cond.laysFinal "WordChain$Tokens" "WordChain$Tokens" "characters" "[I", Cond.laysFinal "WordChain$Tokens" "WordChain$Tokens" "positions" "[I", Cond.laysFinal "WordChain$Tokens" "WordChain$Tokens" "starts" "[I", Cond.lays "WordChain$Tokens" "WordChain$Tokens" "size" "I"], w ∈ sv_tbl)
set_option maxRecDepth 100000 in
theorem i_Wo : ∀ w ∈ u_ws R_Wo F_Wo 2, w ∈ sv_tbl := (List.forall_mem_cons.mpr ⟨(sv_at 242 rfl rfl), List.forall_mem_cons.mpr ⟨(sv_at 244 rfl rfl), fun _ h => absurd h List.not_mem_nil⟩⟩ : ∀ w ∈ [Cond.laysFinal "WordChain$Word" "WordChain$Word" "characters" "[I", Cond.lays "WordChain$Word" "WordChain$Word" "length" "I"], w ∈ sv_tbl)
set_option maxRecDepth 100000 in
theorem i_X : ∀ w ∈ u_ws R_X F_X 7, w ∈ sv_tbl := (List.forall_mem_cons.mpr ⟨(sv_at 301 rfl rfl), List.forall_mem_cons.mpr ⟨(sv_at 303 rfl rfl), List.forall_mem_cons.mpr ⟨(sv_at 305 rfl rfl), List.forall_mem_cons.mpr ⟨(sv_at 307 rfl rfl), List.forall_mem_cons.mpr ⟨(sv_at 309 rfl rfl), List.forall_mem_cons.mpr ⟨(sv_at 311 rfl rfl), List.forall_mem_cons.mpr ⟨(sv_at 313 rfl rfl), fun _ h => absurd h List.not_mem_nil⟩⟩⟩⟩⟩⟩⟩ : ∀ w ∈ [Cond.laysFinal "WordChain" "WordChain" "input" "[B", Cond.lays "WordChain" "WordChain" "inputLength" "I", Cond.laysFinal "WordChain" "WordChain" "text" "LWordChain$Text;", Cond.laysFinal "WordChain" "WordChain" "silentWords" "LWordChain$SilentWords;", Cond.laysFinal "WordChain" "WordChain" "stemmer" "LWordChain$Stemmer;", Cond.laysFinal "WordChain" "WordChain" "tokens" "LWordChain$Tokens;", Cond.lays "WordChain" "WordChain" "words" "I"], w ∈ sv_tbl)
set_option maxRecDepth 100000 in
theorem i_M : ∀ w ∈ u_ws R_M F_M 16, w ∈ sv_tbl := (List.forall_mem_cons.mpr ⟨(sv_at 789 rfl rfl), List.forall_mem_cons.mpr ⟨(sv_at 791 rfl rfl), List.forall_mem_cons.mpr ⟨(sv_at 793 rfl rfl), List.forall_mem_cons.mpr ⟨(sv_at 795 rfl rfl), List.forall_mem_cons.mpr ⟨(sv_at 797 rfl rfl), List.forall_mem_cons.mpr ⟨(sv_at 799 rfl rfl), List.forall_mem_cons.mpr ⟨(sv_at 801 rfl rfl), List.forall_mem_cons.mpr ⟨(sv_at 803 rfl rfl), List.forall_mem_cons.mpr ⟨(sv_at 805 rfl rfl), List.forall_mem_cons.mpr ⟨(sv_at 807 rfl rfl), List.forall_mem_cons.mpr ⟨(sv_at 809 rfl rfl), List.forall_mem_cons.mpr ⟨(sv_at 811 rfl rfl), List.forall_mem_cons.mpr ⟨(sv_at 813 rfl rfl), List.forall_mem_cons.mpr ⟨(sv_at 815 rfl rfl), List.forall_mem_cons.mpr ⟨(sv_at 817 rfl rfl), List.forall_mem_cons.mpr ⟨(sv_at 819 rfl rfl), fun _ h => absurd h List.not_mem_nil⟩⟩⟩⟩⟩⟩⟩⟩⟩⟩⟩⟩⟩⟩⟩⟩ : ∀ w ∈ [Cond.laysFinal "WordChainModel" "WordChainModel" "STOPS" "[Ljava/lang/String;", Cond.laysFinal "WordChainModel" "WordChainModel" "TWO" "[Ljava/lang/String;", Cond.laysFinal "WordChainModel" "WordChainModel" "THREE" "[Ljava/lang/String;", Cond.laysFinal "WordChainModel" "WordChainModel" "FOUR" "[Ljava/lang/String;", Cond.laysFinal "WordChainModel" "WordChainModel" "input" "[B", Cond.lays "WordChainModel" "WordChainModel" "inputSize" "I", Cond.lays "WordChainModel" "WordChainModel" "thrown" "I", Cond.laysFinal "WordChainModel" "WordChainModel" "chars" "[I", Cond.lays "WordChainModel" "WordChainModel" "charMany" "I", Cond.laysFinal "WordChainModel" "WordChainModel" "cutChars" "[I", Cond.laysFinal "WordChainModel" "WordChainModel" "cutAt" "[I", Cond.laysFinal "WordChainModel" "WordChainModel" "cutPosition" "[I", Cond.lays "WordChainModel" "WordChainModel" "cutMany" "I", Cond.lays "WordChainModel" "WordChainModel" "cutWords" "I", Cond.laysFinal "WordChainModel" "WordChainModel" "word" "[I", Cond.lays "WordChainModel" "WordChainModel" "wordMany" "I"], w ∈ sv_tbl)
set_option maxRecDepth 100000 in
theorem w_Te_13 : Cond.fieldLink "WordChain$Text" 13 "WordChain$Text" "characters" "[I" ∈ sv_tbl := (sv_at 74 rfl rfl)
set_option maxRecDepth 100000 in
theorem fg_Te_13 : sv_FL "WordChain$Text" 13 3 0 := ⟨R_Te, F_Te, 2, rfl, by decide, i_Te, w_Te_13⟩
set_option maxRecDepth 100000 in
theorem fp_Te_13 : sv_FP "WordChain$Text" 13 3 0 (.array .int) true := ⟨R_Te, F_Te, 2, t_Te, rfl, by decide, i_Te, w_Te_13, t_Te_ok, n_Te, rfl, fun _ => rfl, by decide +kernel⟩
set_option maxRecDepth 100000 in
theorem w_X_137 : Cond.fieldLink "WordChain" 137 "WordChain$Text" "characters" "[I" ∈ sv_tbl := (sv_at 75 rfl rfl)
set_option maxRecDepth 100000 in
theorem fg_X_137 : sv_FL "WordChain" 137 3 0 := ⟨R_Te, F_Te, 2, rfl, by decide, i_Te, w_X_137⟩
set_option maxRecDepth 100000 in
theorem w_Te_7 : Cond.fieldLink "WordChain$Text" 7 "WordChain$Text" "length" "I" ∈ sv_tbl := (sv_at 76 rfl rfl)
set_option maxRecDepth 100000 in
theorem fg_Te_7 : sv_FL "WordChain$Text" 7 3 1 := ⟨R_Te, F_Te, 2, rfl, by decide, i_Te, w_Te_7⟩
set_option maxRecDepth 100000 in
theorem fp_Te_7 : sv_FP "WordChain$Text" 7 3 1 (.int) false := ⟨R_Te, F_Te, 2, t_Te, rfl, by decide, i_Te, w_Te_7, t_Te_ok, n_Te, rfl, fun _ => rfl, by decide +kernel⟩
set_option maxRecDepth 100000 in
theorem w_X_72 : Cond.fieldLink "WordChain" 72 "WordChain$Text" "length" "I" ∈ sv_tbl := (sv_at 77 rfl rfl)
set_option maxRecDepth 100000 in
theorem fg_X_72 : sv_FL "WordChain" 72 3 1 := ⟨R_Te, F_Te, 2, rfl, by decide, i_Te, w_X_72⟩
set_option maxRecDepth 100000 in
theorem fp_X_72 : sv_FP "WordChain" 72 3 1 (.int) false := ⟨R_Te, F_Te, 2, t_Te, rfl, by decide, i_Te, w_X_72, t_Te_ok, n_Te, rfl, (fun h => by cases h), by decide +kernel⟩
set_option maxRecDepth 100000 in
theorem w_Si_9 : Cond.fieldLink "WordChain$SilentWords" 9 "WordChain$SilentWords" "keys" "[I" ∈ sv_tbl := (sv_at 143 rfl rfl)
set_option maxRecDepth 100000 in
theorem fg_Si_9 : sv_FL "WordChain$SilentWords" 9 1 0 := ⟨R_Si, F_Si, 1, rfl, by decide, i_Si, w_Si_9⟩
set_option maxRecDepth 100000 in
theorem fp_Si_9 : sv_FP "WordChain$SilentWords" 9 1 0 (.array .int) true := ⟨R_Si, F_Si, 1, t_Si, rfl, by decide, i_Si, w_Si_9, t_Si_ok, n_Si, rfl, fun _ => rfl, by decide +kernel⟩
set_option maxRecDepth 100000 in
theorem w_En_7 : Cond.fieldLink "WordChain$Ending" 7 "WordChain$Ending" "text" "Ljava/lang/String;" ∈ sv_tbl := (sv_at 162 rfl rfl)
set_option maxRecDepth 100000 in
theorem fg_En_7 : sv_FL "WordChain$Ending" 7 0 0 := ⟨R_En, F_En, 2, rfl, by decide, i_En, w_En_7⟩
set_option maxRecDepth 100000 in
theorem fp_En_7 : sv_FP "WordChain$Ending" 7 0 0 (.object "java/lang/String") true := ⟨R_En, F_En, 2, t_En, rfl, by decide, i_En, w_En_7, t_En_ok, n_En, rfl, fun _ => rfl, by decide +kernel⟩
set_option maxRecDepth 100000 in
theorem w_Sm_210 : Cond.fieldLink "WordChain$Stemmer" 210 "WordChain$Ending" "text" "Ljava/lang/String;" ∈ sv_tbl := (sv_at 163 rfl rfl)
set_option maxRecDepth 100000 in
theorem fg_Sm_210 : sv_FL "WordChain$Stemmer" 210 0 0 := ⟨R_En, F_En, 2, rfl, by decide, i_En, w_Sm_210⟩
set_option maxRecDepth 100000 in
theorem w_En_13 : Cond.fieldLink "WordChain$Ending" 13 "WordChain$Ending" "substitute" "Ljava/lang/String;" ∈ sv_tbl := (sv_at 164 rfl rfl)
set_option maxRecDepth 100000 in
theorem fg_En_13 : sv_FL "WordChain$Ending" 13 0 1 := ⟨R_En, F_En, 2, rfl, by decide, i_En, w_En_13⟩
set_option maxRecDepth 100000 in
theorem fp_En_13 : sv_FP "WordChain$Ending" 13 0 1 (.object "java/lang/String") true := ⟨R_En, F_En, 2, t_En, rfl, by decide, i_En, w_En_13, t_En_ok, n_En, rfl, fun _ => rfl, by decide +kernel⟩
set_option maxRecDepth 100000 in
theorem w_Sm_202 : Cond.fieldLink "WordChain$Stemmer" 202 "WordChain$Ending" "substitute" "Ljava/lang/String;" ∈ sv_tbl := (sv_at 165 rfl rfl)
set_option maxRecDepth 100000 in
theorem fg_Sm_202 : sv_FL "WordChain$Stemmer" 202 0 1 := ⟨R_En, F_En, 2, rfl, by decide, i_En, w_Sm_202⟩
set_option maxRecDepth 100000 in
theorem w_Wo_13 : Cond.fieldLink "WordChain$Word" 13 "WordChain$Word" "characters" "[I" ∈ sv_tbl := (sv_at 234 rfl rfl)
set_option maxRecDepth 100000 in
theorem fg_Wo_13 : sv_FL "WordChain$Word" 13 5 0 := ⟨R_Wo, F_Wo, 2, rfl, by decide, i_Wo, w_Wo_13⟩
set_option maxRecDepth 100000 in
theorem fp_Wo_13 : sv_FP "WordChain$Word" 13 5 0 (.array .int) true := ⟨R_Wo, F_Wo, 2, t_Wo, rfl, by decide, i_Wo, w_Wo_13, t_Wo_ok, n_Wo, rfl, fun _ => rfl, by decide +kernel⟩
set_option maxRecDepth 100000 in
theorem w_Si_38 : Cond.fieldLink "WordChain$SilentWords" 38 "WordChain$Word" "characters" "[I" ∈ sv_tbl := (sv_at 235 rfl rfl)
set_option maxRecDepth 100000 in
theorem fg_Si_38 : sv_FL "WordChain$SilentWords" 38 5 0 := ⟨R_Wo, F_Wo, 2, rfl, by decide, i_Wo, w_Si_38⟩
set_option maxRecDepth 100000 in
theorem w_To_23 : Cond.fieldLink "WordChain$Tokens" 23 "WordChain$Word" "characters" "[I" ∈ sv_tbl := (sv_at 236 rfl rfl)
set_option maxRecDepth 100000 in
theorem fg_To_23 : sv_FL "WordChain$Tokens" 23 5 0 := ⟨R_Wo, F_Wo, 2, rfl, by decide, i_Wo, w_To_23⟩
set_option maxRecDepth 100000 in
theorem w_Sm_263 : Cond.fieldLink "WordChain$Stemmer" 263 "WordChain$Word" "characters" "[I" ∈ sv_tbl := (sv_at 237 rfl rfl)
set_option maxRecDepth 100000 in
theorem fg_Sm_263 : sv_FL "WordChain$Stemmer" 263 5 0 := ⟨R_Wo, F_Wo, 2, rfl, by decide, i_Wo, w_Sm_263⟩
set_option maxRecDepth 100000 in
theorem w_Wo_7 : Cond.fieldLink "WordChain$Word" 7 "WordChain$Word" "length" "I" ∈ sv_tbl := (sv_at 238 rfl rfl)
set_option maxRecDepth 100000 in
theorem fg_Wo_7 : sv_FL "WordChain$Word" 7 5 1 := ⟨R_Wo, F_Wo, 2, rfl, by decide, i_Wo, w_Wo_7⟩
set_option maxRecDepth 100000 in
theorem fp_Wo_7 : sv_FP "WordChain$Word" 7 5 1 (.int) false := ⟨R_Wo, F_Wo, 2, t_Wo, rfl, by decide, i_Wo, w_Wo_7, t_Wo_ok, n_Wo, rfl, fun _ => rfl, by decide +kernel⟩
set_option maxRecDepth 100000 in
theorem w_Si_29 : Cond.fieldLink "WordChain$SilentWords" 29 "WordChain$Word" "length" "I" ∈ sv_tbl := (sv_at 239 rfl rfl)
set_option maxRecDepth 100000 in
theorem fg_Si_29 : sv_FL "WordChain$SilentWords" 29 5 1 := ⟨R_Wo, F_Wo, 2, rfl, by decide, i_Wo, w_Si_29⟩
set_option maxRecDepth 100000 in
theorem fp_Si_29 : sv_FP "WordChain$SilentWords" 29 5 1 (.int) false := ⟨R_Wo, F_Wo, 2, t_Wo, rfl, by decide, i_Wo, w_Si_29, t_Wo_ok, n_Wo, rfl, (fun h => by cases h), by decide +kernel⟩
set_option maxRecDepth 100000 in
theorem w_Sm_161 : Cond.fieldLink "WordChain$Stemmer" 161 "WordChain$Word" "length" "I" ∈ sv_tbl := (sv_at 240 rfl rfl)
set_option maxRecDepth 100000 in
theorem fg_Sm_161 : sv_FL "WordChain$Stemmer" 161 5 1 := ⟨R_Wo, F_Wo, 2, rfl, by decide, i_Wo, w_Sm_161⟩
set_option maxRecDepth 100000 in
theorem fp_Sm_161 : sv_FP "WordChain$Stemmer" 161 5 1 (.int) false := ⟨R_Wo, F_Wo, 2, t_Wo, rfl, by decide, i_Wo, w_Sm_161, t_Wo_ok, n_Wo, rfl, (fun h => by cases h), by decide +kernel⟩
set_option maxRecDepth 100000 in
theorem w_To_26 : Cond.fieldLink "WordChain$Tokens" 26 "WordChain$Word" "length" "I" ∈ sv_tbl := (sv_at 241 rfl rfl)
set_option maxRecDepth 100000 in
theorem fg_To_26 : sv_FL "WordChain$Tokens" 26 5 1 := ⟨R_Wo, F_Wo, 2, rfl, by decide, i_Wo, w_To_26⟩
set_option maxRecDepth 100000 in
theorem fp_To_26 : sv_FP "WordChain$Tokens" 26 5 1 (.int) false := ⟨R_Wo, F_Wo, 2, t_Wo, rfl, by decide, i_Wo, w_To_26, t_Wo_ok, n_Wo, rfl, (fun h => by cases h), by decide +kernel⟩
set_option maxRecDepth 100000 in
theorem w_Sm_153 : Cond.fieldLink "WordChain$Stemmer" 153 "WordChain$Stemmer" "word" "LWordChain$Word;" ∈ sv_tbl := (sv_at 247 rfl rfl)
set_option maxRecDepth 100000 in
theorem fg_Sm_153 : sv_FL "WordChain$Stemmer" 153 2 0 := ⟨R_Sm, F_Sm, 7, rfl, by decide, i_Sm, w_Sm_153⟩
set_option maxRecDepth 100000 in
theorem fp_Sm_153 : sv_FP "WordChain$Stemmer" 153 2 0 (.object "WordChain$Word") true := ⟨R_Sm, F_Sm, 7, t_Sm, rfl, by decide, i_Sm, w_Sm_153, t_Sm_ok, n_Sm, rfl, fun _ => rfl, by decide +kernel⟩
set_option maxRecDepth 100000 in
theorem w_X_133 : Cond.fieldLink "WordChain" 133 "WordChain$Stemmer" "word" "LWordChain$Word;" ∈ sv_tbl := (sv_at 248 rfl rfl)
set_option maxRecDepth 100000 in
theorem fg_X_133 : sv_FL "WordChain" 133 2 0 := ⟨R_Sm, F_Sm, 7, rfl, by decide, i_Sm, w_X_133⟩
set_option maxRecDepth 100000 in
theorem w_Sm_157 : Cond.fieldLink "WordChain$Stemmer" 157 "WordChain$Stemmer" "vowels" "[Z" ∈ sv_tbl := (sv_at 249 rfl rfl)
set_option maxRecDepth 100000 in
theorem fg_Sm_157 : sv_FL "WordChain$Stemmer" 157 2 1 := ⟨R_Sm, F_Sm, 7, rfl, by decide, i_Sm, w_Sm_157⟩
set_option maxRecDepth 100000 in
theorem fp_Sm_157 : sv_FP "WordChain$Stemmer" 157 2 1 (.array .boolean) true := ⟨R_Sm, F_Sm, 7, t_Sm, rfl, by decide, i_Sm, w_Sm_157, t_Sm_ok, n_Sm, rfl, fun _ => rfl, by decide +kernel⟩
set_option maxRecDepth 100000 in
theorem w_Sm_24 : Cond.fieldLink "WordChain$Stemmer" 24 "WordChain$Stemmer" "endings1a" "[LWordChain$Ending;" ∈ sv_tbl := (sv_at 250 rfl rfl)
set_option maxRecDepth 100000 in
theorem fg_Sm_24 : sv_FL "WordChain$Stemmer" 24 2 2 := ⟨R_Sm, F_Sm, 7, rfl, by decide, i_Sm, w_Sm_24⟩
set_option maxRecDepth 100000 in
theorem fp_Sm_24 : sv_FP "WordChain$Stemmer" 24 2 2 (.array (.object "WordChain$Ending")) true := ⟨R_Sm, F_Sm, 7, t_Sm, rfl, by decide, i_Sm, w_Sm_24, t_Sm_ok, n_Sm, rfl, fun _ => rfl, by decide +kernel⟩
set_option maxRecDepth 100000 in
theorem w_Sm_38 : Cond.fieldLink "WordChain$Stemmer" 38 "WordChain$Stemmer" "endings1b" "[LWordChain$Ending;" ∈ sv_tbl := (sv_at 251 rfl rfl)
set_option maxRecDepth 100000 in
theorem fg_Sm_38 : sv_FL "WordChain$Stemmer" 38 2 3 := ⟨R_Sm, F_Sm, 7, rfl, by decide, i_Sm, w_Sm_38⟩
set_option maxRecDepth 100000 in
theorem fp_Sm_38 : sv_FP "WordChain$Stemmer" 38 2 3 (.array (.object "WordChain$Ending")) true := ⟨R_Sm, F_Sm, 7, t_Sm, rfl, by decide, i_Sm, w_Sm_38, t_Sm_ok, n_Sm, rfl, fun _ => rfl, by decide +kernel⟩
set_option maxRecDepth 100000 in
theorem w_Sm_107 : Cond.fieldLink "WordChain$Stemmer" 107 "WordChain$Stemmer" "endings2" "[LWordChain$Ending;" ∈ sv_tbl := (sv_at 252 rfl rfl)
set_option maxRecDepth 100000 in
theorem fg_Sm_107 : sv_FL "WordChain$Stemmer" 107 2 4 := ⟨R_Sm, F_Sm, 7, rfl, by decide, i_Sm, w_Sm_107⟩
set_option maxRecDepth 100000 in
theorem fp_Sm_107 : sv_FP "WordChain$Stemmer" 107 2 4 (.array (.object "WordChain$Ending")) true := ⟨R_Sm, F_Sm, 7, t_Sm, rfl, by decide, i_Sm, w_Sm_107, t_Sm_ok, n_Sm, rfl, fun _ => rfl, by decide +kernel⟩
set_option maxRecDepth 100000 in
theorem w_Sm_124 : Cond.fieldLink "WordChain$Stemmer" 124 "WordChain$Stemmer" "endings3" "[LWordChain$Ending;" ∈ sv_tbl := (sv_at 253 rfl rfl)
set_option maxRecDepth 100000 in
theorem fg_Sm_124 : sv_FL "WordChain$Stemmer" 124 2 5 := ⟨R_Sm, F_Sm, 7, rfl, by decide, i_Sm, w_Sm_124⟩
set_option maxRecDepth 100000 in
theorem fp_Sm_124 : sv_FP "WordChain$Stemmer" 124 2 5 (.array (.object "WordChain$Ending")) true := ⟨R_Sm, F_Sm, 7, t_Sm, rfl, by decide, i_Sm, w_Sm_124, t_Sm_ok, n_Sm, rfl, fun _ => rfl, by decide +kernel⟩
set_option maxRecDepth 100000 in
theorem w_Sm_145 : Cond.fieldLink "WordChain$Stemmer" 145 "WordChain$Stemmer" "endings4" "[LWordChain$Ending;" ∈ sv_tbl := (sv_at 254 rfl rfl)
set_option maxRecDepth 100000 in
theorem fg_Sm_145 : sv_FL "WordChain$Stemmer" 145 2 6 := ⟨R_Sm, F_Sm, 7, rfl, by decide, i_Sm, w_Sm_145⟩
set_option maxRecDepth 100000 in
theorem fp_Sm_145 : sv_FP "WordChain$Stemmer" 145 2 6 (.array (.object "WordChain$Ending")) true := ⟨R_Sm, F_Sm, 7, t_Sm, rfl, by decide, i_Sm, w_Sm_145, t_Sm_ok, n_Sm, rfl, fun _ => rfl, by decide +kernel⟩
set_option maxRecDepth 100000 in
theorem w_To_13 : Cond.fieldLink "WordChain$Tokens" 13 "WordChain$Tokens" "characters" "[I" ∈ sv_tbl := (sv_at 277 rfl rfl)
set_option maxRecDepth 100000 in
theorem fg_To_13 : sv_FL "WordChain$Tokens" 13 4 0 := ⟨R_To, F_To, 4, rfl, by decide, i_To, w_To_13⟩
set_option maxRecDepth 100000 in
theorem fp_To_13 : sv_FP "WordChain$Tokens" 13 4 0 (.array .int) true := ⟨R_To, F_To, 4, t_To, rfl, by decide, i_To, w_To_13, t_To_ok, n_To, rfl, fun _ => rfl, by decide +kernel⟩
set_option maxRecDepth 100000 in
theorem w_X_116 : Cond.fieldLink "WordChain" 116 "WordChain$Tokens" "characters" "[I" ∈ sv_tbl := (sv_at 278 rfl rfl)
set_option maxRecDepth 100000 in
theorem fg_X_116 : sv_FL "WordChain" 116 4 0 := ⟨R_To, F_To, 4, rfl, by decide, i_To, w_X_116⟩
set_option maxRecDepth 100000 in
theorem w_To_17 : Cond.fieldLink "WordChain$Tokens" 17 "WordChain$Tokens" "positions" "[I" ∈ sv_tbl := (sv_at 279 rfl rfl)
set_option maxRecDepth 100000 in
theorem fg_To_17 : sv_FL "WordChain$Tokens" 17 4 1 := ⟨R_To, F_To, 4, rfl, by decide, i_To, w_To_17⟩
set_option maxRecDepth 100000 in
theorem fp_To_17 : sv_FP "WordChain$Tokens" 17 4 1 (.array .int) true := ⟨R_To, F_To, 4, t_To, rfl, by decide, i_To, w_To_17, t_To_ok, n_To, rfl, fun _ => rfl, by decide +kernel⟩
set_option maxRecDepth 100000 in
theorem w_X_107 : Cond.fieldLink "WordChain" 107 "WordChain$Tokens" "positions" "[I" ∈ sv_tbl := (sv_at 280 rfl rfl)
set_option maxRecDepth 100000 in
theorem fg_X_107 : sv_FL "WordChain" 107 4 1 := ⟨R_To, F_To, 4, rfl, by decide, i_To, w_X_107⟩
set_option maxRecDepth 100000 in
theorem w_To_20 : Cond.fieldLink "WordChain$Tokens" 20 "WordChain$Tokens" "starts" "[I" ∈ sv_tbl := (sv_at 281 rfl rfl)
set_option maxRecDepth 100000 in
theorem fg_To_20 : sv_FL "WordChain$Tokens" 20 4 2 := ⟨R_To, F_To, 4, rfl, by decide, i_To, w_To_20⟩
set_option maxRecDepth 100000 in
theorem fp_To_20 : sv_FP "WordChain$Tokens" 20 4 2 (.array .int) true := ⟨R_To, F_To, 4, t_To, rfl, by decide, i_To, w_To_20, t_To_ok, n_To, rfl, fun _ => rfl, by decide +kernel⟩
set_option maxRecDepth 100000 in
theorem w_X_119 : Cond.fieldLink "WordChain" 119 "WordChain$Tokens" "starts" "[I" ∈ sv_tbl := (sv_at 282 rfl rfl)
set_option maxRecDepth 100000 in
theorem fg_X_119 : sv_FL "WordChain" 119 4 2 := ⟨R_To, F_To, 4, rfl, by decide, i_To, w_X_119⟩
set_option maxRecDepth 100000 in
theorem w_To_7 : Cond.fieldLink "WordChain$Tokens" 7 "WordChain$Tokens" "size" "I" ∈ sv_tbl := (sv_at 283 rfl rfl)
set_option maxRecDepth 100000 in
theorem fg_To_7 : sv_FL "WordChain$Tokens" 7 4 3 := ⟨R_To, F_To, 4, rfl, by decide, i_To, w_To_7⟩
set_option maxRecDepth 100000 in
theorem fp_To_7 : sv_FP "WordChain$Tokens" 7 4 3 (.int) false := ⟨R_To, F_To, 4, t_To, rfl, by decide, i_To, w_To_7, t_To_ok, n_To, rfl, fun _ => rfl, by decide +kernel⟩
set_option maxRecDepth 100000 in
theorem w_X_93 : Cond.fieldLink "WordChain" 93 "WordChain$Tokens" "size" "I" ∈ sv_tbl := (sv_at 284 rfl rfl)
set_option maxRecDepth 100000 in
theorem fg_X_93 : sv_FL "WordChain" 93 4 3 := ⟨R_To, F_To, 4, rfl, by decide, i_To, w_X_93⟩
set_option maxRecDepth 100000 in
theorem fp_X_93 : sv_FP "WordChain" 93 4 3 (.int) false := ⟨R_To, F_To, 4, t_To, rfl, by decide, i_To, w_X_93, t_To_ok, n_To, rfl, (fun h => by cases h), by decide +kernel⟩
set_option maxRecDepth 100000 in
theorem w_X_9 : Cond.fieldLink "WordChain" 9 "WordChain" "input" "[B" ∈ sv_tbl := (sv_at 294 rfl rfl)
set_option maxRecDepth 100000 in
theorem fg_X_9 : sv_FL "WordChain" 9 6 0 := ⟨R_X, F_X, 7, rfl, by decide, i_X, w_X_9⟩
set_option maxRecDepth 100000 in
theorem fp_X_9 : sv_FP "WordChain" 9 6 0 (.array .byte) true := ⟨R_X, F_X, 7, t_X, rfl, by decide, i_X, w_X_9, t_X_ok, n_X, rfl, fun _ => rfl, by decide +kernel⟩
set_option maxRecDepth 100000 in
theorem w_X_13 : Cond.fieldLink "WordChain" 13 "WordChain" "inputLength" "I" ∈ sv_tbl := (sv_at 295 rfl rfl)
set_option maxRecDepth 100000 in
theorem fg_X_13 : sv_FL "WordChain" 13 6 1 := ⟨R_X, F_X, 7, rfl, by decide, i_X, w_X_13⟩
set_option maxRecDepth 100000 in
theorem fp_X_13 : sv_FP "WordChain" 13 6 1 (.int) false := ⟨R_X, F_X, 7, t_X, rfl, by decide, i_X, w_X_13, t_X_ok, n_X, rfl, fun _ => rfl, by decide +kernel⟩
set_option maxRecDepth 100000 in
theorem w_X_22 : Cond.fieldLink "WordChain" 22 "WordChain" "text" "LWordChain$Text;" ∈ sv_tbl := (sv_at 296 rfl rfl)
set_option maxRecDepth 100000 in
theorem fg_X_22 : sv_FL "WordChain" 22 6 2 := ⟨R_X, F_X, 7, rfl, by decide, i_X, w_X_22⟩
set_option maxRecDepth 100000 in
theorem fp_X_22 : sv_FP "WordChain" 22 6 2 (.object "WordChain$Text") true := ⟨R_X, F_X, 7, t_X, rfl, by decide, i_X, w_X_22, t_X_ok, n_X, rfl, fun _ => rfl, by decide +kernel⟩
set_option maxRecDepth 100000 in
theorem w_X_29 : Cond.fieldLink "WordChain" 29 "WordChain" "silentWords" "LWordChain$SilentWords;" ∈ sv_tbl := (sv_at 297 rfl rfl)
set_option maxRecDepth 100000 in
theorem fg_X_29 : sv_FL "WordChain" 29 6 3 := ⟨R_X, F_X, 7, rfl, by decide, i_X, w_X_29⟩
set_option maxRecDepth 100000 in
theorem fp_X_29 : sv_FP "WordChain" 29 6 3 (.object "WordChain$SilentWords") true := ⟨R_X, F_X, 7, t_X, rfl, by decide, i_X, w_X_29, t_X_ok, n_X, rfl, fun _ => rfl, by decide +kernel⟩
set_option maxRecDepth 100000 in
theorem w_X_36 : Cond.fieldLink "WordChain" 36 "WordChain" "stemmer" "LWordChain$Stemmer;" ∈ sv_tbl := (sv_at 298 rfl rfl)
set_option maxRecDepth 100000 in
theorem fg_X_36 : sv_FL "WordChain" 36 6 4 := ⟨R_X, F_X, 7, rfl, by decide, i_X, w_X_36⟩
set_option maxRecDepth 100000 in
theorem fp_X_36 : sv_FP "WordChain" 36 6 4 (.object "WordChain$Stemmer") true := ⟨R_X, F_X, 7, t_X, rfl, by decide, i_X, w_X_36, t_X_ok, n_X, rfl, fun _ => rfl, by decide +kernel⟩
set_option maxRecDepth 100000 in
theorem w_X_43 : Cond.fieldLink "WordChain" 43 "WordChain" "tokens" "LWordChain$Tokens;" ∈ sv_tbl := (sv_at 299 rfl rfl)
set_option maxRecDepth 100000 in
theorem fg_X_43 : sv_FL "WordChain" 43 6 5 := ⟨R_X, F_X, 7, rfl, by decide, i_X, w_X_43⟩
set_option maxRecDepth 100000 in
theorem fp_X_43 : sv_FP "WordChain" 43 6 5 (.object "WordChain$Tokens") true := ⟨R_X, F_X, 7, t_X, rfl, by decide, i_X, w_X_43, t_X_ok, n_X, rfl, fun _ => rfl, by decide +kernel⟩
set_option maxRecDepth 100000 in
theorem w_X_47 : Cond.fieldLink "WordChain" 47 "WordChain" "words" "I" ∈ sv_tbl := (sv_at 300 rfl rfl)
set_option maxRecDepth 100000 in
theorem fg_X_47 : sv_FL "WordChain" 47 6 6 := ⟨R_X, F_X, 7, rfl, by decide, i_X, w_X_47⟩
set_option maxRecDepth 100000 in
theorem fp_X_47 : sv_FP "WordChain" 47 6 6 (.int) false := ⟨R_X, F_X, 7, t_X, rfl, by decide, i_X, w_X_47, t_X_ok, n_X, rfl, fun _ => rfl, by decide +kernel⟩
set_option maxRecDepth 100000 in
theorem w_M_75 : Cond.fieldLink "WordChainModel" 75 "WordChainModel" "STOPS" "[Ljava/lang/String;" ∈ sv_tbl := (sv_at 773 rfl rfl)
set_option maxRecDepth 100000 in
theorem fg_M_75 : sv_FL "WordChainModel" 75 7 0 := ⟨R_M, F_M, 16, rfl, by decide, i_M, w_M_75⟩
set_option maxRecDepth 100000 in
theorem fp_M_75 : sv_FP "WordChainModel" 75 7 0 (.array (.object "java/lang/String")) true := ⟨R_M, F_M, 16, t_M, rfl, by decide, i_M, w_M_75, t_M_ok, n_M, rfl, fun _ => rfl, by decide +kernel⟩
set_option maxRecDepth 100000 in
theorem w_M_147 : Cond.fieldLink "WordChainModel" 147 "WordChainModel" "TWO" "[Ljava/lang/String;" ∈ sv_tbl := (sv_at 774 rfl rfl)
set_option maxRecDepth 100000 in
theorem fg_M_147 : sv_FL "WordChainModel" 147 7 1 := ⟨R_M, F_M, 16, rfl, by decide, i_M, w_M_147⟩
set_option maxRecDepth 100000 in
theorem fp_M_147 : sv_FP "WordChainModel" 147 7 1 (.array (.object "java/lang/String")) true := ⟨R_M, F_M, 16, t_M, rfl, by decide, i_M, w_M_147, t_M_ok, n_M, rfl, fun _ => rfl, by decide +kernel⟩
set_option maxRecDepth 100000 in
theorem w_M_166 : Cond.fieldLink "WordChainModel" 166 "WordChainModel" "THREE" "[Ljava/lang/String;" ∈ sv_tbl := (sv_at 775 rfl rfl)
set_option maxRecDepth 100000 in
theorem fg_M_166 : sv_FL "WordChainModel" 166 7 2 := ⟨R_M, F_M, 16, rfl, by decide, i_M, w_M_166⟩
set_option maxRecDepth 100000 in
theorem fp_M_166 : sv_FP "WordChainModel" 166 7 2 (.array (.object "java/lang/String")) true := ⟨R_M, F_M, 16, t_M, rfl, by decide, i_M, w_M_166, t_M_ok, n_M, rfl, fun _ => rfl, by decide +kernel⟩
set_option maxRecDepth 100000 in
theorem w_M_187 : Cond.fieldLink "WordChainModel" 187 "WordChainModel" "FOUR" "[Ljava/lang/String;" ∈ sv_tbl := (sv_at 776 rfl rfl)
set_option maxRecDepth 100000 in
theorem fg_M_187 : sv_FL "WordChainModel" 187 7 3 := ⟨R_M, F_M, 16, rfl, by decide, i_M, w_M_187⟩
set_option maxRecDepth 100000 in
theorem fp_M_187 : sv_FP "WordChainModel" 187 7 3 (.array (.object "java/lang/String")) true := ⟨R_M, F_M, 16, t_M, rfl, by decide, i_M, w_M_187, t_M_ok, n_M, rfl, fun _ => rfl, by decide +kernel⟩
set_option maxRecDepth 100000 in
theorem w_M_190 : Cond.fieldLink "WordChainModel" 190 "WordChainModel" "input" "[B" ∈ sv_tbl := (sv_at 777 rfl rfl)
set_option maxRecDepth 100000 in
theorem fg_M_190 : sv_FL "WordChainModel" 190 7 4 := ⟨R_M, F_M, 16, rfl, by decide, i_M, w_M_190⟩
set_option maxRecDepth 100000 in
theorem fp_M_190 : sv_FP "WordChainModel" 190 7 4 (.array .byte) true := ⟨R_M, F_M, 16, t_M, rfl, by decide, i_M, w_M_190, t_M_ok, n_M, rfl, fun _ => rfl, by decide +kernel⟩
set_option maxRecDepth 100000 in
theorem w_M_326 : Cond.fieldLink "WordChainModel" 326 "WordChainModel" "inputSize" "I" ∈ sv_tbl := (sv_at 778 rfl rfl)
set_option maxRecDepth 100000 in
theorem fg_M_326 : sv_FL "WordChainModel" 326 7 5 := ⟨R_M, F_M, 16, rfl, by decide, i_M, w_M_326⟩
set_option maxRecDepth 100000 in
theorem fp_M_326 : sv_FP "WordChainModel" 326 7 5 (.int) false := ⟨R_M, F_M, 16, t_M, rfl, by decide, i_M, w_M_326, t_M_ok, n_M, rfl, fun _ => rfl, by decide +kernel⟩
set_option maxRecDepth 100000 in
theorem w_M_210 : Cond.fieldLink "WordChainModel" 210 "WordChainModel" "thrown" "I" ∈ sv_tbl := (sv_at 779 rfl rfl)
set_option maxRecDepth 100000 in
theorem fg_M_210 : sv_FL "WordChainModel" 210 7 6 := ⟨R_M, F_M, 16, rfl, by decide, i_M, w_M_210⟩
set_option maxRecDepth 100000 in
theorem fp_M_210 : sv_FP "WordChainModel" 210 7 6 (.int) false := ⟨R_M, F_M, 16, t_M, rfl, by decide, i_M, w_M_210, t_M_ok, n_M, rfl, fun _ => rfl, by decide +kernel⟩
set_option maxRecDepth 100000 in
theorem w_M_194 : Cond.fieldLink "WordChainModel" 194 "WordChainModel" "chars" "[I" ∈ sv_tbl := (sv_at 780 rfl rfl)
set_option maxRecDepth 100000 in
theorem fg_M_194 : sv_FL "WordChainModel" 194 7 7 := ⟨R_M, F_M, 16, rfl, by decide, i_M, w_M_194⟩
set_option maxRecDepth 100000 in
theorem fp_M_194 : sv_FP "WordChainModel" 194 7 7 (.array .int) true := ⟨R_M, F_M, 16, t_M, rfl, by decide, i_M, w_M_194, t_M_ok, n_M, rfl, fun _ => rfl, by decide +kernel⟩
set_option maxRecDepth 100000 in
theorem w_M_218 : Cond.fieldLink "WordChainModel" 218 "WordChainModel" "charMany" "I" ∈ sv_tbl := (sv_at 781 rfl rfl)
set_option maxRecDepth 100000 in
theorem fg_M_218 : sv_FL "WordChainModel" 218 7 8 := ⟨R_M, F_M, 16, rfl, by decide, i_M, w_M_218⟩
set_option maxRecDepth 100000 in
theorem fp_M_218 : sv_FP "WordChainModel" 218 7 8 (.int) false := ⟨R_M, F_M, 16, t_M, rfl, by decide, i_M, w_M_218, t_M_ok, n_M, rfl, fun _ => rfl, by decide +kernel⟩
set_option maxRecDepth 100000 in
theorem w_M_198 : Cond.fieldLink "WordChainModel" 198 "WordChainModel" "cutChars" "[I" ∈ sv_tbl := (sv_at 782 rfl rfl)
set_option maxRecDepth 100000 in
theorem fg_M_198 : sv_FL "WordChainModel" 198 7 9 := ⟨R_M, F_M, 16, rfl, by decide, i_M, w_M_198⟩
set_option maxRecDepth 100000 in
theorem fp_M_198 : sv_FP "WordChainModel" 198 7 9 (.array .int) true := ⟨R_M, F_M, 16, t_M, rfl, by decide, i_M, w_M_198, t_M_ok, n_M, rfl, fun _ => rfl, by decide +kernel⟩
set_option maxRecDepth 100000 in
theorem w_M_201 : Cond.fieldLink "WordChainModel" 201 "WordChainModel" "cutAt" "[I" ∈ sv_tbl := (sv_at 783 rfl rfl)
set_option maxRecDepth 100000 in
theorem fg_M_201 : sv_FL "WordChainModel" 201 7 10 := ⟨R_M, F_M, 16, rfl, by decide, i_M, w_M_201⟩
set_option maxRecDepth 100000 in
theorem fp_M_201 : sv_FP "WordChainModel" 201 7 10 (.array .int) true := ⟨R_M, F_M, 16, t_M, rfl, by decide, i_M, w_M_201, t_M_ok, n_M, rfl, fun _ => rfl, by decide +kernel⟩
set_option maxRecDepth 100000 in
theorem w_M_204 : Cond.fieldLink "WordChainModel" 204 "WordChainModel" "cutPosition" "[I" ∈ sv_tbl := (sv_at 784 rfl rfl)
set_option maxRecDepth 100000 in
theorem fg_M_204 : sv_FL "WordChainModel" 204 7 11 := ⟨R_M, F_M, 16, rfl, by decide, i_M, w_M_204⟩
set_option maxRecDepth 100000 in
theorem fp_M_204 : sv_FP "WordChainModel" 204 7 11 (.array .int) true := ⟨R_M, F_M, 16, t_M, rfl, by decide, i_M, w_M_204, t_M_ok, n_M, rfl, fun _ => rfl, by decide +kernel⟩
set_option maxRecDepth 100000 in
theorem w_M_234 : Cond.fieldLink "WordChainModel" 234 "WordChainModel" "cutMany" "I" ∈ sv_tbl := (sv_at 785 rfl rfl)
set_option maxRecDepth 100000 in
theorem fg_M_234 : sv_FL "WordChainModel" 234 7 12 := ⟨R_M, F_M, 16, rfl, by decide, i_M, w_M_234⟩
set_option maxRecDepth 100000 in
theorem fp_M_234 : sv_FP "WordChainModel" 234 7 12 (.int) false := ⟨R_M, F_M, 16, t_M, rfl, by decide, i_M, w_M_234, t_M_ok, n_M, rfl, fun _ => rfl, by decide +kernel⟩
set_option maxRecDepth 100000 in
theorem w_M_237 : Cond.fieldLink "WordChainModel" 237 "WordChainModel" "cutWords" "I" ∈ sv_tbl := (sv_at 786 rfl rfl)
set_option maxRecDepth 100000 in
theorem fg_M_237 : sv_FL "WordChainModel" 237 7 13 := ⟨R_M, F_M, 16, rfl, by decide, i_M, w_M_237⟩
set_option maxRecDepth 100000 in
theorem fp_M_237 : sv_FP "WordChainModel" 237 7 13 (.int) false := ⟨R_M, F_M, 16, t_M, rfl, by decide, i_M, w_M_237, t_M_ok, n_M, rfl, fun _ => rfl, by decide +kernel⟩
set_option maxRecDepth 100000 in
theorem w_M_207 : Cond.fieldLink "WordChainModel" 207 "WordChainModel" "word" "[I" ∈ sv_tbl := (sv_at 787 rfl rfl)
set_option maxRecDepth 100000 in
theorem fg_M_207 : sv_FL "WordChainModel" 207 7 14 := ⟨R_M, F_M, 16, rfl, by decide, i_M, w_M_207⟩
set_option maxRecDepth 100000 in
theorem fp_M_207 : sv_FP "WordChainModel" 207 7 14 (.array .int) true := ⟨R_M, F_M, 16, t_M, rfl, by decide, i_M, w_M_207, t_M_ok, n_M, rfl, fun _ => rfl, by decide +kernel⟩
set_option maxRecDepth 100000 in
theorem w_M_254 : Cond.fieldLink "WordChainModel" 254 "WordChainModel" "wordMany" "I" ∈ sv_tbl := (sv_at 788 rfl rfl)
set_option maxRecDepth 100000 in
theorem fg_M_254 : sv_FL "WordChainModel" 254 7 15 := ⟨R_M, F_M, 16, rfl, by decide, i_M, w_M_254⟩
set_option maxRecDepth 100000 in
theorem fp_M_254 : sv_FP "WordChainModel" 254 7 15 (.int) false := ⟨R_M, F_M, 16, t_M, rfl, by decide, i_M, w_M_254, t_M_ok, n_M, rfl, fun _ => rfl, by decide +kernel⟩
set_option maxRecDepth 100000 in
theorem lk_L_36 : sv_LK 2 "WordChainLaw" 36 y_X_init b_X_init 1 none 0 := ⟨(sv_at 62 rfl rfl), (sv_at 64 rfl rfl), (sv_at 38 rfl rfl), by decide +kernel, ⟨rfl, (sv_at 63 rfl rfl)⟩⟩
set_option maxRecDepth 100000 in
theorem lk_X_19 : sv_LK 2 "WordChain" 19 y_Te_init b_Te_init 2 none 1 := ⟨(sv_at 70 rfl rfl), (sv_at 72 rfl rfl), (sv_at 39 rfl rfl), by decide +kernel, ⟨rfl, (sv_at 71 rfl rfl)⟩⟩
set_option maxRecDepth 100000 in
theorem lk_X_28 : sv_LK 2 "WordChain" 28 y_Si_init b_Si_init 4 none 0 := ⟨(sv_at 87 rfl rfl), (sv_at 89 rfl rfl), (sv_at 40 rfl rfl), by decide +kernel, ⟨rfl, (sv_at 88 rfl rfl)⟩⟩
set_option maxRecDepth 100000 in
theorem lk_Si_15 : sv_LK 0 "WordChain$SilentWords" 15 y_Str_length b_Str_length 1 (some (.int)) 0 := ⟨(sv_at 92 rfl rfl), (sv_at 95 rfl rfl), (sv_at 41 rfl rfl), by decide +kernel, ⟨(sv_at 93 rfl rfl), (sv_at 94 rfl rfl)⟩⟩
set_option maxRecDepth 100000 in
theorem lk_Str_335 : sv_LK 0 "java/lang/String" 335 y_Str_coder b_Str_coder 1 (some (.byte)) 0 := ⟨(sv_at 96 rfl rfl), (sv_at 99 rfl rfl), (sv_at 41 rfl rfl), by decide +kernel, ⟨(sv_at 97 rfl rfl), (sv_at 98 rfl rfl)⟩⟩
set_option maxRecDepth 100000 in
theorem lk_Si_21 : sv_LK 0 "WordChain$SilentWords" 21 y_Str_charAt b_Str_charAt 2 (some (.char)) 1 := ⟨(sv_at 102 rfl rfl), (sv_at 105 rfl rfl), (sv_at 41 rfl rfl), by decide +kernel, ⟨(sv_at 103 rfl rfl), (sv_at 104 rfl rfl)⟩⟩
set_option maxRecDepth 100000 in
theorem lk_Str_492 : sv_LK 0 "java/lang/String" 492 y_Str_isLatin1 b_Str_isLatin1 1 (some (.boolean)) 0 := ⟨(sv_at 106 rfl rfl), (sv_at 109 rfl rfl), (sv_at 41 rfl rfl), by decide +kernel, ⟨(sv_at 107 rfl rfl), (sv_at 108 rfl rfl)⟩⟩
set_option maxRecDepth 100000 in
theorem lk_Str_495 : sv_LK 1 "java/lang/String" 495 y_Lat_charAt b_Lat_charAt 2 (some (.char)) 2 := ⟨(sv_at 110 rfl rfl), (sv_at 112 rfl rfl), (sv_at 42 rfl rfl), by decide +kernel, (sv_at 111 rfl rfl)⟩
set_option maxRecDepth 100000 in
theorem lk_Lat_9 : sv_LK 1 "java/lang/StringLatin1" 9 y_Str_checkIndex b_Str_checkIndex 2 none 2 := ⟨(sv_at 113 rfl rfl), (sv_at 115 rfl rfl), (sv_at 41 rfl rfl), by decide +kernel, (sv_at 114 rfl rfl)⟩
set_option maxRecDepth 100000 in
theorem lk_Str_1059 : sv_LK 1 "java/lang/String" 1059 y_Pre_checkIndex b_Pre_checkIndex 3 (some (.int)) 3 := ⟨(sv_at 118 rfl rfl), (sv_at 120 rfl rfl), (sv_at 43 rfl rfl), by decide +kernel, (sv_at 119 rfl rfl)⟩
set_option maxRecDepth 100000 in
theorem lk_Str_498 : sv_LK 1 "java/lang/String" 498 y_U16_charAt b_U16_charAt 2 (some (.char)) 2 := ⟨(sv_at 121 rfl rfl), (sv_at 123 rfl rfl), (sv_at 44 rfl rfl), by decide +kernel, (sv_at 122 rfl rfl)⟩
set_option maxRecDepth 100000 in
theorem lk_U16_67 : sv_LK 1 "java/lang/StringUTF16" 67 y_U16_checkIndex b_U16_checkIndex 2 none 2 := ⟨(sv_at 124 rfl rfl), (sv_at 126 rfl rfl), (sv_at 44 rfl rfl), by decide +kernel, (sv_at 125 rfl rfl)⟩
set_option maxRecDepth 100000 in
theorem lk_U16_48 : sv_LK 1 "java/lang/StringUTF16" 48 y_U16_length b_U16_length 1 (some (.int)) 1 := ⟨(sv_at 127 rfl rfl), (sv_at 129 rfl rfl), (sv_at 44 rfl rfl), by decide +kernel, (sv_at 128 rfl rfl)⟩
set_option maxRecDepth 100000 in
theorem lk_U16_414 : sv_LK 1 "java/lang/StringUTF16" 414 y_Str_checkIndex b_Str_checkIndex 2 none 2 := ⟨(sv_at 130 rfl rfl), (sv_at 115 rfl rfl), (sv_at 41 rfl rfl), by decide +kernel, (sv_at 114 rfl rfl)⟩
set_option maxRecDepth 100000 in
theorem lk_U16_71 : sv_LK 1 "java/lang/StringUTF16" 71 y_U16_getChar b_U16_getChar 2 (some (.char)) 2 := ⟨(sv_at 131 rfl rfl), (sv_at 133 rfl rfl), (sv_at 44 rfl rfl), by decide +kernel, (sv_at 132 rfl rfl)⟩
set_option maxRecDepth 100000 in
theorem lk_Si_25 : sv_LK 1 "WordChain$SilentWords" 25 y_Si_withLetter b_Si_withLetter 2 (some (.int)) 2 := ⟨(sv_at 140 rfl rfl), (sv_at 142 rfl rfl), (sv_at 40 rfl rfl), by decide +kernel, (sv_at 141 rfl rfl)⟩
set_option maxRecDepth 100000 in
theorem lk_X_35 : sv_LK 2 "WordChain" 35 y_Sm_init b_Sm_init 2 none 1 := ⟨(sv_at 149 rfl rfl), (sv_at 151 rfl rfl), (sv_at 45 rfl rfl), by decide +kernel, ⟨rfl, (sv_at 150 rfl rfl)⟩⟩
set_option maxRecDepth 100000 in
theorem lk_Sm_13 : sv_LK 2 "WordChain$Stemmer" 13 y_En_init b_En_init 3 none 2 := ⟨(sv_at 158 rfl rfl), (sv_at 160 rfl rfl), (sv_at 46 rfl rfl), by decide +kernel, ⟨rfl, (sv_at 159 rfl rfl)⟩⟩
set_option maxRecDepth 100000 in
theorem lk_Sm_150 : sv_LK 2 "WordChain$Stemmer" 150 y_Wo_init b_Wo_init 2 none 1 := ⟨(sv_at 230 rfl rfl), (sv_at 232 rfl rfl), (sv_at 47 rfl rfl), by decide +kernel, ⟨rfl, (sv_at 231 rfl rfl)⟩⟩
set_option maxRecDepth 100000 in
theorem lk_X_42 : sv_LK 2 "WordChain" 42 y_To_init b_To_init 2 none 1 := ⟨(sv_at 273 rfl rfl), (sv_at 275 rfl rfl), (sv_at 48 rfl rfl), by decide +kernel, ⟨rfl, (sv_at 274 rfl rfl)⟩⟩
set_option maxRecDepth 100000 in
theorem lk_L_54 : sv_LK 0 "WordChainLaw" 54 y_X_cut b_X_cut 3 (some (.int)) 0 := ⟨(sv_at 316 rfl rfl), (sv_at 319 rfl rfl), (sv_at 38 rfl rfl), by decide +kernel, ⟨(sv_at 317 rfl rfl), (sv_at 318 rfl rfl)⟩⟩
set_option maxRecDepth 100000 in
theorem lk_X_65 : sv_LK 0 "WordChain" 65 y_Te_read b_Te_read 5 none 2 := ⟨(sv_at 320 rfl rfl), (sv_at 323 rfl rfl), (sv_at 39 rfl rfl), by decide +kernel, ⟨(sv_at 321 rfl rfl), (sv_at 322 rfl rfl)⟩⟩
set_option maxRecDepth 100000 in
theorem lk_Te_17 : sv_LK 1 "WordChain$Text" 17 y_Ut_sizeAt b_Ut_sizeAt 6 (some (.int)) 3 := ⟨(sv_at 324 rfl rfl), (sv_at 326 rfl rfl), (sv_at 55 rfl rfl), by decide +kernel, (sv_at 325 rfl rfl)⟩
set_option maxRecDepth 100000 in
theorem lk_Ut_7 : sv_LK 1 "WordChain$Utf8" 7 y_Ut_sizeByLead b_Ut_sizeByLead 1 (some (.int)) 1 := ⟨(sv_at 327 rfl rfl), (sv_at 329 rfl rfl), (sv_at 55 rfl rfl), by decide +kernel, (sv_at 328 rfl rfl)⟩
set_option maxRecDepth 100000 in
theorem lk_Ut_13 : sv_LK 1 "WordChain$Utf8" 13 y_Ut_isSecond b_Ut_isSecond 4 (some (.boolean)) 2 := ⟨(sv_at 330 rfl rfl), (sv_at 332 rfl rfl), (sv_at 55 rfl rfl), by decide +kernel, (sv_at 331 rfl rfl)⟩
set_option maxRecDepth 100000 in
theorem lk_Te_24 : sv_LK 1 "WordChain$Text" 24 y_Ut_valueAt b_Ut_valueAt 5 (some (.int)) 3 := ⟨(sv_at 334 rfl rfl), (sv_at 336 rfl rfl), (sv_at 55 rfl rfl), by decide +kernel, (sv_at 335 rfl rfl)⟩
set_option maxRecDepth 100000 in
theorem lk_X_69 : sv_LK 0 "WordChain" 69 y_To_clear b_To_clear 1 none 0 := ⟨(sv_at 340 rfl rfl), (sv_at 343 rfl rfl), (sv_at 48 rfl rfl), by decide +kernel, ⟨(sv_at 341 rfl rfl), (sv_at 342 rfl rfl)⟩⟩
set_option maxRecDepth 100000 in
theorem lk_X_75 : sv_LK 0 "WordChain" 75 y_Te_spanEnd b_Te_spanEnd 3 (some (.int)) 1 := ⟨(sv_at 344 rfl rfl), (sv_at 347 rfl rfl), (sv_at 39 rfl rfl), by decide +kernel, ⟨(sv_at 345 rfl rfl), (sv_at 346 rfl rfl)⟩⟩
set_option maxRecDepth 100000 in
theorem lk_Te_33 : sv_LK 0 "WordChain$Text" 33 y_Te_sortAt b_Te_sortAt 2 (some (.int)) 1 := ⟨(sv_at 348 rfl rfl), (sv_at 351 rfl rfl), (sv_at 39 rfl rfl), by decide +kernel, ⟨(sv_at 350 rfl rfl), (sv_at 0 rfl rfl)⟩⟩
set_option maxRecDepth 100000 in
theorem lk_Te_50 : sv_LK 1 "WordChain$Text" 50 y_So_of b_So_of 1 (some (.int)) 1 := ⟨(sv_at 352 rfl rfl), (sv_at 354 rfl rfl), (sv_at 57 rfl rfl), by decide +kernel, (sv_at 353 rfl rfl)⟩
set_option maxRecDepth 100000 in
theorem lk_So_7 : sv_LK 1 "WordChain$Sorts" 7 y_So_isLetter b_So_isLetter 1 (some (.boolean)) 1 := ⟨(sv_at 355 rfl rfl), (sv_at 357 rfl rfl), (sv_at 57 rfl rfl), by decide +kernel, (sv_at 356 rfl rfl)⟩
set_option maxRecDepth 100000 in
theorem lk_Te_37 : sv_LK 1 "WordChain$Text" 37 y_So_isInner b_So_isInner 1 (some (.boolean)) 1 := ⟨(sv_at 359 rfl rfl), (sv_at 361 rfl rfl), (sv_at 57 rfl rfl), by decide +kernel, (sv_at 360 rfl rfl)⟩
set_option maxRecDepth 100000 in
theorem lk_Te_43 : sv_LK 0 "WordChain$Text" 43 y_Te_isTie b_Te_isTie 3 (some (.boolean)) 1 := ⟨(sv_at 362 rfl rfl), (sv_at 365 rfl rfl), (sv_at 39 rfl rfl), by decide +kernel, ⟨(sv_at 364 rfl rfl), (sv_at 1 rfl rfl)⟩⟩
set_option maxRecDepth 100000 in
theorem lk_Te_46 : sv_LK 1 "WordChain$Text" 46 y_So_ties b_So_ties 2 (some (.boolean)) 2 := ⟨(sv_at 366 rfl rfl), (sv_at 368 rfl rfl), (sv_at 57 rfl rfl), by decide +kernel, (sv_at 367 rfl rfl)⟩
set_option maxRecDepth 100000 in
theorem lk_X_79 : sv_LK 0 "WordChain" 79 y_Te_isWord b_Te_isWord 5 (some (.boolean)) 2 := ⟨(sv_at 369 rfl rfl), (sv_at 372 rfl rfl), (sv_at 39 rfl rfl), by decide +kernel, ⟨(sv_at 370 rfl rfl), (sv_at 371 rfl rfl)⟩⟩
set_option maxRecDepth 100000 in
theorem lk_X_83 : sv_LK 0 "WordChain" 83 y_X_takeWords b_X_takeWords 5 none 2 := ⟨(sv_at 373 rfl rfl), (sv_at 376 rfl rfl), (sv_at 38 rfl rfl), by decide +kernel, ⟨(sv_at 375 rfl rfl), (sv_at 2 rfl rfl)⟩⟩
set_option maxRecDepth 100000 in
theorem lk_X_141 : sv_LK 0 "WordChain" 141 y_Wo_take b_Wo_take 4 none 3 := ⟨(sv_at 380 rfl rfl), (sv_at 383 rfl rfl), (sv_at 47 rfl rfl), by decide +kernel, ⟨(sv_at 381 rfl rfl), (sv_at 382 rfl rfl)⟩⟩
set_option maxRecDepth 100000 in
theorem lk_X_147 : sv_LK 0 "WordChain" 147 y_Wo_dropOwnersEnding b_Wo_dropOwnersEnding 3 none 0 := ⟨(sv_at 387 rfl rfl), (sv_at 390 rfl rfl), (sv_at 47 rfl rfl), by decide +kernel, ⟨(sv_at 388 rfl rfl), (sv_at 389 rfl rfl)⟩⟩
set_option maxRecDepth 100000 in
theorem lk_X_150 : sv_LK 0 "WordChain" 150 y_Wo_lower b_Wo_lower 2 none 0 := ⟨(sv_at 391 rfl rfl), (sv_at 394 rfl rfl), (sv_at 47 rfl rfl), by decide +kernel, ⟨(sv_at 392 rfl rfl), (sv_at 393 rfl rfl)⟩⟩
set_option maxRecDepth 100000 in
theorem lk_Wo_23 : sv_LK 1 "WordChain$Word" 23 y_Wo_lowered b_Wo_lowered 1 (some (.int)) 1 := ⟨(sv_at 395 rfl rfl), (sv_at 397 rfl rfl), (sv_at 47 rfl rfl), by decide +kernel, (sv_at 396 rfl rfl)⟩
set_option maxRecDepth 100000 in
theorem lk_X_153 : sv_LK 0 "WordChain" 153 y_Si_have b_Si_have 4 (some (.boolean)) 1 := ⟨(sv_at 398 rfl rfl), (sv_at 401 rfl rfl), (sv_at 40 rfl rfl), by decide +kernel, ⟨(sv_at 399 rfl rfl), (sv_at 400 rfl rfl)⟩⟩
set_option maxRecDepth 100000 in
theorem lk_Si_34 : sv_LK 0 "WordChain$SilentWords" 34 y_Wo_isSmallLetters b_Wo_isSmallLetters 2 (some (.boolean)) 0 := ⟨(sv_at 402 rfl rfl), (sv_at 405 rfl rfl), (sv_at 47 rfl rfl), by decide +kernel, ⟨(sv_at 403 rfl rfl), (sv_at 404 rfl rfl)⟩⟩
set_option maxRecDepth 100000 in
theorem lk_X_157 : sv_LK 0 "WordChain" 157 y_Sm_stemIfFit b_Sm_stemIfFit 1 none 0 := ⟨(sv_at 406 rfl rfl), (sv_at 409 rfl rfl), (sv_at 45 rfl rfl), by decide +kernel, ⟨(sv_at 407 rfl rfl), (sv_at 408 rfl rfl)⟩⟩
set_option maxRecDepth 100000 in
theorem lk_Sm_165 : sv_LK 0 "WordChain$Stemmer" 165 y_Wo_isSmallLetters b_Wo_isSmallLetters 2 (some (.boolean)) 0 := ⟨(sv_at 410 rfl rfl), (sv_at 405 rfl rfl), (sv_at 47 rfl rfl), by decide +kernel, ⟨(sv_at 403 rfl rfl), (sv_at 404 rfl rfl)⟩⟩
set_option maxRecDepth 100000 in
theorem lk_Sm_169 : sv_LK 0 "WordChain$Stemmer" 169 y_Sm_markVowels b_Sm_markVowels 4 none 0 := ⟨(sv_at 411 rfl rfl), (sv_at 414 rfl rfl), (sv_at 45 rfl rfl), by decide +kernel, ⟨(sv_at 413 rfl rfl), (sv_at 3 rfl rfl)⟩⟩
set_option maxRecDepth 100000 in
theorem lk_Sm_172 : sv_LK 0 "WordChain$Stemmer" 172 y_Sm_step1a b_Sm_step1a 2 none 0 := ⟨(sv_at 415 rfl rfl), (sv_at 418 rfl rfl), (sv_at 45 rfl rfl), by decide +kernel, ⟨(sv_at 417 rfl rfl), (sv_at 4 rfl rfl)⟩⟩
set_option maxRecDepth 100000 in
theorem lk_Sm_194 : sv_LK 0 "WordChain$Stemmer" 194 y_Sm_longest b_Sm_longest 6 (some (.object "WordChain$Ending")) 1 := ⟨(sv_at 419 rfl rfl), (sv_at 422 rfl rfl), (sv_at 45 rfl rfl), by decide +kernel, ⟨(sv_at 421 rfl rfl), (sv_at 5 rfl rfl)⟩⟩
set_option maxRecDepth 100000 in
theorem lk_Sm_256 : sv_LK 0 "WordChain$Stemmer" 256 y_Str_length b_Str_length 1 (some (.int)) 0 := ⟨(sv_at 423 rfl rfl), (sv_at 95 rfl rfl), (sv_at 41 rfl rfl), by decide +kernel, ⟨(sv_at 93 rfl rfl), (sv_at 94 rfl rfl)⟩⟩
set_option maxRecDepth 100000 in
theorem lk_Sm_232 : sv_LK 0 "WordChain$Stemmer" 232 y_Wo_endsWith b_Wo_endsWith 4 (some (.boolean)) 1 := ⟨(sv_at 424 rfl rfl), (sv_at 427 rfl rfl), (sv_at 47 rfl rfl), by decide +kernel, ⟨(sv_at 425 rfl rfl), (sv_at 426 rfl rfl)⟩⟩
set_option maxRecDepth 100000 in
theorem lk_Wo_27 : sv_LK 0 "WordChain$Word" 27 y_Str_length b_Str_length 1 (some (.int)) 0 := ⟨(sv_at 428 rfl rfl), (sv_at 95 rfl rfl), (sv_at 41 rfl rfl), by decide +kernel, ⟨(sv_at 93 rfl rfl), (sv_at 94 rfl rfl)⟩⟩
set_option maxRecDepth 100000 in
theorem lk_Wo_32 : sv_LK 0 "WordChain$Word" 32 y_Str_charAt b_Str_charAt 2 (some (.char)) 1 := ⟨(sv_at 429 rfl rfl), (sv_at 105 rfl rfl), (sv_at 41 rfl rfl), by decide +kernel, ⟨(sv_at 103 rfl rfl), (sv_at 104 rfl rfl)⟩⟩
set_option maxRecDepth 100000 in
theorem lk_Sm_198 : sv_LK 0 "WordChain$Stemmer" 198 y_Sm_stemBefore b_Sm_stemBefore 2 (some (.int)) 1 := ⟨(sv_at 430 rfl rfl), (sv_at 433 rfl rfl), (sv_at 45 rfl rfl), by decide +kernel, ⟨(sv_at 432 rfl rfl), (sv_at 6 rfl rfl)⟩⟩
set_option maxRecDepth 100000 in
theorem lk_Sm_206 : sv_LK 0 "WordChain$Stemmer" 206 y_Sm_become b_Sm_become 3 none 2 := ⟨(sv_at 434 rfl rfl), (sv_at 437 rfl rfl), (sv_at 45 rfl rfl), by decide +kernel, ⟨(sv_at 436 rfl rfl), (sv_at 7 rfl rfl)⟩⟩
set_option maxRecDepth 100000 in
theorem lk_Sm_259 : sv_LK 0 "WordChain$Stemmer" 259 y_Wo_append b_Wo_append 3 none 1 := ⟨(sv_at 438 rfl rfl), (sv_at 441 rfl rfl), (sv_at 47 rfl rfl), by decide +kernel, ⟨(sv_at 439 rfl rfl), (sv_at 440 rfl rfl)⟩⟩
set_option maxRecDepth 100000 in
theorem lk_Sm_175 : sv_LK 0 "WordChain$Stemmer" 175 y_Sm_step1b b_Sm_step1b 3 none 0 := ⟨(sv_at 442 rfl rfl), (sv_at 445 rfl rfl), (sv_at 45 rfl rfl), by decide +kernel, ⟨(sv_at 444 rfl rfl), (sv_at 8 rfl rfl)⟩⟩
set_option maxRecDepth 100000 in
theorem lk_Sm_213 : sv_LK 0 "WordChain$Stemmer" 213 y_Str_equals b_Str_equals 3 (some (.boolean)) 1 := ⟨(sv_at 446 rfl rfl), (sv_at 449 rfl rfl), (sv_at 41 rfl rfl), by decide +kernel, ⟨(sv_at 447 rfl rfl), (sv_at 448 rfl rfl)⟩⟩
set_option maxRecDepth 100000 in
theorem lk_Str_541 : sv_LK 1 "java/lang/String" 541 y_Lat_equals b_Lat_equals 3 (some (.boolean)) 2 := ⟨(sv_at 451 rfl rfl), (sv_at 453 rfl rfl), (sv_at 42 rfl rfl), by decide +kernel, (sv_at 452 rfl rfl)⟩
set_option maxRecDepth 100000 in
theorem lk_Sm_219 : sv_LK 0 "WordChain$Stemmer" 219 y_Sm_measure b_Sm_measure 4 (some (.int)) 1 := ⟨(sv_at 454 rfl rfl), (sv_at 457 rfl rfl), (sv_at 45 rfl rfl), by decide +kernel, ⟨(sv_at 456 rfl rfl), (sv_at 9 rfl rfl)⟩⟩
set_option maxRecDepth 100000 in
theorem lk_Sm_223 : sv_LK 0 "WordChain$Stemmer" 223 y_Sm_hasVowel b_Sm_hasVowel 3 (some (.boolean)) 1 := ⟨(sv_at 458 rfl rfl), (sv_at 461 rfl rfl), (sv_at 45 rfl rfl), by decide +kernel, ⟨(sv_at 460 rfl rfl), (sv_at 10 rfl rfl)⟩⟩
set_option maxRecDepth 100000 in
theorem lk_Sm_227 : sv_LK 0 "WordChain$Stemmer" 227 y_Sm_mendAfter1b b_Sm_mendAfter1b 1 none 0 := ⟨(sv_at 462 rfl rfl), (sv_at 465 rfl rfl), (sv_at 45 rfl rfl), by decide +kernel, ⟨(sv_at 464 rfl rfl), (sv_at 11 rfl rfl)⟩⟩
set_option maxRecDepth 100000 in
theorem lk_Sm_240 : sv_LK 0 "WordChain$Stemmer" 240 y_Sm_isDouble b_Sm_isDouble 2 (some (.boolean)) 0 := ⟨(sv_at 469 rfl rfl), (sv_at 472 rfl rfl), (sv_at 45 rfl rfl), by decide +kernel, ⟨(sv_at 471 rfl rfl), (sv_at 12 rfl rfl)⟩⟩
set_option maxRecDepth 100000 in
theorem lk_Sm_247 : sv_LK 0 "WordChain$Stemmer" 247 y_Sm_isCvc b_Sm_isCvc 3 (some (.boolean)) 1 := ⟨(sv_at 475 rfl rfl), (sv_at 478 rfl rfl), (sv_at 45 rfl rfl), by decide +kernel, ⟨(sv_at 477 rfl rfl), (sv_at 13 rfl rfl)⟩⟩
set_option maxRecDepth 100000 in
theorem lk_Sm_178 : sv_LK 0 "WordChain$Stemmer" 178 y_Sm_step1c b_Sm_step1c 2 none 0 := ⟨(sv_at 479 rfl rfl), (sv_at 482 rfl rfl), (sv_at 45 rfl rfl), by decide +kernel, ⟨(sv_at 481 rfl rfl), (sv_at 14 rfl rfl)⟩⟩
set_option maxRecDepth 100000 in
theorem lk_Sm_181 : sv_LK 0 "WordChain$Stemmer" 181 y_Sm_replaceIfAbove b_Sm_replaceIfAbove 4 none 2 := ⟨(sv_at 484 rfl rfl), (sv_at 487 rfl rfl), (sv_at 45 rfl rfl), by decide +kernel, ⟨(sv_at 486 rfl rfl), (sv_at 15 rfl rfl)⟩⟩
set_option maxRecDepth 100000 in
theorem lk_Sm_185 : sv_LK 0 "WordChain$Stemmer" 185 y_Sm_step4 b_Sm_step4 2 none 0 := ⟨(sv_at 488 rfl rfl), (sv_at 491 rfl rfl), (sv_at 45 rfl rfl), by decide +kernel, ⟨(sv_at 490 rfl rfl), (sv_at 16 rfl rfl)⟩⟩
set_option maxRecDepth 100000 in
theorem lk_Sm_188 : sv_LK 0 "WordChain$Stemmer" 188 y_Sm_step5a b_Sm_step5a 3 none 0 := ⟨(sv_at 493 rfl rfl), (sv_at 496 rfl rfl), (sv_at 45 rfl rfl), by decide +kernel, ⟨(sv_at 495 rfl rfl), (sv_at 17 rfl rfl)⟩⟩
set_option maxRecDepth 100000 in
theorem lk_Sm_191 : sv_LK 0 "WordChain$Stemmer" 191 y_Sm_step5b b_Sm_step5b 1 none 0 := ⟨(sv_at 497 rfl rfl), (sv_at 500 rfl rfl), (sv_at 45 rfl rfl), by decide +kernel, ⟨(sv_at 499 rfl rfl), (sv_at 18 rfl rfl)⟩⟩
set_option maxRecDepth 100000 in
theorem lk_X_160 : sv_LK 0 "WordChain" 160 y_To_add b_To_add 4 none 2 := ⟨(sv_at 502 rfl rfl), (sv_at 505 rfl rfl), (sv_at 48 rfl rfl), by decide +kernel, ⟨(sv_at 503 rfl rfl), (sv_at 504 rfl rfl)⟩⟩
set_option maxRecDepth 100000 in
theorem lk_L_71 : sv_LK 0 "WordChainLaw" 71 y_X_count b_X_count 2 (some (.int)) 1 := ⟨(sv_at 508 rfl rfl), (sv_at 511 rfl rfl), (sv_at 38 rfl rfl), by decide +kernel, ⟨(sv_at 509 rfl rfl), (sv_at 510 rfl rfl)⟩⟩
set_option maxRecDepth 100000 in
theorem lk_L_7 : sv_LK 0 "WordChainLaw" 7 y_X_feed b_X_feed 6 (some (.int)) 5 := ⟨(sv_at 516 rfl rfl), (sv_at 519 rfl rfl), (sv_at 38 rfl rfl), by decide +kernel, ⟨(sv_at 517 rfl rfl), (sv_at 518 rfl rfl)⟩⟩
set_option maxRecDepth 100000 in
theorem lk_X_57 : sv_LK 0 "WordChain" 57 y_X_append b_X_append 3 none 1 := ⟨(sv_at 587 rfl rfl), (sv_at 590 rfl rfl), (sv_at 38 rfl rfl), by decide +kernel, ⟨(sv_at 589 rfl rfl), (sv_at 20 rfl rfl)⟩⟩
set_option maxRecDepth 100000 in
theorem lk_L_15 : sv_LK 0 "WordChainLaw" 15 y_X_end b_X_end 2 (some (.int)) 1 := ⟨(sv_at 595 rfl rfl), (sv_at 598 rfl rfl), (sv_at 38 rfl rfl), by decide +kernel, ⟨(sv_at 596 rfl rfl), (sv_at 597 rfl rfl)⟩⟩
set_option maxRecDepth 100000 in
theorem lk_L_21 : sv_LK 0 "WordChainLaw" 21 y_X_token b_X_token 3 (some (.int)) 2 := ⟨(sv_at 619 rfl rfl), (sv_at 622 rfl rfl), (sv_at 38 rfl rfl), by decide +kernel, ⟨(sv_at 620 rfl rfl), (sv_at 621 rfl rfl)⟩⟩
set_option maxRecDepth 100000 in
theorem lk_X_98 : sv_LK 0 "WordChain" 98 y_To_has b_To_has 2 (some (.boolean)) 1 := ⟨(sv_at 624 rfl rfl), (sv_at 627 rfl rfl), (sv_at 48 rfl rfl), by decide +kernel, ⟨(sv_at 625 rfl rfl), (sv_at 626 rfl rfl)⟩⟩
set_option maxRecDepth 100000 in
theorem lk_X_111 : sv_LK 0 "WordChain" 111 y_To_lengthOf b_To_lengthOf 2 (some (.int)) 1 := ⟨(sv_at 644 rfl rfl), (sv_at 647 rfl rfl), (sv_at 48 rfl rfl), by decide +kernel, ⟨(sv_at 645 rfl rfl), (sv_at 646 rfl rfl)⟩⟩
set_option maxRecDepth 100000 in
theorem lk_L_27 : sv_LK 0 "WordChainLaw" 27 y_X_character b_X_character 3 (some (.int)) 2 := ⟨(sv_at 651 rfl rfl), (sv_at 654 rfl rfl), (sv_at 38 rfl rfl), by decide +kernel, ⟨(sv_at 652 rfl rfl), (sv_at 653 rfl rfl)⟩⟩
set_option maxRecDepth 100000 in
theorem lk_L_30 : sv_LK 0 "WordChainLaw" 30 y_X_first b_X_first 2 (some (.int)) 1 := ⟨(sv_at 659 rfl rfl), (sv_at 662 rfl rfl), (sv_at 38 rfl rfl), by decide +kernel, ⟨(sv_at 660 rfl rfl), (sv_at 661 rfl rfl)⟩⟩
set_option maxRecDepth 100000 in
theorem lk_X_122 : sv_LK 0 "WordChain" 122 y_To_firstLike b_To_firstLike 3 (some (.int)) 1 := ⟨(sv_at 663 rfl rfl), (sv_at 666 rfl rfl), (sv_at 48 rfl rfl), by decide +kernel, ⟨(sv_at 664 rfl rfl), (sv_at 665 rfl rfl)⟩⟩
set_option maxRecDepth 100000 in
theorem lk_To_35 : sv_LK 0 "WordChain$Tokens" 35 y_To_areAlike b_To_areAlike 5 (some (.boolean)) 2 := ⟨(sv_at 667 rfl rfl), (sv_at 670 rfl rfl), (sv_at 48 rfl rfl), by decide +kernel, ⟨(sv_at 669 rfl rfl), (sv_at 21 rfl rfl)⟩⟩
set_option maxRecDepth 100000 in
theorem lk_To_39 : sv_LK 0 "WordChain$Tokens" 39 y_To_lengthOf b_To_lengthOf 2 (some (.int)) 1 := ⟨(sv_at 671 rfl rfl), (sv_at 647 rfl rfl), (sv_at 48 rfl rfl), by decide +kernel, ⟨(sv_at 645 rfl rfl), (sv_at 646 rfl rfl)⟩⟩
set_option maxRecDepth 100000 in
theorem lk_L_33 : sv_LK 0 "WordChainLaw" 33 y_X_sort b_X_sort 2 (some (.int)) 1 := ⟨(sv_at 675 rfl rfl), (sv_at 678 rfl rfl), (sv_at 38 rfl rfl), by decide +kernel, ⟨(sv_at 676 rfl rfl), (sv_at 677 rfl rfl)⟩⟩
set_option maxRecDepth 100000 in
theorem lk_X_128 : sv_LK 1 "WordChain" 128 y_So_of b_So_of 1 (some (.int)) 1 := ⟨(sv_at 681 rfl rfl), (sv_at 354 rfl rfl), (sv_at 57 rfl rfl), by decide +kernel, (sv_at 353 rfl rfl)⟩
set_option maxRecDepth 100000 in
theorem lk_L_39 : sv_LK 2 "WordChainLaw" 39 y_M_init b_M_init 1 none 0 := ⟨(sv_at 684 rfl rfl), (sv_at 686 rfl rfl), (sv_at 49 rfl rfl), by decide +kernel, ⟨rfl, (sv_at 685 rfl rfl)⟩⟩
set_option maxRecDepth 100000 in
theorem lk_L_46 : sv_LK 0 "WordChainLaw" 46 y_M_thrown b_M_thrown 1 (some (.int)) 0 := ⟨(sv_at 822 rfl rfl), (sv_at 825 rfl rfl), (sv_at 49 rfl rfl), by decide +kernel, ⟨(sv_at 823 rfl rfl), (sv_at 824 rfl rfl)⟩⟩
set_option maxRecDepth 100000 in
theorem lk_L_45 : sv_LK 0 "WordChainLaw" 45 y_M_feed b_M_feed 8 (some (.int)) 5 := ⟨(sv_at 826 rfl rfl), (sv_at 829 rfl rfl), (sv_at 49 rfl rfl), by decide +kernel, ⟨(sv_at 827 rfl rfl), (sv_at 828 rfl rfl)⟩⟩
set_option maxRecDepth 100000 in
theorem lk_L_53 : sv_LK 0 "WordChainLaw" 53 y_M_end b_M_end 2 (some (.int)) 1 := ⟨(sv_at 830 rfl rfl), (sv_at 833 rfl rfl), (sv_at 49 rfl rfl), by decide +kernel, ⟨(sv_at 831 rfl rfl), (sv_at 832 rfl rfl)⟩⟩
set_option maxRecDepth 100000 in
theorem lk_L_57 : sv_LK 0 "WordChainLaw" 57 y_M_cut_v b_M_cut_v 1 (some (.int)) 0 := ⟨(sv_at 834 rfl rfl), (sv_at 837 rfl rfl), (sv_at 49 rfl rfl), by decide +kernel, ⟨(sv_at 835 rfl rfl), (sv_at 836 rfl rfl)⟩⟩
set_option maxRecDepth 100000 in
theorem lk_M_329 : sv_LK 0 "WordChainModel" 329 y_M_decode b_M_decode 7 none 3 := ⟨(sv_at 838 rfl rfl), (sv_at 841 rfl rfl), (sv_at 49 rfl rfl), by decide +kernel, ⟨(sv_at 840 rfl rfl), (sv_at 22 rfl rfl)⟩⟩
set_option maxRecDepth 100000 in
theorem lk_M_221 : sv_LK 1 "WordChainModel" 221 y_M_formed b_M_formed 7 (some (.int)) 3 := ⟨(sv_at 842 rfl rfl), (sv_at 844 rfl rfl), (sv_at 49 rfl rfl), by decide +kernel, (sv_at 843 rfl rfl)⟩
set_option maxRecDepth 100000 in
theorem lk_M_214 : sv_LK 1 "WordChainModel" 214 y_M_tail b_M_tail 1 (some (.boolean)) 1 := ⟨(sv_at 845 rfl rfl), (sv_at 847 rfl rfl), (sv_at 49 rfl rfl), by decide +kernel, (sv_at 846 rfl rfl)⟩
set_option maxRecDepth 100000 in
theorem lk_M_333 : sv_LK 0 "WordChainModel" 333 y_M_cut_aIII b_M_cut_aIII 10 none 3 := ⟨(sv_at 849 rfl rfl), (sv_at 852 rfl rfl), (sv_at 49 rfl rfl), by decide +kernel, ⟨(sv_at 851 rfl rfl), (sv_at 23 rfl rfl)⟩⟩
set_option maxRecDepth 100000 in
theorem lk_M_227 : sv_LK 1 "WordChainModel" 227 y_M_sortOf b_M_sortOf 1 (some (.int)) 1 := ⟨(sv_at 853 rfl rfl), (sv_at 855 rfl rfl), (sv_at 49 rfl rfl), by decide +kernel, (sv_at 854 rfl rfl)⟩
set_option maxRecDepth 100000 in
theorem lk_M_231 : sv_LK 1 "WordChainModel" 231 y_M_inWord b_M_inWord 1 (some (.boolean)) 1 := ⟨(sv_at 857 rfl rfl), (sv_at 859 rfl rfl), (sv_at 49 rfl rfl), by decide +kernel, (sv_at 858 rfl rfl)⟩
set_option maxRecDepth 100000 in
theorem lk_M_240 : sv_LK 1 "WordChainModel" 240 y_M_further b_M_further 6 (some (.int)) 3 := ⟨(sv_at 860 rfl rfl), (sv_at 862 rfl rfl), (sv_at 49 rfl rfl), by decide +kernel, (sv_at 861 rfl rfl)⟩
set_option maxRecDepth 100000 in
theorem lk_M_250 : sv_LK 0 "WordChainModel" 250 y_M_token_aIII b_M_token_aIII 10 none 3 := ⟨(sv_at 864 rfl rfl), (sv_at 867 rfl rfl), (sv_at 49 rfl rfl), by decide +kernel, ⟨(sv_at 866 rfl rfl), (sv_at 24 rfl rfl)⟩⟩
set_option maxRecDepth 100000 in
theorem lk_M_257 : sv_LK 1 "WordChainModel" 257 y_M_lowered b_M_lowered 1 (some (.int)) 1 := ⟨(sv_at 868 rfl rfl), (sv_at 870 rfl rfl), (sv_at 49 rfl rfl), by decide +kernel, (sv_at 869 rfl rfl)⟩
set_option maxRecDepth 100000 in
theorem lk_M_260 : sv_LK 0 "WordChainModel" 260 y_M_is b_M_is 2 (some (.boolean)) 1 := ⟨(sv_at 871 rfl rfl), (sv_at 874 rfl rfl), (sv_at 49 rfl rfl), by decide +kernel, ⟨(sv_at 873 rfl rfl), (sv_at 25 rfl rfl)⟩⟩
set_option maxRecDepth 100000 in
theorem lk_M_266 : sv_LK 0 "WordChainModel" 266 y_Str_length b_Str_length 1 (some (.int)) 0 := ⟨(sv_at 875 rfl rfl), (sv_at 95 rfl rfl), (sv_at 41 rfl rfl), by decide +kernel, ⟨(sv_at 93 rfl rfl), (sv_at 94 rfl rfl)⟩⟩
set_option maxRecDepth 100000 in
theorem lk_M_270 : sv_LK 0 "WordChainModel" 270 y_M_ends b_M_ends 3 (some (.boolean)) 1 := ⟨(sv_at 876 rfl rfl), (sv_at 879 rfl rfl), (sv_at 49 rfl rfl), by decide +kernel, ⟨(sv_at 878 rfl rfl), (sv_at 26 rfl rfl)⟩⟩
set_option maxRecDepth 100000 in
theorem lk_M_273 : sv_LK 0 "WordChainModel" 273 y_Str_charAt b_Str_charAt 2 (some (.char)) 1 := ⟨(sv_at 880 rfl rfl), (sv_at 105 rfl rfl), (sv_at 41 rfl rfl), by decide +kernel, ⟨(sv_at 103 rfl rfl), (sv_at 104 rfl rfl)⟩⟩
set_option maxRecDepth 100000 in
theorem lk_M_263 : sv_LK 0 "WordChainModel" 263 y_M_stem b_M_stem 4 none 0 := ⟨(sv_at 881 rfl rfl), (sv_at 884 rfl rfl), (sv_at 49 rfl rfl), by decide +kernel, ⟨(sv_at 883 rfl rfl), (sv_at 27 rfl rfl)⟩⟩
set_option maxRecDepth 100000 in
theorem lk_M_288 : sv_LK 0 "WordChainModel" 288 y_M_stemOneB b_M_stemOneB 3 none 0 := ⟨(sv_at 889 rfl rfl), (sv_at 892 rfl rfl), (sv_at 49 rfl rfl), by decide +kernel, ⟨(sv_at 891 rfl rfl), (sv_at 28 rfl rfl)⟩⟩
set_option maxRecDepth 100000 in
theorem lk_M_300 : sv_LK 0 "WordChainModel" 300 y_M_measure b_M_measure 4 (some (.int)) 1 := ⟨(sv_at 894 rfl rfl), (sv_at 897 rfl rfl), (sv_at 49 rfl rfl), by decide +kernel, ⟨(sv_at 896 rfl rfl), (sv_at 29 rfl rfl)⟩⟩
set_option maxRecDepth 100000 in
theorem lk_M_277 : sv_LK 0 "WordChainModel" 277 y_M_vowel b_M_vowel 5 (some (.boolean)) 1 := ⟨(sv_at 898 rfl rfl), (sv_at 901 rfl rfl), (sv_at 49 rfl rfl), by decide +kernel, ⟨(sv_at 900 rfl rfl), (sv_at 30 rfl rfl)⟩⟩
set_option maxRecDepth 100000 in
theorem lk_M_293 : sv_LK 0 "WordChainModel" 293 y_M_anyVowel b_M_anyVowel 3 (some (.boolean)) 1 := ⟨(sv_at 904 rfl rfl), (sv_at 907 rfl rfl), (sv_at 49 rfl rfl), by decide +kernel, ⟨(sv_at 906 rfl rfl), (sv_at 31 rfl rfl)⟩⟩
set_option maxRecDepth 100000 in
theorem lk_M_303 : sv_LK 0 "WordChainModel" 303 y_M_instead b_M_instead 4 none 2 := ⟨(sv_at 910 rfl rfl), (sv_at 913 rfl rfl), (sv_at 49 rfl rfl), by decide +kernel, ⟨(sv_at 912 rfl rfl), (sv_at 32 rfl rfl)⟩⟩
set_option maxRecDepth 100000 in
theorem lk_M_311 : sv_LK 0 "WordChainModel" 311 y_M_cvc b_M_cvc 2 (some (.boolean)) 1 := ⟨(sv_at 914 rfl rfl), (sv_at 917 rfl rfl), (sv_at 49 rfl rfl), by decide +kernel, ⟨(sv_at 916 rfl rfl), (sv_at 33 rfl rfl)⟩⟩
set_option maxRecDepth 100000 in
theorem lk_M_296 : sv_LK 0 "WordChainModel" 296 y_M_longest b_M_longest 4 (some (.int)) 1 := ⟨(sv_at 919 rfl rfl), (sv_at 922 rfl rfl), (sv_at 49 rfl rfl), by decide +kernel, ⟨(sv_at 921 rfl rfl), (sv_at 34 rfl rfl)⟩⟩
set_option maxRecDepth 100000 in
theorem lk_M_307 : sv_LK 0 "WordChainModel" 307 y_Str_equals b_Str_equals 3 (some (.boolean)) 1 := ⟨(sv_at 923 rfl rfl), (sv_at 449 rfl rfl), (sv_at 41 rfl rfl), by decide +kernel, ⟨(sv_at 447 rfl rfl), (sv_at 448 rfl rfl)⟩⟩
set_option maxRecDepth 100000 in
theorem lk_L_61 : sv_LK 0 "WordChainLaw" 61 y_M_token_II b_M_token_II 3 (some (.int)) 2 := ⟨(sv_at 925 rfl rfl), (sv_at 928 rfl rfl), (sv_at 49 rfl rfl), by decide +kernel, ⟨(sv_at 926 rfl rfl), (sv_at 927 rfl rfl)⟩⟩
set_option maxRecDepth 100000 in
theorem lk_M_336 : sv_LK 0 "WordChainModel" 336 y_M_there b_M_there 2 (some (.boolean)) 1 := ⟨(sv_at 929 rfl rfl), (sv_at 932 rfl rfl), (sv_at 49 rfl rfl), by decide +kernel, ⟨(sv_at 931 rfl rfl), (sv_at 35 rfl rfl)⟩⟩
set_option maxRecDepth 100000 in
theorem lk_L_64 : sv_LK 0 "WordChainLaw" 64 y_M_character b_M_character 3 (some (.int)) 2 := ⟨(sv_at 933 rfl rfl), (sv_at 936 rfl rfl), (sv_at 49 rfl rfl), by decide +kernel, ⟨(sv_at 934 rfl rfl), (sv_at 935 rfl rfl)⟩⟩
set_option maxRecDepth 100000 in
theorem lk_L_67 : sv_LK 0 "WordChainLaw" 67 y_M_first b_M_first 3 (some (.int)) 1 := ⟨(sv_at 937 rfl rfl), (sv_at 940 rfl rfl), (sv_at 49 rfl rfl), by decide +kernel, ⟨(sv_at 938 rfl rfl), (sv_at 939 rfl rfl)⟩⟩
set_option maxRecDepth 100000 in
theorem lk_M_338 : sv_LK 0 "WordChainModel" 338 y_M_same b_M_same 5 (some (.boolean)) 2 := ⟨(sv_at 941 rfl rfl), (sv_at 944 rfl rfl), (sv_at 49 rfl rfl), by decide +kernel, ⟨(sv_at 943 rfl rfl), (sv_at 36 rfl rfl)⟩⟩
set_option maxRecDepth 100000 in
theorem lk_L_70 : sv_LK 0 "WordChainLaw" 70 y_M_sort b_M_sort 2 (some (.int)) 1 := ⟨(sv_at 945 rfl rfl), (sv_at 948 rfl rfl), (sv_at 49 rfl rfl), by decide +kernel, ⟨(sv_at 946 rfl rfl), (sv_at 947 rfl rfl)⟩⟩
set_option maxRecDepth 100000 in
theorem lk_L_74 : sv_LK 0 "WordChainLaw" 74 y_M_count b_M_count 2 (some (.int)) 1 := ⟨(sv_at 950 rfl rfl), (sv_at 953 rfl rfl), (sv_at 49 rfl rfl), by decide +kernel, ⟨(sv_at 951 rfl rfl), (sv_at 952 rfl rfl)⟩⟩
set_option maxRecDepth 100000 in
theorem wo_2 : Cond.instanceMethod Lib.objectInit ∈ sv_tbl := (sv_at 66 rfl rfl)
set_option maxRecDepth 100000 in
theorem wo_3 : Cond.code Lib.objectInit ⟨#[0xb1]⟩ 1 none ∈ sv_tbl := (sv_at 67 rfl rfl)
set_option maxRecDepth 100000 in
theorem wo_X : Cond.methodLink "WordChain" 1 Lib.objectInit ∈ sv_tbl := (sv_at 65 rfl rfl)
set_option maxRecDepth 100000 in
theorem wo_Te : Cond.methodLink "WordChain$Text" 1 Lib.objectInit ∈ sv_tbl := (sv_at 73 rfl rfl)
set_option maxRecDepth 100000 in
theorem wo_Si : Cond.methodLink "WordChain$SilentWords" 1 Lib.objectInit ∈ sv_tbl := (sv_at 90 rfl rfl)
set_option maxRecDepth 100000 in
theorem wo_Sm : Cond.methodLink "WordChain$Stemmer" 1 Lib.objectInit ∈ sv_tbl := (sv_at 152 rfl rfl)
set_option maxRecDepth 100000 in
theorem wo_En : Cond.methodLink "WordChain$Ending" 1 Lib.objectInit ∈ sv_tbl := (sv_at 161 rfl rfl)
set_option maxRecDepth 100000 in
theorem wo_Wo : Cond.methodLink "WordChain$Word" 1 Lib.objectInit ∈ sv_tbl := (sv_at 233 rfl rfl)
set_option maxRecDepth 100000 in
theorem wo_To : Cond.methodLink "WordChain$Tokens" 1 Lib.objectInit ∈ sv_tbl := (sv_at 276 rfl rfl)
set_option maxRecDepth 100000 in
theorem wm_max_Te : Cond.methodLink "WordChain$Text" 27 Lib.Math.max.name ∈ sv_tbl := (sv_at 337 rfl rfl)
set_option maxRecDepth 100000 in
theorem wm_min_X : Cond.methodLink "WordChain" 138 Lib.Math.min.name ∈ sv_tbl := (sv_at 377 rfl rfl)
set_option maxRecDepth 100000 in
theorem wa_Wo : Cond.methodLink "WordChain$Word" 17 arraycopyName ∈ sv_tbl := (sv_at 384 rfl rfl)
set_option maxRecDepth 100000 in
theorem wa_To : Cond.methodLink "WordChain$Tokens" 29 arraycopyName ∈ sv_tbl := (sv_at 506 rfl rfl)
set_option maxRecDepth 100000 in
theorem wm_max_X : Cond.methodLink "WordChain" 87 Lib.Math.max.name ∈ sv_tbl := (sv_at 507 rfl rfl)
set_option maxRecDepth 100000 in
theorem wo_M : Cond.methodLink "WordChainModel" 1 Lib.objectInit ∈ sv_tbl := (sv_at 687 rfl rfl)
set_option maxRecDepth 100000 in
theorem wm_min_M : Cond.methodLink "WordChainModel" 244 Lib.Math.min.name ∈ sv_tbl := (sv_at 863 rfl rfl)
set_option maxRecDepth 100000 in
theorem wm_max_2 : Cond.static Lib.Math.max.name ∈ sv_tbl := (sv_at 338 rfl rfl)
set_option maxRecDepth 100000 in
theorem wm_max_4 : Cond.code Lib.Math.max.name Lib.Math.max.code 2 (some .int) ∈ sv_tbl := (sv_at 339 rfl rfl)
set_option maxRecDepth 100000 in
theorem wm_min_2 : Cond.static Lib.Math.min.name ∈ sv_tbl := (sv_at 378 rfl rfl)
set_option maxRecDepth 100000 in
theorem wm_min_4 : Cond.code Lib.Math.min.name Lib.Math.min.code 2 (some .int) ∈ sv_tbl := (sv_at 379 rfl rfl)
set_option maxRecDepth 100000 in
theorem wm_3 : Cond.initialized "java/lang/Math" ∈ sv_tbl := (sv_at 56 rfl rfl)
set_option maxRecDepth 100000 in
theorem wa_2 : Cond.native arraycopyName ∈ sv_tbl := (sv_at 386 rfl rfl)
set_option maxRecDepth 100000 in
theorem wa_3 : Cond.static arraycopyName ∈ sv_tbl := (sv_at 385 rfl rfl)
set_option maxRecDepth 100000 in
theorem wa_4 : Cond.initialized "java/lang/System" ∈ sv_tbl := (sv_at 58 rfl rfl)
set_option maxRecDepth 100000 in
theorem wz_38 : Cond.fieldLink "java/lang/String" 38 "java/lang/String" "COMPACT_STRINGS" "Z" ∈ sv_tbl := (sv_at 100 rfl rfl)
set_option maxRecDepth 100000 in
theorem wz_1053 : Cond.fieldLink "java/lang/String" 1053 "jdk/internal/util/Preconditions" "SIOOBE_FORMATTER" "Ljava/util/function/BiFunction;" ∈ sv_tbl := (sv_at 116 rfl rfl)
set_option maxRecDepth 100000 in
theorem wz_9 : Cond.fieldLink "java/lang/String" 9 "java/lang/String" "value" "[B" ∈ sv_tbl := (sv_at 956 rfl rfl)
set_option maxRecDepth 100000 in
theorem wz_15 : Cond.fieldLink "java/lang/String" 15 "java/lang/String" "coder" "B" ∈ sv_tbl := (sv_at 957 rfl rfl)
set_option maxRecDepth 100000 in
theorem wc_Te_23 : Cond.constant "WordChain$Text" 23 65533 ∈ sv_tbl := (sv_at 333 rfl rfl)
set_option maxRecDepth 100000 in
theorem wc_So_13 : Cond.constant "WordChain$Sorts" 13 40959 ∈ sv_tbl := (sv_at 358 rfl rfl)
set_option maxRecDepth 100000 in
theorem wc_X_125 : Cond.constant "WordChain" 125 1114111 ∈ sv_tbl := (sv_at 679 rfl rfl)
set_option maxRecDepth 100000 in
theorem wc_M_225 : Cond.constant "WordChainModel" 225 65533 ∈ sv_tbl := (sv_at 848 rfl rfl)
set_option maxRecDepth 100000 in
theorem wc_M_226 : Cond.constant "WordChainModel" 226 40959 ∈ sv_tbl := (sv_at 856 rfl rfl)
set_option maxRecDepth 100000 in
theorem wc_M_342 : Cond.constant "WordChainModel" 342 1114111 ∈ sv_tbl := (sv_at 949 rfl rfl)
set_option maxRecDepth 100000 in
theorem ws_0 : ("WordChain$SilentWords", 13, "a an and are as at be but by for if in into is it no not of on or such that the their then there these they this to was will with ", 0) ∈ sv_lits := List.mem_of_getElem? (i := 0) (by decide +kernel)
set_option maxRecDepth 100000 in
theorem ws_1 : ("WordChain$Stemmer", 9, "sses", 1) ∈ sv_lits := List.mem_of_getElem? (i := 1) (by decide +kernel)
set_option maxRecDepth 100000 in
theorem ws_2 : ("WordChain$Stemmer", 11, "ss", 2) ∈ sv_lits := List.mem_of_getElem? (i := 2) (by decide +kernel)
set_option maxRecDepth 100000 in
theorem ws_3 : ("WordChain$Stemmer", 16, "ies", 3) ∈ sv_lits := List.mem_of_getElem? (i := 3) (by decide +kernel)
set_option maxRecDepth 100000 in
theorem ws_4 : ("WordChain$Stemmer", 18, "i", 4) ∈ sv_lits := List.mem_of_getElem? (i := 4) (by decide +kernel)
set_option maxRecDepth 100000 in
theorem ws_5 : ("WordChain$Stemmer", 20, "s", 5) ∈ sv_lits := List.mem_of_getElem? (i := 5) (by decide +kernel)
set_option maxRecDepth 100000 in
theorem ws_6 : ("WordChain$Stemmer", 22, "", 6) ∈ sv_lits := List.mem_of_getElem? (i := 6) (by decide +kernel)
set_option maxRecDepth 100000 in
theorem ws_7 : ("WordChain$Stemmer", 30, "eed", 7) ∈ sv_lits := List.mem_of_getElem? (i := 7) (by decide +kernel)
set_option maxRecDepth 100000 in
theorem ws_8 : ("WordChain$Stemmer", 32, "ee", 8) ∈ sv_lits := List.mem_of_getElem? (i := 8) (by decide +kernel)
set_option maxRecDepth 100000 in
theorem ws_9 : ("WordChain$Stemmer", 34, "ed", 9) ∈ sv_lits := List.mem_of_getElem? (i := 9) (by decide +kernel)
set_option maxRecDepth 100000 in
theorem ws_10 : ("WordChain$Stemmer", 36, "ing", 10) ∈ sv_lits := List.mem_of_getElem? (i := 10) (by decide +kernel)
set_option maxRecDepth 100000 in
theorem ws_11 : ("WordChain$Stemmer", 41, "ational", 11) ∈ sv_lits := List.mem_of_getElem? (i := 11) (by decide +kernel)
set_option maxRecDepth 100000 in
theorem ws_12 : ("WordChain$Stemmer", 43, "ate", 12) ∈ sv_lits := List.mem_of_getElem? (i := 12) (by decide +kernel)
set_option maxRecDepth 100000 in
theorem ws_13 : ("WordChain$Stemmer", 45, "tional", 13) ∈ sv_lits := List.mem_of_getElem? (i := 13) (by decide +kernel)
set_option maxRecDepth 100000 in
theorem ws_14 : ("WordChain$Stemmer", 47, "tion", 14) ∈ sv_lits := List.mem_of_getElem? (i := 14) (by decide +kernel)
set_option maxRecDepth 100000 in
theorem ws_15 : ("WordChain$Stemmer", 49, "enci", 15) ∈ sv_lits := List.mem_of_getElem? (i := 15) (by decide +kernel)
set_option maxRecDepth 100000 in
theorem ws_16 : ("WordChain$Stemmer", 51, "ence", 16) ∈ sv_lits := List.mem_of_getElem? (i := 16) (by decide +kernel)
set_option maxRecDepth 100000 in
theorem ws_17 : ("WordChain$Stemmer", 53, "anci", 17) ∈ sv_lits := List.mem_of_getElem? (i := 17) (by decide +kernel)
set_option maxRecDepth 100000 in
theorem ws_18 : ("WordChain$Stemmer", 55, "ance", 18) ∈ sv_lits := List.mem_of_getElem? (i := 18) (by decide +kernel)
set_option maxRecDepth 100000 in
theorem ws_19 : ("WordChain$Stemmer", 57, "izer", 19) ∈ sv_lits := List.mem_of_getElem? (i := 19) (by decide +kernel)
set_option maxRecDepth 100000 in
theorem ws_20 : ("WordChain$Stemmer", 59, "ize", 20) ∈ sv_lits := List.mem_of_getElem? (i := 20) (by decide +kernel)
set_option maxRecDepth 100000 in
theorem ws_21 : ("WordChain$Stemmer", 61, "abli", 21) ∈ sv_lits := List.mem_of_getElem? (i := 21) (by decide +kernel)
set_option maxRecDepth 100000 in
theorem ws_22 : ("WordChain$Stemmer", 63, "able", 22) ∈ sv_lits := List.mem_of_getElem? (i := 22) (by decide +kernel)
set_option maxRecDepth 100000 in
theorem ws_23 : ("WordChain$Stemmer", 65, "alli", 23) ∈ sv_lits := List.mem_of_getElem? (i := 23) (by decide +kernel)
set_option maxRecDepth 100000 in
theorem ws_24 : ("WordChain$Stemmer", 67, "al", 24) ∈ sv_lits := List.mem_of_getElem? (i := 24) (by decide +kernel)
set_option maxRecDepth 100000 in
theorem ws_25 : ("WordChain$Stemmer", 69, "entli", 25) ∈ sv_lits := List.mem_of_getElem? (i := 25) (by decide +kernel)
set_option maxRecDepth 100000 in
theorem ws_26 : ("WordChain$Stemmer", 71, "ent", 26) ∈ sv_lits := List.mem_of_getElem? (i := 26) (by decide +kernel)
set_option maxRecDepth 100000 in
theorem ws_27 : ("WordChain$Stemmer", 73, "eli", 27) ∈ sv_lits := List.mem_of_getElem? (i := 27) (by decide +kernel)
set_option maxRecDepth 100000 in
theorem ws_28 : ("WordChain$Stemmer", 75, "e", 28) ∈ sv_lits := List.mem_of_getElem? (i := 28) (by decide +kernel)
set_option maxRecDepth 100000 in
theorem ws_29 : ("WordChain$Stemmer", 77, "ousli", 29) ∈ sv_lits := List.mem_of_getElem? (i := 29) (by decide +kernel)
set_option maxRecDepth 100000 in
theorem ws_30 : ("WordChain$Stemmer", 79, "ous", 30) ∈ sv_lits := List.mem_of_getElem? (i := 30) (by decide +kernel)
set_option maxRecDepth 100000 in
theorem ws_31 : ("WordChain$Stemmer", 81, "ization", 31) ∈ sv_lits := List.mem_of_getElem? (i := 31) (by decide +kernel)
set_option maxRecDepth 100000 in
theorem ws_32 : ("WordChain$Stemmer", 83, "ation", 32) ∈ sv_lits := List.mem_of_getElem? (i := 32) (by decide +kernel)
set_option maxRecDepth 100000 in
theorem ws_33 : ("WordChain$Stemmer", 85, "ator", 33) ∈ sv_lits := List.mem_of_getElem? (i := 33) (by decide +kernel)
set_option maxRecDepth 100000 in
theorem ws_34 : ("WordChain$Stemmer", 87, "alism", 34) ∈ sv_lits := List.mem_of_getElem? (i := 34) (by decide +kernel)
set_option maxRecDepth 100000 in
theorem ws_35 : ("WordChain$Stemmer", 89, "iveness", 35) ∈ sv_lits := List.mem_of_getElem? (i := 35) (by decide +kernel)
set_option maxRecDepth 100000 in
theorem ws_36 : ("WordChain$Stemmer", 91, "ive", 36) ∈ sv_lits := List.mem_of_getElem? (i := 36) (by decide +kernel)
set_option maxRecDepth 100000 in
theorem ws_37 : ("WordChain$Stemmer", 93, "fulness", 37) ∈ sv_lits := List.mem_of_getElem? (i := 37) (by decide +kernel)
set_option maxRecDepth 100000 in
theorem ws_38 : ("WordChain$Stemmer", 95, "ful", 38) ∈ sv_lits := List.mem_of_getElem? (i := 38) (by decide +kernel)
set_option maxRecDepth 100000 in
theorem ws_39 : ("WordChain$Stemmer", 97, "ousness", 39) ∈ sv_lits := List.mem_of_getElem? (i := 39) (by decide +kernel)
set_option maxRecDepth 100000 in
theorem ws_40 : ("WordChain$Stemmer", 99, "aliti", 40) ∈ sv_lits := List.mem_of_getElem? (i := 40) (by decide +kernel)
set_option maxRecDepth 100000 in
theorem ws_41 : ("WordChain$Stemmer", 101, "iviti", 41) ∈ sv_lits := List.mem_of_getElem? (i := 41) (by decide +kernel)
set_option maxRecDepth 100000 in
theorem ws_42 : ("WordChain$Stemmer", 103, "biliti", 42) ∈ sv_lits := List.mem_of_getElem? (i := 42) (by decide +kernel)
set_option maxRecDepth 100000 in
theorem ws_43 : ("WordChain$Stemmer", 105, "ble", 43) ∈ sv_lits := List.mem_of_getElem? (i := 43) (by decide +kernel)
set_option maxRecDepth 100000 in
theorem ws_44 : ("WordChain$Stemmer", 110, "icate", 44) ∈ sv_lits := List.mem_of_getElem? (i := 44) (by decide +kernel)
set_option maxRecDepth 100000 in
theorem ws_45 : ("WordChain$Stemmer", 112, "ic", 45) ∈ sv_lits := List.mem_of_getElem? (i := 45) (by decide +kernel)
set_option maxRecDepth 100000 in
theorem ws_46 : ("WordChain$Stemmer", 114, "ative", 46) ∈ sv_lits := List.mem_of_getElem? (i := 46) (by decide +kernel)
set_option maxRecDepth 100000 in
theorem ws_47 : ("WordChain$Stemmer", 116, "alize", 47) ∈ sv_lits := List.mem_of_getElem? (i := 47) (by decide +kernel)
set_option maxRecDepth 100000 in
theorem ws_48 : ("WordChain$Stemmer", 118, "iciti", 48) ∈ sv_lits := List.mem_of_getElem? (i := 48) (by decide +kernel)
set_option maxRecDepth 100000 in
theorem ws_49 : ("WordChain$Stemmer", 120, "ical", 49) ∈ sv_lits := List.mem_of_getElem? (i := 49) (by decide +kernel)
set_option maxRecDepth 100000 in
theorem ws_50 : ("WordChain$Stemmer", 122, "ness", 50) ∈ sv_lits := List.mem_of_getElem? (i := 50) (by decide +kernel)
set_option maxRecDepth 100000 in
theorem ws_51 : ("WordChain$Stemmer", 127, "er", 51) ∈ sv_lits := List.mem_of_getElem? (i := 51) (by decide +kernel)
set_option maxRecDepth 100000 in
theorem ws_52 : ("WordChain$Stemmer", 129, "ible", 52) ∈ sv_lits := List.mem_of_getElem? (i := 52) (by decide +kernel)
set_option maxRecDepth 100000 in
theorem ws_53 : ("WordChain$Stemmer", 131, "ant", 53) ∈ sv_lits := List.mem_of_getElem? (i := 53) (by decide +kernel)
set_option maxRecDepth 100000 in
theorem ws_54 : ("WordChain$Stemmer", 133, "ement", 54) ∈ sv_lits := List.mem_of_getElem? (i := 54) (by decide +kernel)
set_option maxRecDepth 100000 in
theorem ws_55 : ("WordChain$Stemmer", 135, "ment", 55) ∈ sv_lits := List.mem_of_getElem? (i := 55) (by decide +kernel)
set_option maxRecDepth 100000 in
theorem ws_56 : ("WordChain$Stemmer", 137, "ion", 56) ∈ sv_lits := List.mem_of_getElem? (i := 56) (by decide +kernel)
set_option maxRecDepth 100000 in
theorem ws_57 : ("WordChain$Stemmer", 139, "ou", 57) ∈ sv_lits := List.mem_of_getElem? (i := 57) (by decide +kernel)
set_option maxRecDepth 100000 in
theorem ws_58 : ("WordChain$Stemmer", 141, "ism", 58) ∈ sv_lits := List.mem_of_getElem? (i := 58) (by decide +kernel)
set_option maxRecDepth 100000 in
theorem ws_59 : ("WordChain$Stemmer", 143, "iti", 59) ∈ sv_lits := List.mem_of_getElem? (i := 59) (by decide +kernel)
set_option maxRecDepth 100000 in
theorem ws_60 : ("WordChain$Stemmer", 230, "at", 60) ∈ sv_lits := List.mem_of_getElem? (i := 60) (by decide +kernel)
set_option maxRecDepth 100000 in
theorem ws_61 : ("WordChain$Stemmer", 236, "bl", 61) ∈ sv_lits := List.mem_of_getElem? (i := 61) (by decide +kernel)
set_option maxRecDepth 100000 in
theorem ws_62 : ("WordChain$Stemmer", 238, "iz", 62) ∈ sv_lits := List.mem_of_getElem? (i := 62) (by decide +kernel)
set_option maxRecDepth 100000 in
theorem ws_63 : ("WordChain$Stemmer", 243, "l", 63) ∈ sv_lits := List.mem_of_getElem? (i := 63) (by decide +kernel)
set_option maxRecDepth 100000 in
theorem ws_64 : ("WordChain$Stemmer", 245, "z", 64) ∈ sv_lits := List.mem_of_getElem? (i := 64) (by decide +kernel)
set_option maxRecDepth 100000 in
theorem ws_65 : ("WordChain$Stemmer", 250, "y", 65) ∈ sv_lits := List.mem_of_getElem? (i := 65) (by decide +kernel)
set_option maxRecDepth 100000 in
theorem ws_66 : ("WordChain$Stemmer", 252, "sion", 66) ∈ sv_lits := List.mem_of_getElem? (i := 66) (by decide +kernel)
set_option maxRecDepth 100000 in
theorem ws_67 : ("WordChain$Stemmer", 254, "ll", 67) ∈ sv_lits := List.mem_of_getElem? (i := 67) (by decide +kernel)
set_option maxRecDepth 100000 in
theorem ws_68 : ("WordChain", 52, "INPUT is full", 68) ∈ sv_lits := List.mem_of_getElem? (i := 68) (by decide +kernel)
set_option maxRecDepth 100000 in
theorem ws_69 : ("WordChain", 62, "as many bytes can't go", 69) ∈ sv_lits := List.mem_of_getElem? (i := 69) (by decide +kernel)
set_option maxRecDepth 100000 in
theorem ws_70 : ("WordChain", 96, "what is 0 or 1", 70) ∈ sv_lits := List.mem_of_getElem? (i := 70) (by decide +kernel)
set_option maxRecDepth 100000 in
theorem ws_71 : ("WordChain", 104, "no such TOKEN", 71) ∈ sv_lits := List.mem_of_getElem? (i := 71) (by decide +kernel)
set_option maxRecDepth 100000 in
theorem ws_72 : ("WordChain", 114, "no such CHARACTER", 72) ∈ sv_lits := List.mem_of_getElem? (i := 72) (by decide +kernel)
set_option maxRecDepth 100000 in
theorem ws_73 : ("WordChain", 126, "no CHARACTER", 73) ∈ sv_lits := List.mem_of_getElem? (i := 73) (by decide +kernel)
set_option maxRecDepth 100000 in
theorem ws_74 : ("WordChainModel", 9, "a", 74) ∈ sv_lits := List.mem_of_getElem? (i := 74) (by decide +kernel)
set_option maxRecDepth 100000 in
theorem ws_75 : ("WordChainModel", 11, "an", 75) ∈ sv_lits := List.mem_of_getElem? (i := 75) (by decide +kernel)
set_option maxRecDepth 100000 in
theorem ws_76 : ("WordChainModel", 13, "and", 76) ∈ sv_lits := List.mem_of_getElem? (i := 76) (by decide +kernel)
set_option maxRecDepth 100000 in
theorem ws_77 : ("WordChainModel", 15, "are", 77) ∈ sv_lits := List.mem_of_getElem? (i := 77) (by decide +kernel)
set_option maxRecDepth 100000 in
theorem ws_78 : ("WordChainModel", 17, "as", 78) ∈ sv_lits := List.mem_of_getElem? (i := 78) (by decide +kernel)
set_option maxRecDepth 100000 in
theorem ws_79 : ("WordChainModel", 19, "at", 79) ∈ sv_lits := List.mem_of_getElem? (i := 79) (by decide +kernel)
set_option maxRecDepth 100000 in
theorem ws_80 : ("WordChainModel", 21, "be", 80) ∈ sv_lits := List.mem_of_getElem? (i := 80) (by decide +kernel)
set_option maxRecDepth 100000 in
theorem ws_81 : ("WordChainModel", 23, "but", 81) ∈ sv_lits := List.mem_of_getElem? (i := 81) (by decide +kernel)
set_option maxRecDepth 100000 in
theorem ws_82 : ("WordChainModel", 25, "by", 82) ∈ sv_lits := List.mem_of_getElem? (i := 82) (by decide +kernel)
set_option maxRecDepth 100000 in
theorem ws_83 : ("WordChainModel", 27, "for", 83) ∈ sv_lits := List.mem_of_getElem? (i := 83) (by decide +kernel)
set_option maxRecDepth 100000 in
theorem ws_84 : ("WordChainModel", 29, "if", 84) ∈ sv_lits := List.mem_of_getElem? (i := 84) (by decide +kernel)
set_option maxRecDepth 100000 in
theorem ws_85 : ("WordChainModel", 31, "in", 85) ∈ sv_lits := List.mem_of_getElem? (i := 85) (by decide +kernel)
set_option maxRecDepth 100000 in
theorem ws_86 : ("WordChainModel", 33, "into", 86) ∈ sv_lits := List.mem_of_getElem? (i := 86) (by decide +kernel)
set_option maxRecDepth 100000 in
theorem ws_87 : ("WordChainModel", 35, "is", 87) ∈ sv_lits := List.mem_of_getElem? (i := 87) (by decide +kernel)
set_option maxRecDepth 100000 in
theorem ws_88 : ("WordChainModel", 37, "it", 88) ∈ sv_lits := List.mem_of_getElem? (i := 88) (by decide +kernel)
set_option maxRecDepth 100000 in
theorem ws_89 : ("WordChainModel", 39, "no", 89) ∈ sv_lits := List.mem_of_getElem? (i := 89) (by decide +kernel)
set_option maxRecDepth 100000 in
theorem ws_90 : ("WordChainModel", 41, "not", 90) ∈ sv_lits := List.mem_of_getElem? (i := 90) (by decide +kernel)
set_option maxRecDepth 100000 in
theorem ws_91 : ("WordChainModel", 43, "of", 91) ∈ sv_lits := List.mem_of_getElem? (i := 91) (by decide +kernel)
set_option maxRecDepth 100000 in
theorem ws_92 : ("WordChainModel", 45, "on", 92) ∈ sv_lits := List.mem_of_getElem? (i := 92) (by decide +kernel)
set_option maxRecDepth 100000 in
theorem ws_93 : ("WordChainModel", 47, "or", 93) ∈ sv_lits := List.mem_of_getElem? (i := 93) (by decide +kernel)
set_option maxRecDepth 100000 in
theorem ws_94 : ("WordChainModel", 49, "such", 94) ∈ sv_lits := List.mem_of_getElem? (i := 94) (by decide +kernel)
set_option maxRecDepth 100000 in
theorem ws_95 : ("WordChainModel", 51, "that", 95) ∈ sv_lits := List.mem_of_getElem? (i := 95) (by decide +kernel)
set_option maxRecDepth 100000 in
theorem ws_96 : ("WordChainModel", 53, "the", 96) ∈ sv_lits := List.mem_of_getElem? (i := 96) (by decide +kernel)
set_option maxRecDepth 100000 in
theorem ws_97 : ("WordChainModel", 55, "their", 97) ∈ sv_lits := List.mem_of_getElem? (i := 97) (by decide +kernel)
set_option maxRecDepth 100000 in
theorem ws_98 : ("WordChainModel", 57, "then", 98) ∈ sv_lits := List.mem_of_getElem? (i := 98) (by decide +kernel)
set_option maxRecDepth 100000 in
theorem ws_99 : ("WordChainModel", 59, "there", 99) ∈ sv_lits := List.mem_of_getElem? (i := 99) (by decide +kernel)
set_option maxRecDepth 100000 in
theorem ws_100 : ("WordChainModel", 61, "these", 100) ∈ sv_lits := List.mem_of_getElem? (i := 100) (by decide +kernel)
set_option maxRecDepth 100000 in
theorem ws_101 : ("WordChainModel", 63, "they", 101) ∈ sv_lits := List.mem_of_getElem? (i := 101) (by decide +kernel)
set_option maxRecDepth 100000 in
theorem ws_102 : ("WordChainModel", 65, "this", 102) ∈ sv_lits := List.mem_of_getElem? (i := 102) (by decide +kernel)
set_option maxRecDepth 100000 in
theorem ws_103 : ("WordChainModel", 67, "to", 103) ∈ sv_lits := List.mem_of_getElem? (i := 103) (by decide +kernel)
set_option maxRecDepth 100000 in
theorem ws_104 : ("WordChainModel", 69, "was", 104) ∈ sv_lits := List.mem_of_getElem? (i := 104) (by decide +kernel)
set_option maxRecDepth 100000 in
theorem ws_105 : ("WordChainModel", 71, "will", 105) ∈ sv_lits := List.mem_of_getElem? (i := 105) (by decide +kernel)
set_option maxRecDepth 100000 in
theorem ws_106 : ("WordChainModel", 73, "with", 106) ∈ sv_lits := List.mem_of_getElem? (i := 106) (by decide +kernel)
set_option maxRecDepth 100000 in
theorem ws_107 : ("WordChainModel", 81, "ational", 107) ∈ sv_lits := List.mem_of_getElem? (i := 107) (by decide +kernel)
set_option maxRecDepth 100000 in
theorem ws_108 : ("WordChainModel", 83, "ate", 108) ∈ sv_lits := List.mem_of_getElem? (i := 108) (by decide +kernel)
set_option maxRecDepth 100000 in
theorem ws_109 : ("WordChainModel", 85, "tional", 109) ∈ sv_lits := List.mem_of_getElem? (i := 109) (by decide +kernel)
set_option maxRecDepth 100000 in
theorem ws_110 : ("WordChainModel", 87, "tion", 110) ∈ sv_lits := List.mem_of_getElem? (i := 110) (by decide +kernel)
set_option maxRecDepth 100000 in
theorem ws_111 : ("WordChainModel", 89, "enci", 111) ∈ sv_lits := List.mem_of_getElem? (i := 111) (by decide +kernel)
set_option maxRecDepth 100000 in
theorem ws_112 : ("WordChainModel", 91, "ence", 112) ∈ sv_lits := List.mem_of_getElem? (i := 112) (by decide +kernel)
set_option maxRecDepth 100000 in
theorem ws_113 : ("WordChainModel", 93, "anci", 113) ∈ sv_lits := List.mem_of_getElem? (i := 113) (by decide +kernel)
set_option maxRecDepth 100000 in
theorem ws_114 : ("WordChainModel", 95, "ance", 114) ∈ sv_lits := List.mem_of_getElem? (i := 114) (by decide +kernel)
set_option maxRecDepth 100000 in
theorem ws_115 : ("WordChainModel", 97, "izer", 115) ∈ sv_lits := List.mem_of_getElem? (i := 115) (by decide +kernel)
set_option maxRecDepth 100000 in
theorem ws_116 : ("WordChainModel", 99, "ize", 116) ∈ sv_lits := List.mem_of_getElem? (i := 116) (by decide +kernel)
set_option maxRecDepth 100000 in
theorem ws_117 : ("WordChainModel", 101, "abli", 117) ∈ sv_lits := List.mem_of_getElem? (i := 117) (by decide +kernel)
set_option maxRecDepth 100000 in
theorem ws_118 : ("WordChainModel", 103, "able", 118) ∈ sv_lits := List.mem_of_getElem? (i := 118) (by decide +kernel)
set_option maxRecDepth 100000 in
theorem ws_119 : ("WordChainModel", 105, "alli", 119) ∈ sv_lits := List.mem_of_getElem? (i := 119) (by decide +kernel)
set_option maxRecDepth 100000 in
theorem ws_120 : ("WordChainModel", 107, "al", 120) ∈ sv_lits := List.mem_of_getElem? (i := 120) (by decide +kernel)
set_option maxRecDepth 100000 in
theorem ws_121 : ("WordChainModel", 109, "entli", 121) ∈ sv_lits := List.mem_of_getElem? (i := 121) (by decide +kernel)
set_option maxRecDepth 100000 in
theorem ws_122 : ("WordChainModel", 111, "ent", 122) ∈ sv_lits := List.mem_of_getElem? (i := 122) (by decide +kernel)
set_option maxRecDepth 100000 in
theorem ws_123 : ("WordChainModel", 113, "eli", 123) ∈ sv_lits := List.mem_of_getElem? (i := 123) (by decide +kernel)
set_option maxRecDepth 100000 in
theorem ws_124 : ("WordChainModel", 115, "e", 124) ∈ sv_lits := List.mem_of_getElem? (i := 124) (by decide +kernel)
set_option maxRecDepth 100000 in
theorem ws_125 : ("WordChainModel", 117, "ousli", 125) ∈ sv_lits := List.mem_of_getElem? (i := 125) (by decide +kernel)
set_option maxRecDepth 100000 in
theorem ws_126 : ("WordChainModel", 119, "ous", 126) ∈ sv_lits := List.mem_of_getElem? (i := 126) (by decide +kernel)
set_option maxRecDepth 100000 in
theorem ws_127 : ("WordChainModel", 121, "ization", 127) ∈ sv_lits := List.mem_of_getElem? (i := 127) (by decide +kernel)
set_option maxRecDepth 100000 in
theorem ws_128 : ("WordChainModel", 123, "ation", 128) ∈ sv_lits := List.mem_of_getElem? (i := 128) (by decide +kernel)
set_option maxRecDepth 100000 in
theorem ws_129 : ("WordChainModel", 125, "ator", 129) ∈ sv_lits := List.mem_of_getElem? (i := 129) (by decide +kernel)
set_option maxRecDepth 100000 in
theorem ws_130 : ("WordChainModel", 127, "alism", 130) ∈ sv_lits := List.mem_of_getElem? (i := 130) (by decide +kernel)
set_option maxRecDepth 100000 in
theorem ws_131 : ("WordChainModel", 129, "iveness", 131) ∈ sv_lits := List.mem_of_getElem? (i := 131) (by decide +kernel)
set_option maxRecDepth 100000 in
theorem ws_132 : ("WordChainModel", 131, "ive", 132) ∈ sv_lits := List.mem_of_getElem? (i := 132) (by decide +kernel)
set_option maxRecDepth 100000 in
theorem ws_133 : ("WordChainModel", 133, "fulness", 133) ∈ sv_lits := List.mem_of_getElem? (i := 133) (by decide +kernel)
set_option maxRecDepth 100000 in
theorem ws_134 : ("WordChainModel", 135, "ful", 134) ∈ sv_lits := List.mem_of_getElem? (i := 134) (by decide +kernel)
set_option maxRecDepth 100000 in
theorem ws_135 : ("WordChainModel", 137, "ousness", 135) ∈ sv_lits := List.mem_of_getElem? (i := 135) (by decide +kernel)
set_option maxRecDepth 100000 in
theorem ws_136 : ("WordChainModel", 139, "aliti", 136) ∈ sv_lits := List.mem_of_getElem? (i := 136) (by decide +kernel)
set_option maxRecDepth 100000 in
theorem ws_137 : ("WordChainModel", 141, "iviti", 137) ∈ sv_lits := List.mem_of_getElem? (i := 137) (by decide +kernel)
set_option maxRecDepth 100000 in
theorem ws_138 : ("WordChainModel", 143, "biliti", 138) ∈ sv_lits := List.mem_of_getElem? (i := 138) (by decide +kernel)
set_option maxRecDepth 100000 in
theorem ws_139 : ("WordChainModel", 145, "ble", 139) ∈ sv_lits := List.mem_of_getElem? (i := 139) (by decide +kernel)
set_option maxRecDepth 100000 in
theorem ws_140 : ("WordChainModel", 150, "icate", 140) ∈ sv_lits := List.mem_of_getElem? (i := 140) (by decide +kernel)
set_option maxRecDepth 100000 in
theorem ws_141 : ("WordChainModel", 152, "ic", 141) ∈ sv_lits := List.mem_of_getElem? (i := 141) (by decide +kernel)
set_option maxRecDepth 100000 in
theorem ws_142 : ("WordChainModel", 154, "ative", 142) ∈ sv_lits := List.mem_of_getElem? (i := 142) (by decide +kernel)
set_option maxRecDepth 100000 in
theorem ws_143 : ("WordChainModel", 156, "", 143) ∈ sv_lits := List.mem_of_getElem? (i := 143) (by decide +kernel)
set_option maxRecDepth 100000 in
theorem ws_144 : ("WordChainModel", 158, "alize", 144) ∈ sv_lits := List.mem_of_getElem? (i := 144) (by decide +kernel)
set_option maxRecDepth 100000 in
theorem ws_145 : ("WordChainModel", 160, "iciti", 145) ∈ sv_lits := List.mem_of_getElem? (i := 145) (by decide +kernel)
set_option maxRecDepth 100000 in
theorem ws_146 : ("WordChainModel", 162, "ical", 146) ∈ sv_lits := List.mem_of_getElem? (i := 146) (by decide +kernel)
set_option maxRecDepth 100000 in
theorem ws_147 : ("WordChainModel", 164, "ness", 147) ∈ sv_lits := List.mem_of_getElem? (i := 147) (by decide +kernel)
set_option maxRecDepth 100000 in
theorem ws_148 : ("WordChainModel", 169, "er", 148) ∈ sv_lits := List.mem_of_getElem? (i := 148) (by decide +kernel)
set_option maxRecDepth 100000 in
theorem ws_149 : ("WordChainModel", 171, "ible", 149) ∈ sv_lits := List.mem_of_getElem? (i := 149) (by decide +kernel)
set_option maxRecDepth 100000 in
theorem ws_150 : ("WordChainModel", 173, "ant", 150) ∈ sv_lits := List.mem_of_getElem? (i := 150) (by decide +kernel)
set_option maxRecDepth 100000 in
theorem ws_151 : ("WordChainModel", 175, "ement", 151) ∈ sv_lits := List.mem_of_getElem? (i := 151) (by decide +kernel)
set_option maxRecDepth 100000 in
theorem ws_152 : ("WordChainModel", 177, "ment", 152) ∈ sv_lits := List.mem_of_getElem? (i := 152) (by decide +kernel)
set_option maxRecDepth 100000 in
theorem ws_153 : ("WordChainModel", 179, "ou", 153) ∈ sv_lits := List.mem_of_getElem? (i := 153) (by decide +kernel)
set_option maxRecDepth 100000 in
theorem ws_154 : ("WordChainModel", 181, "ism", 154) ∈ sv_lits := List.mem_of_getElem? (i := 154) (by decide +kernel)
set_option maxRecDepth 100000 in
theorem ws_155 : ("WordChainModel", 183, "iti", 155) ∈ sv_lits := List.mem_of_getElem? (i := 155) (by decide +kernel)
set_option maxRecDepth 100000 in
theorem ws_156 : ("WordChainModel", 185, "ion", 156) ∈ sv_lits := List.mem_of_getElem? (i := 156) (by decide +kernel)
set_option maxRecDepth 100000 in
theorem ws_157 : ("WordChainModel", 280, "sses", 157) ∈ sv_lits := List.mem_of_getElem? (i := 157) (by decide +kernel)
set_option maxRecDepth 100000 in
theorem ws_158 : ("WordChainModel", 282, "ies", 158) ∈ sv_lits := List.mem_of_getElem? (i := 158) (by decide +kernel)
set_option maxRecDepth 100000 in
theorem ws_159 : ("WordChainModel", 284, "s", 159) ∈ sv_lits := List.mem_of_getElem? (i := 159) (by decide +kernel)
set_option maxRecDepth 100000 in
theorem ws_160 : ("WordChainModel", 286, "ss", 160) ∈ sv_lits := List.mem_of_getElem? (i := 160) (by decide +kernel)
set_option maxRecDepth 100000 in
theorem ws_161 : ("WordChainModel", 316, "eed", 161) ∈ sv_lits := List.mem_of_getElem? (i := 161) (by decide +kernel)
set_option maxRecDepth 100000 in
theorem ws_162 : ("WordChainModel", 318, "ed", 162) ∈ sv_lits := List.mem_of_getElem? (i := 162) (by decide +kernel)
set_option maxRecDepth 100000 in
theorem ws_163 : ("WordChainModel", 320, "ing", 163) ∈ sv_lits := List.mem_of_getElem? (i := 163) (by decide +kernel)
set_option maxRecDepth 100000 in
theorem ws_164 : ("WordChainModel", 322, "bl", 164) ∈ sv_lits := List.mem_of_getElem? (i := 164) (by decide +kernel)
set_option maxRecDepth 100000 in
theorem ws_165 : ("WordChainModel", 324, "iz", 165) ∈ sv_lits := List.mem_of_getElem? (i := 165) (by decide +kernel)
set_option maxRecDepth 100000 in
theorem ws_166 : ("WordChainModel", 291, "y", 166) ∈ sv_lits := List.mem_of_getElem? (i := 166) (by decide +kernel)
set_option maxRecDepth 100000 in
theorem ws_167 : ("WordChainModel", 314, "ll", 167) ∈ sv_lits := List.mem_of_getElem? (i := 167) (by decide +kernel)
set_option maxRecDepth 100000 in
theorem wn_En : Cond.instantiable R_En 2 ∈ sv_tbl := (sv_at 155 rfl rfl)
set_option maxRecDepth 100000 in
theorem wi_En : Cond.initialized R_En ∈ sv_tbl := (sv_at 46 rfl rfl)
set_option maxRecDepth 100000 in
theorem wn_Si : Cond.instantiable R_Si 1 ∈ sv_tbl := (sv_at 86 rfl rfl)
set_option maxRecDepth 100000 in
theorem wi_Si : Cond.initialized R_Si ∈ sv_tbl := (sv_at 40 rfl rfl)
set_option maxRecDepth 100000 in
theorem wn_Sm : Cond.instantiable R_Sm 7 ∈ sv_tbl := (sv_at 148 rfl rfl)
set_option maxRecDepth 100000 in
theorem wi_Sm : Cond.initialized R_Sm ∈ sv_tbl := (sv_at 45 rfl rfl)
set_option maxRecDepth 100000 in
theorem wn_Te : Cond.instantiable R_Te 2 ∈ sv_tbl := (sv_at 69 rfl rfl)
set_option maxRecDepth 100000 in
theorem wi_Te : Cond.initialized R_Te ∈ sv_tbl := (sv_at 39 rfl rfl)
set_option maxRecDepth 100000 in
theorem wn_To : Cond.instantiable R_To 4 ∈ sv_tbl := (sv_at 272 rfl rfl)
set_option maxRecDepth 100000 in
theorem wi_To : Cond.initialized R_To ∈ sv_tbl := (sv_at 48 rfl rfl)
set_option maxRecDepth 100000 in
theorem wn_Wo : Cond.instantiable R_Wo 2 ∈ sv_tbl := (sv_at 229 rfl rfl)
set_option maxRecDepth 100000 in
theorem wi_Wo : Cond.initialized R_Wo ∈ sv_tbl := (sv_at 47 rfl rfl)
set_option maxRecDepth 100000 in
theorem wn_X : Cond.instantiable R_X 7 ∈ sv_tbl := (sv_at 61 rfl rfl)
set_option maxRecDepth 100000 in
theorem wi_X : Cond.initialized R_X ∈ sv_tbl := (sv_at 38 rfl rfl)
set_option maxRecDepth 100000 in
theorem wn_M : Cond.instantiable R_M 16 ∈ sv_tbl := (sv_at 683 rfl rfl)
set_option maxRecDepth 100000 in
theorem wi_M : Cond.initialized R_M ∈ sv_tbl := (sv_at 49 rfl rfl)
set_option maxRecDepth 100000 in
theorem wk_L_8 : Cond.classLink "WordChainLaw" 8 "WordChain" ∈ sv_tbl := (sv_at 60 rfl rfl)
set_option maxRecDepth 100000 in
theorem wk_X_17 : Cond.classLink "WordChain" 17 "WordChain$Text" ∈ sv_tbl := (sv_at 68 rfl rfl)
set_option maxRecDepth 100000 in
theorem wk_X_26 : Cond.classLink "WordChain" 26 "WordChain$SilentWords" ∈ sv_tbl := (sv_at 85 rfl rfl)
set_option maxRecDepth 100000 in
theorem wk_X_33 : Cond.classLink "WordChain" 33 "WordChain$Stemmer" ∈ sv_tbl := (sv_at 147 rfl rfl)
set_option maxRecDepth 100000 in
theorem wk_Sm_7 : Cond.classLink "WordChain$Stemmer" 7 "WordChain$Ending" ∈ sv_tbl := (sv_at 153 rfl rfl)
set_option maxRecDepth 100000 in
theorem wk_Sm_148 : Cond.classLink "WordChain$Stemmer" 148 "WordChain$Word" ∈ sv_tbl := (sv_at 228 rfl rfl)
set_option maxRecDepth 100000 in
theorem wk_X_40 : Cond.classLink "WordChain" 40 "WordChain$Tokens" ∈ sv_tbl := (sv_at 271 rfl rfl)
set_option maxRecDepth 100000 in
theorem wk_Str_10 : Cond.classLink "java/lang/String" 10 "java/lang/String" ∈ sv_tbl := (sv_at 450 rfl rfl)
set_option maxRecDepth 100000 in
theorem wk_L_13 : Cond.classLink "WordChainLaw" 13 "java/lang/IndexOutOfBoundsException" ∈ sv_tbl := (sv_at 515 rfl rfl)
set_option maxRecDepth 100000 in
theorem wk_X_50 : Cond.classLink "WordChain" 50 "java/lang/IndexOutOfBoundsException" ∈ sv_tbl := (sv_at 520 rfl rfl)
set_option maxRecDepth 100000 in
theorem wk_L_19 : Cond.classLink "WordChainLaw" 19 "java/lang/IllegalArgumentException" ∈ sv_tbl := (sv_at 594 rfl rfl)
set_option maxRecDepth 100000 in
theorem wk_X_60 : Cond.classLink "WordChain" 60 "java/lang/IllegalArgumentException" ∈ sv_tbl := (sv_at 599 rfl rfl)
set_option maxRecDepth 100000 in
theorem wk_L_25 : Cond.classLink "WordChainLaw" 25 "java/util/NoSuchElementException" ∈ sv_tbl := (sv_at 618 rfl rfl)
set_option maxRecDepth 100000 in
theorem wk_X_102 : Cond.classLink "WordChain" 102 "java/util/NoSuchElementException" ∈ sv_tbl := (sv_at 628 rfl rfl)
set_option maxRecDepth 100000 in
theorem wk_L_37 : Cond.classLink "WordChainLaw" 37 "WordChainModel" ∈ sv_tbl := (sv_at 682 rfl rfl)
set_option maxRecDepth 100000 in
theorem wk_M_7 : Cond.classLink "WordChainModel" 7 "java/lang/String" ∈ sv_tbl := (sv_at 688 rfl rfl)
set_option maxRecDepth 100000 in
theorem wr_byte : Cond.arrayClass (newarray.typeOf .byte) ∈ sv_tbl := (sv_at 83 rfl rfl)
set_option maxRecDepth 100000 in
theorem wr_int : Cond.arrayClass (newarray.typeOf .int) ∈ sv_tbl := (sv_at 84 rfl rfl)
set_option maxRecDepth 100000 in
theorem wr_boolean : Cond.arrayClass (newarray.typeOf .boolean) ∈ sv_tbl := (sv_at 270 rfl rfl)
set_option maxRecDepth 100000 in
theorem wr_long : Cond.arrayClass (newarray.typeOf .long) ∈ sv_tbl := (sv_at 954 rfl rfl)
