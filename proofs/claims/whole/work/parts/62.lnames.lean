abbrev cL_place : ByteArray := method_3_code
def yL_place : MethodName := ⟨RL, "place", "(LReplenishRules;III)I"⟩
abbrev hL_place : List (Nat × Nat × Nat × Nat) := [(0, 7, 10, 13), (0, 7, 14, 15)]
abbrev wL_place : Cond := .codeWith yL_place cL_place 5 (some .int) hL_place
theorem kL_place : wL_place ∈ wG := mG 236 (by decide +kernel) rfl
theorem dL_place_0 : decode cL_place 0 = .ok (.aload_n 0, 1) := by decide +kernel
theorem dL_place_1 : decode cL_place 1 = .ok (.iload_n 1, 1) := by decide +kernel
theorem dL_place_2 : decode cL_place 2 = .ok (.iload_n 2, 1) := by decide +kernel
theorem dL_place_3 : decode cL_place 3 = .ok (.iload_n 3, 1) := by decide +kernel
theorem dL_place_4 : decode cL_place 4 = .ok (.invokevirtual 7, 3) := by decide +kernel
theorem dL_place_7 : decode cL_place 7 = .ok (.goto 11, 3) := by decide +kernel
theorem dL_place_10 : decode cL_place 10 = .ok (.astore 4, 2) := by decide +kernel
theorem dL_place_12 : decode cL_place 12 = .ok (.iconst 1, 1) := by decide +kernel
theorem dL_place_13 : decode cL_place 13 = .ok (.ireturn, 1) := by decide +kernel
theorem dL_place_14 : decode cL_place 14 = .ok (.astore 4, 2) := by decide +kernel
theorem dL_place_16 : decode cL_place 16 = .ok (.iconst 2, 1) := by decide +kernel
theorem dL_place_17 : decode cL_place 17 = .ok (.ireturn, 1) := by decide +kernel
theorem dL_place_18 : decode cL_place 18 = .ok (.iconst 0, 1) := by decide +kernel
theorem dL_place_19 : decode cL_place 19 = .ok (.ireturn, 1) := by decide +kernel
abbrev cL_face : ByteArray := method_4_code
def yL_face : MethodName := ⟨RL, "face", "(LReplenishRules;IIII)I"⟩
abbrev hL_face : List (Nat × Nat × Nat × Nat) := [(0, 9, 12, 13), (0, 9, 16, 15)]
abbrev wL_face : Cond := .codeWith yL_face cL_face 6 (some .int) hL_face
theorem kL_face : wL_face ∈ wG := mG 339 (by decide +kernel) rfl
theorem dL_face_0 : decode cL_face 0 = .ok (.aload_n 0, 1) := by decide +kernel
theorem dL_face_1 : decode cL_face 1 = .ok (.iload_n 1, 1) := by decide +kernel
theorem dL_face_2 : decode cL_face 2 = .ok (.iload_n 2, 1) := by decide +kernel
theorem dL_face_3 : decode cL_face 3 = .ok (.iload_n 3, 1) := by decide +kernel
theorem dL_face_4 : decode cL_face 4 = .ok (.iload 4, 2) := by decide +kernel
theorem dL_face_6 : decode cL_face 6 = .ok (.invokevirtual 17, 3) := by decide +kernel
theorem dL_face_9 : decode cL_face 9 = .ok (.goto 11, 3) := by decide +kernel
theorem dL_face_12 : decode cL_face 12 = .ok (.astore 5, 2) := by decide +kernel
theorem dL_face_14 : decode cL_face 14 = .ok (.iconst 1, 1) := by decide +kernel
theorem dL_face_15 : decode cL_face 15 = .ok (.ireturn, 1) := by decide +kernel
theorem dL_face_16 : decode cL_face 16 = .ok (.astore 5, 2) := by decide +kernel
theorem dL_face_18 : decode cL_face 18 = .ok (.iconst 2, 1) := by decide +kernel
theorem dL_face_19 : decode cL_face 19 = .ok (.ireturn, 1) := by decide +kernel
theorem dL_face_20 : decode cL_face 20 = .ok (.iconst 0, 1) := by decide +kernel
theorem dL_face_21 : decode cL_face 21 = .ok (.ireturn, 1) := by decide +kernel
abbrev cL_put : ByteArray := method_5_code
def yL_put : MethodName := ⟨RL, "put", "(LReplenishRules;III)I"⟩
abbrev hL_put : List (Nat × Nat × Nat × Nat) := [(0, 7, 10, 13), (0, 7, 14, 15), (0, 7, 18, 24)]
abbrev wL_put : Cond := .codeWith yL_put cL_put 5 (some .int) hL_put
theorem kL_put : wL_put ∈ wG := mG 351 (by decide +kernel) rfl
theorem dL_put_0 : decode cL_put 0 = .ok (.aload_n 0, 1) := by decide +kernel
theorem dL_put_1 : decode cL_put 1 = .ok (.iload_n 1, 1) := by decide +kernel
theorem dL_put_2 : decode cL_put 2 = .ok (.iload_n 2, 1) := by decide +kernel
theorem dL_put_3 : decode cL_put 3 = .ok (.iload_n 3, 1) := by decide +kernel
theorem dL_put_4 : decode cL_put 4 = .ok (.invokevirtual 21, 3) := by decide +kernel
theorem dL_put_7 : decode cL_put 7 = .ok (.goto 15, 3) := by decide +kernel
theorem dL_put_10 : decode cL_put 10 = .ok (.astore 4, 2) := by decide +kernel
theorem dL_put_12 : decode cL_put 12 = .ok (.iconst 1, 1) := by decide +kernel
theorem dL_put_13 : decode cL_put 13 = .ok (.ireturn, 1) := by decide +kernel
theorem dL_put_14 : decode cL_put 14 = .ok (.astore 4, 2) := by decide +kernel
theorem dL_put_16 : decode cL_put 16 = .ok (.iconst 2, 1) := by decide +kernel
theorem dL_put_17 : decode cL_put 17 = .ok (.ireturn, 1) := by decide +kernel
theorem dL_put_18 : decode cL_put 18 = .ok (.astore 4, 2) := by decide +kernel
theorem dL_put_20 : decode cL_put 20 = .ok (.iconst 3, 1) := by decide +kernel
theorem dL_put_21 : decode cL_put 21 = .ok (.ireturn, 1) := by decide +kernel
theorem dL_put_22 : decode cL_put 22 = .ok (.iconst 0, 1) := by decide +kernel
theorem dL_put_23 : decode cL_put 23 = .ok (.ireturn, 1) := by decide +kernel
abbrev cL_use : ByteArray := method_6_code
def yL_use : MethodName := ⟨RL, "use", "(LReplenishRules;II)I"⟩
abbrev hL_use : List (Nat × Nat × Nat × Nat) := [(0, 6, 9, 13), (0, 6, 12, 15)]
abbrev wL_use : Cond := .codeWith yL_use cL_use 4 (some .int) hL_use
theorem kL_use : wL_use ∈ wG := mG 395 (by decide +kernel) rfl
theorem dL_use_0 : decode cL_use 0 = .ok (.aload_n 0, 1) := by decide +kernel
theorem dL_use_1 : decode cL_use 1 = .ok (.iload_n 1, 1) := by decide +kernel
theorem dL_use_2 : decode cL_use 2 = .ok (.iload_n 2, 1) := by decide +kernel
theorem dL_use_3 : decode cL_use 3 = .ok (.invokevirtual 26, 3) := by decide +kernel
theorem dL_use_6 : decode cL_use 6 = .ok (.goto 9, 3) := by decide +kernel
theorem dL_use_9 : decode cL_use 9 = .ok (.astore_n 3, 1) := by decide +kernel
theorem dL_use_10 : decode cL_use 10 = .ok (.iconst 1, 1) := by decide +kernel
theorem dL_use_11 : decode cL_use 11 = .ok (.ireturn, 1) := by decide +kernel
theorem dL_use_12 : decode cL_use 12 = .ok (.astore_n 3, 1) := by decide +kernel
theorem dL_use_13 : decode cL_use 13 = .ok (.iconst 2, 1) := by decide +kernel
theorem dL_use_14 : decode cL_use 14 = .ok (.ireturn, 1) := by decide +kernel
theorem dL_use_15 : decode cL_use 15 = .ok (.iconst 0, 1) := by decide +kernel
theorem dL_use_16 : decode cL_use 16 = .ok (.ireturn, 1) := by decide +kernel
abbrev cL_hold : ByteArray := method_7_code
def yL_hold : MethodName := ⟨RL, "hold", "(LReplenishRules;II)I"⟩
abbrev hL_hold : List (Nat × Nat × Nat × Nat) := [(0, 6, 9, 13), (0, 6, 12, 15)]
abbrev wL_hold : Cond := .codeWith yL_hold cL_hold 4 (some .int) hL_hold
theorem kL_hold : wL_hold ∈ wG := mG 417 (by decide +kernel) rfl
theorem dL_hold_0 : decode cL_hold 0 = .ok (.aload_n 0, 1) := by decide +kernel
theorem dL_hold_1 : decode cL_hold 1 = .ok (.iload_n 1, 1) := by decide +kernel
theorem dL_hold_2 : decode cL_hold 2 = .ok (.iload_n 2, 1) := by decide +kernel
theorem dL_hold_3 : decode cL_hold 3 = .ok (.invokevirtual 30, 3) := by decide +kernel
theorem dL_hold_6 : decode cL_hold 6 = .ok (.goto 9, 3) := by decide +kernel
theorem dL_hold_9 : decode cL_hold 9 = .ok (.astore_n 3, 1) := by decide +kernel
theorem dL_hold_10 : decode cL_hold 10 = .ok (.iconst 1, 1) := by decide +kernel
theorem dL_hold_11 : decode cL_hold 11 = .ok (.ireturn, 1) := by decide +kernel
theorem dL_hold_12 : decode cL_hold 12 = .ok (.astore_n 3, 1) := by decide +kernel
theorem dL_hold_13 : decode cL_hold 13 = .ok (.iconst 2, 1) := by decide +kernel
theorem dL_hold_14 : decode cL_hold 14 = .ok (.ireturn, 1) := by decide +kernel
theorem dL_hold_15 : decode cL_hold 15 = .ok (.iconst 0, 1) := by decide +kernel
theorem dL_hold_16 : decode cL_hold 16 = .ok (.ireturn, 1) := by decide +kernel
abbrev cL_cases : ByteArray := method_8_code
def yL_cases : MethodName := ⟨RL, "cases", "(LReplenishRules;II)I"⟩
abbrev hL_cases : List (Nat × Nat × Nat × Nat) := [(0, 6, 9, 13)]
abbrev wL_cases : Cond := .codeWith yL_cases cL_cases 4 (some .int) hL_cases
theorem kL_cases : wL_cases ∈ wG := mG 426 (by decide +kernel) rfl
theorem dL_cases_0 : decode cL_cases 0 = .ok (.aload_n 0, 1) := by decide +kernel
theorem dL_cases_1 : decode cL_cases 1 = .ok (.iload_n 1, 1) := by decide +kernel
theorem dL_cases_2 : decode cL_cases 2 = .ok (.iload_n 2, 1) := by decide +kernel
theorem dL_cases_3 : decode cL_cases 3 = .ok (.invokevirtual 33, 3) := by decide +kernel
theorem dL_cases_6 : decode cL_cases 6 = .ok (.goto 6, 3) := by decide +kernel
theorem dL_cases_9 : decode cL_cases 9 = .ok (.astore_n 3, 1) := by decide +kernel
theorem dL_cases_10 : decode cL_cases 10 = .ok (.iconst 1, 1) := by decide +kernel
theorem dL_cases_11 : decode cL_cases 11 = .ok (.ireturn, 1) := by decide +kernel
theorem dL_cases_12 : decode cL_cases 12 = .ok (.iconst 0, 1) := by decide +kernel
theorem dL_cases_13 : decode cL_cases 13 = .ok (.ireturn, 1) := by decide +kernel
abbrev cL_rule : ByteArray := method_9_code
def yL_rule : MethodName := ⟨RL, "rule", "(LReplenishRules;IIII)I"⟩
abbrev hL_rule : List (Nat × Nat × Nat × Nat) := [(0, 9, 12, 13)]
abbrev wL_rule : Cond := .codeWith yL_rule cL_rule 6 (some .int) hL_rule
theorem kL_rule : wL_rule ∈ wG := mG 433 (by decide +kernel) rfl
theorem dL_rule_0 : decode cL_rule 0 = .ok (.aload_n 0, 1) := by decide +kernel
theorem dL_rule_1 : decode cL_rule 1 = .ok (.iload_n 1, 1) := by decide +kernel
theorem dL_rule_2 : decode cL_rule 2 = .ok (.iload_n 2, 1) := by decide +kernel
theorem dL_rule_3 : decode cL_rule 3 = .ok (.iload_n 3, 1) := by decide +kernel
theorem dL_rule_4 : decode cL_rule 4 = .ok (.iload 4, 2) := by decide +kernel
theorem dL_rule_6 : decode cL_rule 6 = .ok (.invokevirtual 36, 3) := by decide +kernel
theorem dL_rule_9 : decode cL_rule 9 = .ok (.goto 7, 3) := by decide +kernel
theorem dL_rule_12 : decode cL_rule 12 = .ok (.astore 5, 2) := by decide +kernel
theorem dL_rule_14 : decode cL_rule 14 = .ok (.iconst 1, 1) := by decide +kernel
theorem dL_rule_15 : decode cL_rule 15 = .ok (.ireturn, 1) := by decide +kernel
theorem dL_rule_16 : decode cL_rule 16 = .ok (.iconst 0, 1) := by decide +kernel
theorem dL_rule_17 : decode cL_rule 17 = .ok (.ireturn, 1) := by decide +kernel
abbrev cL_factor : ByteArray := method_10_code
def yL_factor : MethodName := ⟨RL, "factor", "(LReplenishRules;III)I"⟩
abbrev hL_factor : List (Nat × Nat × Nat × Nat) := [(0, 7, 10, 13)]
abbrev wL_factor : Cond := .codeWith yL_factor cL_factor 5 (some .int) hL_factor
theorem kL_factor : wL_factor ∈ wG := mG 440 (by decide +kernel) rfl
theorem dL_factor_0 : decode cL_factor 0 = .ok (.aload_n 0, 1) := by decide +kernel
theorem dL_factor_1 : decode cL_factor 1 = .ok (.iload_n 1, 1) := by decide +kernel
theorem dL_factor_2 : decode cL_factor 2 = .ok (.iload_n 2, 1) := by decide +kernel
theorem dL_factor_3 : decode cL_factor 3 = .ok (.iload_n 3, 1) := by decide +kernel
theorem dL_factor_4 : decode cL_factor 4 = .ok (.invokevirtual 39, 3) := by decide +kernel
theorem dL_factor_7 : decode cL_factor 7 = .ok (.goto 7, 3) := by decide +kernel
theorem dL_factor_10 : decode cL_factor 10 = .ok (.astore 4, 2) := by decide +kernel
theorem dL_factor_12 : decode cL_factor 12 = .ok (.iconst 1, 1) := by decide +kernel
theorem dL_factor_13 : decode cL_factor 13 = .ok (.ireturn, 1) := by decide +kernel
theorem dL_factor_14 : decode cL_factor 14 = .ok (.iconst 0, 1) := by decide +kernel
theorem dL_factor_15 : decode cL_factor 15 = .ok (.ireturn, 1) := by decide +kernel
abbrev cL_wave : ByteArray := method_11_code
def yL_wave : MethodName := ⟨RL, "wave", "(LReplenishRules;III)I"⟩
abbrev hL_wave : List (Nat × Nat × Nat × Nat) := [(0, 7, 10, 13), (0, 7, 14, 15), (0, 7, 18, 24)]
abbrev wL_wave : Cond := .codeWith yL_wave cL_wave 5 (some .int) hL_wave
theorem kL_wave : wL_wave ∈ wG := mG 447 (by decide +kernel) rfl
theorem dL_wave_0 : decode cL_wave 0 = .ok (.aload_n 0, 1) := by decide +kernel
theorem dL_wave_1 : decode cL_wave 1 = .ok (.iload_n 1, 1) := by decide +kernel
theorem dL_wave_2 : decode cL_wave 2 = .ok (.iload_n 2, 1) := by decide +kernel
theorem dL_wave_3 : decode cL_wave 3 = .ok (.iload_n 3, 1) := by decide +kernel
theorem dL_wave_4 : decode cL_wave 4 = .ok (.invokevirtual 42, 3) := by decide +kernel
theorem dL_wave_7 : decode cL_wave 7 = .ok (.goto 15, 3) := by decide +kernel
theorem dL_wave_10 : decode cL_wave 10 = .ok (.astore 4, 2) := by decide +kernel
theorem dL_wave_12 : decode cL_wave 12 = .ok (.iconst 1, 1) := by decide +kernel
theorem dL_wave_13 : decode cL_wave 13 = .ok (.ireturn, 1) := by decide +kernel
theorem dL_wave_14 : decode cL_wave 14 = .ok (.astore 4, 2) := by decide +kernel
theorem dL_wave_16 : decode cL_wave 16 = .ok (.iconst 2, 1) := by decide +kernel
theorem dL_wave_17 : decode cL_wave 17 = .ok (.ireturn, 1) := by decide +kernel
theorem dL_wave_18 : decode cL_wave 18 = .ok (.astore 4, 2) := by decide +kernel
theorem dL_wave_20 : decode cL_wave 20 = .ok (.iconst 3, 1) := by decide +kernel
theorem dL_wave_21 : decode cL_wave 21 = .ok (.ireturn, 1) := by decide +kernel
theorem dL_wave_22 : decode cL_wave 22 = .ok (.iconst 0, 1) := by decide +kernel
theorem dL_wave_23 : decode cL_wave 23 = .ok (.ireturn, 1) := by decide +kernel
abbrev cL_open : ByteArray := method_12_code
def yL_open : MethodName := ⟨RL, "open", "(LReplenishRules;IZ)I"⟩
abbrev hL_open : List (Nat × Nat × Nat × Nat) := [(0, 6, 9, 13), (0, 6, 12, 15)]
abbrev wL_open : Cond := .codeWith yL_open cL_open 4 (some .int) hL_open
theorem kL_open : wL_open ∈ wG := mG 459 (by decide +kernel) rfl
theorem dL_open_0 : decode cL_open 0 = .ok (.aload_n 0, 1) := by decide +kernel
theorem dL_open_1 : decode cL_open 1 = .ok (.iload_n 1, 1) := by decide +kernel
theorem dL_open_2 : decode cL_open 2 = .ok (.iload_n 2, 1) := by decide +kernel
theorem dL_open_3 : decode cL_open 3 = .ok (.invokevirtual 45, 3) := by decide +kernel
theorem dL_open_6 : decode cL_open 6 = .ok (.goto 9, 3) := by decide +kernel
theorem dL_open_9 : decode cL_open 9 = .ok (.astore_n 3, 1) := by decide +kernel
theorem dL_open_10 : decode cL_open 10 = .ok (.iconst 1, 1) := by decide +kernel
theorem dL_open_11 : decode cL_open 11 = .ok (.ireturn, 1) := by decide +kernel
theorem dL_open_12 : decode cL_open 12 = .ok (.astore_n 3, 1) := by decide +kernel
theorem dL_open_13 : decode cL_open 13 = .ok (.iconst 2, 1) := by decide +kernel
theorem dL_open_14 : decode cL_open 14 = .ok (.ireturn, 1) := by decide +kernel
theorem dL_open_15 : decode cL_open 15 = .ok (.iconst 0, 1) := by decide +kernel
theorem dL_open_16 : decode cL_open 16 = .ok (.ireturn, 1) := by decide +kernel
abbrev cL_day : ByteArray := method_13_code
def yL_day : MethodName := ⟨RL, "day", "(LReplenishRules;I)I"⟩
abbrev hL_day : List (Nat × Nat × Nat × Nat) := [(0, 5, 8, 13)]
abbrev wL_day : Cond := .codeWith yL_day cL_day 3 (some .int) hL_day
theorem kL_day : wL_day ∈ wG := mG 467 (by decide +kernel) rfl
theorem dL_day_0 : decode cL_day 0 = .ok (.aload_n 0, 1) := by decide +kernel
theorem dL_day_1 : decode cL_day 1 = .ok (.iload_n 1, 1) := by decide +kernel
theorem dL_day_2 : decode cL_day 2 = .ok (.invokevirtual 49, 3) := by decide +kernel
theorem dL_day_5 : decode cL_day 5 = .ok (.goto 6, 3) := by decide +kernel
theorem dL_day_8 : decode cL_day 8 = .ok (.astore_n 2, 1) := by decide +kernel
theorem dL_day_9 : decode cL_day 9 = .ok (.iconst 1, 1) := by decide +kernel
theorem dL_day_10 : decode cL_day 10 = .ok (.ireturn, 1) := by decide +kernel
theorem dL_day_11 : decode cL_day 11 = .ok (.iconst 0, 1) := by decide +kernel
theorem dL_day_12 : decode cL_day 12 = .ok (.ireturn, 1) := by decide +kernel
abbrev cL_mean : ByteArray := method_14_code
def yL_mean : MethodName := ⟨RL, "mean", "(LReplenishRules;II[J)I"⟩
abbrev hL_mean : List (Nat × Nat × Nat × Nat) := [(0, 10, 13, 13), (0, 10, 17, 15), (0, 10, 21, 57)]
abbrev wL_mean : Cond := .codeWith yL_mean cL_mean 5 (some .int) hL_mean
theorem kL_mean : wL_mean ∈ wG := mG 474 (by decide +kernel) rfl
theorem dL_mean_0 : decode cL_mean 0 = .ok (.aload_n 3, 1) := by decide +kernel
theorem dL_mean_1 : decode cL_mean 1 = .ok (.iconst 0, 1) := by decide +kernel
theorem dL_mean_2 : decode cL_mean 2 = .ok (.aload_n 0, 1) := by decide +kernel
theorem dL_mean_3 : decode cL_mean 3 = .ok (.iload_n 1, 1) := by decide +kernel
theorem dL_mean_4 : decode cL_mean 4 = .ok (.iload_n 2, 1) := by decide +kernel
theorem dL_mean_5 : decode cL_mean 5 = .ok (.invokevirtual 53, 3) := by decide +kernel
theorem dL_mean_8 : decode cL_mean 8 = .ok (.i2l, 1) := by decide +kernel
theorem dL_mean_9 : decode cL_mean 9 = .ok (.lastore, 1) := by decide +kernel
theorem dL_mean_10 : decode cL_mean 10 = .ok (.goto 15, 3) := by decide +kernel
theorem dL_mean_13 : decode cL_mean 13 = .ok (.astore 4, 2) := by decide +kernel
theorem dL_mean_15 : decode cL_mean 15 = .ok (.iconst 1, 1) := by decide +kernel
theorem dL_mean_16 : decode cL_mean 16 = .ok (.ireturn, 1) := by decide +kernel
theorem dL_mean_17 : decode cL_mean 17 = .ok (.astore 4, 2) := by decide +kernel
theorem dL_mean_19 : decode cL_mean 19 = .ok (.iconst 2, 1) := by decide +kernel
theorem dL_mean_20 : decode cL_mean 20 = .ok (.ireturn, 1) := by decide +kernel
theorem dL_mean_21 : decode cL_mean 21 = .ok (.astore 4, 2) := by decide +kernel
theorem dL_mean_23 : decode cL_mean 23 = .ok (.iconst 3, 1) := by decide +kernel
theorem dL_mean_24 : decode cL_mean 24 = .ok (.ireturn, 1) := by decide +kernel
theorem dL_mean_25 : decode cL_mean 25 = .ok (.iconst 0, 1) := by decide +kernel
theorem dL_mean_26 : decode cL_mean 26 = .ok (.ireturn, 1) := by decide +kernel
abbrev cL_forecast : ByteArray := method_15_code
def yL_forecast : MethodName := ⟨RL, "forecast", "(LReplenishRules;I[J)I"⟩
abbrev hL_forecast : List (Nat × Nat × Nat × Nat) := [(0, 8, 11, 13), (0, 8, 14, 15)]
abbrev wL_forecast : Cond := .codeWith yL_forecast cL_forecast 4 (some .int) hL_forecast
theorem kL_forecast : wL_forecast ∈ wG := mG 515 (by decide +kernel) rfl
theorem dL_forecast_0 : decode cL_forecast 0 = .ok (.aload_n 2, 1) := by decide +kernel
theorem dL_forecast_1 : decode cL_forecast 1 = .ok (.iconst 0, 1) := by decide +kernel
theorem dL_forecast_2 : decode cL_forecast 2 = .ok (.aload_n 0, 1) := by decide +kernel
theorem dL_forecast_3 : decode cL_forecast 3 = .ok (.iload_n 1, 1) := by decide +kernel
theorem dL_forecast_4 : decode cL_forecast 4 = .ok (.invokevirtual 59, 3) := by decide +kernel
theorem dL_forecast_7 : decode cL_forecast 7 = .ok (.lastore, 1) := by decide +kernel
theorem dL_forecast_8 : decode cL_forecast 8 = .ok (.goto 9, 3) := by decide +kernel
theorem dL_forecast_11 : decode cL_forecast 11 = .ok (.astore_n 3, 1) := by decide +kernel
theorem dL_forecast_12 : decode cL_forecast 12 = .ok (.iconst 1, 1) := by decide +kernel
theorem dL_forecast_13 : decode cL_forecast 13 = .ok (.ireturn, 1) := by decide +kernel
theorem dL_forecast_14 : decode cL_forecast 14 = .ok (.astore_n 3, 1) := by decide +kernel
theorem dL_forecast_15 : decode cL_forecast 15 = .ok (.iconst 2, 1) := by decide +kernel
theorem dL_forecast_16 : decode cL_forecast 16 = .ok (.ireturn, 1) := by decide +kernel
theorem dL_forecast_17 : decode cL_forecast 17 = .ok (.iconst 0, 1) := by decide +kernel
theorem dL_forecast_18 : decode cL_forecast 18 = .ok (.ireturn, 1) := by decide +kernel
abbrev cL_threshold : ByteArray := method_16_code
def yL_threshold : MethodName := ⟨RL, "threshold", "(LReplenishRules;I[J)I"⟩
abbrev hL_threshold : List (Nat × Nat × Nat × Nat) := [(0, 9, 12, 13), (0, 9, 15, 15)]
abbrev wL_threshold : Cond := .codeWith yL_threshold cL_threshold 4 (some .int) hL_threshold
theorem kL_threshold : wL_threshold ∈ wG := mG 553 (by decide +kernel) rfl
theorem dL_threshold_0 : decode cL_threshold 0 = .ok (.aload_n 2, 1) := by decide +kernel
theorem dL_threshold_1 : decode cL_threshold 1 = .ok (.iconst 0, 1) := by decide +kernel
theorem dL_threshold_2 : decode cL_threshold 2 = .ok (.aload_n 0, 1) := by decide +kernel
theorem dL_threshold_3 : decode cL_threshold 3 = .ok (.iload_n 1, 1) := by decide +kernel
theorem dL_threshold_4 : decode cL_threshold 4 = .ok (.invokevirtual 63, 3) := by decide +kernel
theorem dL_threshold_7 : decode cL_threshold 7 = .ok (.i2l, 1) := by decide +kernel
theorem dL_threshold_8 : decode cL_threshold 8 = .ok (.lastore, 1) := by decide +kernel
theorem dL_threshold_9 : decode cL_threshold 9 = .ok (.goto 9, 3) := by decide +kernel
theorem dL_threshold_12 : decode cL_threshold 12 = .ok (.astore_n 3, 1) := by decide +kernel
theorem dL_threshold_13 : decode cL_threshold 13 = .ok (.iconst 1, 1) := by decide +kernel
theorem dL_threshold_14 : decode cL_threshold 14 = .ok (.ireturn, 1) := by decide +kernel
theorem dL_threshold_15 : decode cL_threshold 15 = .ok (.astore_n 3, 1) := by decide +kernel
theorem dL_threshold_16 : decode cL_threshold 16 = .ok (.iconst 2, 1) := by decide +kernel
theorem dL_threshold_17 : decode cL_threshold 17 = .ok (.ireturn, 1) := by decide +kernel
theorem dL_threshold_18 : decode cL_threshold 18 = .ok (.iconst 0, 1) := by decide +kernel
theorem dL_threshold_19 : decode cL_threshold 19 = .ok (.ireturn, 1) := by decide +kernel
abbrev cL_above : ByteArray := method_17_code
def yL_above : MethodName := ⟨RL, "above", "(LReplenishRules;I[J)I"⟩
abbrev hL_above : List (Nat × Nat × Nat × Nat) := [(0, 16, 19, 13), (0, 16, 22, 15)]
abbrev wL_above : Cond := .codeWith yL_above cL_above 4 (some .int) hL_above
theorem kL_above : wL_above ∈ wG := mG 578 (by decide +kernel) rfl
theorem dL_above_0 : decode cL_above 0 = .ok (.aload_n 2, 1) := by decide +kernel
theorem dL_above_1 : decode cL_above 1 = .ok (.iconst 0, 1) := by decide +kernel
theorem dL_above_2 : decode cL_above 2 = .ok (.aload_n 0, 1) := by decide +kernel
theorem dL_above_3 : decode cL_above 3 = .ok (.iload_n 1, 1) := by decide +kernel
theorem dL_above_4 : decode cL_above 4 = .ok (.invokevirtual 67, 3) := by decide +kernel
theorem dL_above_7 : decode cL_above 7 = .ok (.ifCond .eq 7, 3) := by decide +kernel
theorem dL_above_10 : decode cL_above 10 = .ok (.lconst 1, 1) := by decide +kernel
theorem dL_above_11 : decode cL_above 11 = .ok (.goto 4, 3) := by decide +kernel
theorem dL_above_14 : decode cL_above 14 = .ok (.lconst 0, 1) := by decide +kernel
theorem dL_above_15 : decode cL_above 15 = .ok (.lastore, 1) := by decide +kernel
theorem dL_above_16 : decode cL_above 16 = .ok (.goto 9, 3) := by decide +kernel
theorem dL_above_19 : decode cL_above 19 = .ok (.astore_n 3, 1) := by decide +kernel
theorem dL_above_20 : decode cL_above 20 = .ok (.iconst 1, 1) := by decide +kernel
theorem dL_above_21 : decode cL_above 21 = .ok (.ireturn, 1) := by decide +kernel
theorem dL_above_22 : decode cL_above 22 = .ok (.astore_n 3, 1) := by decide +kernel
theorem dL_above_23 : decode cL_above 23 = .ok (.iconst 2, 1) := by decide +kernel
theorem dL_above_24 : decode cL_above 24 = .ok (.ireturn, 1) := by decide +kernel
theorem dL_above_25 : decode cL_above 25 = .ok (.iconst 0, 1) := by decide +kernel
theorem dL_above_26 : decode cL_above 26 = .ok (.ireturn, 1) := by decide +kernel
abbrev cL_run : ByteArray := method_18_code
def yL_run : MethodName := ⟨RL, "run", "(LReplenishRules;[J)I"⟩
abbrev hL_run : List (Nat × Nat × Nat × Nat) := [(0, 8, 11, 15)]
abbrev wL_run : Cond := .codeWith yL_run cL_run 3 (some .int) hL_run
theorem kL_run : wL_run ∈ wG := mG 585 (by decide +kernel) rfl
theorem dL_run_0 : decode cL_run 0 = .ok (.aload_n 1, 1) := by decide +kernel
theorem dL_run_1 : decode cL_run 1 = .ok (.iconst 0, 1) := by decide +kernel
theorem dL_run_2 : decode cL_run 2 = .ok (.aload_n 0, 1) := by decide +kernel
theorem dL_run_3 : decode cL_run 3 = .ok (.invokevirtual 71, 3) := by decide +kernel
theorem dL_run_6 : decode cL_run 6 = .ok (.i2l, 1) := by decide +kernel
theorem dL_run_7 : decode cL_run 7 = .ok (.lastore, 1) := by decide +kernel
theorem dL_run_8 : decode cL_run 8 = .ok (.goto 6, 3) := by decide +kernel
theorem dL_run_11 : decode cL_run 11 = .ok (.astore_n 2, 1) := by decide +kernel
theorem dL_run_12 : decode cL_run 12 = .ok (.iconst 1, 1) := by decide +kernel
theorem dL_run_13 : decode cL_run 13 = .ok (.ireturn, 1) := by decide +kernel
theorem dL_run_14 : decode cL_run 14 = .ok (.iconst 0, 1) := by decide +kernel
theorem dL_run_15 : decode cL_run 15 = .ok (.ireturn, 1) := by decide +kernel
abbrev cL_move : ByteArray := method_19_code
def yL_move : MethodName := ⟨RL, "move", "(LReplenishRules;II[J)I"⟩
abbrev hL_move : List (Nat × Nat × Nat × Nat) := [(0, 10, 13, 78), (0, 10, 17, 13)]
abbrev wL_move : Cond := .codeWith yL_move cL_move 5 (some .int) hL_move
theorem kL_move : wL_move ∈ wG := mG 652 (by decide +kernel) rfl
theorem dL_move_0 : decode cL_move 0 = .ok (.aload_n 3, 1) := by decide +kernel
theorem dL_move_1 : decode cL_move 1 = .ok (.iconst 0, 1) := by decide +kernel
theorem dL_move_2 : decode cL_move 2 = .ok (.aload_n 0, 1) := by decide +kernel
theorem dL_move_3 : decode cL_move 3 = .ok (.iload_n 1, 1) := by decide +kernel
theorem dL_move_4 : decode cL_move 4 = .ok (.iload_n 2, 1) := by decide +kernel
theorem dL_move_5 : decode cL_move 5 = .ok (.invokevirtual 75, 3) := by decide +kernel
theorem dL_move_8 : decode cL_move 8 = .ok (.i2l, 1) := by decide +kernel
theorem dL_move_9 : decode cL_move 9 = .ok (.lastore, 1) := by decide +kernel
theorem dL_move_10 : decode cL_move 10 = .ok (.goto 11, 3) := by decide +kernel
theorem dL_move_13 : decode cL_move 13 = .ok (.astore 4, 2) := by decide +kernel
theorem dL_move_15 : decode cL_move 15 = .ok (.iconst 1, 1) := by decide +kernel
theorem dL_move_16 : decode cL_move 16 = .ok (.ireturn, 1) := by decide +kernel
theorem dL_move_17 : decode cL_move 17 = .ok (.astore 4, 2) := by decide +kernel
theorem dL_move_19 : decode cL_move 19 = .ok (.iconst 2, 1) := by decide +kernel
theorem dL_move_20 : decode cL_move 20 = .ok (.ireturn, 1) := by decide +kernel
theorem dL_move_21 : decode cL_move 21 = .ok (.iconst 0, 1) := by decide +kernel
theorem dL_move_22 : decode cL_move 22 = .ok (.ireturn, 1) := by decide +kernel
abbrev cL_done : ByteArray := method_20_code
def yL_done : MethodName := ⟨RL, "done", "(LReplenishRules;I)I"⟩
abbrev hL_done : List (Nat × Nat × Nat × Nat) := [(0, 5, 8, 78), (0, 5, 11, 15), (0, 5, 14, 24)]
abbrev wL_done : Cond := .codeWith yL_done cL_done 3 (some .int) hL_done
theorem kL_done : wL_done ∈ wG := mG 684 (by decide +kernel) rfl
theorem dL_done_0 : decode cL_done 0 = .ok (.aload_n 0, 1) := by decide +kernel
theorem dL_done_1 : decode cL_done 1 = .ok (.iload_n 1, 1) := by decide +kernel
theorem dL_done_2 : decode cL_done 2 = .ok (.invokevirtual 80, 3) := by decide +kernel
theorem dL_done_5 : decode cL_done 5 = .ok (.goto 12, 3) := by decide +kernel
theorem dL_done_8 : decode cL_done 8 = .ok (.astore_n 2, 1) := by decide +kernel
theorem dL_done_9 : decode cL_done 9 = .ok (.iconst 1, 1) := by decide +kernel
theorem dL_done_10 : decode cL_done 10 = .ok (.ireturn, 1) := by decide +kernel
theorem dL_done_11 : decode cL_done 11 = .ok (.astore_n 2, 1) := by decide +kernel
theorem dL_done_12 : decode cL_done 12 = .ok (.iconst 2, 1) := by decide +kernel
theorem dL_done_13 : decode cL_done 13 = .ok (.ireturn, 1) := by decide +kernel
theorem dL_done_14 : decode cL_done 14 = .ok (.astore_n 2, 1) := by decide +kernel
theorem dL_done_15 : decode cL_done 15 = .ok (.iconst 3, 1) := by decide +kernel
theorem dL_done_16 : decode cL_done 16 = .ok (.ireturn, 1) := by decide +kernel
theorem dL_done_17 : decode cL_done 17 = .ok (.iconst 0, 1) := by decide +kernel
theorem dL_done_18 : decode cL_done 18 = .ok (.ireturn, 1) := by decide +kernel
abbrev cL_told : ByteArray := method_21_code
def yL_told : MethodName := ⟨RL, "told", "(LReplenishRules;II[J)I"⟩
abbrev hL_told : List (Nat × Nat × Nat × Nat) := [(0, 10, 13, 13)]
abbrev wL_told : Cond := .codeWith yL_told cL_told 5 (some .int) hL_told
theorem kL_told : wL_told ∈ wG := mG 694 (by decide +kernel) rfl
theorem dL_told_0 : decode cL_told 0 = .ok (.aload_n 3, 1) := by decide +kernel
theorem dL_told_1 : decode cL_told 1 = .ok (.iconst 0, 1) := by decide +kernel
theorem dL_told_2 : decode cL_told 2 = .ok (.aload_n 0, 1) := by decide +kernel
theorem dL_told_3 : decode cL_told 3 = .ok (.iload_n 1, 1) := by decide +kernel
theorem dL_told_4 : decode cL_told 4 = .ok (.iload_n 2, 1) := by decide +kernel
theorem dL_told_5 : decode cL_told 5 = .ok (.invokevirtual 83, 3) := by decide +kernel
theorem dL_told_8 : decode cL_told 8 = .ok (.i2l, 1) := by decide +kernel
theorem dL_told_9 : decode cL_told 9 = .ok (.lastore, 1) := by decide +kernel
theorem dL_told_10 : decode cL_told 10 = .ok (.goto 7, 3) := by decide +kernel
theorem dL_told_13 : decode cL_told 13 = .ok (.astore 4, 2) := by decide +kernel
theorem dL_told_15 : decode cL_told 15 = .ok (.iconst 1, 1) := by decide +kernel
theorem dL_told_16 : decode cL_told 16 = .ok (.ireturn, 1) := by decide +kernel
theorem dL_told_17 : decode cL_told 17 = .ok (.iconst 0, 1) := by decide +kernel
theorem dL_told_18 : decode cL_told 18 = .ok (.ireturn, 1) := by decide +kernel
