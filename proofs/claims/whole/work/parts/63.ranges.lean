/-! what each call may throw -/
theorem rn_place (σ : St) (a0 b0 c0 : Int32) : c_placeK σ a0 b0 c0 = 0 ∨ c_placeK σ a0 b0 c0 = 1 ∨ c_placeK σ a0 b0 c0 = 2 := by
  simp only [c_placeK, c_faceK, c_putK, c_useK, c_holdK, c_casesK, c_ruleK, c_factorK, c_waveK, c_openK, c_dayK, c_meanK, c_runK, c_moveK, c_doneK2, c_toldK, c_placeAt, c_faceAt, c_moveAt, c_sp, c_then, c_rg]
  repeat' split
  all_goals omega
theorem rn_face (σ : St) (a0 b0 c0 d0 : Int32) : c_faceK σ a0 b0 c0 d0 = 0 ∨ c_faceK σ a0 b0 c0 d0 = 1 ∨ c_faceK σ a0 b0 c0 d0 = 2 := by
  simp only [c_placeK, c_faceK, c_putK, c_useK, c_holdK, c_casesK, c_ruleK, c_factorK, c_waveK, c_openK, c_dayK, c_meanK, c_runK, c_moveK, c_doneK2, c_toldK, c_placeAt, c_faceAt, c_moveAt, c_sp, c_then, c_rg]
  repeat' split
  all_goals omega
theorem rn_put (σ : St) (a0 b0 c0 : Int32) : c_putK σ a0 b0 c0 = 0 ∨ c_putK σ a0 b0 c0 = 1 ∨ c_putK σ a0 b0 c0 = 2 ∨ c_putK σ a0 b0 c0 = 3 := by
  simp only [c_placeK, c_faceK, c_putK, c_useK, c_holdK, c_casesK, c_ruleK, c_factorK, c_waveK, c_openK, c_dayK, c_meanK, c_runK, c_moveK, c_doneK2, c_toldK, c_placeAt, c_faceAt, c_moveAt, c_sp, c_then, c_rg]
  repeat' split
  all_goals omega
theorem rn_use (σ : St) (a0 b0 : Int32) : c_useK σ a0 b0 = 0 ∨ c_useK σ a0 b0 = 1 ∨ c_useK σ a0 b0 = 2 := by
  simp only [c_placeK, c_faceK, c_putK, c_useK, c_holdK, c_casesK, c_ruleK, c_factorK, c_waveK, c_openK, c_dayK, c_meanK, c_runK, c_moveK, c_doneK2, c_toldK, c_placeAt, c_faceAt, c_moveAt, c_sp, c_then, c_rg]
  repeat' split
  all_goals omega
theorem rn_hold (σ : St) (a0 b0 : Int32) : c_holdK σ a0 b0 = 0 ∨ c_holdK σ a0 b0 = 1 ∨ c_holdK σ a0 b0 = 2 := by
  simp only [c_placeK, c_faceK, c_putK, c_useK, c_holdK, c_casesK, c_ruleK, c_factorK, c_waveK, c_openK, c_dayK, c_meanK, c_runK, c_moveK, c_doneK2, c_toldK, c_placeAt, c_faceAt, c_moveAt, c_sp, c_then, c_rg]
  repeat' split
  all_goals omega
theorem rn_cases (a0 b0 : Int32) : c_casesK a0 b0 = 0 ∨ c_casesK a0 b0 = 1 := by
  simp only [c_placeK, c_faceK, c_putK, c_useK, c_holdK, c_casesK, c_ruleK, c_factorK, c_waveK, c_openK, c_dayK, c_meanK, c_runK, c_moveK, c_doneK2, c_toldK, c_placeAt, c_faceAt, c_moveAt, c_sp, c_then, c_rg]
  repeat' split
  all_goals omega
theorem rn_rule (a0 b0 c0 d0 : Int32) : c_ruleK a0 b0 c0 d0 = 0 ∨ c_ruleK a0 b0 c0 d0 = 1 := by
  simp only [c_placeK, c_faceK, c_putK, c_useK, c_holdK, c_casesK, c_ruleK, c_factorK, c_waveK, c_openK, c_dayK, c_meanK, c_runK, c_moveK, c_doneK2, c_toldK, c_placeAt, c_faceAt, c_moveAt, c_sp, c_then, c_rg]
  repeat' split
  all_goals omega
theorem rn_factor (a0 b0 c0 : Int32) : c_factorK a0 b0 c0 = 0 ∨ c_factorK a0 b0 c0 = 1 := by
  simp only [c_placeK, c_faceK, c_putK, c_useK, c_holdK, c_casesK, c_ruleK, c_factorK, c_waveK, c_openK, c_dayK, c_meanK, c_runK, c_moveK, c_doneK2, c_toldK, c_placeAt, c_faceAt, c_moveAt, c_sp, c_then, c_rg]
  repeat' split
  all_goals omega
theorem rn_wave (σ : St) (a0 b0 c0 : Int32) : c_waveK σ a0 b0 c0 = 0 ∨ c_waveK σ a0 b0 c0 = 1 ∨ c_waveK σ a0 b0 c0 = 2 ∨ c_waveK σ a0 b0 c0 = 3 := by
  simp only [c_placeK, c_faceK, c_putK, c_useK, c_holdK, c_casesK, c_ruleK, c_factorK, c_waveK, c_openK, c_dayK, c_meanK, c_runK, c_moveK, c_doneK2, c_toldK, c_placeAt, c_faceAt, c_moveAt, c_sp, c_then, c_rg]
  repeat' split
  all_goals omega
theorem rn_open (σ : St) (a0 : Int32) : c_openK σ a0 = 0 ∨ c_openK σ a0 = 1 ∨ c_openK σ a0 = 2 := by
  simp only [c_placeK, c_faceK, c_putK, c_useK, c_holdK, c_casesK, c_ruleK, c_factorK, c_waveK, c_openK, c_dayK, c_meanK, c_runK, c_moveK, c_doneK2, c_toldK, c_placeAt, c_faceAt, c_moveAt, c_sp, c_then, c_rg]
  repeat' split
  all_goals omega
theorem rn_day (σ : St) (a0 : Int32) : c_dayK σ a0 = 0 ∨ c_dayK σ a0 = 1 := by
  simp only [c_placeK, c_faceK, c_putK, c_useK, c_holdK, c_casesK, c_ruleK, c_factorK, c_waveK, c_openK, c_dayK, c_meanK, c_runK, c_moveK, c_doneK2, c_toldK, c_placeAt, c_faceAt, c_moveAt, c_sp, c_then, c_rg]
  repeat' split
  all_goals omega
theorem rn_mean (σ : St) (a0 b0 : Int32) : c_meanK σ a0 b0 = 0 ∨ c_meanK σ a0 b0 = 1 ∨ c_meanK σ a0 b0 = 2 ∨ c_meanK σ a0 b0 = 5 := by
  simp only [c_placeK, c_faceK, c_putK, c_useK, c_holdK, c_casesK, c_ruleK, c_factorK, c_waveK, c_openK, c_dayK, c_meanK, c_runK, c_moveK, c_doneK2, c_toldK, c_placeAt, c_faceAt, c_moveAt, c_sp, c_then, c_rg]
  repeat' split
  all_goals omega
theorem rn_forecast (σ : St) (a0 : Int32) : c_faceAt σ a0 = 0 ∨ c_faceAt σ a0 = 1 ∨ c_faceAt σ a0 = 2 := by
  simp only [c_placeK, c_faceK, c_putK, c_useK, c_holdK, c_casesK, c_ruleK, c_factorK, c_waveK, c_openK, c_dayK, c_meanK, c_runK, c_moveK, c_doneK2, c_toldK, c_placeAt, c_faceAt, c_moveAt, c_sp, c_then, c_rg]
  repeat' split
  all_goals omega
theorem rn_threshold (σ : St) (a0 : Int32) : c_faceAt σ a0 = 0 ∨ c_faceAt σ a0 = 1 ∨ c_faceAt σ a0 = 2 := by
  simp only [c_placeK, c_faceK, c_putK, c_useK, c_holdK, c_casesK, c_ruleK, c_factorK, c_waveK, c_openK, c_dayK, c_meanK, c_runK, c_moveK, c_doneK2, c_toldK, c_placeAt, c_faceAt, c_moveAt, c_sp, c_then, c_rg]
  repeat' split
  all_goals omega
theorem rn_above (σ : St) (a0 : Int32) : c_faceAt σ a0 = 0 ∨ c_faceAt σ a0 = 1 ∨ c_faceAt σ a0 = 2 := by
  simp only [c_placeK, c_faceK, c_putK, c_useK, c_holdK, c_casesK, c_ruleK, c_factorK, c_waveK, c_openK, c_dayK, c_meanK, c_runK, c_moveK, c_doneK2, c_toldK, c_placeAt, c_faceAt, c_moveAt, c_sp, c_then, c_rg]
  repeat' split
  all_goals omega
theorem rn_run (σ : St) : c_runK σ = 0 ∨ c_runK σ = 2 := by
  simp only [c_placeK, c_faceK, c_putK, c_useK, c_holdK, c_casesK, c_ruleK, c_factorK, c_waveK, c_openK, c_dayK, c_meanK, c_runK, c_moveK, c_doneK2, c_toldK, c_placeAt, c_faceAt, c_moveAt, c_sp, c_then, c_rg]
  repeat' split
  all_goals omega
theorem rn_move (σ : St) (a0 b0 : Int32) : c_moveK σ a0 b0 = 0 ∨ c_moveK σ a0 b0 = 1 ∨ c_moveK σ a0 b0 = 4 := by
  simp only [c_placeK, c_faceK, c_putK, c_useK, c_holdK, c_casesK, c_ruleK, c_factorK, c_waveK, c_openK, c_dayK, c_meanK, c_runK, c_moveK, c_doneK2, c_toldK, c_placeAt, c_faceAt, c_moveAt, c_sp, c_then, c_rg]
  repeat' split
  all_goals omega
theorem rn_done (σ : St) (a0 : Int32) : c_doneK2 σ a0 = 0 ∨ c_doneK2 σ a0 = 2 ∨ c_doneK2 σ a0 = 3 ∨ c_doneK2 σ a0 = 4 := by
  simp only [c_placeK, c_faceK, c_putK, c_useK, c_holdK, c_casesK, c_ruleK, c_factorK, c_waveK, c_openK, c_dayK, c_meanK, c_runK, c_moveK, c_doneK2, c_toldK, c_placeAt, c_faceAt, c_moveAt, c_sp, c_then, c_rg]
  repeat' split
  all_goals omega
theorem rn_told (a0 b0 : Int32) : c_toldK a0 b0 = 0 ∨ c_toldK a0 b0 = 1 := by
  simp only [c_placeK, c_faceK, c_putK, c_useK, c_holdK, c_casesK, c_ruleK, c_factorK, c_waveK, c_openK, c_dayK, c_meanK, c_runK, c_moveK, c_doneK2, c_toldK, c_placeAt, c_faceAt, c_moveAt, c_sp, c_then, c_rg]
  repeat' split
  all_goals omega
