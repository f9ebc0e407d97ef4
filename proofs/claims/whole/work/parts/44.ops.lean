/-! each call, class and reference side by side (3) -/
theorem kt_cases (g m : Int32) : m_casesT g m = nI (c_casesK g m) ∧ c_casesK g m < 10 ∧ (c_casesK g m = 0 → vp_in g 8 ∧ 1 ≤ m.toInt ∧ m.toInt ≤ 1000) := by
  unfold m_casesT c_casesK
  rcases rg_l g 0 7 0 7 (by decide) (by decide) with ⟨a1, a2, a3, a4⟩ | ⟨a1, a2⟩
  · rcases rg_l m 1 1000 1 1000 (by decide) (by decide) with ⟨b1, b2, b3, b4⟩ | ⟨b1, b2⟩
    · rw [a1, a2, b1, b2]; exact ⟨rfl, by decide, fun _ => ⟨I_in ⟨a3, by omega⟩, b3, b4⟩⟩
    · rw [a1, a2, b1, b2]; exact refK 1 (by decide) rfl rfl
  · rw [a1, a2]; exact refK 1 (by decide) rfl rfl
theorem q_cases {n : Nat} {σ μ : St} (h : Rel n σ μ) (g m : Int32) : m_casesS μ g m 0 0 = nI (c_casesK g m) ∧ Rel n (if c_casesK g m = 0 then c_casesS σ g m else σ) (m_casesS μ g m) := by
  obtain ⟨hT, hK, h0⟩ := kt_cases g m
  simp only [m_casesS]
  generalize m_casesT g m = T at hT ⊢
  generalize c_casesK g m = K at hT hK h0 ⊢
  refine call_of h hT hK (by simp [up]) (fun q => ?_)
  obtain ⟨hg, hm, hm2⟩ := h0 q
  refine rel_c h (fun r c => up_row (by omega)) (fun r c d => by rw [up_row (by omega), up_row (by omega)]) ?_
  obtain ⟨c1, c2, c3, c4, c5, c6⟩ := h.2.2.1
  refine ⟨fun i hi => ?_, c2, c3, c4, c5, c6⟩
  show up σ 30 (nx g) m 30 i = up (up μ 0 0 T) 10 (nx g) m 10 i ∧ 1 ≤ (up σ 30 (nx g) m 30 i).toInt ∧ (up σ 30 (nx g) m 30 i).toInt ≤ 1000
  by_cases e : i = nx g
  · subst e; rw [up_eq, up_eq]; exact ⟨rfl, hm, hm2⟩
  · rw [up_ix e, up_ix e]; exact c1 i hi
theorem kt_rule (z k a u : Int32) : m_ruleT z k a u = nI (c_ruleK z k a u) ∧ c_ruleK z k a u < 10 ∧ (c_ruleK z k a u = 0 → vp_in z 4 ∧ vp_in k 3 ∧ 1 ≤ a.toInt ∧ a.toInt ≤ 30) := by
  unfold m_ruleT c_ruleK
  rcases rg_l z 0 3 0 3 (by decide) (by decide) with ⟨a1, a2, a3, a4⟩ | ⟨a1, a2⟩
  · rcases rg_l k 0 2 0 2 (by decide) (by decide) with ⟨b1, b2, b3, b4⟩ | ⟨b1, b2⟩
    · rcases rg_l a 1 30 1 30 (by decide) (by decide) with ⟨d1, d2, d3, d4⟩ | ⟨d1, d2⟩
      · rcases rg_l u 0 399 0 399 (by decide) (by decide) with ⟨f1, f2, f3, f4⟩ | ⟨f1, f2⟩
        · rw [a1, a2, b1, b2, d1, d2, f1, f2]; exact ⟨rfl, by decide, fun _ => ⟨I_in ⟨a3, by omega⟩, I_in ⟨b3, by omega⟩, d3, d4⟩⟩
        · rw [a1, a2, b1, b2, d1, d2, f1, f2]; exact refK 1 (by decide) rfl rfl
      · rw [a1, a2, b1, b2, d1, d2]; exact refK 1 (by decide) rfl rfl
    · rw [a1, a2, b1, b2]; exact refK 1 (by decide) rfl rfl
  · rw [a1, a2]; exact refK 1 (by decide) rfl rfl
theorem q_rule {n : Nat} {σ μ : St} (h : Rel n σ μ) (z k a u : Int32) : m_ruleS μ z k a u 0 0 = nI (c_ruleK z k a u) ∧ Rel n (if c_ruleK z k a u = 0 then c_ruleS σ z k a u else σ) (m_ruleS μ z k a u) := by
  obtain ⟨hT, hK, h0⟩ := kt_rule z k a u
  simp only [m_ruleS]
  generalize m_ruleT z k a u = T at hT ⊢
  generalize c_ruleK z k a u = K at hT hK h0 ⊢
  refine call_of h hT hK (by simp [up]) (fun q => ?_)
  obtain ⟨hz, hk, ha, ha2⟩ := h0 q
  refine rel_c h (fun r c => by unfold c_ruleS; rw [up_row (by omega), up_row (by omega), up_row (by omega)]) (fun r c d => by rw [up_row (by omega), up_row (by omega), up_row (by omega), up_row (by omega)]) ?_
  obtain ⟨c1, c2, c3, c4, c5, c6⟩ := h.2.2.1
  refine ⟨c1, fun i hi => ?_, c3, c4, c5, c6⟩
  have s20 : c_ruleS σ z k a u 20 i = if i = nx z then k else σ 20 i := by simp [c_ruleS, up]
  have s21 : c_ruleS σ z k a u 21 i = if i = nx z then a else σ 21 i := by simp [c_ruleS, up]
  have s22 : c_ruleS σ z k a u 22 i = if i = nx z then u else σ 22 i := by simp [c_ruleS, up]
  have t20 : up (up (up (up μ 0 0 T) 13 (nx z) k) 14 (nx z) a) 15 (nx z) u 13 i = if i = nx z then k else μ 13 i := by simp [up]
  have t21 : up (up (up (up μ 0 0 T) 13 (nx z) k) 14 (nx z) a) 15 (nx z) u 14 i = if i = nx z then a else μ 14 i := by simp [up]
  have t22 : up (up (up (up μ 0 0 T) 13 (nx z) k) 14 (nx z) a) 15 (nx z) u 15 i = if i = nx z then u else μ 15 i := by simp [up]
  rw [s20, s21, s22, t20, t21, t22]
  by_cases e : i = nx z
  · rw [if_pos e, if_pos e, if_pos e, if_pos e, if_pos e, if_pos e]; exact ⟨rfl, rfl, rfl, hk, ha, ha2⟩
  · rw [if_neg e, if_neg e, if_neg e, if_neg e, if_neg e, if_neg e]; exact c2 i hi
theorem kt_factor (m u d : Int32) : m_factorT m u d = nI (c_factorK m u d) ∧ c_factorK m u d < 10 ∧ (c_factorK m u d = 0 → vp_in m 12 ∧ 0 ≤ u.toInt ∧ u.toInt ≤ 1000 ∧ 1 ≤ d.toInt ∧ d.toInt ≤ 1000) := by
  unfold m_factorT c_factorK
  rcases rg_l m 0 11 0 11 (by decide) (by decide) with ⟨a1, a2, a3, a4⟩ | ⟨a1, a2⟩
  · rcases rg_l u 0 1000 0 1000 (by decide) (by decide) with ⟨b1, b2, b3, b4⟩ | ⟨b1, b2⟩
    · rcases rg_l d 1 1000 1 1000 (by decide) (by decide) with ⟨d1, d2, d3, d4⟩ | ⟨d1, d2⟩
      · rw [a1, a2, b1, b2, d1, d2]; exact ⟨rfl, by decide, fun _ => ⟨I_in ⟨a3, by omega⟩, b3, b4, d3, d4⟩⟩
      · rw [a1, a2, b1, b2, d1, d2]; exact refK 1 (by decide) rfl rfl
    · rw [a1, a2, b1, b2]; exact refK 1 (by decide) rfl rfl
  · rw [a1, a2]; exact refK 1 (by decide) rfl rfl
theorem q_factor {n : Nat} {σ μ : St} (h : Rel n σ μ) (m u d : Int32) : m_factorS μ m u d 0 0 = nI (c_factorK m u d) ∧ Rel n (if c_factorK m u d = 0 then c_factorS σ m u d else σ) (m_factorS μ m u d) := by
  obtain ⟨hT, hK, h0⟩ := kt_factor m u d
  simp only [m_factorS]
  generalize m_factorT m u d = T at hT ⊢
  generalize c_factorK m u d = K at hT hK h0 ⊢
  refine call_of h hT hK (by simp [up]) (fun q => ?_)
  obtain ⟨hm, hu, hu2, hd, hd2⟩ := h0 q
  refine rel_c h (fun r c => by unfold c_factorS; rw [up_row (by omega), up_row (by omega)]) (fun r c d => by rw [up_row (by omega), up_row (by omega), up_row (by omega)]) ?_
  obtain ⟨c1, c2, c3, c4, c5, c6⟩ := h.2.2.1
  refine ⟨c1, c2, fun i hi => ?_, c4, c5, c6⟩
  have s31 : c_factorS σ m u d 31 i = if i = nx m then u else σ 31 i := by simp [c_factorS, up]
  have s32 : c_factorS σ m u d 32 i = if i = nx m then d else σ 32 i := by simp [c_factorS, up]
  have t31 : up (up (up μ 0 0 T) 16 (nx m) u) 17 (nx m) d 16 i = if i = nx m then u else μ 16 i := by simp [up]
  have t32 : up (up (up μ 0 0 T) 16 (nx m) u) 17 (nx m) d 17 i = if i = nx m then d else μ 17 i := by simp [up]
  rw [s31, s32, t31, t32]
  by_cases e : i = nx m
  · rw [if_pos e, if_pos e, if_pos e, if_pos e]; exact ⟨rfl, rfl, hu, hu2, hd, hd2⟩
  · rw [if_neg e, if_neg e, if_neg e, if_neg e]; exact c3 i hi
theorem kt_open {n : Nat} {σ μ : St} (h : Rel n σ μ) (d : Int32) : m_openT μ d = nI (c_openK σ d) ∧ c_openK σ d < 10 ∧ (c_openK σ d = 0 → True) := by
  unfold m_openT c_openK
  rcases rg_l d 0 399 0 399 (by decide) (by decide) with ⟨a1, a2, a3, a4⟩ | ⟨a1, a2⟩
  · rw [a1, a2, ← h.2.2.1.2.2.2.2.1, if_neg (by decide)]
    simp only [c_then, if_true]
    by_cases q : σ 40 0 ≤ d
    · rw [if_pos q, if_pos q]; exact ⟨rfl, by decide, fun _ => trivial⟩
    · rw [if_neg q, if_neg q]; exact ⟨rfl, by decide, fun _ => trivial⟩
  · rw [a1, a2]; exact refK 1 (by decide) rfl rfl
theorem q_open {n : Nat} {σ μ : St} (h : Rel n σ μ) (d o : Int32) : m_openS μ d o 0 0 = nI (c_openK σ d) ∧ Rel n (if c_openK σ d = 0 then c_openS σ d o else σ) (m_openS μ d o) := by
  obtain ⟨hT, hK, h0⟩ := kt_open h d
  simp only [m_openS]
  generalize m_openT μ d = T at hT ⊢
  generalize c_openK σ d = K at hT hK h0 ⊢
  refine call_of h hT hK (by simp [up]) (fun q => ?_)
  refine rel_c h (fun r c => by unfold c_openS; rw [up_row (by omega)]) (fun r c d => by rw [up_row (by omega), up_row (by omega)]) ?_
  obtain ⟨c1, c2, c3, c4, c5, c6⟩ := h.2.2.1
  refine ⟨c1, c2, c3, fun i hi => ?_, c5, c6⟩
  unfold c_openS
  by_cases e : i = nx d
  · subst e; rw [up_eq, up_eq]
  · rw [up_ix e, up_ix e]; exact c4 i hi
theorem kt_day {n : Nat} {σ μ : St} (h : Rel n σ μ) (d : Int32) : m_dayT μ d = nI (c_dayK σ d) ∧ c_dayK σ d < 10 ∧ (c_dayK σ d = 0 → vp_in d 400) := by
  unfold m_dayT c_dayK
  have ht := (in_I h.2.2.1.2.2.2.2.2).1
  rw [← h.2.2.1.2.2.2.2.1]
  rcases rg_in2 d (σ 40 0) 399 with ⟨a1, a2, a3, a4⟩ | ⟨a1, a2⟩
  · rw [show (399 : Int32).toInt = 399 by decide] at a4
    rw [a1, a2]; exact ⟨rfl, by decide, fun _ => I_in ⟨by omega, by omega⟩⟩
  · rw [a1, a2]; exact refK 1 (by decide) rfl rfl
theorem q_day {n : Nat} {σ μ : St} (h : Rel n σ μ) (d : Int32) : m_dayS μ d 0 0 = nI (c_dayK σ d) ∧ Rel n (if c_dayK σ d = 0 then c_dayS σ d else σ) (m_dayS μ d) := by
  obtain ⟨hT, hK, h0⟩ := kt_day h d
  simp only [m_dayS]
  generalize m_dayT μ d = T at hT ⊢
  generalize c_dayK σ d = K at hT hK h0 ⊢
  refine call_of h hT hK (by simp [up]) (fun q => ?_)
  have hd := h0 q
  refine rel_c h (fun r c => by unfold c_dayS; rw [up_row (by omega)]) (fun r c d => by rw [up_row (by omega), up_row (by omega)]) ?_
  obtain ⟨c1, c2, c3, c4, c5, c6⟩ := h.2.2.1
  refine ⟨c1, c2, c3, c4, ?_, ?_⟩
  · unfold c_dayS; rw [up_eq, up_eq]
  · unfold c_dayS; rw [up_eq]; exact hd
theorem kt_wave {n : Nat} {σ μ : St} (h : Rel n σ μ) (p m d : Int32) : m_waveT μ p m d = nI (c_waveK σ p m d) ∧ c_waveK σ p m d < 10 ∧ (c_waveK σ p m d = 0 → vp_in p 16 ∧ σ 41 0 < 30) := by
  unfold m_waveT c_waveK
  have n10 : ¬ (1 : Int32) = 0 := by decide
  have ht := (in_I h.2.2.1.2.2.2.2.2).1
  rw [← h.2.2.1.2.2.2.2.1, ← h.2.2.2.1.1]
  rcases rg_l m 1 100000 1 100000 (by decide) (by decide) with ⟨b1, b2, b3, b4⟩ | ⟨b1, b2⟩
  · rcases rg_in2 d (σ 40 0) 399 with ⟨d1, d2, d3, d4⟩ | ⟨d1, d2⟩
    · rcases fa_cases h p with ⟨f1, f2⟩ | ⟨f1, f2, hp, f3⟩ | ⟨f1, f2, hp, f3, _⟩
      · rw [b1, b2, d1, d2, f1, f2]; exact refK 1 (by decide) rfl rfl
      · rw [b1, b2, d1, d2, f1, f2, f3]; exact refK 2 (by decide) rfl rfl
      · rw [b1, b2, d1, d2, f1, f2, f3, if_neg n10, if_neg n10, if_neg n10, if_neg n10]
        simp only [c_then, if_true]
        have w := h.2.2.2.1.2.1
        by_cases q : σ 41 0 = 30
        · have q2 : ¬ σ 41 0 < 30 := by rw [q]; decide
          rw [if_pos q, if_neg q2]; exact ⟨rfl, by decide, fun z => absurd z (by decide)⟩
        · have q2 : σ 41 0 < 30 := by
            have e := nx_toInt w.1
            have w2 := w.2
            rw [i_eq, show (30 : Int32).toInt = 30 by decide] at q
            rw [i_lt, show (30 : Int32).toInt = 30 by decide]; omega
          rw [if_neg q, if_pos q2]; exact ⟨rfl, by decide, fun _ => ⟨hp, q2⟩⟩
    · have e : c_then (c_rg m 1 100000) (c_then (c_rg d (σ 40 0) 399) (c_then (c_faceAt σ p) (if σ 41 0 < 30 then 0 else 3))) = 1 := by rw [b1, d1]; rfl
      rw [e, b2, d2, if_neg n10]
      refine ⟨?_, by decide, fun z => absurd z (by decide)⟩
      by_cases z : m_isPlace p = 0
      · rw [if_pos z]; rfl
      · rw [if_neg z, if_pos rfl]; rfl
  · have e : c_then (c_rg m 1 100000) (c_then (c_rg d (σ 40 0) 399) (c_then (c_faceAt σ p) (if σ 41 0 < 30 then 0 else 3))) = 1 := by rw [b1]; rfl
    rw [e, b2]
    refine ⟨?_, by decide, fun z => absurd z (by decide)⟩
    by_cases z : m_isPlace p = 0
    · rw [if_pos z]; rfl
    · rw [if_neg z, if_pos rfl]; rfl
theorem q_wave {n : Nat} {σ μ : St} (h : Rel n σ μ) (p m d : Int32) : m_waveS μ p m d 0 0 = nI (c_waveK σ p m d) ∧ Rel n (if c_waveK σ p m d = 0 then c_waveS σ p m d else σ) (m_waveS μ p m d) := by
  obtain ⟨hT, hK, h0⟩ := kt_wave h p m d
  simp only [m_waveS]
  generalize m_waveT μ p m d = T at hT ⊢
  generalize c_waveK σ p m d = K at hT hK h0 ⊢
  refine call_of h hT hK (by simp [up]) (fun q => ?_)
  obtain ⟨hp, hw⟩ := h0 q
  obtain ⟨w1, w2, w3⟩ := h.2.2.2.1
  have ec : c_waveS σ p m d = up (up (up (up σ 34 (nx (σ 41 0)) p) 35 (nx (σ 41 0)) m) 36 (nx (σ 41 0)) d) 41 0 (σ 41 0 + 1) := by
    unfold c_waveS c_wavesAdd; rw [if_pos hw, nI_nx_in hp]
  have em : up (up (up (up (up μ 0 0 T) 20 (nx (up μ 0 0 T 19 0)) p) 21 (nx (up (up μ 0 0 T) 20 (nx (up μ 0 0 T 19 0)) p 19 0)) m) 22 (nx (up (up (up μ 0 0 T) 20 (nx (up μ 0 0 T 19 0)) p) 21 (nx (up (up μ 0 0 T) 20 (nx (up μ 0 0 T 19 0)) p 19 0)) m 19 0)) d) 19 0 (up (up (up (up μ 0 0 T) 20 (nx (up μ 0 0 T 19 0)) p) 21 (nx (up (up μ 0 0 T) 20 (nx (up μ 0 0 T 19 0)) p 19 0)) m) 22 (nx (up (up (up μ 0 0 T) 20 (nx (up μ 0 0 T 19 0)) p) 21 (nx (up (up μ 0 0 T) 20 (nx (up μ 0 0 T 19 0)) p 19 0)) m 19 0)) d 19 0 + 1) = up (up (up (up (up μ 0 0 T) 20 (nx (σ 41 0)) p) 21 (nx (σ 41 0)) m) 22 (nx (σ 41 0)) d) 19 0 (σ 41 0 + 1) := by
    rw [w1]; rfl
  rw [em, ec]
  have hc := cnt_up w2.1 hw
  generalize hk : nx (σ 41 0) = k at *
  have es : ∀ r, (r < 34 ∨ 37 ≤ r ∧ r ≠ 41) → up (up (up (up σ 34 k p) 35 k m) 36 k d) 41 0 (σ 41 0 + 1) r = σ r := fun r c => by rw [up_row (by omega), up_row (by omega), up_row (by omega), up_row (by omega)]
  have et : ∀ r, r ≠ 0 → (r < 19 ∨ 23 ≤ r) → up (up (up (up (up μ 0 0 T) 20 k p) 21 k m) 22 k d) 19 0 (σ 41 0 + 1) r = μ r := fun r c c2 => by rw [up_row (by omega), up_row (by omega), up_row (by omega), up_row (by omega), up_row (by omega)]
  refine ⟨fun i hi => Rp_of (h.1 i hi) (fun r a => by rw [es r (by omega)]) (fun r a b => by rw [et r (by omega) (by omega)]), fun i hi => Ru_of (h.2.1 i hi) (es _ (by omega)) (et _ (by omega) (by omega)), ?_, ⟨?_, ?_, fun j hj => ?_⟩, Rm_of h.2.2.2.2 (fun r a b => es r (by omega)) (fun r a b => et r (by omega) (by omega)) (fun i hi q => by rw [es 5 (by omega)]; exact q)⟩
  · have c := h.2.2.1
    unfold Rc at c ⊢
    rw [es 20 (by omega), es 21 (by omega), es 22 (by omega), es 30 (by omega), es 31 (by omega), es 32 (by omega), es 33 (by omega), es 40 (by omega), et 10 (by omega) (by omega), et 11 (by omega) (by omega), et 13 (by omega) (by omega), et 14 (by omega) (by omega), et 15 (by omega) (by omega), et 16 (by omega) (by omega), et 17 (by omega) (by omega), et 18 (by omega) (by omega)]
    exact c
  · rw [up_eq, up_eq]
  · rw [up_eq]; exact hc
  · have s1 : up (up (up (up σ 34 k p) 35 k m) 36 k d) 41 0 (σ 41 0 + 1) 34 j = if j = k then p else σ 34 j := by simp [up]
    have s2 : up (up (up (up σ 34 k p) 35 k m) 36 k d) 41 0 (σ 41 0 + 1) 35 j = if j = k then m else σ 35 j := by simp [up]
    have s3 : up (up (up (up σ 34 k p) 35 k m) 36 k d) 41 0 (σ 41 0 + 1) 36 j = if j = k then d else σ 36 j := by simp [up]
    have t1 : up (up (up (up (up μ 0 0 T) 20 k p) 21 k m) 22 k d) 19 0 (σ 41 0 + 1) 20 j = if j = k then p else μ 20 j := by simp [up]
    have t2 : up (up (up (up (up μ 0 0 T) 20 k p) 21 k m) 22 k d) 19 0 (σ 41 0 + 1) 21 j = if j = k then m else μ 21 j := by simp [up]
    have t3 : up (up (up (up (up μ 0 0 T) 20 k p) 21 k m) 22 k d) 19 0 (σ 41 0 + 1) 22 j = if j = k then d else μ 22 j := by simp [up]
    rw [s1, s2, s3, t1, t2, t3]
    obtain ⟨x1, x2, x3⟩ := w3 j hj
    rw [x1, x2, x3]
    exact ⟨rfl, rfl, rfl⟩
theorem q_told {n : Nat} {σ μ : St} (h : Rel n σ μ) (p w : Int32) : m_toldS μ p w 0 0 = nI (c_toldK p w) ∧ Rel n σ (m_toldS μ p w) ∧ (c_toldK p w = 0 → m_toldR μ p w = c_tell σ (nx p) w) := by
  unfold m_toldS
  have hT : m_toldT p w = nI (c_toldK p w) ∧ (c_toldK p w = 0 → vp_in p 16) := by
    unfold m_toldT c_toldK c_placeAt m_isPlace
    rcases rg_l p 0 15 0 15 (by decide) (by decide) with ⟨a1, a2, a3, a4⟩ | ⟨a1, a2⟩
    · rcases rg_l w 0 5 0 5 (by decide) (by decide) with ⟨b1, b2, b3, b4⟩ | ⟨b1, b2⟩
      · rw [a1, a2, b1, b2]; exact ⟨rfl, fun _ => I_in ⟨a3, by omega⟩⟩
      · rw [a1, a2, b1, b2]; exact ⟨rfl, fun _ => I_in ⟨a3, by omega⟩⟩
    · rw [a1, a2]; exact ⟨rfl, fun q => absurd q (by unfold c_then; rw [if_neg (by decide)]; decide)⟩
  refine ⟨by rw [up_eq, hT.1], rel_t h, fun q => ?_⟩
  obtain ⟨⟨e0, e1, e2, e3, e4, e6, e7⟩, f, _⟩ := h.1 _ (vp_lt (hT.2 q))
  have e0 : m_toldS μ p w 0 0 ≤ 0 := by unfold m_toldS; rw [up_eq, hT.1, q]; decide
  unfold m_toldR
  rw [if_pos e0]
  have er : ∀ r, r ≠ 0 → m_toldS μ p w r = μ r := fun r c => up_row c
  rw [er 3 (by decide), er 4 (by decide), er 5 (by decide), er 6 (by decide), er 8 (by decide), er 9 (by decide), ← e2, ← e3, ← e4, ← e6, ← e7]
  unfold c_tell c_isFace
  rcases f with ⟨f1, f2, f3, f4⟩ | ⟨f1, f2, f3⟩
  · rw [f2, f3, f4, if_pos f1]
    simp only [if_true]
  · have f5 : ¬ σ 5 (nx p) = -1 := fun q => by rw [q] at f1; exact absurd (in_I f1).1 (by decide)
    have n10 : ¬ (1 : Int32) = 0 := by decide
    rw [f2, if_neg f5]
    simp only [if_neg n10]
