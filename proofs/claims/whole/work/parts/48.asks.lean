/-! each call, class and reference side by side (5): what is asked -/
def cdE (k : Nat) : Nat := if k = 5 then 3 else k
def cdR (k : Nat) : Nat := if k = 2 then 1 else k
theorem asks_t {n : Nat} {σ μ : St} (h : Rel n σ μ) (p : Int32) : m_asksS μ p 0 0 = nI (c_faceAt σ p) ∧ Rel n σ (m_asksS μ p) ∧ (c_faceAt σ p = 0 → vp_in p 16 ∧ ¬ m_asksR μ p = 0) := by
  have hT : m_asksT μ p = nI (c_faceAt σ p) ∧ (c_faceAt σ p = 0 → vp_in p 16) := by
    unfold m_asksT
    rcases fa_cases h p with ⟨f1, f2⟩ | ⟨f1, f2, hp, f3⟩ | ⟨f1, f2, hp, f3, _⟩
    · rw [f1, f2]; exact ⟨rfl, fun q => absurd q (by decide)⟩
    · rw [f1, f2, f3]; exact ⟨rfl, fun _ => hp⟩
    · rw [f1, f2, f3]; exact ⟨rfl, fun _ => hp⟩
  have e : m_asksS μ p 0 0 = nI (c_faceAt σ p) := by unfold m_asksS; rw [up_eq, hT.1]
  refine ⟨e, rel_t h, fun q => ⟨hT.2 q, ?_⟩⟩
  unfold m_asksR
  rw [e, q]; decide
theorem q_forecast {n : Nat} {σ μ : St} (h : Rel n σ μ) (hn : n ≤ 512) (p : Int32) : m_asksS μ p 0 0 = nI (c_faceAt σ p) ∧ Rel n σ (m_asksS μ p) ∧ (c_faceAt σ p = 0 → m_forecastR μ p = c_forecastOf σ (nx p)) := by
  obtain ⟨a, b, c⟩ := asks_t h p
  refine ⟨a, b, fun q => ?_⟩
  unfold m_forecastR
  rw [if_neg (c q).2]
  exact (fore_eq b hn (c q).1).symm
theorem q_threshold {n : Nat} {σ μ : St} (h : Rel n σ μ) (hn : n ≤ 512) (p : Int32) : m_asksS μ p 0 0 = nI (c_faceAt σ p) ∧ Rel n σ (m_asksS μ p) ∧ (c_faceAt σ p = 0 → m_thresholdR μ p = c_thresholdOf σ (nx p)) := by
  obtain ⟨a, b, c⟩ := asks_t h p
  refine ⟨a, b, fun q => ?_⟩
  unfold m_thresholdR
  rw [if_neg (c q).2]
  exact (limit_eq b hn (c q).1).1.symm
theorem q_above {n : Nat} {σ μ : St} (h : Rel n σ μ) (hn : n ≤ 512) (p : Int32) : m_asksS μ p 0 0 = nI (c_faceAt σ p) ∧ Rel n σ (m_asksS μ p) ∧ (c_faceAt σ p = 0 → m_aboveR μ p = c_aboveR σ p) := by
  obtain ⟨a, b, c⟩ := asks_t h p
  refine ⟨a, b, fun q => ?_⟩
  unfold m_aboveR c_aboveR
  rw [if_neg (c q).2, (need_eq b hn (c q).1).1, (b.1 _ (vp_lt (c q).1)).1.1]
theorem q_mean {n : Nat} {σ μ : St} (h : Rel n σ μ) (hn : n ≤ 512) (p m : Int32) : m_meanS μ p m 0 0 = nI (cdE (c_meanK σ p m)) ∧ Rel n σ (m_meanS μ p m) ∧ (c_meanK σ p m = 0 → m_meanR μ p m = c_meanR σ p m) := by
  have n10 : ¬ (1 : Int32) = 0 := by decide
  have hT : m_meanT μ p m = nI (cdE (c_meanK σ p m)) ∧ (c_meanK σ p m = 0 → vp_in p 16 ∧ ¬ m < 0 ∧ ¬ c_openDays σ m = 0) := by
    unfold m_meanT m_meanI c_meanK
    rcases rg_l m 0 60 0 60 (by decide) (by decide) with ⟨b1, b2, b3, b4⟩ | ⟨b1, b2⟩
    · have hm : ¬ m < 0 := by rw [i_lt, z_0]; omega
      rw [od_eq h hm]
      rcases fa_cases h p with ⟨f1, f2⟩ | ⟨f1, f2, hp, f3⟩ | ⟨f1, f2, hp, f3, _⟩
      · rw [b1, b2, f1, f2]
        have e : c_then 0 (c_then 1 (if c_openDays σ m = 0 then 5 else 0)) = 1 := rfl
        rw [e]; exact ⟨rfl, fun q => absurd q (by decide)⟩
      · rw [b1, b2, f1, f2, f3]
        have e : c_then 0 (c_then 2 (if c_openDays σ m = 0 then 5 else 0)) = 2 := rfl
        rw [e]; exact ⟨rfl, fun q => absurd q (by decide)⟩
      · rw [b1, b2, f1, f2, f3]
        simp only [c_then, if_true, if_neg n10]
        by_cases q : c_openDays σ m = 0
        · rw [if_pos q, if_pos q]; exact ⟨rfl, fun q => absurd q (by decide)⟩
        · rw [if_neg q, if_neg q]; exact ⟨rfl, fun _ => ⟨hp, hm, q⟩⟩
    · have e : c_then (c_rg m 0 60) (c_then (c_faceAt σ p) (if c_openDays σ m = 0 then 5 else 0)) = 1 := by rw [b1]; rfl
      have e2 : (if m_isPlace p = 0 then (0 : Int32) else if m_in m 0 60 = 0 then 0 else 1) = 0 := by
        rw [b2, if_pos rfl]; split <;> rfl
      rw [e, if_pos e2]; exact ⟨rfl, fun q => absurd q (by decide)⟩
  have e0 : m_meanS μ p m 0 0 = nI (cdE (c_meanK σ p m)) := by unfold m_meanS; rw [up_eq, hT.1]
  have b : Rel n σ (m_meanS μ p m) := rel_t h
  refine ⟨e0, b, fun q => ?_⟩
  obtain ⟨hp, hm, ho⟩ := hT.2 q
  unfold m_meanR c_meanR
  rw [if_pos (by rw [e0, q]; rfl), od_eq b hm, i_eq]
  have a1 := sm_m b hn hp m 0
  rw [if_pos rfl] at a1
  have a2 := ua_c b hn (vp_lt hp) hm
  have w := win_U b hn (vp_lt hp) (a := nx (σ 40 0) - nx m) (b := nx (σ 40 0)) (by omega) (by have := (today h).1; omega)
  have ob := od_bd h hm
  rw [i_eq, z_0] at ho
  have d1 := i_div (x := m_sum (m_meanS μ p m) p m 0) (y := c_openDays σ m) (by omega) (by omega)
  have d2 := l_div (x := c_usedAll σ (nx p) m) (y := (c_openDays σ m).toInt64) (by omega) (by rw [i_l]; omega)
  rw [i_l] at d2
  have n1 := Int.ediv_nonneg (a := (c_usedAll σ (nx p) m).toInt) (b := (c_openDays σ m).toInt) (by omega) (by omega)
  have n2 : (c_usedAll σ (nx p) m).toInt / (c_openDays σ m).toInt ≤ (c_usedAll σ (nx p) m).toInt := Int.ediv_le_self _ (by omega)
  rw [d1, l_i (by rw [d2]; omega) (by rw [d2]; omega), d2, a1, a2]
