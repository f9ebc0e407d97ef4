/-! each call, class and reference side by side (4): moves -/
/-- the law's words for what is thrown: move, done, mean, run -/
def cdM (k : Nat) : Nat := if k = 4 then 1 else if k = 1 then 2 else 0
def cdD (k : Nat) : Nat := if k = 4 then 1 else k
theorem mv_cases {n : Nat} {σ μ : St} (h : Rel n σ μ) (i : Int32) : (c_moveAt σ i = 4 ∧ m_in i 0 (μ 23 0 - 1) = 0) ∨ (c_moveAt σ i = 0 ∧ m_in i 0 (μ 23 0 - 1) = 1 ∧ vp_in i 30 ∧ nx i < nx (σ 42 0)) := by
  obtain ⟨m1, m2, _⟩ := h.2.2.2.2
  rw [← m1]
  have e := nx_toInt m2.1
  have m22 := m2.2
  have es := i_sub (x := σ 42 0) (y := 1) (by rw [z_1]; omega) (by rw [z_1]; omega)
  rw [z_1] at es
  unfold c_moveAt m_in
  by_cases q : i < 0
  · exact .inl ⟨if_pos q, if_pos q⟩
  · have ei := nx_toInt q
    rw [if_neg q, if_neg q]
    by_cases q2 : i < σ 42 0
    · have q3 : ¬ σ 42 0 - 1 < i := fun z => by rw [i_lt] at z q2; omega
      rw [if_pos q2, if_neg q3]
      rw [i_lt] at q2
      exact .inr ⟨rfl, rfl, I_in ⟨by omega, by omega⟩, by omega⟩
    · have q3 : σ 42 0 - 1 < i := by rw [i_lt] at q2 ⊢; omega
      rw [if_neg q2, if_pos q3]
      exact .inl ⟨rfl, rfl⟩
theorem q_move {n : Nat} {σ μ : St} (h : Rel n σ μ) (i w : Int32) : m_moveS μ i w 0 0 = nI (cdM (c_moveK σ i w)) ∧ Rel n σ (m_moveS μ i w) ∧ (c_moveK σ i w = 0 → m_moveR μ i w = c_mtell σ (nx i) w) := by
  unfold m_moveS
  have hT : m_moveT μ i w = nI (cdM (c_moveK σ i w)) ∧ (c_moveK σ i w = 0 → vp_in i 30) := by
    unfold m_moveT c_moveK
    rcases mv_cases h i with ⟨a1, a2⟩ | ⟨a1, a2, a3, a4⟩
    · rw [a1, a2]
      have e : c_then 4 (c_rg w 0 6) = 4 := rfl
      rw [e]; exact ⟨rfl, fun q => absurd q (by decide)⟩
    · rcases rg_l w 0 6 0 6 (by decide) (by decide) with ⟨b1, b2, b3, b4⟩ | ⟨b1, b2⟩
      · rw [a1, a2, b1, b2]; exact ⟨rfl, fun _ => a3⟩
      · rw [a1, a2, b1, b2]; exact ⟨rfl, fun _ => a3⟩
  refine ⟨by rw [up_eq, hT.1], rel_t h, fun q => ?_⟩
  obtain ⟨e0, e1, e2, e3, e4, e5, e6, _⟩ := h.2.2.2.2.2.2.1 _ (vp_lt (hT.2 q))
  have hh : m_moveS μ i w 0 0 ≤ 0 := by unfold m_moveS; rw [up_eq, hT.1, q]; decide
  unfold m_moveR
  rw [if_pos hh]
  have er : ∀ r, r ≠ 0 → m_moveS μ i w r = μ r := fun r c => up_row c
  rw [er 24 (by decide), er 25 (by decide), er 26 (by decide), er 27 (by decide), er 28 (by decide), er 29 (by decide), er 30 (by decide), ← e0, ← e1, ← e2, ← e3, ← e4, ← e5, ← e6]
  rfl
theorem take_le {σ : St} {a b : Nat} {m : Int32} (h1 : 0 ≤ m.toInt) (h2 : m.toInt ≤ (σ 2 a).toInt) : (c_takeAway σ a m 2 b).toInt ≤ (σ 2 b).toInt := by
  have e : c_takeAway σ a m 2 b = if b = a then σ 2 a - m else σ 2 b := by
    simp only [c_takeAway]; split <;> simp [up]
  have hl := (σ 2 a).toInt_lt
  have hs := i_sub (x := σ 2 a) (y := m) (by omega) (by omega)
  rw [e]
  by_cases q : b = a
  · rw [if_pos q, hs, q]; omega
  · rw [if_neg q]; exact Int.le_refl _
/-- a move is done -/
theorem rel_mdone {n : Nat} {σ μ : St} (h : Rel n σ μ) (i : Nat) : Rel n (up σ 56 i 1) (up μ 30 i 1) := by
  have es : ∀ r, r ≠ 56 → up σ 56 i 1 r = σ r := fun r c => up_row c
  have et : ∀ r, r ≠ 30 → up μ 30 i 1 r = μ r := fun r c => up_row c
  refine ⟨fun i hi => Rp_of (h.1 i hi) (fun r a => by rw [es r (by omega)]) (fun r a b => by rw [et r (by omega)]), fun i hi => Ru_of (h.2.1 i hi) (es _ (by omega)) (et _ (by omega)), Rc_of h.2.2.1 (fun r a _ => es r (by omega)) (fun r a _ => et r (by omega)), Rw_of h.2.2.2.1 (fun r a _ _ => es r (by omega)) (fun r a _ => et r (by omega)), ?_⟩
  obtain ⟨m1, m2, m3, m4⟩ := h.2.2.2.2
  unfold Rm
  rw [es 42 (by decide), es 50 (by decide), es 51 (by decide), es 52 (by decide), es 53 (by decide), es 54 (by decide), es 55 (by decide), es 5 (by decide), et 23 (by decide), et 24 (by decide), et 25 (by decide), et 26 (by decide), et 27 (by decide), et 28 (by decide), et 29 (by decide)]
  refine ⟨m1, m2, fun j hj => ?_, m4⟩
  obtain ⟨e0, e1, e2, e3, e4, e5, e6, e7⟩ := m3 j hj
  refine ⟨e0, e1, e2, e3, e4, e5, ?_, e7⟩
  by_cases e : j = i
  · subst e; rw [up_eq, up_eq]
  · rw [up_ix e, up_ix e]; exact e6
theorem kt_done {n : Nat} {σ μ : St} (h : Rel n σ μ) {i : Int32} (hi : vp_in i 30) (hc : nx i < nx (σ 42 0)) (a1 : c_moveAt σ i = 0) : m_doneT μ i = nI (c_doneK2 σ i) ∧ c_doneK2 σ i < 4 ∧ (c_doneK2 σ i = 0 → (σ 52 (nx i)).toInt ≤ (σ 2 (nx (σ 50 (nx i)))).toInt - (σ 3 (nx (σ 50 (nx i)))).toInt ∧ (σ 2 (nx (σ 51 (nx i)))).toInt + (σ 52 (nx i)).toInt ≤ (σ 0 (nx (σ 51 (nx i)))).toInt) := by
  obtain ⟨e0, e1, e2, e3, e4, e5, e6, va, vb⟩ := h.2.2.2.2.2.2.1 _ (vp_lt hi)
  obtain ⟨f1, f2, f3⟩ := h.2.2.2.2.2.2.2 _ hc
  have Ra := h.1 _ (vp_lt va)
  have Rb := h.1 _ (vp_lt vb)
  have fb : σ 5 (nx (σ 51 (nx i))) = μ 7 (nx (σ 51 (nx i))) := by
    rcases isFace_iff Rb with x | x
    · exact absurd x.2.2 f1
    · exact x.2.2.2
  obtain ⟨n1, n2⟩ := nh_eq h va
  have hH := holds_eq (p := σ 51 (nx i)) (g := σ 5 (nx (σ 51 (nx i)))) Rb
  obtain ⟨s1, s2⟩ := sp_eq (p := σ 51 (nx i)) (n := σ 52 (nx i)) Rb f2 f3
  unfold m_doneT c_doneK2 m_lacks
  rw [a1, ← e6, ← e0, ← e1, ← e2, ← fb, ← n1, ← hH, ← Ra.1.2.2.2.2.1, s1]
  simp only [c_then, if_true]
  have n10 : ¬ (1 : Int32) = 0 := by decide
  by_cases q1 : σ 56 (nx i) = 0
  · rw [if_pos q1, if_pos q1]
    by_cases q2 : σ 4 (nx (σ 50 (nx i))) = σ 5 (nx (σ 51 (nx i)))
    · simp only [if_pos q2]
      by_cases q3 : σ 52 (nx i) ≤ c_notHeld σ (nx (σ 50 (nx i)))
      · simp only [if_pos q3, if_true]
        by_cases q4 : c_holdsAnother σ (nx (σ 51 (nx i))) (σ 5 (nx (σ 51 (nx i)))) = 0
        · rw [if_pos q4, if_pos q4]
          by_cases q5 : μ 3 (nx (σ 51 (nx i))) + σ 52 (nx i) ≤ μ 1 (nx (σ 51 (nx i)))
          · rw [if_pos q5, if_pos q5]
            rw [i_le, n2] at q3
            exact ⟨rfl, by decide, fun _ => ⟨q3, (s2 q5).1⟩⟩
          · rw [if_neg q5, if_neg q5]; exact ⟨rfl, by decide, fun z => absurd z (by decide)⟩
        · rw [if_neg q4, if_neg q4]; exact ⟨rfl, by decide, fun z => absurd z (by decide)⟩
      · simp only [if_neg q3, if_neg n10]; exact ⟨rfl, by decide, fun z => absurd z (by decide)⟩
    · simp only [if_neg q2, if_neg n10]; exact ⟨rfl, by decide, fun z => absurd z (by decide)⟩
  · rw [if_neg q1, if_neg q1]; exact ⟨rfl, by decide, fun z => absurd z (by decide)⟩
theorem q_done {n : Nat} {σ μ : St} (h : Rel n σ μ) (i : Int32) : m_doneS μ i 0 0 = nI (cdD (c_doneK2 σ i)) ∧ Rel n (if c_doneK2 σ i = 0 then c_doneS σ i else σ) (m_doneS μ i) := by
  rcases mv_cases h i with ⟨a1, a2⟩ | ⟨a1, a2, hi, hc⟩
  · have e : c_doneK2 σ i = 4 := by unfold c_doneK2; rw [a1]; rfl
    rw [e]
    unfold m_doneS
    rw [if_pos a2]
    exact ⟨rfl, rel_t h⟩
  · obtain ⟨hT, hK, h0⟩ := kt_done h hi hc a1
    have hd : cdD (c_doneK2 σ i) = c_doneK2 σ i := if_neg (by omega)
    rw [hd]
    simp only [m_doneS]
    rw [if_neg (by rw [a2]; decide)]
    generalize m_doneT μ i = T at hT ⊢
    generalize c_doneK2 σ i = K at hT hK h0 ⊢
    refine call_of h hT (by omega) ?_ (fun q => ?_)
    · rw [up_row (show (0 : Nat) ≠ 30 by decide), up_row (show (0 : Nat) ≠ 4 by decide), up_row (show (0 : Nat) ≠ 3 by decide), takes_row (by decide)]
    · obtain ⟨b1, b2⟩ := h0 q
      obtain ⟨e0, e1, e2, e3, e4, e5, e6, va, vb⟩ := h.2.2.2.2.2.2.1 _ (vp_lt hi)
      obtain ⟨f1, f2, f3⟩ := h.2.2.2.2.2.2.2 _ hc
      have Ra := h.1 _ (vp_lt va)
      have Rb := h.1 _ (vp_lt vb)
      have vf : vp_in (σ 5 (nx (σ 51 (nx i)))) 8 ∧ σ 5 (nx (σ 51 (nx i))) = μ 7 (nx (σ 51 (nx i))) := by
        rcases Rb.2.1 with x | x
        · exact absurd x.1 f1
        · exact ⟨x.1, x.2.2⟩
      have g26 : up μ 0 0 T 26 (nx i) = σ 52 (nx i) := by rw [up_row (by decide)]; exact e2.symm
      have h1 := rel_take (p := σ 50 (nx i)) (m := σ 52 (nx i)) (rel_t (v := T) h) f2 (fun _ => b1)
      rw [g26, ← e0, ← e1, ← vf.2]
      have t26 : m_takes (up μ 0 0 T) (σ 50 (nx i)) (σ 52 (nx i)) 26 (nx i) = σ 52 (nx i) := by rw [takes_row (by decide)]; exact g26
      have t52 : c_takeAway σ (nx (σ 50 (nx i))) (σ 52 (nx i)) 52 (nx i) = σ 52 (nx i) := by rw [take_row (by decide)]
      rw [t26]
      unfold c_doneS
      simp only
      rw [t52]
      refine rel_mdone (rel_bring h1 vf.1 f2 (fun _ => ?_) rfl (fun r j r0 => ?_)) _
      · have tl := take_le (σ := σ) (a := nx (σ 50 (nx i))) (b := nx (σ 51 (nx i))) (m := σ 52 (nx i)) (by omega) (by have := Ra.2.2.2.1.1; omega)
        rw [take_row (r := 0) (by decide)]; omega
      · simp only [up]
