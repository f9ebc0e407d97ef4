/-! run, class and reference side by side (5): its start, its answer -/
theorem run0_inv {μ : St} : ∀ m k ν, k + m = 16 → (∀ j, j < k → ν 31 j = 0 ∧ ν 32 j = 0) → (∀ r, r ≠ 31 → r ≠ 32 → ν r = μ r) → (∀ j, j < 16 → foldN m_runC m k ν 31 j = 0 ∧ foldN m_runC m k ν 32 j = 0) ∧ ∀ r, r ≠ 31 → r ≠ 32 → foldN m_runC m k ν r = μ r := by
  intro m
  induction m with
  | zero => intro k ν hk h1 h2; exact ⟨fun j hj => h1 j (by omega), h2⟩
  | succ m ih =>
    intro k ν hk h1 h2
    rw [foldN_s]
    refine ih (k + 1) _ (by omega) (fun j hj => ?_) (fun r r1 r2 => ?_)
    · unfold m_runC
      rw [nxnI (show k < 2 ^ 31 by omega)]
      by_cases q : j = k
      · subst q
        rw [up_row (show (31 : Nat) ≠ 32 by decide), up_eq, up_eq]; exact ⟨rfl, rfl⟩
      · rw [up_row (show (31 : Nat) ≠ 32 by decide), up_ix q, up_ix q, up_row (show (32 : Nat) ≠ 31 by decide)]; exact h1 j (by omega)
    · unfold m_runC
      rw [up_row r2, up_row r1]; exact h2 r r1 r2
/-- the places made ready, up to k -/
def RQ (n k : Nat) (σ μ : St) : Prop := Rel n σ μ ∧ (σ 43 0 = -1 ∧ σ 44 0 = -1) ∧ ∀ j, j < k → σ 8 j = 0 ∧ σ 9 j = m_missing μ (nI j) ∧ (¬ σ 5 j = -1 → σ 10 j = m_needTime μ (nI j))
theorem prep_step {n k : Nat} {σ μ : St} (hn : n ≤ 512) (hk : k < 16) (h : RQ n k σ μ) : RQ n (k + 1) (c_prepare σ k) μ := by
  obtain ⟨hR, h43, hj⟩ := h
  have hnk : nx (nI k) = k := nxnI (by omega)
  have vk : vp_in (nI k) 16 := nI_in16 hk
  have e0 : ∀ r, r ≠ 8 → r ≠ 9 → c_prep0 σ k r = σ r := fun r c1 c2 => by unfold c_prep0; rw [up_row c2, up_row c1]
  have R0 : Rel n (c_prep0 σ k) μ := rel_rows hR (fun r c => e0 r (by omega) (by omega)) (fun _ _ _ => rfl)
  have p8 : ∀ j, c_prep0 σ k 8 j = if j = k then 0 else σ 8 j := fun j => by unfold c_prep0; simp [up]
  have p9 : ∀ j, c_prep0 σ k 9 j = if j = k then 0 else σ 9 j := fun j => by unfold c_prep0; simp [up]
  unfold c_prepare
  rcases isFace_iff (R0.1 k hk) with ⟨f1, f2, f3⟩ | ⟨f1, f2, f3, _⟩
  · rw [if_pos f1]
    have em : m_missing μ (nI k) = 0 := by unfold m_missing; rw [hnk, f2, if_pos rfl]
    refine ⟨R0, by rw [e0 43 (by decide) (by decide), e0 44 (by decide) (by decide)]; exact h43, fun j hjk => ?_⟩
    rw [p8, p9, e0 5 (by decide) (by decide), e0 10 (by decide) (by decide)]
    by_cases q : j = k
    · rw [if_pos q, if_pos q, q]
      refine ⟨rfl, em.symm, fun c => absurd ?_ c⟩
      rw [e0 5 (by decide) (by decide)] at f3; exact f3
    · rw [if_neg q, if_neg q]; exact hj j (by omega)
  · rw [if_neg (by rw [f1]; decide)]
    have ew : c_wantedBy (c_prep0 σ k) k (c_thresholdOf (c_prep0 σ k) k) = m_missing μ (nI k) := by
      have a := miss_eq R0 hn vk (by rw [hnk, f1]; decide)
      rw [hnk] at a; exact a
    have e1 : ∀ r, r ≠ 9 → c_prep1 σ k r = c_prep0 σ k r := fun r c => up_row c
    have R1 : Rel n (c_prep1 σ k) μ := rel_rows R0 (fun r c => e1 r (by omega)) (fun _ _ _ => rfl)
    have et : c_needTimeOf (c_prep1 σ k) k = m_needTime μ (nI k) := by
      have a := time_eq R1 hn vk
      rw [hnk] at a; exact a
    have q9 : ∀ j, c_prep1 σ k 9 j = if j = k then m_missing μ (nI k) else σ 9 j := fun j => by
      unfold c_prep1
      rw [ew]
      by_cases q : j = k
      · rw [if_pos q, q, up_eq]
      · rw [if_neg q, up_ix q, p9, if_neg q]
    have e2 : ∀ r, r ≠ 10 → up (c_prep1 σ k) 10 k (c_needTimeOf (c_prep1 σ k) k) r = c_prep1 σ k r := fun r c => up_row c
    refine ⟨rel_rows R1 (fun r c => e2 r (by omega)) (fun _ _ _ => rfl), by rw [e2 43 (by decide), e2 44 (by decide), e1 43 (by decide), e1 44 (by decide), e0 43 (by decide) (by decide), e0 44 (by decide) (by decide)]; exact h43, fun j hjk => ?_⟩
    rw [e2 8 (by decide), e2 9 (by decide), e2 5 (by decide), e1 8 (by decide), e1 5 (by decide), p8, q9, e0 5 (by decide) (by decide)]
    by_cases q : j = k
    · rw [if_pos q, if_pos q, q, up_eq, et]; exact ⟨rfl, rfl, fun _ => rfl⟩
    · rw [if_neg q, if_neg q, up_ix q, e1 10 (by decide), e0 10 (by decide) (by decide)]; exact hj j (by omega)
theorem prep_all {n : Nat} {μ : St} (hn : n ≤ 512) : ∀ m k σ, k + m = 16 → RQ n k σ μ → RQ n 16 (foldN (fun k σ => c_prepare σ (nx (nI k))) m k σ) μ := by
  intro m
  induction m with
  | zero => intro k σ hk h; have : k = 16 := by omega
            subst this; exact h
  | succ m ih =>
    intro k σ hk h
    rw [foldN_s]
    have hnk : nx (nI k) = k := nxnI (by omega)
    rw [hnk]
    exact ih (k + 1) _ (by omega) (prep_step hn (by omega) h)
theorem q_run {n : Nat} {σ μ : St} (h : Rel n σ μ) (hn : n ≤ 512) : m_runS μ 0 0 = nI (cdR (c_runK σ)) ∧ Rel n (if c_runK σ = 0 then c_runS σ else σ) (m_runS μ) ∧ (c_runK σ = 0 → m_runR μ = c_runS σ 42 0) := by
  obtain ⟨t1, t2, t3⟩ := today h
  have eo : (c_runK σ = 0 ∧ m_runT μ = 0) ∨ (c_runK σ = 2 ∧ m_runT μ = 1) := by
    unfold c_runK m_runT c_isOpen
    rw [t3, closed_eq h t1]
    by_cases q : σ 33 (nx (σ 40 0)) = 0
    · rw [if_pos q, if_pos q]; exact .inl ⟨rfl, rfl⟩
    · rw [if_neg q, if_neg q]; exact .inr ⟨rfl, rfl⟩
  rcases eo with ⟨k1, k2⟩ | ⟨k1, k2⟩
  · have z : up μ 0 0 (m_runT μ) 0 0 ≤ 0 := by rw [up_eq, k2]; decide
    have er : m_runS μ = m_outer 17 (m_next (m_run0 μ)) (m_run0 μ) := by unfold m_runS; exact if_pos z
    obtain ⟨r1, r2⟩ := run0_inv (μ := up (up μ 0 0 (m_runT μ)) 23 0 0) 16 0 _ rfl (fun j hj => absurd hj (Nat.not_lt_zero _)) (fun _ _ _ => rfl)
    change (∀ j, j < 16 → m_run0 μ 31 j = 0 ∧ m_run0 μ 32 j = 0) at r1
    change ∀ r, r ≠ 31 → r ≠ 32 → m_run0 μ r = up (up μ 0 0 (m_runT μ)) 23 0 0 r at r2
    have rr : ∀ r, r ≠ 0 → r ≠ 23 → r ≠ 31 → r ≠ 32 → m_run0 μ r = μ r := fun r c0 c1 c2 c3 => by rw [r2 r c2 c3, up_row c1, up_row c0]
    have r23 : m_run0 μ 23 0 = 0 := by rw [r2 23 (by decide) (by decide), up_eq]
    have r00 : m_run0 μ 0 0 = 0 := by rw [r2 0 (by decide) (by decide), up_row (by decide), up_eq, k2]
    have ec : ∀ r, r ≠ 42 → r ≠ 43 → r ≠ 44 → r ≠ 45 → c_clear σ r = σ r := fun r c1 c2 c3 c4 => by unfold c_clear; rw [up_row c4, up_row c3, up_row c2, up_row c1]
    have c42 : c_clear σ 42 0 = 0 := rfl
    have Rc0 : Rel n (c_clear σ) (m_run0 μ) := by
      refine ⟨fun i hi => Rp_of (h.1 i hi) (fun r q => by rw [ec r (by omega) (by omega) (by omega) (by omega)]) (fun r q1 q2 => by rw [rr r (by omega) (by omega) (by omega) (by omega)]), fun i hi => Ru_of (h.2.1 i hi) (ec _ (by omega) (by omega) (by omega) (by omega)) (rr _ (by omega) (by omega) (by omega) (by omega)), Rc_of h.2.2.1 (fun r q1 q2 => ec r (by omega) (by omega) (by omega) (by omega)) (fun r q1 q2 => rr r (by omega) (by omega) (by omega) (by omega)), Rw_of h.2.2.2.1 (fun r q1 q2 q3 => ec r (by omega) (by omega) (by omega) (by omega)) (fun r q1 q2 => rr r (by omega) (by omega) (by omega) (by omega)), by rw [c42, r23], by rw [c42]; decide, fun j hj => ?_, fun j hj => ?_⟩
      · rw [ec 50 (by decide) (by decide) (by decide) (by decide), ec 51 (by decide) (by decide) (by decide) (by decide), ec 52 (by decide) (by decide) (by decide) (by decide), ec 53 (by decide) (by decide) (by decide) (by decide), ec 54 (by decide) (by decide) (by decide) (by decide), ec 55 (by decide) (by decide) (by decide) (by decide), ec 56 (by decide) (by decide) (by decide) (by decide), rr 24 (by decide) (by decide) (by decide) (by decide), rr 25 (by decide) (by decide) (by decide) (by decide), rr 26 (by decide) (by decide) (by decide) (by decide), rr 27 (by decide) (by decide) (by decide) (by decide), rr 28 (by decide) (by decide) (by decide) (by decide), rr 29 (by decide) (by decide) (by decide) (by decide), rr 30 (by decide) (by decide) (by decide) (by decide)]
        exact h.2.2.2.2.2.2.1 j hj
      · rw [c42, show nx (0 : Int32) = 0 by decide] at hj; exact absurd hj (Nat.not_lt_zero _)
    have Q0 : RQ n 0 (c_clear σ) (m_run0 μ) := ⟨Rc0, ⟨rfl, rfl⟩, fun j hj => absurd hj (Nat.not_lt_zero _)⟩
    have Q1 := prep_all hn 16 0 (c_clear σ) rfl Q0
    have O : RO n (foldN (fun k σ => c_prepare σ (nx (nI k))) 16 0 (c_clear σ)) (m_run0 μ) := by
      generalize foldN (fun k σ => c_prepare σ (nx (nI k))) 16 0 (c_clear σ) = τ at *
      obtain ⟨qR, q43, qj⟩ := Q1
      refine ⟨⟨qR, r00, fun j hj => ?_, ⟨fun _ => q43, fun c hc => ?_⟩⟩, fun j hj => ?_, fun j hj => (qj j hj).2.2⟩
      · rw [(qj j hj).1, (r1 j hj).1, z_0]
        have b := (qR.1 j hj).2.2.2.1
        exact ⟨rfl, by omega, by omega⟩
      · rw [r23] at hc; exact absurd hc (by have : nx (0 : Int32) = 0 := by decide
                                            omega)
      · rw [(qj j hj).2.1, (r1 j hj).2, if_pos rfl]
    obtain ⟨x1, x2⟩ := outer_eq 16 0 _ _ O (cpos_le _ 16)
    have eR : m_runR μ = m_runS μ 23 0 := by unfold m_runR; exact if_pos z
    rw [k1, if_pos rfl, eR, er]
    exact ⟨x2, x1, fun _ => x1.2.2.2.2.1.symm⟩
  · have z : ¬ up μ 0 0 (m_runT μ) 0 0 ≤ 0 := by rw [up_eq, k2]; decide
    have er : m_runS μ = up μ 0 0 (m_runT μ) := by unfold m_runS; exact if_neg z
    rw [k1, er, up_eq, k2, if_neg (by decide)]
    exact ⟨rfl, rel_t h, fun q => absurd q (by decide)⟩
