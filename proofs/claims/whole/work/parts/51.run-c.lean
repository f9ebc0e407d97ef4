/-! run, class and reference side by side (3): one face is served -/
theorem add_row {σ : St} {a b r : Nat} {n : Int32} (h : σ 42 0 < 30) (hr : r < 42 ∨ 57 ≤ r) : c_add σ a b n r = σ r := by
  rw [add_eq h, up_row (by omega), up_row (by omega), up_row (by omega), up_row (by omega), up_row (by omega), up_row (by omega), up_row (by omega), up_row (by omega), join_row (by omega)]
theorem add_42 {σ : St} {a b : Nat} {n : Int32} (h : σ 42 0 < 30) : c_add σ a b n 42 0 = σ 42 0 + 1 := by
  rw [add_eq h, up_eq]
theorem plan_rw2 {μ : St} {p f n : Int32} (h : ¬ μ 23 0 < 0) (hc : nx (μ 23 0) ≤ 30) {r : Nat} (hr : r < 23 ∨ 32 ≤ r) : m_plan μ p f n r = μ r := by
  rw [plan_eq h hc, up_row (by omega), up_row (by omega), up_row (by omega), up_row (by omega), up_row (by omega), up_row (by omega), up_row (by omega), up_row (by omega), up_row (by omega)]
theorem plan_31 {μ : St} {p f n : Int32} (h : ¬ μ 23 0 < 0) (hc : nx (μ 23 0) ≤ 30) (j : Nat) : m_plan μ p f n 31 j = if j = nx p then μ 31 (nx p) + n else μ 31 j := by
  rw [plan_eq h hc, up_row (by decide), up_row (by decide), up_row (by decide), up_row (by decide), up_row (by decide), up_row (by decide), up_row (by decide), up_row (by decide)]
  by_cases q : j = nx p
  · rw [if_pos q, q, up_eq]
  · rw [if_neg q, up_ix q]
/-- while face b is served -/
def SI (n b i : Nat) (σ μ : St) : Prop := RK n σ μ ∧ ¬ σ 5 b = -1 ∧ σ 10 b = m_needTime μ (nI b) ∧ 31 ≤ i + nx (σ 42 0)
/-- what serving face b leaves alone -/
def FR (b : Nat) (σ μ σ' μ' : St) : Prop := (∀ j, j ≠ b → σ' 9 j = σ 9 j) ∧ (∀ r, r < 8 ∨ r = 10 → σ' r = σ r) ∧ (∀ r, r < 23 ∨ r = 32 → μ' r = μ r)
theorem FR_refl {b : Nat} {σ μ : St} : FR b σ μ σ μ := ⟨fun _ _ => rfl, fun _ _ => rfl, fun _ _ => rfl⟩
theorem FR_trans {b : Nat} {σ μ σ' μ' σ'' μ'' : St} (h1 : FR b σ μ σ' μ') (h2 : FR b σ' μ' σ'' μ'') : FR b σ μ σ'' μ'' :=
  ⟨fun j hj => (h2.1 j hj).trans (h1.1 j hj), fun r hr => (h2.2.1 r hr).trans (h1.2.1 r hr), fun r hr => (h2.2.2 r hr).trans (h1.2.2 r hr)⟩
def dn (σ : St) (b : Nat) : Prop := σ 9 b ≤ 0 ∨ ¬ σ 42 0 < 30
theorem left_eq {n : Nat} {σ μ : St} (H : RK n σ μ) {k : Nat} (hk : k < 16) : m_left μ (nI k) = c_free σ k ∧ m_free μ (nI k) = σ 2 k - σ 3 k ∧ μ 31 k = σ 8 k := by
  have hn : nx (nI k) = k := nxnI (by omega)
  have R := H.1.1 k hk
  have e8 := (H.2.2.1 k hk).1
  have ef : m_free μ (nI k) = σ 2 k - σ 3 k := by unfold m_free; rw [hn, ← R.1.2.2.1, ← R.1.2.2.2.1]
  refine ⟨?_, ef, e8.symm⟩
  unfold m_left c_free c_notHeld
  rw [ef, hn, ← e8]
theorem rsv_iff {n : Nat} {σ μ : St} (H : RK n σ μ) {b k : Nat} (hb : b < 16) (hk : k < 16) (hf : ¬ σ 5 b = -1) : rsv μ b k ↔ (¬ c_isReserveOf σ k (σ 5 b) = 0 ∧ ¬ c_free σ k ≤ 0) := by
  have Rb := H.1.1 b hb
  have Rk := H.1.1 k hk
  have fb : σ 5 b = μ 7 b := by
    rcases isFace_iff Rb with x | x
    · exact absurd x.2.2 hf
    · exact x.2.2.2
  unfold rsv c_isReserveOf
  rw [(left_eq H hk).1, ← fb, ← Rk.1.2.2.2.2.1]
  rcases isFace_iff Rk with ⟨f1, f2, _⟩ | ⟨f1, f2, _⟩
  · rw [f1, f2, if_pos rfl]
    by_cases q : σ 4 k = σ 5 b
    · rw [if_pos q]; exact ⟨fun x => ⟨by decide, x.2.2⟩, fun x => ⟨rfl, q, x.2⟩⟩
    · rw [if_neg q]; exact ⟨fun x => absurd x.2.1 q, fun x => absurd rfl x.1⟩
  · rw [f1, f2, if_neg (by decide)]; exact ⟨fun x => absurd x.1 (by decide), fun x => absurd rfl x.1⟩
theorem move_take {n b i k : Nat} {σ μ : St} (hb : b < 16) (hk : k < 16) (S : SI n b i σ μ) (hw : ¬ σ 9 b ≤ 0) (hc : σ 42 0 < 30) (hr : rsv μ b k) (hs : m_reserve μ (nI b) = nI k) :
    ∃ i' μ', m_inner (nI b) i (σ 9 b) (m_reserve μ (nI b)) μ = m_inner (nI b) i' (c_planMove σ k b 9 b) (m_reserve μ' (nI b)) μ' ∧ SI n b i' (c_planMove σ k b) μ' ∧ FR b σ μ (c_planMove σ k b) μ' ∧ (dn (c_planMove σ k b) b ∨ ¬ rsv μ' b k) ∧ ∀ j, j < 16 → j ≠ k → (rsv μ' b j → rsv μ b j) := by
  obtain ⟨H, hf, ht, hi⟩ := S
  obtain ⟨l1, l2, l3⟩ := left_eq H hk
  have hfr : ¬ c_free σ k ≤ 0 := ((rsv_iff H hb hk hf).mp hr).2
  obtain ⟨m1, m2, m3, m4⟩ := H.1.2.2.2.2
  have hnk : nx (nI k) = k := nxnI (by omega)
  have hw' : 0 < (σ 9 b).toInt := by rw [i_le, z_0] at hw; omega
  have hf' : 0 < (c_free σ k).toInt := by rw [i_le, z_0] at hfr; omega
  have tk : m_tk μ (nI k) (σ 9 b) = c_minI (c_free σ k) (σ 9 b) := by
    unfold m_tk c_minI
    rw [l1]
    by_cases q : σ 9 b < c_free σ k
    · rw [if_pos q, if_pos (i_le.mpr (by have := i_lt.mp q; omega))]
    · rw [if_neg q]
      by_cases q2 : σ 9 b ≤ c_free σ k
      · rw [if_pos q2]; exact i_eq.mpr (by rw [i_lt] at q; rw [i_le] at q2; omega)
      · rw [if_neg q2]
  have cs : (c_minI (c_free σ k) (σ 9 b) = σ 9 b ∨ c_minI (c_free σ k) (σ 9 b) = c_free σ k) ∧ 1 ≤ (c_minI (c_free σ k) (σ 9 b)).toInt ∧ (c_minI (c_free σ k) (σ 9 b)).toInt ≤ (c_free σ k).toInt := by
    unfold c_minI
    by_cases q : σ 9 b < c_free σ k
    · have := i_lt.mp q; rw [if_pos q]; exact ⟨.inl rfl, by omega, by omega⟩
    · rw [if_neg q]; exact ⟨.inr rfl, by omega, by omega⟩
  have ep : c_planMove σ k b = c_add (up (up σ 8 k (σ 8 k + c_minI (c_free σ k) (σ 9 b))) 9 b (σ 9 b - c_minI (c_free σ k) (σ 9 b))) k b (c_minI (c_free σ k) (σ 9 b)) := by
    have q : ¬ c_minI (c_free σ k) (σ 9 b) ≤ 0 := by rw [i_le, z_0]; omega
    unfold c_planMove
    simp only
    rw [if_neg q, if_pos hc]
    rfl
  rw [ep]
  generalize c_minI (c_free σ k) (σ 9 b) = t at *
  have hst := step_plan (w := σ 9 b - t) H hk hb hf ht hc cs.2.1 cs.2.2
  have q1 : up (up σ 8 k (σ 8 k + t)) 9 b (σ 9 b - t) 42 0 < 30 := hc
  have e9 : c_add (up (up σ 8 k (σ 8 k + t)) 9 b (σ 9 b - t)) k b t 9 b = σ 9 b - t := by rw [add_row q1 (by omega), up_eq]
  have e42 : c_add (up (up σ 8 k (σ 8 k + t)) 9 b (σ 9 b - t)) k b t 42 0 = σ 42 0 + 1 := by rw [add_42 q1]; rfl
  have hp1 : ¬ μ 23 0 < 0 := by rw [← m1]; exact m2.1
  have hp2 : nx (μ 23 0) ≤ 30 := by rw [← m1]; exact m2.2
  have pr : ∀ r, r < 23 ∨ r = 32 → m_plan μ (nI k) (nI b) t r = μ r := fun r c => plan_rw2 hp1 hp2 (by omega)
  have e1 := nx_toInt m2.1
  have hc3 : nx (σ 42 0) < 30 := by rw [i_lt, show (30 : Int32).toInt = 30 by decide] at hc; omega
  have cu2 : nx (σ 42 0 + 1) = nx (σ 42 0) + 1 := by
    have s := i_add (x := σ 42 0) (y := 1) (by rw [z_1]; omega) (by rw [z_1]; omega)
    rw [z_1] at s
    have e2 := nx_I (x := σ 42 0 + 1) (by omega)
    omega
  obtain ⟨i', rfl⟩ : ∃ i', i = i' + 1 := ⟨i - 1, by omega⟩
  refine ⟨i', m_plan μ (nI k) (nI b) t, ?_, ⟨hst, ?_, ?_, ?_⟩, ⟨fun j hj => ?_, fun r hr => ?_, pr⟩, ?_, fun j hj hjk => ?_⟩
  · rw [hs, m_inner, if_neg hw, if_neg (nI_m1 hk), if_neg (show ¬ 30 ≤ μ 23 0 by rw [← m1, i_le]; rw [i_lt] at hc; omega), tk, e9]
  · rw [add_row q1 (by omega)]; exact hf
  · rw [add_row q1 (by omega), (miss_st (fun r _ hr => pr r (by omega)) (nI b)).2]; exact ht
  · rw [e42, cu2]; omega
  · rw [add_row q1 (by omega), up_ix hj]; rfl
  · rw [add_row q1 (by omega), up_row (by omega), up_row (by omega)]
  · rcases cs.1 with c | c
    · refine .inl (.inl ?_)
      rw [e9, c, Int32.sub_self]; decide
    · refine .inr (fun z => z.2.2 ?_)
      have e : m_left (m_plan μ (nI k) (nI b) t) (nI k) = σ 2 k - σ 3 k - (σ 8 k + t) := by
        unfold m_left m_free
        rw [hnk, pr 3 (by omega), pr 5 (by omega), plan_31 hp1 hp2, hnk, if_pos rfl, l3]
        unfold m_free at l2
        rw [hnk] at l2
        rw [l2]
      rw [e, c]
      have e2 : σ 8 k + c_free σ k = σ 2 k - σ 3 k := by
        unfold c_free c_notHeld
        rw [Int32.add_comm, Int32.sub_add_cancel]
      rw [e2, Int32.sub_self]; decide
  · intro z
    have hnj : nx (nI j) = j := nxnI (by omega)
    unfold rsv at z ⊢
    rw [pr 6 (by omega), pr 4 (by omega), pr 7 (by omega)] at z
    refine ⟨z.1, z.2.1, ?_⟩
    have e : m_left (m_plan μ (nI k) (nI b) t) (nI j) = m_left μ (nI j) := by
      unfold m_left m_free
      rw [hnj, pr 3 (by omega), pr 5 (by omega), plan_31 hp1 hp2, hnk, if_neg hjk]
    rw [← e]; exact z.2.2
theorem plan_dn {σ : St} {k b : Nat} (h : dn σ b ∨ c_free σ k ≤ 0) : c_planMove σ k b = σ := by
  unfold c_planMove
  simp only
  by_cases q : c_minI (c_free σ k) (σ 9 b) ≤ 0
  · rw [if_pos q]
  · rw [if_neg q]
    by_cases c : σ 42 0 < 30
    · exfalso
      apply q
      have h' : σ 9 b ≤ 0 ∨ c_free σ k ≤ 0 := by
        rcases h with (h | h) | h
        · exact .inl h
        · exact absurd c h
        · exact .inr h
      unfold c_minI
      rw [i_le, z_0]
      rcases h' with h | h
      · rw [i_le, z_0] at h
        by_cases y : σ 9 b < c_free σ k
        · rw [if_pos y]; exact h
        · rw [if_neg y]; rw [i_lt] at y; omega
      · rw [i_le, z_0] at h
        by_cases y : σ 9 b < c_free σ k
        · rw [if_pos y]; rw [i_lt] at y; omega
        · rw [if_neg y]; exact h
    · rw [if_neg c]
def cz (μ : St) (z : Int32) (b k : Nat) : Prop := (if μ 2 k = μ 2 b then (1 : Int32) else 0) = z
/-- a pass over the places -/
theorem pass {n b : Nat} {z : Int32} (hb : b < 16) {A : St → Nat → Prop}
    (hsel : ∀ μ k, k < 16 → A μ k → rsv μ b k → cz μ z b k → m_reserve μ (nI b) = nI k)
    (hext : ∀ μ k, k < 16 → A μ k → (cz μ z b k → ¬ rsv μ b k) → A μ (k + 1))
    (hinv : ∀ μ μ' k, A μ k → (∀ j, μ' 2 j = μ 2 j) → (∀ j, j < 16 → j ≠ k → rsv μ' b j → rsv μ b j) → ¬ rsv μ' b k → k < 16 → A μ' (k + 1)) :
    ∀ m k i σ μ, k + m = 16 → SI n b i σ μ → (A μ k ∨ dn σ b) → ∃ i' μ', m_inner (nI b) i (σ 9 b) (m_reserve μ (nI b)) μ = m_inner (nI b) i' (foldN (c_takeF b z) m k σ 9 b) (m_reserve μ' (nI b)) μ' ∧ SI n b i' (foldN (c_takeF b z) m k σ) μ' ∧ FR b σ μ (foldN (c_takeF b z) m k σ) μ' ∧ (A μ' 16 ∨ dn (foldN (c_takeF b z) m k σ) b) := by
  intro m
  induction m with
  | zero =>
    intro k i σ μ hk S hA
    have : k = 16 := by omega
    subst this
    exact ⟨i, μ, rfl, S, FR_refl, hA⟩
  | succ m ih =>
    intro k i σ μ hk S hA
    rw [foldN_s]
    have hk16 : k < 16 := by omega
    have hnk : nx (nI k) = k := nxnI (by omega)
    have zk : (if σ 1 k = σ 1 b then (1 : Int32) else 0) = z ↔ cz μ z b k := by
      unfold cz
      rw [(S.1.1.1 k hk16).1.2.1, (S.1.1.1 b hb).1.2.1]
    have same : c_takeF b z k σ = σ → (A μ (k + 1) ∨ dn σ b) → ∃ i' μ', m_inner (nI b) i (σ 9 b) (m_reserve μ (nI b)) μ = m_inner (nI b) i' (foldN (c_takeF b z) m (k + 1) (c_takeF b z k σ) 9 b) (m_reserve μ' (nI b)) μ' ∧ SI n b i' (foldN (c_takeF b z) m (k + 1) (c_takeF b z k σ)) μ' ∧ FR b σ μ (foldN (c_takeF b z) m (k + 1) (c_takeF b z k σ)) μ' ∧ (A μ' 16 ∨ dn (foldN (c_takeF b z) m (k + 1) (c_takeF b z k σ)) b) := fun e a => by
      rw [e]; exact ih (k + 1) i σ μ (by omega) S a
    by_cases q1 : (if σ 1 k = σ 1 b then (1 : Int32) else 0) = z
    · by_cases q2 : c_isReserveOf σ k (σ 5 b) = 0
      · refine same (by unfold c_takeF; rw [hnk, if_pos q1, if_pos q2]) ?_
        rcases hA with a | a
        · exact .inl (hext μ k hk16 a (fun _ y => ((rsv_iff S.1 hb hk16 S.2.1).mp y).1 q2))
        · exact .inr a
      · have et : c_takeF b z k σ = c_planMove σ k b := by unfold c_takeF; rw [hnk, if_pos q1, if_neg q2]
        rcases hA with a | a
        · by_cases q3 : c_free σ k ≤ 0
          · exact same (by rw [et, plan_dn (.inr q3)]) (.inl (hext μ k hk16 a (fun _ y => ((rsv_iff S.1 hb hk16 S.2.1).mp y).2 q3)))
          · by_cases q4 : dn σ b
            · exact same (by rw [et, plan_dn (.inl q4)]) (.inr q4)
            · have q5 : ¬ σ 9 b ≤ 0 := fun y => q4 (.inl y)
              have q6 : σ 42 0 < 30 := Classical.byContradiction fun y => q4 (.inr y)
              have hr : rsv μ b k := (rsv_iff S.1 hb hk16 S.2.1).mpr ⟨q2, q3⟩
              obtain ⟨i1, μ1, w1, w2, w3, w4, w5⟩ := move_take hb hk16 S q5 q6 hr (hsel μ k hk16 a hr (zk.mp q1))
              rw [et]
              obtain ⟨i2, μ2, x1, x2, x3, x4⟩ := ih (k + 1) i1 (c_planMove σ k b) μ1 (by omega) w2 (by
                rcases w4 with y | y
                · exact .inr y
                · exact .inl (hinv μ μ1 k a (fun j => by rw [w3.2.2 2 (by omega)]) w5 y hk16))
              exact ⟨i2, μ2, w1.trans x1, x2, FR_trans w3 x3, x4⟩
        · exact same (by rw [et, plan_dn (.inl a)]) (.inr a)
    · refine same (by unfold c_takeF; rw [hnk, if_neg q1]) ?_
      rcases hA with a | a
      · exact .inl (hext μ k hk16 a (fun y => absurd (zk.mpr y) q1))
      · exact .inr a
theorem cz_1 {μ : St} {b k : Nat} : cz μ 1 b k ↔ near μ b k := by
  unfold cz near
  by_cases q : μ 2 k = μ 2 b
  · rw [if_pos q]; exact ⟨fun _ => q, fun _ => rfl⟩
  · rw [if_neg q]; exact ⟨fun y => absurd y (by decide), fun y => absurd y q⟩
theorem cz_0 {μ : St} {b k : Nat} : cz μ 0 b k ↔ ¬ near μ b k := by
  unfold cz near
  by_cases q : μ 2 k = μ 2 b
  · rw [if_pos q]; exact ⟨fun y => absurd y (by decide), fun y => absurd q y⟩
  · rw [if_neg q]; exact ⟨fun _ => q, fun _ => rfl⟩
theorem near_st {μ μ' : St} (h : ∀ j, μ' 2 j = μ 2 j) {b j : Nat} : near μ' b j ↔ near μ b j := by unfold near; rw [h, h]
theorem pass_near {n b : Nat} (hb : b < 16) {i : Nat} {σ μ : St} (S : SI n b i σ μ) : ∃ i' μ', m_inner (nI b) i (σ 9 b) (m_reserve μ (nI b)) μ = m_inner (nI b) i' (c_takeFrom σ b 1 9 b) (m_reserve μ' (nI b)) μ' ∧ SI n b i' (c_takeFrom σ b 1) μ' ∧ FR b σ μ (c_takeFrom σ b 1) μ' ∧ ((∀ j, j < 16 → near μ' b j → ¬ rsv μ' b j) ∨ dn (c_takeFrom σ b 1) b) := by
  refine pass (z := 1) (A := fun μ k => ∀ j, j < k → near μ b j → ¬ rsv μ b j) hb (fun μ k hk a r c => res_near hb hk r (cz_1.mp c) a) (fun μ k hk a c j hj hn => ?_) (fun μ μ' k a e r c hk j hj hn => ?_) 16 0 i σ μ rfl S (.inl (fun j hj => absurd hj (Nat.not_lt_zero _)))
  · by_cases q : j = k
    · subst q; exact c (cz_1.mpr hn)
    · exact a j (by omega) hn
  · by_cases q : j = k
    · subst q; exact c
    · exact fun y => a j (by omega) ((near_st e).mp hn) (r j (by omega) q y)
theorem pass_far {n b : Nat} (hb : b < 16) {i : Nat} {σ μ : St} (S : SI n b i σ μ) (h0 : (∀ j, j < 16 → near μ b j → ¬ rsv μ b j) ∨ dn σ b) : ∃ i' μ', m_inner (nI b) i (σ 9 b) (m_reserve μ (nI b)) μ = m_inner (nI b) i' (c_takeFrom σ b 0 9 b) (m_reserve μ' (nI b)) μ' ∧ SI n b i' (c_takeFrom σ b 0) μ' ∧ FR b σ μ (c_takeFrom σ b 0) μ' ∧ ((∀ j, j < 16 → ¬ rsv μ' b j) ∨ dn (c_takeFrom σ b 0) b) := by
  have h := pass (n := n) (z := 0) (A := fun μ k => (∀ j, j < 16 → near μ b j → ¬ rsv μ b j) ∧ ∀ j, j < k → ¬ rsv μ b j) hb (fun μ k hk a r c => res_far hb hk r a.1 a.2) (fun μ k hk a c => ⟨a.1, fun j hj => ?_⟩) (fun μ μ' k a e r c hk => ⟨fun j hj hn => ?_, fun j hj => ?_⟩) 16 0 i σ μ rfl S (by
    rcases h0 with a | a
    · exact .inl ⟨a, fun j hj => absurd hj (Nat.not_lt_zero _)⟩
    · exact .inr a)
  · obtain ⟨i', μ', x1, x2, x3, x4⟩ := h
    refine ⟨i', μ', x1, x2, x3, ?_⟩
    rcases x4 with a | a
    · exact .inl a.2
    · exact .inr a
  · by_cases q : j = k
    · subst q
      by_cases y : near μ b j
      · exact a.1 j hk y
      · exact c (cz_0.mpr y)
    · exact a.2 j (by omega)
  · by_cases q : j = k
    · subst q; exact c
    · exact fun y => a.1 j hj ((near_st e).mp hn) (r j hj q y)
  · by_cases q : j = k
    · subst q; exact c
    · exact fun y => a.2 j (by omega) (r j (by omega) q y)
