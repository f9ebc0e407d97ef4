/-! class and reference side by side -/
/-- a place -/
def RpV (c0 c1 c2 c3 c4 c5 c6 c7 m1 m2 m3 m4 m5 m6 m7 m8 m9 : Int32) : Prop :=
  (c0 = m1 ∧ c1 = m2 ∧ c2 = m3 ∧ c3 = m5 ∧ c4 = m4 ∧ c6 = m8 ∧ c7 = m9)
  ∧ ((c5 = -1 ∧ m6 = 0 ∧ c6 = 0 ∧ c7 = 0) ∨ (vp_in c5 8 ∧ m6 = 1 ∧ c5 = m7))
  ∧ (0 ≤ c2.toInt ∧ c2.toInt ≤ c0.toInt ∧ c0.toInt ≤ 100000)
  ∧ (0 ≤ c3.toInt ∧ c3.toInt ≤ c2.toInt)
  ∧ (0 ≤ c6.toInt ∧ c6.toInt ≤ c7.toInt ∧ c7.toInt ≤ c0.toInt)
  ∧ (vp_in c1 4 ∧ vp_in m7 8)
  ∧ ((c2 = 0 ∧ c4 = -1) ∨ (¬ c2 = 0 ∧ ¬ c4 = -1))
def Rp (σ μ : St) (i : Nat) : Prop := RpV (σ 0 i) (σ 1 i) (σ 2 i) (σ 3 i) (σ 4 i) (σ 5 i) (σ 6 i) (σ 7 i) (μ 1 i) (μ 2 i) (μ 3 i) (μ 4 i) (μ 5 i) (μ 6 i) (μ 7 i) (μ 8 i) (μ 9 i)
/-- the pieces that were used of a place -/
def Ru (n : Nat) (σ μ : St) (i : Nat) : Prop := (∀ j, j < 400 → σ (100 + i) j = μ 12 (400 * i + j) ∧ 0 ≤ (σ (100 + i) j).toInt) ∧ tot (fun j => (σ (100 + i) j).toInt) 400 ≤ 100000 * (n : Int)
/-- goods, zones, months, days -/
def Rc (σ μ : St) : Prop := (∀ i, i < 8 → σ 30 i = μ 10 i ∧ 1 ≤ (σ 30 i).toInt ∧ (σ 30 i).toInt ≤ 1000)
  ∧ (∀ i, i < 4 → σ 20 i = μ 13 i ∧ σ 21 i = μ 14 i ∧ σ 22 i = μ 15 i ∧ vp_in (σ 20 i) 3 ∧ 1 ≤ (σ 21 i).toInt ∧ (σ 21 i).toInt ≤ 30)
  ∧ (∀ i, i < 12 → σ 31 i = μ 16 i ∧ σ 32 i = μ 17 i ∧ 0 ≤ (σ 31 i).toInt ∧ (σ 31 i).toInt ≤ 1000 ∧ 1 ≤ (σ 32 i).toInt ∧ (σ 32 i).toInt ≤ 1000)
  ∧ (∀ i, i < 400 → σ 33 i = μ 11 i) ∧ σ 40 0 = μ 18 0 ∧ vp_in (σ 40 0) 400
/-- the waves -/
def Rw (σ μ : St) : Prop := σ 41 0 = μ 19 0 ∧ (¬ σ 41 0 < 0 ∧ nx (σ 41 0) ≤ 30) ∧ ∀ j, j < 30 → σ 34 j = μ 20 j ∧ σ 35 j = μ 21 j ∧ σ 36 j = μ 22 j
/-- the moves -/
def Rm (σ μ : St) : Prop := σ 42 0 = μ 23 0 ∧ (¬ σ 42 0 < 0 ∧ nx (σ 42 0) ≤ 30) ∧ (∀ j, j < 30 → σ 50 j = μ 24 j ∧ σ 51 j = μ 25 j ∧ σ 52 j = μ 26 j ∧ σ 53 j = μ 27 j ∧ σ 54 j = μ 28 j ∧ σ 55 j = μ 29 j ∧ σ 56 j = μ 30 j ∧ vp_in (σ 50 j) 16 ∧ vp_in (σ 51 j) 16)
  ∧ ∀ j, j < nx (σ 42 0) → ¬ σ 5 (nx (σ 51 j)) = -1 ∧ 1 ≤ (σ 52 j).toInt ∧ (σ 52 j).toInt ≤ 100000
def Rel (n : Nat) (σ μ : St) : Prop := (∀ i, i < 16 → Rp σ μ i) ∧ (∀ i, i < 16 → Ru n σ μ i) ∧ Rc σ μ ∧ Rw σ μ ∧ Rm σ μ
theorem rel_inv {n : Nat} {σ μ : St} (h : Rel n σ μ) : Inv σ := by
  obtain ⟨hp, _, hc, hw, hm⟩ := h
  refine ⟨fun i hi => (hp i hi).2.2.2.2.2.1.1, fun i hi => ?_, hc.2.2.2.2.2, hw.2.1, hm.2.1, fun j hj => (hm.2.2.1 j hj).2.2.2.2.2.2.2⟩
  rcases (hp i hi).2.1 with a | a
  · exact .inl a.1
  · exact .inr a.1
theorem rel_minv {n : Nat} {σ μ : St} (h : Rel n σ μ) : MInv μ := by
  obtain ⟨hp, _, hc, hw, hm⟩ := h
  refine ⟨by rw [← hc.2.2.2.2.1]; exact hc.2.2.2.2.2, fun i hi => ?_, fun i hi => (hp i hi).2.2.2.2.2.1.2, fun i hi => ?_, fun i hi => ?_, by rw [← hw.1]; exact hw.2.1, by rw [← hm.1]; exact hm.2.1, fun j hj => ?_⟩
  · rw [← (hp i hi).1.2.1]; exact (hp i hi).2.2.2.2.2.1.1
  · have a := hc.1 i hi
    rw [← a.1]; intro q; rw [q, z_0] at a; omega
  · have a := hc.2.2.1 i hi
    rw [← a.2.1, i_le, i_le]
    exact ⟨a.2.2.2.2.1, a.2.2.2.2.2⟩
  · have a := hm.2.2.1 j hj
    rw [← a.1, ← a.2.1]; exact a.2.2.2.2.2.2.2
theorem rel_up {n : Nat} {σ μ : St} (h : Rel n σ μ) : Rel (n + 1) σ μ := ⟨h.1, fun i hi => ⟨(h.2.1 i hi).1, by have a := (h.2.1 i hi).2; omega⟩, h.2.2⟩
theorem Rp_of {σ μ σ' μ' : St} {i : Nat} (h : Rp σ μ i) (hs : ∀ r, r < 8 → σ' r i = σ r i) (hm : ∀ r, 1 ≤ r → r < 10 → μ' r i = μ r i) : Rp σ' μ' i := by
  unfold Rp at h ⊢
  rw [hs 0 (by decide), hs 1 (by decide), hs 2 (by decide), hs 3 (by decide), hs 4 (by decide), hs 5 (by decide), hs 6 (by decide), hs 7 (by decide), hm 1 (by decide) (by decide), hm 2 (by decide) (by decide), hm 3 (by decide) (by decide), hm 4 (by decide) (by decide), hm 5 (by decide) (by decide), hm 6 (by decide) (by decide), hm 7 (by decide) (by decide), hm 8 (by decide) (by decide), hm 9 (by decide) (by decide)]
  exact h
theorem Rp_get {σ μ : St} {i : Nat} {c0 c1 c2 c3 c4 c5 c6 c7 m1 m2 m3 m4 m5 m6 m7 m8 m9 : Int32} (h : RpV c0 c1 c2 c3 c4 c5 c6 c7 m1 m2 m3 m4 m5 m6 m7 m8 m9) (h0 : σ 0 i = c0) (h1 : σ 1 i = c1) (h2 : σ 2 i = c2) (h3 : σ 3 i = c3) (h4 : σ 4 i = c4) (h5 : σ 5 i = c5) (h6 : σ 6 i = c6) (h7 : σ 7 i = c7) (g1 : μ 1 i = m1) (g2 : μ 2 i = m2) (g3 : μ 3 i = m3) (g4 : μ 4 i = m4) (g5 : μ 5 i = m5) (g6 : μ 6 i = m6) (g7 : μ 7 i = m7) (g8 : μ 8 i = m8) (g9 : μ 9 i = m9) : Rp σ μ i := by
  unfold Rp
  rw [h0, h1, h2, h3, h4, h5, h6, h7, g1, g2, g3, g4, g5, g6, g7, g8, g9]
  exact h
theorem Ru_of {n : Nat} {σ μ σ' μ' : St} {i : Nat} (h : Ru n σ μ i) (hs : σ' (100 + i) = σ (100 + i)) (hm : μ' 12 = μ 12) : Ru n σ' μ' i := by
  unfold Ru at h ⊢
  rw [hs, hm]; exact h
theorem Rc_of {σ μ σ' μ' : St} (h : Rc σ μ) (hs : ∀ r, 20 ≤ r → r < 41 → σ' r = σ r) (hm : ∀ r, 10 ≤ r → r < 19 → μ' r = μ r) : Rc σ' μ' := by
  unfold Rc at h ⊢
  rw [hs 20 (by decide) (by decide), hs 21 (by decide) (by decide), hs 22 (by decide) (by decide), hs 30 (by decide) (by decide), hs 31 (by decide) (by decide), hs 32 (by decide) (by decide), hs 33 (by decide) (by decide), hs 40 (by decide) (by decide), hm 10 (by decide) (by decide), hm 11 (by decide) (by decide), hm 13 (by decide) (by decide), hm 14 (by decide) (by decide), hm 15 (by decide) (by decide), hm 16 (by decide) (by decide), hm 17 (by decide) (by decide), hm 18 (by decide) (by decide)]
  exact h
theorem Rw_of {σ μ σ' μ' : St} (h : Rw σ μ) (hs : ∀ r, 34 ≤ r → r < 42 → r ≠ 40 → σ' r = σ r) (hm : ∀ r, 19 ≤ r → r < 23 → μ' r = μ r) : Rw σ' μ' := by
  unfold Rw at h ⊢
  rw [hs 34 (by decide) (by decide) (by decide), hs 35 (by decide) (by decide) (by decide), hs 36 (by decide) (by decide) (by decide), hs 41 (by decide) (by decide) (by decide), hm 19 (by decide) (by decide), hm 20 (by decide) (by decide), hm 21 (by decide) (by decide), hm 22 (by decide) (by decide)]
  exact h
theorem Rm_of {σ μ σ' μ' : St} (h : Rm σ μ) (hs : ∀ r, 42 ≤ r → r < 57 → σ' r = σ r) (hm : ∀ r, 23 ≤ r → r < 31 → μ' r = μ r) (h5 : ∀ i, i < 16 → ¬ σ 5 i = -1 → ¬ σ' 5 i = -1) : Rm σ' μ' := by
  unfold Rm at h ⊢
  rw [hs 42 (by decide) (by decide), hs 50 (by decide) (by decide), hs 51 (by decide) (by decide), hs 52 (by decide) (by decide), hs 53 (by decide) (by decide), hs 54 (by decide) (by decide), hs 55 (by decide) (by decide), hs 56 (by decide) (by decide), hm 23 (by decide) (by decide), hm 24 (by decide) (by decide), hm 25 (by decide) (by decide), hm 26 (by decide) (by decide), hm 27 (by decide) (by decide), hm 28 (by decide) (by decide), hm 29 (by decide) (by decide), hm 30 (by decide) (by decide)]
  refine ⟨h.1, h.2.1, h.2.2.1, fun j hj => ⟨h5 _ ?_ (h.2.2.2 j hj).1, (h.2.2.2 j hj).2⟩⟩
  exact vp_lt (h.2.2.1 j (by have := h.2.1.2; omega)).2.2.2.2.2.2.2.2
/-- a step that touches one place's rows alone -/
theorem rel_at {n : Nat} {σ μ σ' μ' : St} {p : Nat} (h : Rel n σ μ) (hs : ∀ r i, (i ≠ p ∨ 8 ≤ r) → σ' r i = σ r i) (hm : ∀ r i, r ≠ 0 → (i ≠ p ∨ 10 ≤ r) → μ' r i = μ r i) (h5 : p < 16 → ¬ σ 5 p = -1 → ¬ σ' 5 p = -1) (hp : p < 16 → Rp σ' μ' p) : Rel n σ' μ' := by
  have es : ∀ r, 8 ≤ r → σ' r = σ r := fun r hr => funext fun i => hs r i (.inr hr)
  have em : ∀ r, 10 ≤ r → μ' r = μ r := fun r hr => funext fun i => hm r i (by omega) (.inr hr)
  refine ⟨fun i hi => ?_, fun i hi => Ru_of (h.2.1 i hi) (es _ (by omega)) (em _ (by decide)), Rc_of h.2.2.1 (fun r a _ => es r (by omega)) (fun r a _ => em r (by omega)), Rw_of h.2.2.2.1 (fun r a _ _ => es r (by omega)) (fun r a _ => em r (by omega)), Rm_of h.2.2.2.2 (fun r a _ => es r (by omega)) (fun r a _ => em r (by omega)) (fun i hi q => ?_)⟩
  · by_cases e : i = p
    · subst e; exact hp hi
    · exact Rp_of (h.1 i hi) (fun r _ => hs r i (.inl e)) (fun r a _ => hm r i (by omega) (.inl e))
  · by_cases e : i = p
    · subst e; exact h5 hi q
    · rw [hs 5 i (.inl e)]; exact q
/-- what was thrown is no part of it -/
theorem rel_t {n : Nat} {σ μ : St} {v : Int32} (h : Rel n σ μ) : Rel n σ (up μ 0 0 v) := by
  have em : ∀ r, 1 ≤ r → up μ 0 0 v r = μ r := fun r hr => up_row (by omega)
  exact ⟨fun i hi => Rp_of (h.1 i hi) (fun _ _ => rfl) (fun r a _ => by rw [em r a]), fun i hi => Ru_of (h.2.1 i hi) rfl (em _ (by decide)), Rc_of h.2.2.1 (fun _ _ _ => rfl) (fun r a _ => em r (by omega)), Rw_of h.2.2.2.1 (fun _ _ _ _ => rfl) (fun r a _ => em r (by omega)), Rm_of h.2.2.2.2 (fun _ _ _ => rfl) (fun r a _ => em r (by omega)) (fun _ _ q => q)⟩
/-- ranges, two ways -/
theorem rg_in2 (x a b : Int32) : (c_rg x a b = 0 ∧ m_in x a b = 1 ∧ a.toInt ≤ x.toInt ∧ x.toInt ≤ b.toInt) ∨ (c_rg x a b = 1 ∧ m_in x a b = 0) := by
  unfold c_rg m_in
  by_cases h : x < a
  · exact .inr ⟨if_pos h, if_pos h⟩
  · by_cases h2 : x ≤ b
    · have h3 : ¬ b < x := fun q => by rw [i_lt] at q; rw [i_le] at h2; omega
      have h4 : a.toInt ≤ x.toInt := by rw [i_lt] at h; omega
      exact .inl ⟨by rw [if_neg h, if_pos h2], by rw [if_neg h, if_neg h3], h4, i_le.mp h2⟩
    · have h3 : b < x := i_lt.mpr (by rw [i_le] at h2; omega)
      exact .inr ⟨by rw [if_neg h, if_neg h2], by rw [if_neg h, if_pos h3]⟩
theorem isFace_iff {σ μ : St} {i : Nat} (h : Rp σ μ i) : (c_isFace σ i = 0 ∧ μ 6 i = 0 ∧ σ 5 i = -1) ∨ (c_isFace σ i = 1 ∧ μ 6 i = 1 ∧ ¬ σ 5 i = -1 ∧ σ 5 i = μ 7 i) := by
  unfold c_isFace
  rcases h.2.1 with a | a
  · exact .inl ⟨if_pos a.1, a.2.1, a.1⟩
  · have q : ¬ σ 5 i = -1 := fun q => by rw [q] at a; exact absurd (in_I a.1).1 (by decide)
    exact .inr ⟨if_neg q, a.2.1, q, a.2.2⟩
theorem holds_eq {σ μ : St} {p g : Int32} (h : Rp σ μ (nx p)) : c_holdsAnother σ (nx p) g = m_holdsOther μ p g := by
  unfold c_holdsAnother m_holdsOther
  obtain ⟨⟨_, _, e2, _, e4, _⟩, _, b, _, _, _, g4⟩ := h
  rw [← e2, ← e4]
  rcases g4 with a | a
  · rw [if_pos a.2, if_pos (by rw [a.1]; decide)]
  · have z : ¬ σ 2 (nx p) ≤ 0 := fun q => a.1 (by rw [i_le, z_0] at q; rw [i_eq, z_0]; omega)
    rw [if_neg a.2, if_neg z]
theorem sp_eq {σ μ : St} {p n : Int32} (h : Rp σ μ (nx p)) (hn : 1 ≤ n.toInt) (hn2 : n.toInt ≤ 100000) : c_sp σ (nx p) n = (if μ 3 (nx p) + n ≤ μ 1 (nx p) then 0 else 3) ∧ (μ 3 (nx p) + n ≤ μ 1 (nx p) → (σ 2 (nx p)).toInt + n.toInt ≤ (σ 0 (nx p)).toInt ∧ (σ 2 (nx p) + n).toInt = (σ 2 (nx p)).toInt + n.toInt) := by
  unfold c_sp c_space
  obtain ⟨⟨e0, _, e2, _⟩, _, b, _⟩ := h
  rw [← e2, ← e0]
  have a1 := i_add (x := σ 2 (nx p)) (y := n) (by omega) (by omega)
  have a2 := i_sub (x := σ 0 (nx p)) (y := σ 2 (nx p)) (by omega) (by omega)
  have a3 : n ≤ σ 0 (nx p) - σ 2 (nx p) ↔ σ 2 (nx p) + n ≤ σ 0 (nx p) := by rw [i_le, i_le, a1, a2]; omega
  constructor
  · by_cases q : σ 2 (nx p) + n ≤ σ 0 (nx p)
    · rw [if_pos q, if_pos (a3.mpr q)]
    · rw [if_neg q, if_neg (fun z => q (a3.mp z))]
  · intro q
    rw [i_le, a1] at q
    exact ⟨q, a1⟩
