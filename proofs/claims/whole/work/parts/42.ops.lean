/-! each call, class and reference side by side -/
theorem rg_l (x a b : Int32) (A B : Int) (ha : a.toInt = A) (hb : b.toInt = B) : (c_rg x a b = 0 ∧ m_in x a b = 1 ∧ A ≤ x.toInt ∧ x.toInt ≤ B) ∨ (c_rg x a b = 1 ∧ m_in x a b = 0) := by
  have h := rg_in2 x a b
  rw [ha, hb] at h
  exact h
theorem thr {μ S : St} {T : Int32} (hS : S 0 0 = up μ 0 0 T 0 0) : (if up μ 0 0 T 0 0 = 0 then S else up μ 0 0 T) 0 0 = T := by
  by_cases q : up μ 0 0 T 0 0 = 0
  · rw [if_pos q, hS, up_eq]
  · rw [if_neg q, up_eq]
theorem thr_0 {μ S : St} {T : Int32} (h : T = 0) : (if up μ 0 0 T 0 0 = 0 then S else up μ 0 0 T) = S := if_pos (by rw [up_eq]; exact h)
theorem thr_1 {μ S : St} {T : Int32} (h : ¬ T = 0) : (if up μ 0 0 T 0 0 = 0 then S else up μ 0 0 T) = up μ 0 0 T := if_neg (by rw [up_eq]; exact h)
theorem refK (c : Nat) {T : Int32} {K : Nat} {P : Prop} (hc : 0 < c ∧ c < 10) (hT : T = nI c) (hK : K = c) : T = nI K ∧ K < 10 ∧ (K = 0 → P) := ⟨by rw [hT, hK], by omega, fun q => absurd q (by omega)⟩
theorem nI_ne {k : Nat} (h : ¬ k = 0) (h2 : k < 10) : ¬ nI k = 0 := nI_ne0 (by omega) (by omega)
theorem then_lt {a b : Nat} (ha : a < 10) (hb : b < 10) : c_then a b < 10 := by unfold c_then; split <;> assumption
/-- a call: what is thrown, and the states behind it -/
theorem call_of {n : Nat} {σ μ σ' S : St} {K : Nat} {T : Int32} (h : Rel n σ μ) (hT : T = nI K) (hK : K < 10) (hS : S 0 0 = up μ 0 0 T 0 0) (hR : K = 0 → Rel n σ' S) : (if up μ 0 0 T 0 0 = 0 then S else up μ 0 0 T) 0 0 = nI K ∧ Rel n (if K = 0 then σ' else σ) (if up μ 0 0 T 0 0 = 0 then S else up μ 0 0 T) := by
  refine ⟨by rw [thr hS, hT], ?_⟩
  by_cases q : K = 0
  · rw [if_pos q, thr_0 (by rw [hT, q]; rfl)]; exact hR q
  · rw [if_neg q, thr_1 (by rw [hT]; exact nI_ne q hK)]; exact rel_t h
theorem kt_place {n : Nat} {σ μ : St} (h : Rel n σ μ) (p s z : Int32) : m_placeT μ p s z = nI (c_placeK σ p s z) ∧ c_placeK σ p s z < 10 ∧ (c_placeK σ p s z = 0 → vp_in p 16 ∧ s.toInt ≤ 100000 ∧ vp_in z 4 ∧ (σ 2 (nx p)).toInt ≤ s.toInt ∧ (σ 7 (nx p)).toInt ≤ s.toInt) := by
  unfold m_placeT c_placeK c_placeAt m_isPlace
  rcases rg_l p 0 15 0 15 (by decide) (by decide) with ⟨a1, a2, a3, a4⟩ | ⟨a1, a2⟩
  · rcases rg_l s 1 100000 1 100000 (by decide) (by decide) with ⟨b1, b2, b3, b4⟩ | ⟨b1, b2⟩
    · rcases rg_l z 0 3 0 3 (by decide) (by decide) with ⟨d1, d2, d3, d4⟩ | ⟨d1, d2⟩
      · have hp : vp_in p 16 := I_in ⟨a3, by omega⟩
        have hz : vp_in z 4 := I_in ⟨d3, by omega⟩
        have hR := h.1 _ (vp_lt hp)
        rw [a1, a2, b1, b2, d1, d2]
        simp only [c_then, if_true, if_neg (show ¬ (1 : Int32) = 0 by decide)]
        rw [← hR.1.2.2.1, ← hR.1.2.2.2.2.2.2]
        by_cases q : s < σ 2 (nx p)
        · rw [if_pos q, if_pos q]; exact ⟨rfl, by decide, fun z => absurd z (by decide)⟩
        · rw [if_neg q, if_neg q]
          have q2 : (σ 2 (nx p)).toInt ≤ s.toInt := by rw [i_lt] at q; omega
          rcases isFace_iff hR with ⟨_, f, f5⟩ | ⟨_, f, _⟩
          · have e7 : σ 7 (nx p) = 0 := by
              rcases hR.2.1 with x | x
              · exact x.2.2.2
              · exact absurd (x.2.1.symm.trans f) (by decide)
            have q3 : σ 7 (nx p) ≤ s := by rw [i_le, e7, z_0]; omega
            rw [f, if_pos rfl, if_pos q3]
            exact ⟨rfl, by decide, fun _ => ⟨hp, b4, hz, q2, i_le.mp q3⟩⟩
          · rw [f, if_neg (by decide)]
            by_cases q3 : σ 7 (nx p) ≤ s
            · rw [if_pos q3, if_pos q3]; exact ⟨rfl, by decide, fun _ => ⟨hp, b4, hz, q2, i_le.mp q3⟩⟩
            · rw [if_neg q3, if_neg q3]; exact ⟨rfl, by decide, fun z => absurd z (by decide)⟩
      · rw [a1, a2, b1, b2, d1, d2]; exact refK 1 (by decide) rfl rfl
    · rw [a1, a2, b1, b2]; exact refK 1 (by decide) rfl rfl
  · rw [a1, a2]; exact refK 1 (by decide) rfl rfl
theorem q_place {n : Nat} {σ μ : St} (h : Rel n σ μ) (p s z : Int32) : m_placeS μ p s z 0 0 = nI (c_placeK σ p s z) ∧ Rel n (if c_placeK σ p s z = 0 then c_placeS σ p s z else σ) (m_placeS μ p s z) := by
  obtain ⟨hT, hK, h0⟩ := kt_place h p s z
  simp only [m_placeS]
  generalize m_placeT μ p s z = T at hT ⊢
  generalize c_placeK σ p s z = K at hT hK h0 ⊢
  refine call_of h hT hK (by simp [up]) (fun q => ?_)
  obtain ⟨hp, hs, hz, b2, b7⟩ := h0 q
  refine rel_at (p := nx p) h (fun r i c => ?_) (fun r i r0 c => ?_) (fun _ c => c) (fun hi => ?_)
  · simp only [c_placeS, up]; rw [if_neg (by omega), if_neg (by omega)]
  · simp only [up]; rw [if_neg (by omega), if_neg (by omega), if_neg (by omega)]
  · obtain ⟨⟨e0, e1, e2, e3, e4, e6, e7⟩, f, b, c, d, ⟨g1, g2⟩, k⟩ := h.1 _ hi
    have vv : RpV s z (σ 2 (nx p)) (σ 3 (nx p)) (σ 4 (nx p)) (σ 5 (nx p)) (σ 6 (nx p)) (σ 7 (nx p)) s z (μ 3 (nx p)) (μ 4 (nx p)) (μ 5 (nx p)) (μ 6 (nx p)) (μ 7 (nx p)) (μ 8 (nx p)) (μ 9 (nx p)) := ⟨⟨rfl, rfl, e2, e3, e4, e6, e7⟩, f, ⟨b.1, b2, hs⟩, c, ⟨d.1, d.2.1, b7⟩, ⟨hz, g2⟩, k⟩
    exact Rp_get vv (by simp [up, c_placeS]) (by simp [up, c_placeS]) (by simp [up, c_placeS]) (by simp [up, c_placeS]) (by simp [up, c_placeS]) (by simp [up, c_placeS]) (by simp [up, c_placeS]) (by simp [up, c_placeS]) (by simp [up, c_placeS]) (by simp [up, c_placeS]) (by simp [up, c_placeS]) (by simp [up, c_placeS]) (by simp [up, c_placeS]) (by simp [up, c_placeS]) (by simp [up, c_placeS]) (by simp [up, c_placeS]) (by simp [up, c_placeS])
theorem kt_face {n : Nat} {σ μ : St} (h : Rel n σ μ) (p g a b : Int32) : m_faceT μ p g a b = nI (c_faceK σ p g a b) ∧ c_faceK σ p g a b < 10 ∧ (c_faceK σ p g a b = 0 → vp_in p 16 ∧ vp_in g 8 ∧ 0 ≤ a.toInt ∧ a.toInt ≤ b.toInt ∧ b.toInt ≤ (σ 0 (nx p)).toInt) := by
  unfold m_faceT m_faceG c_faceK c_placeAt m_isPlace
  rcases rg_l p 0 15 0 15 (by decide) (by decide) with ⟨a1, a2, a3, a4⟩ | ⟨a1, a2⟩
  · rcases rg_l g 0 7 0 7 (by decide) (by decide) with ⟨b1, b2, b3, b4⟩ | ⟨b1, b2⟩
    · have hp : vp_in p 16 := I_in ⟨a3, by omega⟩
      have hg : vp_in g 8 := I_in ⟨b3, by omega⟩
      have hR := h.1 _ (vp_lt hp)
      have hH := holds_eq (g := g) hR
      rw [a1, a2, b1, b2, ← hR.1.1, ← hH]
      have n10 : ¬ (1 : Int32) = 0 := by decide
      rw [if_neg n10, if_neg n10]
      rcases rg_in2 b 0 (σ 0 (nx p)) with ⟨d1, _, d3, d4⟩ | ⟨d1, d2⟩
      · rcases rg_in2 a 0 b with ⟨f1, _, f3, f4⟩ | ⟨f1, f2⟩
        · rw [d1, f1, if_neg (show ¬ a < 0 by rw [i_lt]; omega), if_neg (show ¬ b < a by rw [i_lt]; omega), if_neg (show ¬ σ 0 (nx p) < b by rw [i_lt]; omega), if_neg n10]
          rw [z_0] at f3
          simp only [c_then, if_true]
          by_cases q : c_holdsAnother σ (nx p) g = 0
          · rw [if_pos q, if_pos q]; exact ⟨rfl, by decide, fun _ => ⟨hp, hg, f3, f4, d4⟩⟩
          · rw [if_neg q, if_neg q]; exact ⟨rfl, by decide, fun z => absurd z (by decide)⟩
        · rw [d1, f1]
          have z : a < 0 ∨ b < a := by
            unfold m_in at f2
            by_cases z1 : a < 0
            · exact .inl z1
            · rw [if_neg z1] at f2
              by_cases z2 : b < a
              · exact .inr z2
              · rw [if_neg z2] at f2; exact absurd f2 n10
          have e : (if a < 0 then (0 : Int32) else if b < a then 0 else if σ 0 (nx p) < b then 0 else 1) = 0 := by
            rcases z with z | z
            · rw [if_pos z]
            · rw [if_pos z]; split <;> rfl
          rw [if_pos e]
          exact refK 1 (by decide) rfl rfl
      · rw [d1]
        have z : b < 0 ∨ σ 0 (nx p) < b := by
          unfold m_in at d2
          by_cases z1 : b < 0
          · exact .inl z1
          · rw [if_neg z1] at d2
            by_cases z2 : σ 0 (nx p) < b
            · exact .inr z2
            · rw [if_neg z2] at d2; exact absurd d2 n10
        have e : (if a < 0 then (0 : Int32) else if b < a then 0 else if σ 0 (nx p) < b then 0 else 1) = 0 := by
          by_cases y1 : a < 0
          · rw [if_pos y1]
          · rw [if_neg y1]
            by_cases y2 : b < a
            · rw [if_pos y2]
            · rw [if_neg y2]
              rcases z with z | z
              · rw [i_lt] at y1 y2 z; omega
              · rw [if_pos z]
        rw [if_pos e]
        exact refK 1 (by decide) rfl rfl
    · rw [a1, a2, b1, b2]; exact refK 1 (by decide) rfl rfl
  · rw [a1, a2]; exact refK 1 (by decide) rfl rfl
theorem q_face {n : Nat} {σ μ : St} (h : Rel n σ μ) (p g a b : Int32) : m_faceS μ p g a b 0 0 = nI (c_faceK σ p g a b) ∧ Rel n (if c_faceK σ p g a b = 0 then c_faceS σ p g a b else σ) (m_faceS μ p g a b) := by
  obtain ⟨hT, hK, h0⟩ := kt_face h p g a b
  simp only [m_faceS]
  generalize m_faceT μ p g a b = T at hT ⊢
  generalize c_faceK σ p g a b = K at hT hK h0 ⊢
  refine call_of h hT hK (by simp [up]) (fun q => ?_)
  obtain ⟨hp, hg, ha, hab, hb⟩ := h0 q
  have hgn : ¬ g = -1 := fun q => by rw [q] at hg; exact absurd (in_I hg).1 (by decide)
  refine rel_at (p := nx p) h (fun r i c => ?_) (fun r i r0 c => ?_) (fun _ c => ?_) (fun hi => ?_)
  · simp only [c_faceS, up]; rw [if_neg (by omega), if_neg (by omega), if_neg (by omega)]
  · simp only [up]; rw [if_neg (by omega), if_neg (by omega), if_neg (by omega), if_neg (by omega), if_neg (by omega)]
  · have e : c_faceS σ p g a b 5 (nx p) = g := by simp [c_faceS, up]
    rw [e]; exact hgn
  · obtain ⟨⟨e0, e1, e2, e3, e4, e6, e7⟩, f, b', c, d, ⟨g1, g2⟩, k⟩ := h.1 _ hi
    have vv : RpV (σ 0 (nx p)) (σ 1 (nx p)) (σ 2 (nx p)) (σ 3 (nx p)) (σ 4 (nx p)) g a b (μ 1 (nx p)) (μ 2 (nx p)) (μ 3 (nx p)) (μ 4 (nx p)) (μ 5 (nx p)) 1 g a b := ⟨⟨e0, e1, e2, e3, e4, rfl, rfl⟩, .inr ⟨hg, rfl, rfl⟩, b', c, ⟨ha, hab, hb⟩, ⟨g1, hg⟩, k⟩
    exact Rp_get vv (by simp [up, c_faceS]) (by simp [up, c_faceS]) (by simp [up, c_faceS]) (by simp [up, c_faceS]) (by simp [up, c_faceS]) (by simp [up, c_faceS]) (by simp [up, c_faceS]) (by simp [up, c_faceS]) (by simp [up, c_faceS]) (by simp [up, c_faceS]) (by simp [up, c_faceS]) (by simp [up, c_faceS]) (by simp [up, c_faceS]) (by simp [up, c_faceS]) (by simp [up, c_faceS]) (by simp [up, c_faceS]) (by simp [up, c_faceS])
theorem kt_put {n : Nat} {σ μ : St} (h : Rel n σ μ) (p g m : Int32) : m_putT μ p g m = nI (c_putK σ p g m) ∧ c_putK σ p g m < 10 ∧ (c_putK σ p g m = 0 → vp_in p 16 ∧ vp_in g 8 ∧ 1 ≤ m.toInt ∧ (σ 2 (nx p)).toInt + m.toInt ≤ (σ 0 (nx p)).toInt ∧ (σ 2 (nx p) + m).toInt = (σ 2 (nx p)).toInt + m.toInt) := by
  unfold m_putT m_putI m_putQ c_putK c_placeAt m_isPlace
  have n10 : ¬ (1 : Int32) = 0 := by decide
  rcases rg_l p 0 15 0 15 (by decide) (by decide) with ⟨a1, a2, a3, a4⟩ | ⟨a1, a2⟩
  · rcases rg_l g 0 7 0 7 (by decide) (by decide) with ⟨b1, b2, b3, b4⟩ | ⟨b1, b2⟩
    · rcases rg_l m 1 100000 1 100000 (by decide) (by decide) with ⟨d1, d2, d3, d4⟩ | ⟨d1, d2⟩
      · have hp : vp_in p 16 := I_in ⟨a3, by omega⟩
        have hg : vp_in g 8 := I_in ⟨b3, by omega⟩
        have hR := h.1 _ (vp_lt hp)
        have hH := holds_eq (g := g) hR
        obtain ⟨hs1, hs2⟩ := sp_eq (p := p) hR d3 d4
        rw [a1, a2, b1, b2, d1, d2, ← hH, hs1, if_neg n10, if_neg n10, if_neg n10, if_neg n10]
        simp only [c_then, if_true]
        by_cases q : c_holdsAnother σ (nx p) g = 0
        · rw [if_pos q, if_pos q]
          have fin : (if μ 3 (nx p) + m ≤ μ 1 (nx p) then (0 : Int32) else 3) = nI (if μ 3 (nx p) + m ≤ μ 1 (nx p) then 0 else 3) ∧ (if μ 3 (nx p) + m ≤ μ 1 (nx p) then 0 else 3) < 10 ∧ ((if μ 3 (nx p) + m ≤ μ 1 (nx p) then 0 else 3) = 0 → vp_in p 16 ∧ vp_in g 8 ∧ 1 ≤ m.toInt ∧ (σ 2 (nx p)).toInt + m.toInt ≤ (σ 0 (nx p)).toInt ∧ (σ 2 (nx p) + m).toInt = (σ 2 (nx p)).toInt + m.toInt) := by
            by_cases z : μ 3 (nx p) + m ≤ μ 1 (nx p)
            · rw [if_pos z, if_pos z]; exact ⟨rfl, by decide, fun _ => ⟨hp, hg, d3, hs2 z⟩⟩
            · rw [if_neg z, if_neg z]; exact ⟨rfl, by decide, fun z => absurd z (by decide)⟩
          unfold c_isFaceOfAnother
          rcases isFace_iff hR with ⟨f1, f2, _⟩ | ⟨f1, f2, _, f4⟩
          · rw [f1, f2]; simp only [if_true]; exact fin
          · rw [f1, f2, ← f4]
            simp only [if_neg n10]
            by_cases z : σ 5 (nx p) = g
            · simp only [if_pos z, if_true]; exact fin
            · simp only [if_neg z, if_neg n10]; exact ⟨rfl, by decide, fun z => absurd z (by decide)⟩
        · rw [if_neg q, if_neg q]; exact ⟨rfl, by decide, fun z => absurd z (by decide)⟩
      · rw [a1, a2, b1, b2, d1, d2]; exact refK 1 (by decide) rfl rfl
    · rw [a1, a2, b1, b2]; exact refK 1 (by decide) rfl rfl
  · rw [a1, a2]; exact refK 1 (by decide) rfl rfl
/-- pieces come -/
theorem rel_bring {n : Nat} {σ μ σ' μ' : St} {p : Nat} {g m : Int32} (h : Rel n σ μ) (hg : vp_in g 8) (hm : 1 ≤ m.toInt) (hr : p < 16 → (σ 2 p).toInt + m.toInt ≤ (σ 0 p).toInt) (e1 : σ' = c_bring σ p g m) (e2 : ∀ r i, r ≠ 0 → μ' r i = if r = 4 ∧ i = p then g else if r = 3 ∧ i = p then μ 3 p + m else μ r i) : Rel n σ' μ' := by
  have hgn : ¬ g = -1 := fun q => by rw [q] at hg; exact absurd (in_I hg).1 (by decide)
  subst e1
  refine rel_at (p := p) h (fun r i c => ?_) (fun r i r0 c => ?_) (fun _ c => ?_) (fun hi => ?_)
  · simp only [c_bring, up]; rw [if_neg (by omega), if_neg (by omega)]
  · rw [e2 r i r0, if_neg (by omega), if_neg (by omega)]
  · exact c
  · obtain ⟨⟨e0, e1, e3, e5, e4, e6, e7⟩, f, b', c, d, gg, k⟩ := h.1 _ hi
    have hr := hr hi
    have hadd := i_add (x := σ 2 p) (y := m) (by omega) (by omega)
    have vv : RpV (σ 0 p) (σ 1 p) (σ 2 p + m) (σ 3 p) g (σ 5 p) (σ 6 p) (σ 7 p) (μ 1 p) (μ 2 p) (σ 2 p + m) g (μ 5 p) (μ 6 p) (μ 7 p) (μ 8 p) (μ 9 p) := ⟨⟨e0, e1, rfl, e5, rfl, e6, e7⟩, f, ⟨by omega, by omega, b'.2.2⟩, ⟨c.1, by omega⟩, d, gg, .inr ⟨fun q => by rw [i_eq, hadd, z_0] at q; omega, hgn⟩⟩
    exact Rp_get vv (by simp [c_bring, up]) (by simp [c_bring, up]) (by simp [c_bring, up]) (by simp [c_bring, up]) (by simp [c_bring, up]) (by simp [c_bring, up]) (by simp [c_bring, up]) (by simp [c_bring, up]) (by rw [e2 _ _ (by decide)]; simp) (by rw [e2 _ _ (by decide)]; simp) (by rw [e2 _ _ (by decide), e3]; simp) (by rw [e2 _ _ (by decide)]; simp) (by rw [e2 _ _ (by decide)]; simp) (by rw [e2 _ _ (by decide)]; simp) (by rw [e2 _ _ (by decide)]; simp) (by rw [e2 _ _ (by decide)]; simp) (by rw [e2 _ _ (by decide)]; simp)
/-- pieces go -/
theorem rel_take {n : Nat} {σ μ : St} {p m : Int32} (h : Rel n σ μ) (hm : 1 ≤ m.toInt) (hr : nx p < 16 → m.toInt ≤ (σ 2 (nx p)).toInt - (σ 3 (nx p)).toInt) : Rel n (c_takeAway σ (nx p) m) (m_takes μ p m) := by
  refine rel_at (p := nx p) h (fun r i c => ?_) (fun r i r0 c => ?_) (fun _ c => ?_) (fun hi => ?_)
  · simp only [c_takeAway]
    split
    · simp only [up]; rw [if_neg (by omega), if_neg (by omega)]
    · simp only [up]; rw [if_neg (by omega)]
  · simp only [m_takes, up]; rw [if_neg (by omega), if_neg (by omega)]
  · rw [take_row (by decide)]; exact c
  · obtain ⟨⟨e0, e1, e3, e5, e4, e6, e7⟩, f, b', c, d, gg, k⟩ := h.1 _ hi
    have hr := hr hi
    have hsub := i_sub (x := σ 2 (nx p)) (y := m) (by omega) (by omega)
    have hk : ¬ σ 4 (nx p) = -1 := by
      rcases k with k | k
      · rw [k.1, z_0] at hr; omega
      · exact k.2
    by_cases z : σ 2 (nx p) - m = 0
    · have ec : c_takeAway σ (nx p) m = up (up σ 2 (nx p) (σ 2 (nx p) - m)) 4 (nx p) (-1) := by
        simp only [c_takeAway]; rw [if_pos (by rw [up_eq]; exact z)]
      have z2 := z; rw [i_eq, hsub, z_0] at z2
      have vv : RpV (σ 0 (nx p)) (σ 1 (nx p)) (σ 2 (nx p) - m) (σ 3 (nx p)) (-1) (σ 5 (nx p)) (σ 6 (nx p)) (σ 7 (nx p)) (μ 1 (nx p)) (μ 2 (nx p)) (σ 2 (nx p) - m) (-1) (μ 5 (nx p)) (μ 6 (nx p)) (μ 7 (nx p)) (μ 8 (nx p)) (μ 9 (nx p)) := ⟨⟨e0, e1, rfl, e5, rfl, e6, e7⟩, f, ⟨by omega, by omega, b'.2.2⟩, ⟨c.1, by omega⟩, d, gg, .inl ⟨z, rfl⟩⟩
      have zm : μ 3 (nx p) - m = 0 := by rw [← e3]; exact z
      rw [ec]
      exact Rp_get vv (by simp [up]) (by simp [up]) (by simp [up]) (by simp [up]) (by simp [up]) (by simp [up]) (by simp [up]) (by simp [up]) (by simp [m_takes, up]) (by simp [m_takes, up]) (by simp [m_takes, up, e3]) (by simp [m_takes, up, zm]) (by simp [m_takes, up]) (by simp [m_takes, up]) (by simp [m_takes, up]) (by simp [m_takes, up]) (by simp [m_takes, up])
    · have ec : c_takeAway σ (nx p) m = up σ 2 (nx p) (σ 2 (nx p) - m) := by
        simp only [c_takeAway]; rw [if_neg (by rw [up_eq]; exact z)]
      have vv : RpV (σ 0 (nx p)) (σ 1 (nx p)) (σ 2 (nx p) - m) (σ 3 (nx p)) (σ 4 (nx p)) (σ 5 (nx p)) (σ 6 (nx p)) (σ 7 (nx p)) (μ 1 (nx p)) (μ 2 (nx p)) (σ 2 (nx p) - m) (μ 4 (nx p)) (μ 5 (nx p)) (μ 6 (nx p)) (μ 7 (nx p)) (μ 8 (nx p)) (μ 9 (nx p)) := ⟨⟨e0, e1, rfl, e5, e4, e6, e7⟩, f, ⟨by omega, by omega, b'.2.2⟩, ⟨c.1, by omega⟩, d, gg, .inr ⟨z, hk⟩⟩
      have zm : ¬ μ 3 (nx p) - m = 0 := by rw [← e3]; exact z
      rw [ec]
      exact Rp_get vv (by simp [up]) (by simp [up]) (by simp [up]) (by simp [up]) (by simp [up]) (by simp [up]) (by simp [up]) (by simp [up]) (by simp [m_takes, up]) (by simp [m_takes, up]) (by simp [m_takes, up, e3]) (by simp [m_takes, up, zm]) (by simp [m_takes, up]) (by simp [m_takes, up]) (by simp [m_takes, up]) (by simp [m_takes, up]) (by simp [m_takes, up])
theorem q_put {n : Nat} {σ μ : St} (h : Rel n σ μ) (p g m : Int32) : m_putS μ p g m 0 0 = nI (c_putK σ p g m) ∧ Rel n (if c_putK σ p g m = 0 then c_putS σ p g m else σ) (m_putS μ p g m) := by
  obtain ⟨hT, hK, h0⟩ := kt_put h p g m
  simp only [m_putS]
  generalize m_putT μ p g m = T at hT ⊢
  generalize c_putK σ p g m = K at hT hK h0 ⊢
  refine call_of h hT hK (by simp [up]) (fun q => ?_)
  obtain ⟨hp, hg, hm, hr, _⟩ := h0 q
  refine rel_bring h hg hm (fun _ => hr) rfl (fun r i r0 => ?_)
  simp only [up]
  by_cases c : r = 4 ∧ i = nx p
  · rw [if_pos c, if_pos c]
  · rw [if_neg c, if_neg c]
    by_cases c2 : r = 3 ∧ i = nx p
    · rw [if_pos c2, if_pos c2, if_neg (by omega)]
    · rw [if_neg c2, if_neg c2, if_neg (by omega)]
