/-! each call, class and reference side by side (2) -/
theorem fa_cases {n : Nat} {σ μ : St} (h : Rel n σ μ) (p : Int32) : (c_faceAt σ p = 1 ∧ m_isPlace p = 0) ∨ (c_faceAt σ p = 2 ∧ m_isPlace p = 1 ∧ vp_in p 16 ∧ μ 6 (nx p) = 0) ∨ (c_faceAt σ p = 0 ∧ m_isPlace p = 1 ∧ vp_in p 16 ∧ μ 6 (nx p) = 1 ∧ ¬ σ 5 (nx p) = -1 ∧ σ 5 (nx p) = μ 7 (nx p)) := by
  unfold c_faceAt c_placeAt m_isPlace
  rcases rg_l p 0 15 0 15 (by decide) (by decide) with ⟨a1, a2, a3, a4⟩ | ⟨a1, a2⟩
  · have hp : vp_in p 16 := I_in ⟨a3, by omega⟩
    rw [a1, a2]
    rcases isFace_iff (h.1 _ (vp_lt hp)) with ⟨f1, f2, _⟩ | ⟨f1, f2, f3, f4⟩
    · rw [f1]; exact .inr (.inl ⟨rfl, rfl, hp, f2⟩)
    · rw [f1]; exact .inr (.inr ⟨rfl, rfl, hp, f2, f3, f4⟩)
  · rw [a1, a2]; exact .inl ⟨rfl, rfl⟩
theorem nh_eq {n : Nat} {σ μ : St} (h : Rel n σ μ) {p : Int32} (hp : vp_in p 16) : c_notHeld σ (nx p) = m_free μ p ∧ (c_notHeld σ (nx p)).toInt = (σ 2 (nx p)).toInt - (σ 3 (nx p)).toInt := by
  obtain ⟨⟨_, _, e2, e3, _⟩, _, b, c, _⟩ := h.1 _ (vp_lt hp)
  unfold c_notHeld m_free
  exact ⟨by rw [e2, e3], i_sub (by omega) (by omega)⟩
theorem kt_use {n : Nat} {σ μ : St} (h : Rel n σ μ) (p m : Int32) : m_useT μ p m = nI (c_useK σ p m) ∧ c_useK σ p m < 10 ∧ (c_useK σ p m = 0 → vp_in p 16 ∧ 1 ≤ m.toInt ∧ m.toInt ≤ 100000 ∧ m.toInt ≤ (σ 2 (nx p)).toInt - (σ 3 (nx p)).toInt) := by
  unfold m_useT c_useK
  have n10 : ¬ (1 : Int32) = 0 := by decide
  rcases rg_l m 1 100000 1 100000 (by decide) (by decide) with ⟨b1, b2, b3, b4⟩ | ⟨b1, b2⟩
  · rcases fa_cases h p with ⟨f1, f2⟩ | ⟨f1, f2, hp, f3⟩ | ⟨f1, f2, hp, f3, _⟩
    · rw [b1, b2, f1, f2]; exact refK 1 (by decide) rfl rfl
    · rw [b1, b2, f1, f2, f3]; exact refK 2 (by decide) rfl rfl
    · obtain ⟨e1, e2⟩ := nh_eq h hp
      rw [b1, b2, f1, f2, f3, ← e1, if_neg n10, if_neg n10, if_neg n10]
      simp only [c_then, if_true]
      by_cases q : m ≤ c_notHeld σ (nx p)
      · rw [if_pos q, if_pos q]; exact ⟨rfl, by decide, fun _ => ⟨hp, b3, b4, by rw [i_le, e2] at q; exact q⟩⟩
      · rw [if_neg q, if_neg q]; exact ⟨rfl, by decide, fun z => absurd z (by decide)⟩
  · have e : c_then (c_rg m 1 100000) (c_then (c_faceAt σ p) (if m ≤ c_notHeld σ (nx p) then 0 else 2)) = 1 := by rw [b1]; rfl
    rw [e, b2]
    refine ⟨?_, by decide, fun z => absurd z (by decide)⟩
    by_cases z : m_isPlace p = 0
    · rw [if_pos z]; rfl
    · rw [if_neg z, if_pos rfl]; rfl
/-- pieces are used -/
theorem rel_used {n : Nat} {σ μ : St} {p m : Int32} (h : Rel n σ μ) (hn : n ≤ 512) (hp : vp_in p 16) (hm : 1 ≤ m.toInt) (hm2 : m.toInt ≤ 100000) : Rel (n + 1) (up σ (100 + nx p) (nx (σ 40 0)) (σ (100 + nx p) (nx (σ 40 0)) + m)) (up μ 12 (nx (400 * p + μ 18 0)) (μ 12 (nx (400 * p + μ 18 0)) + m)) := by
  obtain ⟨h1, h2, h3, h4, h5⟩ := h
  have ht := h3.2.2.2.2.2
  have h18 := h3.2.2.2.2.1
  have hp16 := vp_lt hp
  have hd := vp_lt ht
  have ix : nx (400 * p + μ 18 0) = 400 * nx p + nx (σ 40 0) := by
    rw [← h18, mix_eq hp ht]; exact nxnI (by omega)
  rw [ix]
  generalize hdd : nx (σ 40 0) = d at *
  generalize hpp : nx p = a at *
  have es : ∀ r, r < 100 → up σ (100 + a) d (σ (100 + a) d + m) r = σ r := fun r hr => up_row (by omega)
  have em : ∀ r, r ≠ 12 → up μ 12 (400 * a + d) (μ 12 (400 * a + d) + m) r = μ r := fun r hr => up_row (by omega)
  refine ⟨fun i hi => Rp_of (h1 i hi) (fun r hr => by rw [es r (by omega)]) (fun r a b => by rw [em r (by omega)]), fun i hi => ?_, ?_, Rw_of h4 (fun r a b _ => es r (by omega)) (fun r a b => em r (by omega)), Rm_of h5 (fun r a b => es r (by omega)) (fun r a b => em r (by omega)) (fun i hi q => by rw [es 5 (by decide)]; exact q)⟩
  · obtain ⟨u1, u2⟩ := h2 i hi
    by_cases e : i = a
    · subst e
      have v1 : (σ (100 + i) d).toInt ≤ tot (fun j => (σ (100 + i) j).toInt) 400 := tot_one (f := fun j => (σ (100 + i) j).toInt) (fun j hj => (u1 j hj).2) hd
      have v0 := (u1 d hd).2
      have vs := i_add (x := σ (100 + i) d) (y := m) (by omega) (by omega)
      have ed : up σ (100 + i) d (σ (100 + i) d + m) (100 + i) d = σ (100 + i) d + m := up_eq
      have eo : ∀ j, j ≠ d → up σ (100 + i) d (σ (100 + i) d + m) (100 + i) j = σ (100 + i) j := fun j hj => up_ix hj
      refine ⟨fun j hj => ?_, ?_⟩
      · by_cases z : j = d
        · subst z; rw [ed, up_eq, (u1 j hj).1]
          refine ⟨rfl, ?_⟩
          rw [← (u1 j hj).1, vs]; omega
        · rw [eo j z, up_ix (by omega)]; exact u1 j hj
      · have t := tot_up (f := fun j => (σ (100 + i) j).toInt) (g := fun j => (up σ (100 + i) d (σ (100 + i) d + m) (100 + i) j).toInt) (d := d) (v := m.toInt) (by show (up σ (100 + i) d _ (100 + i) d).toInt = _; rw [ed, vs]) (fun j hj => by show (up σ (100 + i) d _ (100 + i) j).toInt = _; rw [eo j hj]) 400
        rw [t, if_pos hd]; omega
    · have e1 : up σ (100 + a) d (σ (100 + a) d + m) (100 + i) = σ (100 + i) := up_row (by omega)
      refine ⟨fun j hj => ?_, ?_⟩
      · rw [e1, up_ix (by omega)]; exact u1 j hj
      · rw [e1]; omega
  · obtain ⟨c1, c2, c3, c4, c5, c6⟩ := h3
    unfold Rc
    rw [es 20 (by decide), es 21 (by decide), es 22 (by decide), es 30 (by decide), es 31 (by decide), es 32 (by decide), es 33 (by decide), es 40 (by decide), em 10 (by decide), em 11 (by decide), em 13 (by decide), em 14 (by decide), em 15 (by decide), em 16 (by decide), em 17 (by decide), em 18 (by decide)]
    exact ⟨c1, c2, c3, c4, c5, c6⟩
theorem q_use {n : Nat} {σ μ : St} (h : Rel n σ μ) (hn : n ≤ 512) (p m : Int32) : m_useS μ p m 0 0 = nI (c_useK σ p m) ∧ Rel (n + 1) (if c_useK σ p m = 0 then c_useS σ p m else σ) (m_useS μ p m) := by
  obtain ⟨hT, hK, h0⟩ := kt_use h p m
  by_cases q : c_useK σ p m = 0
  · obtain ⟨hp, hm, hm2, hr⟩ := h0 q
    have eS : m_useS μ p m = up (m_takes (up μ 0 0 (m_useT μ p m)) p m) 12 (nx (400 * p + m_takes (up μ 0 0 (m_useT μ p m)) p m 18 0)) (m_takes (up μ 0 0 (m_useT μ p m)) p m 12 (nx (400 * p + m_takes (up μ 0 0 (m_useT μ p m)) p m 18 0)) + m) := thr_0 (by rw [hT, q]; rfl)
    rw [if_pos q, eS]
    refine ⟨?_, rel_used (rel_take (rel_t h) hm (fun _ => hr)) hn hp hm hm2⟩
    rw [up_row (show (0 : Nat) ≠ 12 by decide), takes_row (by decide), up_eq, hT]
  · have eS : m_useS μ p m = up μ 0 0 (m_useT μ p m) := thr_1 (by rw [hT]; exact nI_ne q hK)
    rw [if_neg q, eS]
    exact ⟨by rw [up_eq, hT], rel_up (rel_t h)⟩
theorem kt_hold {n : Nat} {σ μ : St} (h : Rel n σ μ) (p m : Int32) : m_holdT μ p m = nI (c_holdK σ p m) ∧ c_holdK σ p m < 10 ∧ (c_holdK σ p m = 0 → vp_in p 16 ∧ 0 ≤ m.toInt ∧ m.toInt ≤ (σ 2 (nx p)).toInt) := by
  unfold m_holdT c_holdK c_placeAt m_isPlace
  have n10 : ¬ (1 : Int32) = 0 := by decide
  rcases rg_l p 0 15 0 15 (by decide) (by decide) with ⟨a1, a2, a3, a4⟩ | ⟨a1, a2⟩
  · have hp : vp_in p 16 := I_in ⟨a3, by omega⟩
    have e2 := (h.1 _ (vp_lt hp)).1.2.2.1
    rw [a1, a2, ← e2, if_neg n10]
    by_cases z : 0 ≤ m
    · rw [if_pos z, if_pos z]
      simp only [c_then, if_true]
      rw [i_le, z_0] at z
      by_cases q : m ≤ σ 2 (nx p)
      · rw [if_pos q, if_pos q]; exact ⟨rfl, by decide, fun _ => ⟨hp, z, i_le.mp q⟩⟩
      · rw [if_neg q, if_neg q]; exact ⟨rfl, by decide, fun z => absurd z (by decide)⟩
    · rw [if_neg z, if_neg z]; exact refK 1 (by decide) rfl rfl
  · rw [a1, a2]; exact refK 1 (by decide) rfl rfl
theorem q_hold {n : Nat} {σ μ : St} (h : Rel n σ μ) (p m : Int32) : m_holdS μ p m 0 0 = nI (c_holdK σ p m) ∧ Rel n (if c_holdK σ p m = 0 then c_holdS σ p m else σ) (m_holdS μ p m) := by
  obtain ⟨hT, hK, h0⟩ := kt_hold h p m
  simp only [m_holdS]
  generalize m_holdT μ p m = T at hT ⊢
  generalize c_holdK σ p m = K at hT hK h0 ⊢
  refine call_of h hT hK (by simp [up]) (fun q => ?_)
  obtain ⟨hp, hm, hr⟩ := h0 q
  refine rel_at (p := nx p) h (fun r i c => ?_) (fun r i r0 c => ?_) (fun _ c => c) (fun hi => ?_)
  · simp only [c_holdS, up]; rw [if_neg (by omega)]
  · simp only [up]; rw [if_neg (by omega), if_neg (by omega)]
  · obtain ⟨⟨e0, e1, e2, e3, e4, e6, e7⟩, f, b, c, d, g, k⟩ := h.1 _ hi
    have vv : RpV (σ 0 (nx p)) (σ 1 (nx p)) (σ 2 (nx p)) m (σ 4 (nx p)) (σ 5 (nx p)) (σ 6 (nx p)) (σ 7 (nx p)) (μ 1 (nx p)) (μ 2 (nx p)) (μ 3 (nx p)) (μ 4 (nx p)) m (μ 6 (nx p)) (μ 7 (nx p)) (μ 8 (nx p)) (μ 9 (nx p)) := ⟨⟨e0, e1, e2, rfl, e4, e6, e7⟩, f, b, ⟨hm, hr⟩, d, g, k⟩
    exact Rp_get vv (by simp [c_holdS, up]) (by simp [c_holdS, up]) (by simp [c_holdS, up]) (by simp [c_holdS, up]) (by simp [c_holdS, up]) (by simp [c_holdS, up]) (by simp [c_holdS, up]) (by simp [c_holdS, up]) (by simp [up]) (by simp [up]) (by simp [up]) (by simp [up]) (by simp [up]) (by simp [up]) (by simp [up]) (by simp [up]) (by simp [up])
/-- a step that touches goods, zones, months or days alone -/
theorem rel_c {n : Nat} {σ μ σ' μ' : St} (h : Rel n σ μ) (hs : ∀ r, (r < 20 ∨ 34 ≤ r ∧ r ≠ 40) → σ' r = σ r) (hm : ∀ r, 1 ≤ r → (r < 10 ∨ r = 12 ∨ 19 ≤ r) → μ' r = μ r) (hc : Rc σ' μ') : Rel n σ' μ' :=
  ⟨fun i hi => Rp_of (h.1 i hi) (fun r a => by rw [hs r (by omega)]) (fun r a b => by rw [hm r a (by omega)]), fun i hi => Ru_of (h.2.1 i hi) (hs _ (by omega)) (hm _ (by omega) (by omega)), hc, Rw_of h.2.2.2.1 (fun r a b c => hs r (by omega)) (fun r a b => hm r (by omega) (by omega)), Rm_of h.2.2.2.2 (fun r a b => hs r (by omega)) (fun r a b => hm r (by omega) (by omega)) (fun i hi q => by rw [hs 5 (by omega)]; exact q)⟩
