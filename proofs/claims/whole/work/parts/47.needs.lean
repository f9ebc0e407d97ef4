/-! what is needed, class and reference side by side -/
theorem mul_bd {x y X Y : Int} (hx : 0 ≤ x) (hX : x ≤ X) (hy : 0 ≤ y) (hY : y ≤ Y) : 0 ≤ x * y ∧ x * y ≤ X * Y := ⟨Int.mul_nonneg hx hy, Int.mul_le_mul hX hY hy (Int.le_trans hx hX)⟩
theorem div_eq {A B : Int64} (hA : 0 ≤ A.toInt) (hA2 : A.toInt ≤ 2000000000000000) (hB : 0 < B.toInt) (hB2 : B.toInt ≤ 2000000000000000) : c_divideUp A B = m_over A B := by
  have d0 := l_div (x := A) (y := B) hA hB
  have n0 := Int.ediv_nonneg hA (Int.le_of_lt hB)
  have n1 : A.toInt / B.toInt ≤ A.toInt := Int.ediv_le_self _ hA
  have n2 := Int.ediv_mul_le A.toInt (Int.ne_of_gt hB)
  have n3 := Int.mul_nonneg n0 (Int.le_of_lt hB)
  have m0 := l_mul (x := A / B) (y := B) (by rw [d0]; omega) (by rw [d0]; omega)
  rw [d0] at m0
  have s0 := l_sub (x := A) (y := A / B * B) (by rw [m0]; omega) (by rw [m0]; omega)
  rw [m0] at s0
  have a0 := l_add (x := A) (y := B) (by omega) (by omega)
  have a1 := l_sub (x := A + B) (y := 1) (by rw [a0, zl_1]; omega) (by rw [a0, zl_1]; omega)
  rw [a0, zl_1] at a1
  have a2 := l_div (x := A + B - 1) (y := B) (by rw [a1]; omega) hB
  rw [a1, div_up hA hB] at a2
  unfold c_divideUp m_over
  rw [if_pos (cmp_gt.mpr (by rw [zl_0]; exact hB)), l_eq, a2]
  by_cases q : A.toInt - A.toInt / B.toInt * B.toInt ≤ 0
  · rw [if_pos q, if_pos (cmp_le.mpr (by rw [s0, zl_0]; exact q)), l_add (by rw [d0, zl_0]; omega) (by rw [d0, zl_0]; omega), d0, zl_0]
  · rw [if_neg q, if_neg (fun z => q (by rw [cmp_le, s0, zl_0] at z; exact z)), l_add (by rw [d0, zl_1]; omega) (by rw [d0, zl_1]; omega), d0, zl_1]
theorem zone_eq {n : Nat} {σ μ : St} (h : Rel n σ μ) {p : Int32} (hp : vp_in p 16) : c_kindOn σ (nx (σ 1 (nx p))) (σ 40 0) = m_kindOf μ p ∧ c_aheadOn σ (nx (σ 1 (nx p))) (σ 40 0) = m_aheadOf μ p ∧ vp_in (m_kindOf μ p) 3 ∧ 1 ≤ (m_aheadOf μ p).toInt ∧ (m_aheadOf μ p).toInt ≤ 30 := by
  obtain ⟨t1, t2, t3⟩ := today h
  have hR := h.1 _ (vp_lt hp)
  have hz := hR.2.2.2.2.2.1.1
  obtain ⟨e0, e1, e2, b0, b1, b2⟩ := h.2.2.1.2.1 _ (vp_lt hz)
  unfold c_kindOn c_aheadOn m_kindOf m_aheadOf
  rw [t3, ← hR.1.2.1, ← e0, ← e1, ← e2]
  refine ⟨rfl, rfl, ?_, ?_⟩
  · split
    · exact b0
    · exact I_in ⟨by decide, by decide⟩
  · split
    · exact ⟨b1, b2⟩
    · exact ⟨by decide, by decide⟩
theorem month_e {n : Nat} {σ μ : St} (h : Rel n σ μ) : c_month σ = m_month μ ∧ nx (c_month σ) < 12 := by
  obtain ⟨t1, t2, t3⟩ := today h
  refine ⟨?_, vp_lt (month_in h.2.2.1.2.2.2.2.2)⟩
  unfold c_month m_month; rw [t3]
theorem kind_3 {x : Int32} (h : vp_in x 3) : x = 0 ∨ x = 1 ∨ x = 2 := by
  obtain ⟨j, hj, e⟩ := vp_in_of h (by decide)
  have : j = 0 ∨ j = 1 ∨ j = 2 := by omega
  rcases this with q | q | q
  · left; rw [e, q]; rfl
  · right; left; rw [e, q]; rfl
  · right; right; rw [e, q]; rfl
theorem fore_eq {n : Nat} {σ μ : St} (h : Rel n σ μ) (hn : n ≤ 512) {p : Int32} (hp : vp_in p 16) : c_forecastOf σ (nx p) = m_foresees μ p := by
  obtain ⟨k1, k2, k3, k4, k5⟩ := zone_eq h hp
  obtain ⟨o1, o2⟩ := month_e h
  obtain ⟨e1, e2, b1, b2, b3, b4⟩ := h.2.2.1.2.2.1 _ o2
  obtain ⟨q1, q2, q3⟩ := past_eq h hn hp
  have od := od_eq h (m := 28) (by decide)
  have ob := od_bd h (m := 28) (by decide)
  have fe := fade_eq h hp
  obtain ⟨f1, f2⟩ := fade_bd h hn (vp_lt hp)
  unfold c_forecastOf m_foresees
  rw [k1, k2, ← o1, ← e1, ← e2, q1, od, fe]
  have az := mul_bd (x := (m_aheadOf μ p).toInt) (y := (σ 31 (nx (c_month σ))).toInt) (X := 30) (Y := 1000) (by omega) k5 b1 b2
  have am := l_mul (x := (m_aheadOf μ p).toInt64) (y := (σ 31 (nx (c_month σ))).toInt64) (by rw [i_l, i_l]; omega) (by rw [i_l, i_l]; omega)
  rw [i_l, i_l] at am
  rw [Int64.mul_assoc, Int64.mul_assoc]
  generalize m_aheadOf μ p = ah at *
  generalize σ 31 (nx (c_month σ)) = us at *
  generalize σ 32 (nx (c_month σ)) = ds at *
  generalize hoz : c_openDays σ 28 = oz at *
  rcases kind_3 k3 with q | q | q
  · rw [q, if_neg (by decide), if_neg (by decide), if_pos rfl]
  · rw [q, if_pos rfl, if_neg (by decide), if_pos rfl]
    by_cases z : oz = 0
    · have dz : oz.toInt64 * ds.toInt64 = 0 := by rw [z]; show (0 : Int32).toInt64 * ds.toInt64 = 0; rw [show (0 : Int32).toInt64 = 0 by decide, Int64.zero_mul]
      rw [if_pos z, dz]
      unfold c_divideUp
      rw [if_neg (by rw [cmp_gt, zl_0]; decide)]
    · rw [if_neg z]
      rw [i_eq, z_0] at z
      have dz := mul_bd (x := oz.toInt) (y := ds.toInt) (X := 400) (Y := 1000) (by omega) (by omega) (by omega) b4
      have dp := Int.mul_pos (a := oz.toInt) (b := ds.toInt) (by omega) (by omega)
      have dm := l_mul (x := oz.toInt64) (y := ds.toInt64) (by rw [i_l, i_l]; omega) (by rw [i_l, i_l]; omega)
      rw [i_l, i_l] at dm
      have pz := mul_bd (x := (c_usedPast σ (nx p)).toInt) (y := ah.toInt * us.toInt) (X := 51200000) (Y := 30 * 1000) q2 q3 az.1 az.2
      have pm := l_mul (x := c_usedPast σ (nx p)) (y := ah.toInt64 * us.toInt64) (by rw [am]; omega) (by rw [am]; omega)
      rw [am] at pm
      exact div_eq (by omega) (by omega) (by omega) (by omega)
  · rw [q, if_neg (by decide), if_pos rfl, if_neg (by decide)]
    have zk : (1000 : Int64).toInt = 1000 := by decide
    have dm := l_mul (x := 1000) (y := ds.toInt64) (by rw [zk, i_l]; omega) (by rw [zk, i_l]; omega)
    rw [zk, i_l] at dm
    by_cases z : oz = 0
    · rw [if_pos z]
      have f0 : c_fade σ (nx p) = 0 := fade_0 h (hoz.trans z)
      rw [f0, Int64.zero_mul]
      have ee := div_eq (A := 0) (B := 1000 * ds.toInt64) (by decide) (by decide) (by omega) (by omega)
      rw [ee]
      unfold m_over
      have dd := l_div (x := 0) (y := 1000 * ds.toInt64) (by decide) (by omega)
      rw [zl_0, Int.zero_ediv] at dd
      have d0 : 0 / (1000 * ds.toInt64) = 0 := l_eq.mpr (by rw [dd, zl_0])
      rw [d0, Int64.zero_mul]
      decide
    · rw [if_neg z, if_neg (by decide)]
      have pz := mul_bd (x := (c_fade σ (nx p)).toInt) (y := ah.toInt * us.toInt) (X := 51200000000) (Y := 30 * 1000) f1 f2 az.1 az.2
      have pm := l_mul (x := c_fade σ (nx p)) (y := ah.toInt64 * us.toInt64) (by rw [am]; omega) (by rw [am]; omega)
      rw [am] at pm
      exact div_eq (by omega) (by omega) (by omega) (by omega)
theorem wave_eq {n : Nat} {σ μ : St} (h : Rel n σ μ) {p : Int32} (hp : vp_in p 16) : c_neededOf σ (nI (nx p)) (σ 40 0) (σ 40 0 + c_aheadOn σ (nx (σ 1 (nx p))) (σ 40 0)) = m_waveN μ p := by
  obtain ⟨t1, t2, t3⟩ := today h
  obtain ⟨k1, k2, k3, k4, k5⟩ := zone_eq h hp
  obtain ⟨w1, w2, w3⟩ := h.2.2.2.1
  unfold c_neededOf m_waveN
  rw [← w1]
  refine foldN_congr (hi := 30) (fun k s hk => ?_) _ _ _ (by omega)
  obtain ⟨x1, x2, x3⟩ := w3 k hk
  unfold c_needF m_wantF m_wantB m_in
  rw [nxnI (by omega), nI_nx_in hp, t3, k2, ← x1, ← x2, ← x3]
  have a0 : s + 0 = s := Int64.add_zero s
  have n10 : ¬ (1 : Int32) = 0 := by decide
  by_cases q1 : σ 34 k = p
  · rw [if_pos q1]
    by_cases q2 : σ 36 k < σ 40 0
    · simp only [if_pos q1, if_pos q2, if_true, a0]
    · by_cases q3 : σ 40 0 + m_aheadOf μ p < σ 36 k
      · simp only [if_pos q1, if_neg q2, if_pos q3, if_true, a0]
      · simp only [if_pos q1, if_neg q2, if_neg q3, if_neg n10]
  · simp only [if_neg q1, if_true, a0]
theorem need_eq {n : Nat} {σ μ : St} (h : Rel n σ μ) (hn : n ≤ 512) {p : Int32} (hp : vp_in p 16) : c_needOf σ (nx p) = m_wants μ p ∧ (σ 6 (nx p)).toInt ≤ (m_wants μ p).toInt := by
  have hR := h.1 _ (vp_lt hp)
  unfold c_needOf m_wants m_best
  rw [fore_eq h hn hp, wave_eq h hp, ← hR.1.2.2.2.2.2.1]
  generalize m_foresees μ p = a
  generalize m_waveN μ p = b
  have ec := i_l (σ 6 (nx p))
  generalize (σ 6 (nx p)).toInt64 = c at *
  unfold c_maxL
  by_cases q1 : a < c
  · rw [if_pos q1]
    have q1' := l_lt.mp q1
    by_cases q2 : b < c
    · have q2' := l_lt.mp q2
      rw [if_pos q2]
      by_cases q3 : lg_cmp a b ≤ 0
      · rw [if_pos q3, if_pos (cmp_le.mpr (by omega))]; exact ⟨rfl, by omega⟩
      · rw [if_neg q3, if_pos (cmp_le.mpr (by omega))]; exact ⟨rfl, by omega⟩
    · have q2' : ¬ b.toInt < c.toInt := fun z => q2 (l_lt.mpr z)
      rw [if_neg q2, if_pos (show lg_cmp a b ≤ 0 from cmp_le.mpr (by omega))]
      by_cases q3 : lg_cmp b c ≤ 0
      · have q3' := cmp_le.mp q3
        rw [if_pos q3]
        exact ⟨l_eq.mpr (by omega), by omega⟩
      · rw [if_neg q3]; exact ⟨rfl, by omega⟩
  · have q1' : ¬ a.toInt < c.toInt := fun z => q1 (l_lt.mpr z)
    rw [if_neg q1]
    by_cases q2 : b < a
    · have q2' := l_lt.mp q2
      rw [if_pos q2, if_neg (show ¬ lg_cmp a b ≤ 0 from fun z => by rw [cmp_le] at z; omega)]
      by_cases q3 : lg_cmp a c ≤ 0
      · have q3' := cmp_le.mp q3
        rw [if_pos q3]
        exact ⟨l_eq.mpr (by omega), by omega⟩
      · rw [if_neg q3]; exact ⟨rfl, by omega⟩
    · have q2' : ¬ b.toInt < a.toInt := fun z => q2 (l_lt.mpr z)
      rw [if_neg q2, if_pos (show lg_cmp a b ≤ 0 from cmp_le.mpr (by omega))]
      by_cases q3 : lg_cmp b c ≤ 0
      · have q3' := cmp_le.mp q3
        rw [if_pos q3]
        exact ⟨l_eq.mpr (by omega), by omega⟩
      · rw [if_neg q3]; exact ⟨rfl, by omega⟩
theorem limit_eq {n : Nat} {σ μ : St} (h : Rel n σ μ) (hn : n ≤ 512) {p : Int32} (hp : vp_in p 16) : c_thresholdOf σ (nx p) = m_limit μ p ∧ 0 ≤ (m_limit μ p).toInt ∧ (m_limit μ p).toInt ≤ (σ 0 (nx p)).toInt := by
  have hR := h.1 _ (vp_lt hp)
  obtain ⟨e, le⟩ := need_eq h hn hp
  have b := hR.2.2.1
  have b6 := hR.2.2.2.2.1.1
  unfold c_thresholdOf m_limit
  rw [e, ← hR.1.1]
  generalize m_wants μ p = w at *
  unfold c_minL
  have ec := i_l (σ 0 (nx p))
  by_cases q : (σ 0 (nx p)).toInt64 < w
  · have q' := l_lt.mp q
    rw [if_pos q, if_neg (fun z => by rw [cmp_le] at z; omega)]
    exact ⟨i_eq.mpr (by rw [l_i (by omega) (by omega), ec]), by omega, by omega⟩
  · have q' : ¬ (σ 0 (nx p)).toInt64.toInt < w.toInt := fun z => q (l_lt.mpr z)
    rw [if_neg q, if_pos (cmp_le.mpr (by omega))]
    refine ⟨rfl, ?_⟩
    rw [l_i (by omega) (by omega)]; omega
theorem time_eq {n : Nat} {σ μ : St} (h : Rel n σ μ) (hn : n ≤ 512) {p : Int32} (hp : vp_in p 16) : c_needTimeOf σ (nx p) = m_needTime μ p := by
  have hR := h.1 _ (vp_lt hp)
  obtain ⟨q1, q2, q3⟩ := past_eq h hn hp
  have od := od_eq h (m := 28) (by decide)
  unfold c_needTimeOf m_needTime
  rw [q1, od, ← hR.1.2.2.1]
  have a : lg_cmp (c_usedPast σ (nx p)) 0 = 0 ↔ m_sum μ p 28 1 = 0 := by
    rw [cmp_0, ← q1, l_eq, i_l, zl_0, i_eq, z_0]
  by_cases z : m_sum μ p 28 1 = 0
  · rw [if_pos z, if_pos (a.mpr z)]
  · rw [if_neg z, if_neg (fun y => z (a.mp y))]
theorem miss_eq {n : Nat} {σ μ : St} (h : Rel n σ μ) (hn : n ≤ 512) {p : Int32} (hp : vp_in p 16) (hf : ¬ c_isFace σ (nx p) = 0) : c_wantedBy σ (nx p) (c_thresholdOf σ (nx p)) = m_missing μ p := by
  have hR := h.1 _ (vp_lt hp)
  obtain ⟨e, l0, l1⟩ := limit_eq h hn hp
  rcases isFace_iff hR with x | ⟨_, f6, f5, f7⟩
  · exact absurd x.1 hf
  have hg : vp_in (σ 5 (nx p)) 8 := by
    rcases hR.2.1 with y | y
    · exact absurd y.1 f5
    · exact y.1
  obtain ⟨c1, c2, c3⟩ := h.2.2.1.1 _ (vp_lt hg)
  obtain ⟨⟨e0, _, e2, _, _, _, e7⟩, _, b, _, d, _⟩ := hR
  unfold c_wantedBy m_missing m_more m_mn m_tgt2 m_tgt1 m_case
  rw [e, f6, ← f7, ← e0, ← e2, ← e7, ← c1, if_neg (show ¬ (1 : Int32) = 0 by decide)]
  generalize m_limit μ p = L at *
  unfold c_space
  generalize σ 30 (nx (σ 5 (nx p))) = o at *
  generalize σ 2 (nx p) = P at *
  generalize σ 0 (nx p) = R at *
  generalize σ 7 (nx p) = M at *
  have tg : (if (if M ≤ L then L else M) ≤ R then (if M ≤ L then L else M) else R) = c_maxI M L ∧ (c_maxI M L).toInt ≤ R.toInt ∧ L.toInt ≤ (c_maxI M L).toInt := by
    unfold c_maxI
    by_cases q : M < L
    · have q' := i_lt.mp q
      rw [if_pos q, if_pos (show M ≤ L from i_le.mpr (by omega)), if_pos (i_le.mpr (by omega))]; exact ⟨rfl, by omega, by omega⟩
    · have q' : ¬ M.toInt < L.toInt := fun z => q (i_lt.mpr z)
      rw [if_neg q]
      by_cases q2 : M ≤ L
      · have q2' := i_le.mp q2
        rw [if_pos q2, if_pos (i_le.mpr (by omega))]; exact ⟨i_eq.mpr (by omega), by omega, by omega⟩
      · rw [if_neg q2, if_pos (i_le.mpr (by omega))]; exact ⟨rfl, by omega, by omega⟩
  rw [tg.1]
  obtain ⟨_, t1, t2⟩ := tg
  generalize c_maxI M L = X at *
  by_cases q : P < L
  · have q' := i_lt.mp q
    rw [if_pos q, if_pos q]
    have ms := i_sub (x := X) (y := P) (by omega) (by omega)
    have sp := i_sub (x := R) (y := P) (by omega) (by omega)
    generalize X - P = m at *
    generalize hS : R - P = S at *
    unfold c_inFullCases
    have dd := i_div (x := m) (y := o) (by omega) (by omega)
    have n0 := Int.ediv_nonneg (a := m.toInt) (b := o.toInt) (by omega) (by omega)
    have n1 : m.toInt / o.toInt ≤ m.toInt := Int.ediv_le_self _ (by omega)
    have n2 := Int.ediv_mul_le m.toInt (b := o.toInt) (by omega)
    have n3 := Int.mul_nonneg n0 (show 0 ≤ o.toInt by omega)
    have n4 := Int.lt_ediv_add_one_mul_self m.toInt (b := o.toInt) (by omega)
    rw [Int.add_mul, Int.one_mul] at n4
    have mm := i_mul (x := m / o) (y := o) (by rw [dd]; omega) (by rw [dd]; omega)
    rw [dd] at mm
    have rr := i_sub (x := m) (y := m / o * o) (by rw [mm]; omega) (by rw [mm]; omega)
    have ds := i_add (x := m / o) (y := 1) (by rw [dd, z_1]; omega) (by rw [dd, z_1]; omega)
    rw [dd, z_1] at ds
    have mu := i_mul (x := m / o + 1) (y := o) (by rw [ds, Int.add_mul]; omega) (by rw [ds, Int.add_mul]; omega)
    rw [ds, Int.add_mul, Int.one_mul] at mu
    rw [mm] at rr
    have hq : ∀ z : Int, z = m.toInt / o.toInt * o.toInt → True := fun _ _ => trivial
    generalize m.toInt / o.toInt * o.toInt = Q at *
    by_cases z1 : 1 < o
    · rw [if_pos z1]
      by_cases z2 : m - m / o * o = 0
      · have z2' := i_eq.mp z2
        rw [rr, z_0] at z2'
        rw [if_pos z2, if_pos (show m - m / o * o ≤ 0 by rw [i_le, rr, z_0]; omega), if_pos rfl]
        exact i_eq.mpr (by rw [mm]; omega)
      · have z2' : ¬ m.toInt - Q = 0 := fun y => z2 (i_eq.mpr (by rw [rr, z_0]; exact y))
        rw [if_neg z2, if_neg (show ¬ m - m / o * o ≤ 0 by rw [i_le, rr, z_0]; omega)]
        have r2 := i_sub (x := m) (y := m - m / o * o) (by rw [rr]; omega) (by rw [rr]; omega)
        rw [rr] at r2
        have r3 := i_add (x := m - (m - m / o * o)) (y := o) (by rw [r2]; omega) (by rw [r2]; omega)
        rw [r2] at r3
        have r4 := i_add (x := P) (y := (m / o + 1) * o) (by rw [mu]; omega) (by rw [mu]; omega)
        rw [mu] at r4
        by_cases z3 : S < m - (m - m / o * o) + o
        · have z3' := i_lt.mp z3
          rw [r3] at z3'
          rw [if_pos z3, if_pos (show R < P + (m / o + 1) * o by rw [i_lt, r4]; omega), if_pos rfl]
          exact i_eq.mpr (by rw [r2, mm]; omega)
        · have z3' : ¬ S.toInt < m.toInt - (m.toInt - Q) + o.toInt := fun y => z3 (i_lt.mpr (by rw [r3]; exact y))
          rw [if_neg z3, if_neg (show ¬ R < P + (m / o + 1) * o by rw [i_lt, r4]; omega), if_neg (by decide)]
          exact i_eq.mpr (by rw [r3, mu]; omega)
    · have z1' : o.toInt = 1 := by rw [i_lt, z_1] at z1; omega
      have o1 : o = 1 := i_eq.mpr (by rw [z1', z_1])
      rw [if_neg z1, if_pos (show m - m / o * o ≤ 0 by rw [i_le, rr, z_0]; omega), if_pos rfl]
      exact i_eq.mpr (by rw [mm]; omega)
  · rw [if_neg q, if_neg q]
