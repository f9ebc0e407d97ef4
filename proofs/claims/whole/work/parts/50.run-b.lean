/-! run, class and reference side by side (2): one move is planned -/
/-- the trips so far -/
def TR (σ μ : St) : Prop := (nx (μ 23 0) = 0 → σ 43 0 = -1 ∧ σ 44 0 = -1) ∧ ∀ c, nx (μ 23 0) = c + 1 → σ 43 0 = μ 28 c ∧ σ 44 0 = μ 2 (nx (μ 24 c)) ∧ σ 45 0 = foldN (m_sizeF μ (μ 28 c)) (c + 1) 0 0 ∧ (0 ≤ (μ 28 c).toInt ∧ (μ 28 c).toInt ≤ c) ∧ ∀ j, j < c + 1 → (μ 28 j).toInt ≤ (μ 28 c).toInt
/-- the plan so far -/
def RK (n : Nat) (σ μ : St) : Prop := Rel n σ μ ∧ μ 0 0 = 0 ∧ (∀ j, j < 16 → σ 8 j = μ 31 j ∧ 0 ≤ (σ 8 j).toInt ∧ (σ 8 j).toInt ≤ (σ 2 j).toInt - (σ 3 j).toInt) ∧ TR σ μ
theorem add_eq {σ : St} {a b : Nat} {n : Int32} (h : σ 42 0 < 30) : c_add σ a b n = up (up (up (up (up (up (up (up (c_join σ (σ 1 a)) 50 (nx (σ 42 0)) (nI a)) 51 (nx (σ 42 0)) (nI b)) 52 (nx (σ 42 0)) n) 53 (nx (σ 42 0)) (σ 10 b)) 54 (nx (σ 42 0)) (c_join σ (σ 1 a) 43 0)) 55 (nx (σ 42 0)) (if c_free σ a = 0 then 1 else 0)) 56 (nx (σ 42 0)) 0) 42 0 (σ 42 0 + 1) := by
  have e42 : c_join σ (σ 1 a) 42 0 = σ 42 0 := join_42
  have e10 : c_join σ (σ 1 a) 10 = σ 10 := join_row (by decide)
  have e2 : c_join σ (σ 1 a) 2 = σ 2 := join_row (by decide)
  have e3 : c_join σ (σ 1 a) 3 = σ 3 := join_row (by decide)
  have e8 : c_join σ (σ 1 a) 8 = σ 8 := join_row (by decide)
  unfold c_add
  rw [if_pos h]
  generalize hJ : c_join σ (σ 1 a) = J at *
  show up (up (up (up (up (up (up (up J 50 (nx (J 42 0)) (nI a)) 51 (nx (J 42 0)) (nI b)) 52 (nx (J 42 0)) n) 53 (nx (J 42 0)) (J 10 b)) 54 (nx (J 42 0)) (J 43 0)) 55 (nx (J 42 0)) (if c_free J a = 0 then 1 else 0)) 56 (nx (J 42 0)) 0) 42 0 (J 42 0 + 1) = _
  have ef : c_free J a = c_free σ a := by unfold c_free c_notHeld; rw [e2, e3, e8]
  rw [e42, e10, ef]
theorem plan_eq {μ : St} {p f n : Int32} (h : ¬ μ 23 0 < 0) (hc : nx (μ 23 0) ≤ 30) : m_plan μ p f n = up (up (up (up (up (up (up (up (up μ 31 (nx p) (μ 31 (nx p) + n)) 24 (nx (μ 23 0)) p) 25 (nx (μ 23 0)) f) 26 (nx (μ 23 0)) n) 27 (nx (μ 23 0)) (m_needTime μ f)) 29 (nx (μ 23 0)) (if m_free μ p - (μ 31 (nx p) + n) = 0 then 1 else 0)) 30 (nx (μ 23 0)) 0) 28 (nx (μ 23 0)) (if m_joins μ p = 0 then m_trip μ + 1 else m_trip μ)) 23 0 (μ 23 0 + 1) := by
  have en : m_needTime (m_p4 μ p f n) f = m_needTime μ f := (miss_st (fun r r0 hr => by
    unfold m_p4
    rw [up_row (by omega), up_row (by omega), up_row (by omega), up_row (by omega)]) f).2
  have el : m_left (up (m_p4 μ p f n) 27 (nx (μ 23 0)) (m_needTime (m_p4 μ p f n) f)) p = m_free μ p - (μ 31 (nx p) + n) := by
    show m_free μ p - up μ 31 (nx p) (μ 31 (nx p) + n) 31 (nx p) = _
    rw [up_eq]
  have et : m_trip (m_p7 μ p f n) = m_trip μ := rfl
  have ej : m_joins (m_p7 μ p f n) p = m_joins μ p := by
    by_cases z : μ 23 0 = 0
    · have a1 : m_joins (m_p7 μ p f n) p = 1 := if_pos z
      have a2 : m_joins μ p = 1 := if_pos z
      rw [a1, a2]
    · have hne : nx (μ 23 0 - 1) ≠ nx (μ 23 0) := by
        have e := nx_toInt h
        rw [i_eq, z_0] at z
        have s := i_sub (x := μ 23 0) (y := 1) (by rw [z_1]; omega) (by rw [z_1]; omega)
        rw [z_1] at s
        have e2 := nx_I (x := μ 23 0 - 1) (by omega)
        omega
      have e24 : m_p7 μ p f n 24 (nx (μ 23 0 - 1)) = μ 24 (nx (μ 23 0 - 1)) := by
        show up μ 24 (nx (μ 23 0)) p 24 (nx (μ 23 0 - 1)) = _
        exact up_ix hne
      have a1 : m_joins (m_p7 μ p f n) p = if μ 2 (nx (m_p7 μ p f n 24 (nx (μ 23 0 - 1)))) = μ 2 (nx p) then (if 3 ≤ m_size μ then 0 else 1) else 0 := if_neg z
      have a2 : m_joins μ p = if μ 2 (nx (μ 24 (nx (μ 23 0 - 1)))) = μ 2 (nx p) then (if 3 ≤ m_size μ then 0 else 1) else 0 := if_neg z
      rw [a1, a2, e24]
  unfold m_plan m_p8
  rw [ej, et]
  have e7 : m_p7 μ p f n = up (up (up (up (up (up (up μ 31 (nx p) (μ 31 (nx p) + n)) 24 (nx (μ 23 0)) p) 25 (nx (μ 23 0)) f) 26 (nx (μ 23 0)) n) 27 (nx (μ 23 0)) (m_needTime μ f)) 29 (nx (μ 23 0)) (if m_free μ p - (μ 31 (nx p) + n) = 0 then 1 else 0)) 30 (nx (μ 23 0)) 0 := by
    rw [← el, en]; rfl
  rw [e7]
  by_cases q : m_joins μ p = 0
  · simp only [if_pos q]; rfl
  · simp only [if_neg q]; rfl
theorem size_congr {μ ν : St} {t : Int32} {c : Nat} (hc : c ≤ 30) (h : ∀ j, j < c → ν 28 j = μ 28 j) : foldN (m_sizeF ν t) c 0 0 = foldN (m_sizeF μ t) c 0 0 := by
  refine foldN_congr (hi := c) (fun k s hk => ?_) _ _ _ (by omega)
  unfold m_sizeF; rw [nxnI (by omega), h k hk]
theorem size_0 {μ : St} {t : Int32} {c : Nat} (hc : c ≤ 30) (h : ∀ j, j < c → ¬ μ 28 j = t) : foldN (m_sizeF μ t) c 0 0 = 0 := by
  refine fold_id (lo := 0) (hi := c) (fun k s _ hk => ?_) _ _ _ (by omega) (by omega)
  unfold m_sizeF; rw [nxnI (by omega), if_neg (h k hk), Int32.add_zero]
/-- one move more -/
theorem step_plan {n : Nat} {σ μ : St} (H : RK n σ μ) {a b : Nat} (ha : a < 16) (hb : b < 16) (hf : ¬ σ 5 b = -1) (ht : σ 10 b = m_needTime μ (nI b)) (hc : σ 42 0 < 30) {m w : Int32} (hm : 1 ≤ m.toInt) (hm2 : m.toInt ≤ (c_free σ a).toInt) : RK n (c_add (up (up σ 8 a (σ 8 a + m)) 9 b w) a b m) (m_plan μ (nI a) (nI b) m) := by
  obtain ⟨hR, h0, h8, hT⟩ := H
  obtain ⟨m1, m2, m3, m4⟩ := hR.2.2.2.2
  have Ra := hR.1 a ha
  have Rb := hR.1 b hb
  have hna : nx (nI a) = a := nxnI (by omega)
  have hnb : nx (nI b) = b := nxnI (by omega)
  have hc2 : nx (σ 42 0) < 30 := by
    have e := nx_toInt m2.1
    rw [i_lt, show (30 : Int32).toInt = 30 by decide] at hc; omega
  have cu := cnt_up m2.1 hc
  have cu2 : nx (σ 42 0 + 1) = nx (σ 42 0) + 1 := by
    have e := nx_toInt m2.1
    have s := i_add (x := σ 42 0) (y := 1) (by rw [z_1]; omega) (by rw [z_1]; omega)
    rw [z_1] at s
    have e2 := nx_I (x := σ 42 0 + 1) (by omega)
    omega
  have hfree : (c_free σ a).toInt = (σ 2 a).toInt - (σ 3 a).toInt - (σ 8 a).toInt := by
    have b1 := Ra.2.2.1
    have b2 := Ra.2.2.2.1
    have b3 := h8 a ha
    have s1 := i_sub (x := σ 2 a) (y := σ 3 a) (by omega) (by omega)
    have s2 := i_sub (x := σ 2 a - σ 3 a) (y := σ 8 a) (by rw [s1]; omega) (by rw [s1]; omega)
    rw [s1] at s2
    exact s2
  have h8a := h8 a ha
  have b1 := Ra.2.2.1
  have b2 := Ra.2.2.2.1
  have s8 := i_add (x := σ 8 a) (y := m) (by omega) (by omega)
  rw [plan_eq (by rw [← m1]; exact m2.1) (by rw [← m1]; exact m2.2), ← m1, hna]
  have e42 : up (up σ 8 a (σ 8 a + m)) 9 b w 42 0 = σ 42 0 := rfl
  rw [add_eq (by rw [e42]; exact hc), e42]
  have e1 : up (up σ 8 a (σ 8 a + m)) 9 b w 1 a = σ 1 a := rfl
  have e10 : up (up σ 8 a (σ 8 a + m)) 9 b w 10 b = σ 10 b := rfl
  have efr : c_free (up (up σ 8 a (σ 8 a + m)) 9 b w) a = σ 2 a - σ 3 a - (σ 8 a + m) := by
    show σ 2 a - σ 3 a - up σ 8 a (σ 8 a + m) 8 a = _
    rw [up_eq]
  have emf : m_free μ (nI a) = σ 2 a - σ 3 a := by
    unfold m_free; rw [hna, ← Ra.1.2.2.1, ← Ra.1.2.2.2.1]
  rw [e1, e10, efr, emf, ht, ← h8a.1]
  generalize hS : up (up σ 8 a (σ 8 a + m)) 9 b w = S
  have Sr : ∀ r, r ≠ 8 → r ≠ 9 → S r = σ r := fun r c1 c2 => by rw [← hS, up_row c2, up_row c1]
  have S8 : ∀ j, S 8 j = if j = a then σ 8 a + m else σ 8 j := fun j => by
    rw [← hS, up_row (by decide)]; simp [up]
  generalize hJ : c_join S (σ 1 a) = J
  have Jr : ∀ r, r ≠ 43 ∧ r ≠ 44 ∧ r ≠ 45 → J r = S r := fun r c => by rw [← hJ]; exact join_row c
  generalize hc' : nx (σ 42 0) = c at *
  generalize hE : (if σ 2 a - σ 3 a - (σ 8 a + m) = 0 then (1 : Int32) else 0) = E
  -- the trips
  have hc19 : nx (μ 23 0) = c := by rw [← m1]; exact hc'
  have hz := Ra.1.2.1
  have key : J 43 0 = (if m_joins μ (nI a) = 0 then m_trip μ + 1 else m_trip μ) ∧ J 44 0 = σ 1 a ∧ (∀ ν : St, (∀ j, j < c → ν 28 j = μ 28 j) → ν 28 c = J 43 0 → J 45 0 = foldN (m_sizeF ν (J 43 0)) (c + 1) 0 0) ∧ (0 ≤ (J 43 0).toInt ∧ (J 43 0).toInt ≤ c) ∧ ∀ j, j < c → (μ 28 j).toInt ≤ (J 43 0).toInt := by
    have s43 : S 43 = σ 43 := Sr 43 (by decide) (by decide)
    have s44 : S 44 = σ 44 := Sr 44 (by decide) (by decide)
    have s45 : S 45 = σ 45 := Sr 45 (by decide) (by decide)
    have ja : ∀ z, c_joinB (c_joinA S z) 43 0 = σ 43 0 + 1 ∧ c_joinB (c_joinA S z) 44 0 = z ∧ c_joinB (c_joinA S z) 45 0 = 0 + 1 := fun z => by
      refine ⟨?_, ?_, ?_⟩
      · show S 43 0 + 1 = _; rw [s43]
      · rfl
      · show up (c_joinA S z) 45 0 (c_joinA S z 45 0 + 1) 45 0 = _; rw [up_eq]; rfl
    have jb : c_joinB S 43 0 = σ 43 0 ∧ c_joinB S 44 0 = σ 44 0 ∧ c_joinB S 45 0 = σ 45 0 + 1 := by
      refine ⟨?_, ?_, ?_⟩
      · show S 43 0 = _; rw [s43]
      · show S 44 0 = _; rw [s44]
      · show up S 45 0 (S 45 0 + 1) 45 0 = _; rw [up_eq, s45]
    by_cases z : c = 0
    · obtain ⟨t1, t2⟩ := hT.1 (by omega)
      have z23 : μ 23 0 = 0 := by
        rw [← m1]
        have e := nx_toInt m2.1
        rw [i_eq, z_0]; omega
      have q1 : ¬ S 44 0 = σ 1 a := by
        rw [s44, t2]; intro q
        have v := (in_I Ra.2.2.2.2.2.1.1).1
        rw [← q, z_m] at v; omega
      have eJ : J = c_joinB (c_joinA S (σ 1 a)) := by rw [← hJ]; unfold c_join; rw [if_neg q1]
      obtain ⟨j1, j2, j3⟩ := ja (σ 1 a)
      rw [eJ, j1, j2, j3, t1]
      have mj : m_joins μ (nI a) = 1 := if_pos z23
      have mt : m_trip μ = 0 := if_pos z23
      rw [mj, mt, if_neg (by decide)]
      refine ⟨by decide, rfl, fun ν v1 v2 => ?_, ⟨by decide, by rw [z]; decide⟩, fun j hj => by omega⟩
      rw [z, foldN_snoc]
      unfold m_sizeF
      rw [nxnI (by omega), show (0 : Nat) + 0 = c by omega, v2, if_pos (by decide)]; rfl
    · obtain ⟨d, hd⟩ : ∃ d, c = d + 1 := ⟨c - 1, by omega⟩
      obtain ⟨t1, t2, t3, t4, t5⟩ := hT.2 d (by omega)
      have z23 : ¬ μ 23 0 = 0 := by
        rw [← m1]
        intro q
        rw [q] at hc'
        have : nx (0 : Int32) = 0 := by decide
        omega
      have i1 : nx (μ 23 0 - 1) = d := by
        rw [← m1]
        have e := nx_toInt m2.1
        have s := i_sub (x := σ 42 0) (y := 1) (by rw [z_1]; omega) (by rw [z_1]; omega)
        rw [z_1] at s
        have e2 := nx_I (x := σ 42 0 - 1) (by omega)
        omega
      have mt : m_trip μ = μ 28 d := by unfold m_trip; rw [if_neg z23, i1]
      have ms : m_size μ = σ 45 0 := by unfold m_size; rw [mt, t3, hc19, hd]
      have mj : m_joins μ (nI a) = if σ 44 0 = σ 1 a then (if 3 ≤ σ 45 0 then 0 else 1) else 0 := by
        unfold m_joins; rw [if_neg z23, i1, hna, ← hz, ms, t2]
      have b3 : (3 : Int32).toInt = 3 := by decide
      by_cases q1 : σ 44 0 = σ 1 a
      · by_cases q2 : σ 45 0 < 3
        · have q3 : ¬ 3 ≤ σ 45 0 := by rw [i_le]; rw [i_lt] at q2; omega
          have eJ : J = c_joinB S := by rw [← hJ]; unfold c_join; rw [s44, s45, if_pos q1, if_pos q2]
          obtain ⟨j1, j2, j3⟩ := jb
          rw [eJ, j1, j2, j3, mj, if_pos q1, if_neg q3, if_neg (by decide), mt, t1]
          refine ⟨rfl, q1, fun ν v1 v2 => ?_, ⟨t4.1, by omega⟩, fun j hj => t5 j (by omega)⟩
          rw [foldN_snoc, size_congr (μ := μ) (by omega) v1, hd, ← t3]
          unfold m_sizeF
          rw [nxnI (by omega), show 0 + (d + 1) = c by omega, v2, if_pos rfl]
        · have q3 : 3 ≤ σ 45 0 := by rw [i_le]; rw [i_lt] at q2; omega
          have eJ : J = c_joinB (c_joinA S (σ 1 a)) := by rw [← hJ]; unfold c_join; rw [s44, s45, if_pos q1, if_neg q2]
          obtain ⟨j1, j2, j3⟩ := ja (σ 1 a)
          have ad := i_add (x := μ 28 d) (y := 1) (by rw [z_1]; omega) (by rw [z_1]; omega)
          rw [z_1] at ad
          rw [eJ, j1, j2, j3, mj, if_pos q1, if_pos q3, if_pos rfl, mt, t1]
          refine ⟨rfl, rfl, fun ν v1 v2 => ?_, ⟨by omega, by omega⟩, fun j hj => by have := t5 j (by omega); omega⟩
          rw [foldN_snoc, size_0 (by omega) (fun j hj q => by rw [v1 j hj] at q; have := t5 j (by omega); rw [i_eq, ad] at q; omega)]
          unfold m_sizeF
          rw [nxnI (by omega), Nat.zero_add, v2, if_pos rfl]
      · have eJ : J = c_joinB (c_joinA S (σ 1 a)) := by rw [← hJ]; unfold c_join; rw [s44, if_neg q1]
        obtain ⟨j1, j2, j3⟩ := ja (σ 1 a)
        have ad := i_add (x := μ 28 d) (y := 1) (by rw [z_1]; omega) (by rw [z_1]; omega)
        rw [z_1] at ad
        rw [eJ, j1, j2, j3, mj, if_neg q1, if_pos rfl, mt, t1]
        refine ⟨rfl, rfl, fun ν v1 v2 => ?_, ⟨by omega, by omega⟩, fun j hj => by have := t5 j (by omega); omega⟩
        rw [foldN_snoc, size_0 (by omega) (fun j hj q => by rw [v1 j hj] at q; have := t5 j (by omega); rw [i_eq, ad] at q; omega)]
        unfold m_sizeF
        rw [nxnI (by omega), Nat.zero_add, v2, if_pos rfl]
  obtain ⟨k1, k2, k3, k4, k5⟩ := key
  rw [← k1]
  generalize hg43 : J 43 0 = g at *
  generalize hσ : up (up (up (up (up (up (up (up J 50 c (nI a)) 51 c (nI b)) 52 c m) 53 c (m_needTime μ (nI b))) 54 c g) 55 c E) 56 c 0) 42 0 (σ 42 0 + 1) = σ'
  generalize hμ : up (up (up (up (up (up (up (up (up μ 31 a (σ 8 a + m)) 24 c (nI a)) 25 c (nI b)) 26 c m) 27 c (m_needTime μ (nI b))) 29 c E) 30 c 0) 28 c g) 23 0 (σ 42 0 + 1) = μ'
  have es : ∀ r, (r < 42 ∨ 57 ≤ r) → σ' r = S r := fun r q => by
    rw [← hσ, up_row (by omega), up_row (by omega), up_row (by omega), up_row (by omega), up_row (by omega), up_row (by omega), up_row (by omega), up_row (by omega), Jr r (by omega)]
  have es2 : ∀ r, r ≠ 8 → r ≠ 9 → (r < 42 ∨ 57 ≤ r) → σ' r = σ r := fun r q1 q2 q => by rw [es r q, Sr r q1 q2]
  have em : ∀ r, (r < 23 ∨ r = 32) → μ' r = μ r := fun r q => by
    rw [← hμ, up_row (by omega), up_row (by omega), up_row (by omega), up_row (by omega), up_row (by omega), up_row (by omega), up_row (by omega), up_row (by omega), up_row (by omega)]
  have x42 : σ' 42 0 = σ 42 0 + 1 := by rw [← hσ, up_eq]
  have y23 : μ' 23 0 = σ 42 0 + 1 := by rw [← hμ, up_eq]
  have x50 : ∀ j, σ' 50 j = if j = c then nI a else σ 50 j := fun j => by
    rw [← hσ, up_row (by decide), up_row (by decide), up_row (by decide), up_row (by decide), up_row (by decide), up_row (by decide), up_row (by decide)]
    by_cases q : j = c
    · rw [if_pos q, q, up_eq]
    · rw [if_neg q, up_ix q, Jr 50 (by decide), Sr 50 (by decide) (by decide)]
  have x51 : ∀ j, σ' 51 j = if j = c then nI b else σ 51 j := fun j => by
    rw [← hσ, up_row (by decide), up_row (by decide), up_row (by decide), up_row (by decide), up_row (by decide), up_row (by decide)]
    by_cases q : j = c
    · rw [if_pos q, q, up_eq]
    · rw [if_neg q, up_ix q, up_row (by decide), Jr 51 (by decide), Sr 51 (by decide) (by decide)]
  have x52 : ∀ j, σ' 52 j = if j = c then m else σ 52 j := fun j => by
    rw [← hσ, up_row (by decide), up_row (by decide), up_row (by decide), up_row (by decide), up_row (by decide)]
    by_cases q : j = c
    · rw [if_pos q, q, up_eq]
    · rw [if_neg q, up_ix q, up_row (by decide), up_row (by decide), Jr 52 (by decide), Sr 52 (by decide) (by decide)]
  have x53 : ∀ j, σ' 53 j = if j = c then m_needTime μ (nI b) else σ 53 j := fun j => by
    rw [← hσ, up_row (by decide), up_row (by decide), up_row (by decide), up_row (by decide)]
    by_cases q : j = c
    · rw [if_pos q, q, up_eq]
    · rw [if_neg q, up_ix q, up_row (by decide), up_row (by decide), up_row (by decide), Jr 53 (by decide), Sr 53 (by decide) (by decide)]
  have x54 : ∀ j, σ' 54 j = if j = c then g else σ 54 j := fun j => by
    rw [← hσ, up_row (by decide), up_row (by decide), up_row (by decide)]
    by_cases q : j = c
    · rw [if_pos q, q, up_eq]
    · rw [if_neg q, up_ix q, up_row (by decide), up_row (by decide), up_row (by decide), up_row (by decide), Jr 54 (by decide), Sr 54 (by decide) (by decide)]
  have x55 : ∀ j, σ' 55 j = if j = c then E else σ 55 j := fun j => by
    rw [← hσ, up_row (by decide), up_row (by decide)]
    by_cases q : j = c
    · rw [if_pos q, q, up_eq]
    · rw [if_neg q, up_ix q, up_row (by decide), up_row (by decide), up_row (by decide), up_row (by decide), up_row (by decide), Jr 55 (by decide), Sr 55 (by decide) (by decide)]
  have x56 : ∀ j, σ' 56 j = if j = c then 0 else σ 56 j := fun j => by
    rw [← hσ, up_row (by decide)]
    by_cases q : j = c
    · rw [if_pos q, q, up_eq]
    · rw [if_neg q, up_ix q, up_row (by decide), up_row (by decide), up_row (by decide), up_row (by decide), up_row (by decide), up_row (by decide), Jr 56 (by decide), Sr 56 (by decide) (by decide)]
  have y31 : ∀ j, μ' 31 j = if j = a then σ 8 a + m else μ 31 j := fun j => by
    rw [← hμ, up_row (by decide), up_row (by decide), up_row (by decide), up_row (by decide), up_row (by decide), up_row (by decide), up_row (by decide), up_row (by decide)]
    by_cases q : j = a
    · rw [if_pos q, q, up_eq]
    · rw [if_neg q, up_ix q]
  have y24 : ∀ j, μ' 24 j = if j = c then nI a else μ 24 j := fun j => by
    rw [← hμ, up_row (by decide), up_row (by decide), up_row (by decide), up_row (by decide), up_row (by decide), up_row (by decide), up_row (by decide)]
    by_cases q : j = c
    · rw [if_pos q, q, up_eq]
    · rw [if_neg q, up_ix q, up_row (by decide)]
  have y25 : ∀ j, μ' 25 j = if j = c then nI b else μ 25 j := fun j => by
    rw [← hμ, up_row (by decide), up_row (by decide), up_row (by decide), up_row (by decide), up_row (by decide), up_row (by decide)]
    by_cases q : j = c
    · rw [if_pos q, q, up_eq]
    · rw [if_neg q, up_ix q, up_row (by decide), up_row (by decide)]
  have y26 : ∀ j, μ' 26 j = if j = c then m else μ 26 j := fun j => by
    rw [← hμ, up_row (by decide), up_row (by decide), up_row (by decide), up_row (by decide), up_row (by decide)]
    by_cases q : j = c
    · rw [if_pos q, q, up_eq]
    · rw [if_neg q, up_ix q, up_row (by decide), up_row (by decide), up_row (by decide)]
  have y27 : ∀ j, μ' 27 j = if j = c then m_needTime μ (nI b) else μ 27 j := fun j => by
    rw [← hμ, up_row (by decide), up_row (by decide), up_row (by decide), up_row (by decide)]
    by_cases q : j = c
    · rw [if_pos q, q, up_eq]
    · rw [if_neg q, up_ix q, up_row (by decide), up_row (by decide), up_row (by decide), up_row (by decide)]
  have y29 : ∀ j, μ' 29 j = if j = c then E else μ 29 j := fun j => by
    rw [← hμ, up_row (by decide), up_row (by decide), up_row (by decide)]
    by_cases q : j = c
    · rw [if_pos q, q, up_eq]
    · rw [if_neg q, up_ix q, up_row (by decide), up_row (by decide), up_row (by decide), up_row (by decide), up_row (by decide)]
  have y30 : ∀ j, μ' 30 j = if j = c then 0 else μ 30 j := fun j => by
    rw [← hμ, up_row (by decide), up_row (by decide)]
    by_cases q : j = c
    · rw [if_pos q, q, up_eq]
    · rw [if_neg q, up_ix q, up_row (by decide), up_row (by decide), up_row (by decide), up_row (by decide), up_row (by decide), up_row (by decide)]
  have y28 : ∀ j, μ' 28 j = if j = c then g else μ 28 j := fun j => by
    rw [← hμ, up_row (by decide)]
    by_cases q : j = c
    · rw [if_pos q, q, up_eq]
    · rw [if_neg q, up_ix q, up_row (by decide), up_row (by decide), up_row (by decide), up_row (by decide), up_row (by decide), up_row (by decide), up_row (by decide)]
  refine ⟨⟨fun i hi => Rp_of (hR.1 i hi) (fun r q => by rw [es2 r (by omega) (by omega) (by omega)]) (fun r q1 q2 => by rw [em r (by omega)]), fun i hi => Ru_of (hR.2.1 i hi) (es2 _ (by omega) (by omega) (by omega)) (em _ (by omega)), Rc_of hR.2.2.1 (fun r q1 q2 => es2 r (by omega) (by omega) (by omega)) (fun r q1 q2 => em r (by omega)), Rw_of hR.2.2.2.1 (fun r q1 q2 q3 => es2 r (by omega) (by omega) (by omega)) (fun r q1 q2 => em r (by omega)), ?_⟩, by rw [em 0 (by omega)]; exact h0, fun j hj => ?_, ?_⟩
  · refine ⟨by rw [x42, y23], by rw [x42]; exact cu, fun j hj => ?_, fun j hj => ?_⟩
    · rw [x50, x51, x52, x53, x54, x55, x56, y24, y25, y26, y27, y28, y29, y30]
      by_cases q : j = c
      · simp only [if_pos q]; exact ⟨trivial, trivial, trivial, trivial, trivial, trivial, trivial, nI_in16 ha, nI_in16 hb⟩
      · simp only [if_neg q]; exact m3 j hj
    · rw [x42, cu2] at hj
      rw [x51, x52, es2 5 (by decide) (by decide) (by decide)]
      by_cases q : j = c
      · rw [if_pos q, if_pos q, hnb]; exact ⟨hf, hm, by omega⟩
      · rw [if_neg q, if_neg q]; exact m4 j (by omega)
  · rw [es 8 (by decide), es2 2 (by decide) (by decide) (by decide), es2 3 (by decide) (by decide) (by decide), S8, y31]
    by_cases q : j = a
    · rw [if_pos q, if_pos q, q, s8]; exact ⟨rfl, by omega, by omega⟩
    · rw [if_neg q, if_neg q]; exact h8 j hj
  · unfold TR
    rw [y23, cu2]
    refine ⟨fun q => by omega, fun d hd => ?_⟩
    have hd : d = c := by omega
    have x43 : σ' 43 0 = g := by
      rw [← hσ, up_row (by decide), up_row (by decide), up_row (by decide), up_row (by decide), up_row (by decide), up_row (by decide), up_row (by decide), up_row (by decide)]; exact hg43
    have x44 : σ' 44 0 = σ 1 a := by
      rw [← hσ, up_row (by decide), up_row (by decide), up_row (by decide), up_row (by decide), up_row (by decide), up_row (by decide), up_row (by decide), up_row (by decide)]; exact k2
    have x45 : σ' 45 0 = J 45 0 := by
      rw [← hσ, up_row (by decide), up_row (by decide), up_row (by decide), up_row (by decide), up_row (by decide), up_row (by decide), up_row (by decide), up_row (by decide)]
    subst hd
    have yc : μ' 28 d = g := by rw [y28, if_pos rfl]
    rw [x43, x44, x45, yc, y24, if_pos rfl, hna, em 2 (by omega)]
    refine ⟨rfl, hz, k3 μ' (fun j hj => by rw [y28, if_neg (by omega)]) yc, k4, fun j hj => ?_⟩
    rw [y28]
    by_cases q : j = d
    · rw [if_pos q]; exact Int.le_refl _
    · rw [if_neg q]; exact k5 j (by omega)
