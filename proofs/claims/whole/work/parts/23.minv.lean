/-! the reference: its indices stay inside (mine) -/
theorem mm_ps {s : State} {H : Heap} {G : va_G} {cA : Nat → ClassId} {ad : Nat → Nat} {σ : St} {As : List Value} (hK : va_K G vwCl (rrTy cA) s) (hP : va_P G vwCl (mmL cA ad σ) H) : PreS s H (va_Pc As (mmW G cA ad σ)) As :=
  ⟨mm_bl, fun U hU hW => ⟨rfl, by rw [hU]; exact hP, va_K.moved hW.alike hK⟩⟩
theorem minv_today {σ : St} (h : MInv σ) : vp_in (σ 18 0) 400 := h.1
theorem minv_zone {σ : St} (h : MInv σ) {i : Nat} (hi : i < 16) : vp_in (σ 2 i) 4 := h.2.1 i hi
theorem minv_good {σ : St} (h : MInv σ) {i : Nat} (hi : i < 16) : vp_in (σ 7 i) 8 := h.2.2.1 i hi
theorem minv_case {σ : St} (h : MInv σ) {p : Int32} (hi : nx p < 16) : ¬ m_case σ p = 0 := h.2.2.2.1 _ (vp_lt (minv_good h hi))
theorem minv_down {σ : St} (h : MInv σ) {i : Nat} (hi : i < 12) : 1 ≤ σ 17 i ∧ σ 17 i ≤ 1000 := h.2.2.2.2.1 i hi
theorem minv_wc {σ : St} (h : MInv σ) : ¬ σ 19 0 < 0 ∧ nx (σ 19 0) ≤ 30 := h.2.2.2.2.2.1
theorem minv_mc {σ : St} (h : MInv σ) : ¬ σ 23 0 < 0 ∧ nx (σ 23 0) ≤ 30 := h.2.2.2.2.2.2.1
theorem minv_mv {σ : St} (h : MInv σ) {j : Nat} (hj : j < 30) : vp_in (σ 24 j) 16 ∧ vp_in (σ 25 j) 16 := h.2.2.2.2.2.2.2 j hj
theorem minv_rows {σ τ : St} (h : MInv σ) (h18 : τ 18 = σ 18) (h2 : τ 2 = σ 2) (h7 : τ 7 = σ 7) (h10 : τ 10 = σ 10) (h17 : τ 17 = σ 17) (h19 : τ 19 = σ 19) (h23 : τ 23 = σ 23) (h24 : τ 24 = σ 24) (h25 : τ 25 = σ 25) : MInv τ := by
  unfold MInv at h ⊢
  rw [h18, h2, h7, h10, h17, h19, h23, h24, h25]
  exact h
theorem minv_up {σ : St} {r j : Nat} {v : Int32} (hr : 18 ≠ r ∧ 2 ≠ r ∧ 7 ≠ r ∧ 10 ≠ r ∧ 17 ≠ r ∧ 19 ≠ r ∧ 23 ≠ r ∧ 24 ≠ r ∧ 25 ≠ r) (h : MInv σ) : MInv (up σ r j v) :=
  minv_rows h (up_row hr.1) (up_row hr.2.1) (up_row hr.2.2.1) (up_row hr.2.2.2.1) (up_row hr.2.2.2.2.1) (up_row hr.2.2.2.2.2.1) (up_row hr.2.2.2.2.2.2.1) (up_row hr.2.2.2.2.2.2.2.1) (up_row hr.2.2.2.2.2.2.2.2)
theorem in_0 {x a b : Int32} (h : ¬ m_in x a b = 0) : ¬ x < a ∧ x ≤ b := by
  unfold m_in at h
  by_cases h1 : x < a
  · rw [if_pos h1] at h; exact absurd rfl h
  · rw [if_neg h1] at h
    by_cases h2 : b < x
    · rw [if_pos h2] at h; exact absurd rfl h
    · refine ⟨h1, ?_⟩
      rw [Int32.lt_iff_toInt_lt] at h2
      rw [Int32.le_iff_toInt_le]
      omega
theorem in_in {x b : Int32} {n : Nat} (hb : b.toInt + 1 = n) (h : ¬ m_in x 0 b = 0) : vp_in x n := vp_mk hb (in_0 h).1 (in_0 h).2
theorem isP {p : Int32} (h : ¬ m_isPlace p = 0) : vp_in p 16 := in_in (b := 15) rfl h
theorem placeT_in {σ : St} {p s z : Int32} (h : m_placeT σ p s z = 0) : vp_in p 16 := isP fun q => by rw [m_placeT, if_pos q] at h; exact absurd h (by decide)
theorem faceG_in {σ : St} {p g a b : Int32} (h : ¬ m_faceG σ p g a b = 0) : vp_in p 16 := isP fun q => h (by rw [m_faceG, if_pos q])
theorem faceT_in {σ : St} {p g a b : Int32} (h : m_faceT σ p g a b = 0) : vp_in p 16 := faceG_in (σ := σ) (g := g) (a := a) (b := b) fun q => by rw [m_faceT, if_pos q] at h; exact absurd h (by decide)
theorem putI_in {p g n : Int32} (h : ¬ m_putI p g n = 0) : vp_in p 16 := isP fun q => h (by rw [m_putI, if_pos q])
theorem putT_in {σ : St} {p g n : Int32} (h : m_putT σ p g n = 0) : vp_in p 16 := putI_in (g := g) (n := n) fun q => by rw [m_putT, if_pos q] at h; exact absurd h (by decide)
theorem useT_in {σ : St} {p n : Int32} (h : m_useT σ p n = 0) : vp_in p 16 := isP fun q => by rw [m_useT, if_pos q] at h; exact absurd h (by decide)
theorem holdT_in {σ : St} {p n : Int32} (h : m_holdT σ p n = 0) : vp_in p 16 := isP fun q => by rw [m_holdT, if_pos q] at h; exact absurd h (by decide)
theorem casesT_in {g n : Int32} (h : m_casesT g n = 0) : vp_in g 8 := in_in (b := 7) rfl fun q => by rw [m_casesT, if_pos q] at h; exact absurd h (by decide)
theorem ruleT_in {z k a u : Int32} (h : m_ruleT z k a u = 0) : vp_in z 4 := in_in (b := 3) rfl fun q => by rw [m_ruleT, if_pos q] at h; exact absurd h (by decide)
theorem factorT_in {m u d : Int32} (h : m_factorT m u d = 0) : vp_in m 12 := in_in (b := 11) rfl fun q => by rw [m_factorT, if_pos q] at h; exact absurd h (by decide)
theorem openT_in {σ : St} {d : Int32} (h : m_openT σ d = 0) : vp_in d 400 := in_in (b := 399) rfl fun q => by rw [m_openT, if_pos q] at h; exact absurd h (by decide)
theorem waveT_ne {σ : St} {p n d : Int32} (h : m_waveT σ p n d = 0) : ¬ σ 19 0 = 30 := fun q => by
  unfold m_waveT at h
  rw [if_pos q] at h
  split at h
  · exact absurd h (by decide)
  · split at h
    · exact absurd h (by decide)
    · split at h
      · exact absurd h (by decide)
      · split at h <;> exact absurd h (by decide)
theorem nx_toInt {x : Int32} (h : ¬ x < 0) : x.toInt = (nx x : Int) := by
  conv => lhs; rw [← nI_nx h]
  exact nI_toInt (nx_lt31 _)
theorem waves_in {σ : St} (hI : MInv σ) (h : ¬ σ 19 0 = 30) : vp_in (σ 19 0) 30 := by
  obtain ⟨h1, h2⟩ := minv_wc hI
  rw [vp_in_iff]
  have e := nx_toInt h1
  have : ¬ (σ 19 0).toInt = 30 := fun q => h (Int32.toInt_inj.mp q)
  omega
theorem takes_row {σ : St} {p n : Int32} {r : Nat} (h : r ≠ 3 ∧ r ≠ 4) : m_takes σ p n r = σ r := by
  unfold m_takes
  rw [up_row h.2, up_row h.1]
theorem minv_takes {σ : St} {p n : Int32} (h : MInv σ) : MInv (m_takes σ p n) := minv_rows h (takes_row (by decide)) (takes_row (by decide)) (takes_row (by decide)) (takes_row (by decide)) (takes_row (by decide)) (takes_row (by decide)) (takes_row (by decide)) (takes_row (by decide)) (takes_row (by decide))
theorem mix_eq {p d : Int32} (hp : vp_in p 16) (hd : vp_in d 400) : 400 * p + d = nI (400 * nx p + nx d) := by
  have e1 := nI_nx (vp_pos hp)
  have e2 := nI_nx (vp_pos hd)
  generalize nx p = a at e1
  generalize nx d = b at e2
  rw [← e1, ← e2]
  show nI 400 * nI a + nI b = _
  rw [pk_mul, nI_add]
theorem mix_in {p d : Int32} (hp : vp_in p 16) (hd : vp_in d 400) : vp_in (400 * p + d) 6400 := by
  rw [mix_eq hp hd]
  have h1 := vp_lt hp
  have h2 := vp_lt hd
  exact vp_in_nI (by omega) (by decide)
theorem m_d_alt {σ : St} {k : Nat} : m_d σ k = σ 18 0 - nI (k + 1) := by
  unfold m_d
  rw [← nI_1, Int32.sub_sub, Int32.add_comm 1]
theorem m_d_0 {σ : St} : m_d σ 0 = σ 18 0 - 1 := m_d_alt
theorem dec_1 (x : Int32) : x + Int32.ofInt (-1) = x - 1 := by
  rw [Int32.sub_eq_add_neg]
  exact congrArg (x + ·) (by decide)
theorem m_d_1 {σ : St} {k : Nat} : m_d σ k + Int32.ofInt (-1) = m_d σ (k + 1) := by
  rw [m_d_alt, m_d_alt, ← nI_1 (k + 1), ← Int32.sub_sub]
  exact dec_1 _
theorem m_d_toInt {σ : St} (h : vp_in (σ 18 0) 400) {k : Nat} (hk : k ≤ nx (σ 18 0)) : (m_d σ k).toInt = (nx (σ 18 0) : Int) - 1 - k := by
  have h1 := vp_lt h
  rw [m_d_alt]
  have e := nI_nx (vp_pos h)
  generalize nx (σ 18 0) = a at e hk h1 ⊢
  rw [← e, pk_sub_toInt (by omega) (by omega)]
  omega
theorem cnt_le {σ : St} {n : Int32} : m_cnt σ n ≤ nx (σ 18 0) := Nat.sub_le _ _
theorem m_d_eq {σ : St} (h : vp_in (σ 18 0) 400) {k : Nat} (hk : k < nx (σ 18 0)) : m_d σ k = nI (nx (σ 18 0) - 1 - k) := by
  have h1 := vp_lt h
  apply Int32.toInt_inj.mp
  rw [m_d_toInt h (Nat.le_of_lt hk), nI_toInt (by omega)]
  omega
theorem m_d_in {σ : St} (h : vp_in (σ 18 0) 400) {n : Int32} {k : Nat} (hk : k < m_cnt σ n) : vp_in (m_d σ k) 400 := by
  have h1 := vp_lt h
  have h2 := Nat.lt_of_lt_of_le hk cnt_le
  rw [m_d_eq h h2]
  exact vp_in_nI (by omega) (by decide)
theorem m_d_pos {σ : St} (h : vp_in (σ 18 0) 400) {n : Int32} {k : Nat} (hk : k < m_cnt σ n) : ¬ m_d σ k < 0 := vp_pos (m_d_in h hk)
theorem sub_toInt {x y : Int32} (hx : ¬ x < 0) (hy : ¬ y < 0) : (x - y).toInt = x.toInt - y.toInt := by
  have a := nx_toInt hx
  have b := nx_toInt hy
  have la := nx_lt31 x
  have lb := nx_lt31 y
  rw [Int32.toInt_sub]
  apply Int.bmod_eq_of_le_mul_two <;> omega
theorem m_d_ge {σ : St} (h : vp_in (σ 18 0) 400) {n : Int32} (hn : ¬ n < 0) {k : Nat} (hk : k < m_cnt σ n) : ¬ m_d σ k < σ 18 0 - n := by
  intro q
  have e1 := m_d_toInt h (Nat.le_of_lt (Nat.lt_of_lt_of_le hk cnt_le))
  have e2 := sub_toInt (vp_pos h) hn
  have q2 := Int32.lt_iff_toInt_lt.mp q
  have a := nx_toInt (vp_pos h)
  have b := nx_toInt hn
  unfold m_cnt at hk
  omega
theorem m_d_end {σ : St} (h : vp_in (σ 18 0) 400) {n : Int32} (hn : ¬ n < 0) (hq : ¬ m_d σ (m_cnt σ n) < 0) : m_d σ (m_cnt σ n) < σ 18 0 - n := by
  have e1 := m_d_toInt h (k := m_cnt σ n) cnt_le
  have e2 := sub_toInt (vp_pos h) hn
  have a := nx_toInt (vp_pos h)
  have b := nx_toInt hn
  have q2 : ¬ (m_d σ (m_cnt σ n)).toInt < 0 := fun z => hq (Int32.lt_iff_toInt_lt.mpr (by simpa using z))
  apply Int32.lt_iff_toInt_lt.mpr
  rw [e1] at q2 ⊢
  rw [e2]
  unfold m_cnt at q2 ⊢
  omega
theorem meanI_in {p n : Int32} (h : ¬ m_meanI p n = 0) : vp_in p 16 ∧ ¬ n < 0 := by
  have h1 : ¬ m_isPlace p = 0 := fun q => h (by rw [m_meanI, if_pos q])
  have h2 : ¬ m_in n 0 60 = 0 := fun q => h (by rw [m_meanI, if_neg h1, if_pos q])
  exact ⟨isP h1, (in_0 h2).1⟩
theorem meanT_0 {σ : St} {p n : Int32} (h : m_meanT σ p n = 0) : ¬ m_meanI p n = 0 ∧ ¬ σ 6 (nx p) = 0 ∧ ¬ m_openDays σ n = 0 := by
  have h1 : ¬ m_meanI p n = 0 := fun q => by rw [m_meanT, if_pos q] at h; exact absurd h (by decide)
  have h2 : ¬ σ 6 (nx p) = 0 := fun q => by rw [m_meanT, if_neg h1, if_pos q] at h; exact absurd h (by decide)
  have h3 : ¬ m_openDays σ n = 0 := fun q => by rw [m_meanT, if_neg h1, if_neg h2, if_pos q] at h; exact absurd h (by decide)
  exact ⟨h1, h2, h3⟩
theorem openDays_rows {σ τ : St} {n : Int32} (h18 : τ 18 = σ 18) (h11 : τ 11 = σ 11) : m_openDays τ n = m_openDays σ n := by
  have e : m_opF τ = m_opF σ := by funext k a; unfold m_opF m_d; rw [h18, h11]
  unfold m_openDays m_cnt
  rw [e, h18]
theorem mean_ne {σ σ1 : St} {p n : Int32} (e : σ1 = up σ 0 0 (m_meanT σ p n)) (h : σ1 0 0 = 0) : ¬ m_openDays σ1 n = 0 := by
  rw [e, up_eq] at h
  rw [openDays_rows (σ := σ) (by rw [e]; exact up_row (by decide)) (by rw [e]; exact up_row (by decide))]
  exact (meanT_0 h).2.2
theorem mmonth_eq {σ : St} (h : ¬ σ 18 0 < 0) : m_month σ = nI (nx (σ 18 0) / 30 % 12) := by
  unfold m_month
  have ha := nI_nx h
  have la := nx_lt31 (σ 18 0)
  generalize nx (σ 18 0) = a at ha la
  rw [← ha]
  have e1 : nI a / 30 = nI (a / 30) := pk_div (d := 30) la (by decide) (by decide)
  rw [e1]
  exact pk_rem (d := 12) (by omega) (by decide) (by decide)
theorem mmonth_in {σ : St} (h : vp_in (σ 18 0) 400) : vp_in (m_month σ) 12 := by
  rw [mmonth_eq (vp_pos h)]
  exact vp_in_nI (Nat.mod_lt _ (by decide)) (by decide)
theorem mfirst_eq {σ : St} (h : vp_in (σ 18 0) 400) : m_first σ = nI (nx (σ 18 0) - 28) := by
  have e2 := sub_toInt (x := σ 18 0) (y := 28) (vp_pos h) (by decide)
  have a := nx_toInt (vp_pos h)
  have l := vp_lt h
  have e28 : (28 : Int32).toInt = 28 := rfl
  rw [e28, a] at e2
  unfold m_first
  by_cases q : 0 ≤ σ 18 0 - 28
  · rw [if_pos q]
    have q2 : 0 ≤ (σ 18 0 - 28).toInt := by have := Int32.le_iff_toInt_le.mp q; simpa using this
    apply Int32.toInt_inj.mp
    rw [e2, nI_toInt (by omega)]
    omega
  · rw [if_neg q]
    have q2 : ¬ 0 ≤ (σ 18 0 - 28).toInt := fun z => q (Int32.le_iff_toInt_le.mpr (by simpa using z))
    rw [e2] at q2
    rw [show nx (σ 18 0) - 28 = 0 by omega]
    exact nI_0.symm
theorem mfirst_pos {σ : St} (h : vp_in (σ 18 0) 400) : ¬ m_first σ < 0 := by
  have l := vp_lt h
  rw [mfirst_eq h]; exact nI_pos (by omega)
theorem mfirst_nx {σ : St} (h : vp_in (σ 18 0) 400) : nx (m_first σ) = nx (σ 18 0) - 28 := by
  have l := vp_lt h
  rw [mfirst_eq h]; exact nI_clamp (by omega)
theorem mfirst_le {σ : St} (h : vp_in (σ 18 0) 400) : nx (m_first σ) ≤ nx (σ 18 0) := by rw [mfirst_nx h]; exact Nat.sub_le _ _
theorem mday_in {σ : St} (h : vp_in (σ 18 0) 400) {k : Nat} (hk : k < nx (σ 18 0)) : vp_in (nI k) 400 := vp_in_nI (Nat.lt_trans hk (vp_lt h)) (by decide)
/-- a count is at most the steps -/
theorem op_bound {σ : St} : ∀ (n k a : Nat), a + n < 2 ^ 31 → ∃ b : Nat, b ≤ a + n ∧ foldN (m_opF σ) n k (nI a) = nI b := by
  intro n
  induction n with
  | zero => intro k a _; exact ⟨a, Nat.le_refl _, rfl⟩
  | succ n ih =>
    intro k a h
    rw [foldN_s]
    by_cases q : σ 11 (nx (m_d σ k)) = 0
    · rw [show m_opF σ k (nI a) = nI (a + 1) by unfold m_opF; rw [if_pos q, nI_1]]
      obtain ⟨b, h1, h2⟩ := ih (k + 1) (a + 1) (by omega)
      exact ⟨b, by omega, h2⟩
    · rw [show m_opF σ k (nI a) = nI a by unfold m_opF; rw [if_neg q, Int32.add_zero]]
      obtain ⟨b, h1, h2⟩ := ih (k + 1) a (by omega)
      exact ⟨b, by omega, h2⟩
theorem openDays_28 {σ : St} : ∃ b : Nat, b ≤ 28 ∧ m_openDays σ 28 = nI b := by
  have l : m_cnt σ 28 ≤ 28 := by
    unfold m_cnt
    have : nx (28 : Int32) = 28 := rfl
    omega
  obtain ⟨b, h1, h2⟩ := op_bound (σ := σ) (m_cnt σ 28) 0 0 (by omega)
  refine ⟨b, by omega, ?_⟩
  unfold m_openDays
  rw [← nI_0]
  exact h2
theorem down_of {σ : St} (hI : MInv σ) : ∃ d : Nat, 1 ≤ d ∧ d ≤ 1000 ∧ σ 17 (nx (m_month σ)) = nI d := by
  obtain ⟨h1, h2⟩ := minv_down hI (vp_lt (mmonth_in (minv_today hI)))
  have e1 : 1 ≤ (σ 17 (nx (m_month σ))).toInt := by have := Int32.le_iff_toInt_le.mp h1; simpa using this
  have e2 : (σ 17 (nx (m_month σ))).toInt ≤ 1000 := by have := Int32.le_iff_toInt_le.mp h2; simpa using this
  have h0 : ¬ σ 17 (nx (m_month σ)) < 0 := fun q => by
    have := Int32.lt_iff_toInt_lt.mp q
    have z : (0 : Int32).toInt = 0 := rfl
    omega
  have e := nx_toInt h0
  exact ⟨nx (σ 17 (nx (m_month σ))), by omega, by omega, (nI_nx h0).symm⟩
theorem lN_ne0 {n : Nat} (h0 : 0 < n) (h : n < 2 ^ 63) : ¬ lN n = 0 := fun q => by
  have := (pk_lEQ h (by decide : 0 < 2 ^ 63)).mp (q.trans (by decide +kernel : (0 : Int64) = lN 0))
  omega
theorem over1_ne {σ : St} (hI : MInv σ) (h : ¬ m_openDays σ 28 = 0) : ¬ (m_openDays σ 28).toInt64 * (σ 17 (nx (m_month σ))).toInt64 = 0 := by
  obtain ⟨d, h1, h2, e⟩ := down_of hI
  obtain ⟨b, h3, e2⟩ := openDays_28 (σ := σ)
  rw [e2] at h ⊢
  rw [e, nI_l (by omega), nI_l (by omega), lN_mul]
  have hb : 0 < b := Nat.pos_of_ne_zero fun z => h (by rw [z]; exact nI_0)
  refine lN_ne0 (Nat.mul_pos hb h1) ?_
  have : b * d ≤ 28 * 1000 := Nat.mul_le_mul h3 h2
  omega
theorem over2_ne {σ : St} (hI : MInv σ) : ¬ 1000 * (σ 17 (nx (m_month σ))).toInt64 = 0 := by
  obtain ⟨d, h1, h2, e⟩ := down_of hI
  rw [e, nI_l (by omega), show (1000 : Int64) = lN 1000 by decide +kernel, lN_mul]
  exact lN_ne0 (by omega) (by omega)
theorem asks_in {σ : St} {p : Int32} (h : ¬ m_asksR σ p = 0) : vp_in p 16 := isP fun q => h (by rw [m_asksR, m_asksS, up_eq, m_asksT, if_pos q]; decide)
theorem in_nar (x a b : Int32) : narrow .boolean (.int (m_in x a b)) = .int (m_in x a b) := by
  unfold m_in
  by_cases h1 : x < a
  · rw [if_pos h1]; decide
  · rw [if_neg h1]
    by_cases h2 : b < x
    · rw [if_pos h2]; decide
    · rw [if_neg h2]; decide
