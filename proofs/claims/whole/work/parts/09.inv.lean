/-! what the class keeps true of its numbers, as far as its own indices need it (mine) -/
def Inv (σ : St) : Prop := (∀ i, i < 16 → vp_in (σ 1 i) 4) ∧ (∀ i, i < 16 → σ 5 i = -1 ∨ vp_in (σ 5 i) 8) ∧ vp_in (σ 40 0) 400 ∧ (¬ σ 41 0 < 0 ∧ nx (σ 41 0) ≤ 30) ∧ (¬ σ 42 0 < 0 ∧ nx (σ 42 0) ≤ 30) ∧ ∀ j, j < 30 → vp_in (σ 50 j) 16 ∧ vp_in (σ 51 j) 16
theorem inv_zone {σ : St} (h : Inv σ) {i : Nat} (hi : i < 16) : vp_in (σ 1 i) 4 := h.1 i hi
theorem inv_today {σ : St} (h : Inv σ) : vp_in (σ 40 0) 400 := h.2.2.1
theorem inv_wc {σ : St} (h : Inv σ) : ¬ σ 41 0 < 0 ∧ nx (σ 41 0) ≤ 30 := h.2.2.2.1
theorem inv_pc {σ : St} (h : Inv σ) : ¬ σ 42 0 < 0 ∧ nx (σ 42 0) ≤ 30 := h.2.2.2.2.1
theorem inv_mv {σ : St} (h : Inv σ) {j : Nat} (hj : j < 30) : vp_in (σ 50 j) 16 ∧ vp_in (σ 51 j) 16 := h.2.2.2.2.2 j hj
theorem inv_face {σ : St} (h : Inv σ) {i : Nat} (hi : i < 16) (hf : ¬ c_isFace σ i = 0) : vp_in (σ 5 i) 8 := by
  rcases h.2.1 i hi with e | e
  · exact absurd (by simp [c_isFace, e]) hf
  · exact e
theorem inv_rows {σ τ : St} (h : Inv σ) (h1 : τ 1 = σ 1) (h5 : τ 5 = σ 5) (h40 : τ 40 = σ 40) (h41 : τ 41 = σ 41) (h42 : τ 42 = σ 42) (h50 : τ 50 = σ 50) (h51 : τ 51 = σ 51) : Inv τ := by
  unfold Inv at h ⊢
  rw [h1, h5, h40, h41, h42, h50, h51]
  exact h
theorem inv_up {σ : St} {r j : Nat} {v : Int32} (hr : 1 ≠ r ∧ 5 ≠ r ∧ 40 ≠ r ∧ 41 ≠ r ∧ 42 ≠ r ∧ 50 ≠ r ∧ 51 ≠ r) (h : Inv σ) : Inv (up σ r j v) :=
  inv_rows h (up_row hr.1) (up_row hr.2.1) (up_row hr.2.2.1) (up_row hr.2.2.2.1) (up_row hr.2.2.2.2.1) (up_row hr.2.2.2.2.2.1) (up_row hr.2.2.2.2.2.2)
theorem lt30_in {x : Int32} (h0 : ¬ x < 0) (h : x < 30) : vp_in x 30 := by
  rw [vp_in_iff]
  have e1 : ¬ x.toInt < 0 := fun q => h0 (Int32.lt_iff_toInt_lt.mpr (by simpa using q))
  have e2 : x.toInt < 30 := by have := Int32.lt_iff_toInt_lt.mp h; simpa using this
  omega
theorem join_row {σ : St} {z : Int32} {r : Nat} (h : r ≠ 43 ∧ r ≠ 44 ∧ r ≠ 45) : c_join σ z r = σ r := by
  unfold c_join c_joinA c_joinB
  split
  · split
    · rw [up_row h.2.2]
    · rw [up_row h.2.2, up_row h.2.2, up_row h.2.1, up_row h.1]
  · rw [up_row h.2.2, up_row h.2.2, up_row h.2.1, up_row h.1]
theorem join_42 {σ : St} {z : Int32} : c_join σ z 42 0 = σ 42 0 := by rw [join_row (by decide)]
theorem firstOf_eq {σ : St} {n : Int32} (h : ¬ σ 40 0 < 0) (hn : ¬ n < 0) : c_firstOf σ n = nI (nx (σ 40 0) - nx n) := by
  unfold c_firstOf
  have ha := nI_nx h
  have hb := nI_nx hn
  have la := nx_lt31 (σ 40 0)
  have lb := nx_lt31 n
  generalize nx (σ 40 0) = a at ha la
  generalize nx n = b at hb lb
  rw [← ha, ← hb]
  by_cases q : a ≤ b
  · rw [if_pos (nI_le q lb), Nat.sub_eq_zero_of_le q]; exact nI_0.symm
  · rw [if_neg (nI_ge (by omega) la), pk_sub (by omega)]
theorem firstOf_pos {σ : St} {n : Int32} (h : ¬ σ 40 0 < 0) (hn : ¬ n < 0) : ¬ c_firstOf σ n < 0 := by
  rw [firstOf_eq h hn]
  exact nI_pos (Nat.lt_of_le_of_lt (Nat.sub_le _ _) (nx_lt31 _))
theorem firstOf_le {σ : St} {n : Int32} (h : ¬ σ 40 0 < 0) (hn : ¬ n < 0) : nx (c_firstOf σ n) ≤ nx (σ 40 0) := by
  rw [firstOf_eq h hn]
  show (nI _).toNatClampNeg ≤ _
  rw [nI_clamp (Nat.lt_of_le_of_lt (Nat.sub_le _ _) (nx_lt31 _))]
  exact Nat.sub_le _ _
theorem day_in {σ : St} (h : vp_in (σ 40 0) 400) {k : Nat} (hk : k < nx (σ 40 0)) : vp_in (nI k) 400 := vp_in_nI (Nat.lt_trans hk (vp_lt h)) (by decide)
theorem month_eq {σ : St} (h : ¬ σ 40 0 < 0) : c_month σ = nI (nx (σ 40 0) / 30 % 12) := by
  unfold c_month
  have ha := nI_nx h
  have la := nx_lt31 (σ 40 0)
  generalize nx (σ 40 0) = a at ha la
  rw [← ha]
  have e1 : nI a / 30 = nI (a / 30) := pk_div (d := 30) la (by decide) (by decide)
  rw [e1]
  exact pk_rem (d := 12) (by omega) (by decide) (by decide)
theorem month_in {σ : St} (h : vp_in (σ 40 0) 400) : vp_in (c_month σ) 12 := by
  rw [month_eq (vp_pos h)]
  exact vp_in_nI (Nat.mod_lt _ (by decide)) (by decide)
theorem cmp_pos_ne {d : Int64} (h : 0 < lg_cmp d 0) : ¬ d = 0 := fun q => by
  rw [q] at h
  exact absurd h (by decide)
theorem cmp_ne {d : Int64} (h : ¬ lg_cmp d 0 = 0) : ¬ d = 0 := fun q => by
  rw [q] at h
  exact h (by decide)
theorem one_lt_ne {o : Int32} (h : 1 < o) : ¬ o = 0 := fun q => by
  rw [q] at h
  exact absurd h (by decide)
theorem rg_0 {x a b : Int32} (h : c_rg x a b = 0) : ¬ x < a ∧ x ≤ b := by
  unfold c_rg at h
  split at h
  · cases h
  · split at h
    · exact ⟨by assumption, by assumption⟩
    · cases h
theorem rg_in {x b : Int32} {n : Nat} (hb : b.toInt + 1 = n) (h : c_rg x 0 b = 0) : vp_in x n := vp_mk hb (rg_0 h).1 (rg_0 h).2
theorem placeAt_in {p : Int32} (h : c_placeAt p = 0) : vp_in p 16 := rg_in (b := 15) rfl h
theorem faceAt_place {σ : St} {p : Int32} (h : c_faceAt σ p = 0) : c_placeAt p = 0 ∧ ¬ c_isFace σ (nx p) = 0 := by
  unfold c_faceAt at h
  by_cases q : c_placeAt p = 0
  · rw [c_then_0 q] at h
    refine ⟨q, fun z => ?_⟩
    rw [if_pos z] at h
    cases h
  · rw [c_then_n q] at h
    exact absurd h q
theorem toInt64_ne {x : Int32} (h : ¬ x = 0) : ¬ x.toInt64 = 0 := fun q => h (by
  have e : x.toInt64.toInt = 0 := by rw [q]; rfl
  rw [Int32.toInt_toInt64] at e
  exact Int32.toInt_inj.mp (by rw [e]; rfl))
theorem rg0 {x b : Int32} (h : c_rg x 0 b = 0) : ¬ x < 0 := (rg_0 h).1
theorem moveAt_in {σ : St} (hI : Inv σ) {i : Int32} (h : c_moveAt σ i = 0) : vp_in i 30 := by
  unfold c_moveAt at h
  split at h
  · cases h
  · split at h
    · rename_i h1 h2
      rw [vp_in_iff]
      have e1 : ¬ i.toInt < 0 := fun q => h1 (Int32.lt_iff_toInt_lt.mpr (by simpa using q))
      have e2 := Int32.lt_iff_toInt_lt.mp h2
      obtain ⟨p1, p2⟩ := inv_pc hI
      have e3 : (σ 42 0).toInt = (nx (σ 42 0) : Int) := by
        conv => lhs; rw [← nI_nx p1]
        exact nI_toInt (nx_lt31 _)
      omega
    · cases h
theorem take_row {σ : St} {i r : Nat} {n : Int32} (h : r ≠ 2 ∧ r ≠ 4) : c_takeAway σ i n r = σ r := by
  unfold c_takeAway
  split
  · rw [up_row h.2, up_row h.1]
  · rw [up_row h.1]
theorem bring_row {σ : St} {i r : Nat} {g n : Int32} (h : r ≠ 2 ∧ r ≠ 4) : c_bring σ i g n r = σ r := by
  unfold c_bring
  rw [up_row h.1, up_row h.2]
theorem inv_clear {σ : St} (h : Inv σ) : Inv (c_clear σ) := by
  obtain ⟨a, b, c, d, -, f⟩ := h
  unfold c_clear
  refine ⟨fun i hi => ?_, fun i hi => ?_, ?_, ?_, ?_, fun j hj => ?_⟩
  · simpa [up] using a i hi
  · simpa [up] using b i hi
  · simpa [up] using c
  · simpa [up] using d
  · refine ⟨by simp [up], ?_⟩
    show nx (up (up (up (up σ 42 0 0) 43 0 (-1)) 44 0 (-1)) 45 0 0 42 0) ≤ 30
    rw [up_row (by decide), up_row (by decide), up_row (by decide), up_eq]
    decide
  · simpa [up] using f j hj
theorem inv_prep0 {σ : St} (h : Inv σ) (i : Nat) : Inv (c_prep0 σ i) := inv_up (by decide) (inv_up (by decide) h)
theorem inv_prep1 {σ : St} (h : Inv σ) (i : Nat) : Inv (c_prep1 σ i) := inv_up (by decide) (inv_prep0 h i)
theorem inv_prepare {σ : St} (h : Inv σ) (i : Nat) : Inv (c_prepare σ i) := by
  unfold c_prepare
  split
  · exact inv_prep0 h i
  · exact inv_up (by decide) (inv_prep1 h i)
theorem inv_join {σ : St} (h : Inv σ) (z : Int32) : Inv (c_join σ z) := inv_rows h (join_row (by decide)) (join_row (by decide)) (join_row (by decide)) (join_row (by decide)) (join_row (by decide)) (join_row (by decide)) (join_row (by decide))
theorem nI_in16 {a : Nat} (h : a < 16) : vp_in (nI a) 16 := vp_in_nI h (by decide)
theorem inv_up50 {σ : St} {j a : Nat} (h : Inv σ) (ha : a < 16) : Inv (up σ 50 j (nI a)) := by
  obtain ⟨h1, h2, h3, h4, h5, h6⟩ := h
  refine ⟨fun i hi => by rw [up_row (by decide)]; exact h1 i hi, fun i hi => by rw [up_row (by decide)]; exact h2 i hi, by rw [up_row (by decide)]; exact h3, by rw [up_row (by decide)]; exact h4, by rw [up_row (by decide)]; exact h5, fun k hk => ⟨?_, by rw [up_row (by decide)]; exact (h6 k hk).2⟩⟩
  by_cases e : k = j
  · rw [e, up_eq]; exact nI_in16 ha
  · rw [up_ix e]; exact (h6 k hk).1
theorem inv_up51 {σ : St} {j a : Nat} (h : Inv σ) (ha : a < 16) : Inv (up σ 51 j (nI a)) := by
  obtain ⟨h1, h2, h3, h4, h5, h6⟩ := h
  refine ⟨fun i hi => by rw [up_row (by decide)]; exact h1 i hi, fun i hi => by rw [up_row (by decide)]; exact h2 i hi, by rw [up_row (by decide)]; exact h3, by rw [up_row (by decide)]; exact h4, by rw [up_row (by decide)]; exact h5, fun k hk => ⟨by rw [up_row (by decide)]; exact (h6 k hk).1, ?_⟩⟩
  by_cases e : k = j
  · rw [e, up_eq]; exact nI_in16 ha
  · rw [up_ix e]; exact (h6 k hk).2
theorem cnt_up {x : Int32} (h0 : ¬ x < 0) (h : x < 30) : ¬ x + 1 < 0 ∧ nx (x + 1) ≤ 30 := by
  have h2 := vp_lt (lt30_in h0 h)
  have e := nI_nx h0
  have l := nx_lt31 x
  generalize nx x = a at e l h2
  rw [← e, nI_1]
  refine ⟨nI_pos (by omega), ?_⟩
  show (nI (a + 1)).toNatClampNeg ≤ 30
  rw [nI_clamp (by omega)]
  omega
theorem inv_up42 {σ : St} {v : Int32} (h : Inv σ) (hv : ¬ v < 0 ∧ nx v ≤ 30) : Inv (up σ 42 0 v) := by
  obtain ⟨h1, h2, h3, h4, -, h6⟩ := h
  exact ⟨fun i hi => by rw [up_row (by decide)]; exact h1 i hi, fun i hi => by rw [up_row (by decide)]; exact h2 i hi, by rw [up_row (by decide)]; exact h3, by rw [up_row (by decide)]; exact h4, by rw [up_eq]; exact hv, fun k hk => ⟨by rw [up_row (by decide)]; exact (h6 k hk).1, by rw [up_row (by decide)]; exact (h6 k hk).2⟩⟩
theorem inv_add {σ : St} (h : Inv σ) {a b : Nat} (ha : a < 16) (hb : b < 16) (n : Int32) : Inv (c_add σ a b n) := by
  unfold c_add
  split
  · rename_i hc
    dsimp only
    refine inv_up42 (inv_up (by decide) (inv_up (by decide) (inv_up (by decide) (inv_up (by decide) (inv_up (by decide) (inv_up51 (inv_up50 (inv_join h _) ha) hb)))))) ?_
    rw [up_row (by decide), up_row (by decide), up_row (by decide), up_row (by decide), up_row (by decide), up_row (by decide), up_row (by decide), join_42]
    exact cnt_up (inv_pc h).1 hc
  · exact h
theorem inv_planMove {σ : St} (h : Inv σ) {a b : Nat} (ha : a < 16) (hb : b < 16) : Inv (c_planMove σ a b) := by
  unfold c_planMove
  dsimp only
  split
  · exact h
  · split
    · exact inv_add (inv_up (by decide) (inv_up (by decide) h)) ha hb _
    · exact h
theorem foldN_inv {α : Type} {f : Nat → α → α} (I : α → Prop) (hs : ∀ k a, k < 16 → I a → I (f k a)) : ∀ n k a, k + n ≤ 16 → I a → I (foldN f n k a) := by
  intro n
  induction n with
  | zero => intro k a _ h; exact h
  | succ n ih => intro k a hk h; exact ih (k + 1) (f k a) (by omega) (hs k a (by omega) h)
theorem nx16 {k : Nat} (h : k < 16) : nx (nI k) < 16 := vp_lt (nI_in16 h)
theorem inv_takeF {σ : St} (h : Inv σ) {b k : Nat} (hb : b < 16) (hk : k < 16) (z : Int32) : Inv (c_takeF b z k σ) := by
  unfold c_takeF
  by_cases h1 : (if σ 1 (nx (nI k)) = σ 1 b then (1 : Int32) else 0) = z
  · rw [if_pos h1]
    by_cases h2 : c_isReserveOf σ (nx (nI k)) (σ 5 b) = 0
    · rw [if_pos h2]; exact h
    · rw [if_neg h2]; exact inv_planMove h (nx16 hk) hb
  · rw [if_neg h1]; exact h
theorem inv_takeFrom {σ : St} (h : Inv σ) {b : Nat} (hb : b < 16) (z : Int32) : Inv (c_takeFrom σ b z) := by
  unfold c_takeFrom
  exact foldN_inv Inv (fun _ _ hk h => inv_takeF h hb hk z) 16 0 σ (by decide) h
theorem inv_serve {σ : St} (h : Inv σ) {b : Nat} (hb : b < 16) : Inv (c_serve σ b) := inv_up (by decide) (inv_takeFrom (inv_takeFrom h hb 1) hb 0)
theorem urgF_lt {σ : St} {k : Nat} (hk : k < 16) {r : Option Nat} (hr : ∀ j, r = some j → j < 16) : ∀ j, c_urgF σ k r = some j → j < 16 := by
  intro j h
  unfold c_urgF at h
  split at h
  · exact hr j h
  · split at h
    · cases h; exact nx16 hk
    · split at h
      · exact hr j h
      · cases h; exact nx16 hk
theorem urgent_lt {σ : St} {b : Nat} (h : c_urgent σ = some b) : b < 16 := foldN_inv (f := c_urgF σ) (fun r => ∀ j, r = some j → j < 16) (fun _ _ hk h => urgF_lt hk h) 16 0 none (by decide) (fun _ h => by cases h) b h
theorem runF_none {σ : St} (h : c_urgent σ = none) : ∀ n k, foldN (fun _ σ => c_runF σ) n k σ = σ := by
  intro n
  induction n with
  | zero => intro k; rfl
  | succ n ih => intro k; rw [foldN_s, show c_runF σ = σ from by unfold c_runF; rw [h]]; exact ih (k + 1)
theorem inv_runF {σ : St} (h : Inv σ) : Inv (c_runF σ) := by
  unfold c_runF
  split
  · exact h
  · rename_i b hb
    exact inv_serve h (urgent_lt hb)
theorem inv_runS {σ : St} (h : Inv σ) : Inv (c_runS σ) := by
  unfold c_runS
  exact foldN_inv Inv (fun _ _ _ h => inv_runF h) 16 0 _ (by decide) (foldN_inv Inv (fun _ _ _ h => inv_prepare h _) 16 0 _ (by decide) (inv_clear h))
