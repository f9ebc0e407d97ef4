/-! what is counted, class and reference side by side -/
def Of (σ : St) (j : Nat) : Int := if σ 33 j = 0 then 1 else 0
def Uf (σ : St) (i j : Nat) : Int := (σ (100 + i) j).toInt
def UOf (σ : St) (i j : Nat) : Int := if σ 33 j = 0 then (σ (100 + i) j).toInt else 0
theorem tot_n {f : Nat → Int} : ∀ n : Nat, (∀ j, j < n → f j ≤ 1) → tot f n ≤ n := by
  intro n
  induction n with
  | zero => intro _; exact Int.le_refl _
  | succ n ih => intro h; have a := ih (fun j hj => h j (by omega)); have b := h n (by omega); rw [tot_s]; omega
theorem Of_0 (σ : St) (j : Nat) : 0 ≤ Of σ j := by unfold Of; split <;> decide
theorem Of_1 (σ : St) (j : Nat) : Of σ j ≤ 1 := by unfold Of; split <;> decide
theorem Uf_0 {n : Nat} {σ μ : St} (h : Rel n σ μ) {i : Nat} (hi : i < 16) {j : Nat} (hj : j < 400) : 0 ≤ Uf σ i j := ((h.2.1 i hi).1 j hj).2
theorem UOf_0 {n : Nat} {σ μ : St} (h : Rel n σ μ) {i : Nat} (hi : i < 16) {j : Nat} (hj : j < 400) : 0 ≤ UOf σ i j := by unfold UOf; split; exact Uf_0 h hi hj; exact Int.le_refl _
theorem UOf_U {n : Nat} {σ μ : St} (h : Rel n σ μ) {i : Nat} (hi : i < 16) {j : Nat} (hj : j < 400) : UOf σ i j ≤ Uf σ i j := by unfold UOf; split; exact Int.le_refl _; exact Uf_0 h hi hj
theorem U_tot {n : Nat} {σ μ : St} (h : Rel n σ μ) (hn : n ≤ 512) {i : Nat} (hi : i < 16) : tot (Uf σ i) 400 ≤ 51200000 := by
  have a : tot (Uf σ i) 400 ≤ 100000 * (n : Int) := (h.2.1 i hi).2
  omega
/-- a window's sum -/
theorem win {f : Nat → Int} {a b : Nat} {B : Int} (hab : a ≤ b) (hb : b ≤ 400) (hf : ∀ j, j < 400 → 0 ≤ f j) (hB : tot f 400 ≤ B) : 0 ≤ tot f b - tot f a ∧ tot f b - tot f a ≤ B := by
  have h1 := tot_mono (f := f) (n := a) b hab (fun j hj => hf j (by omega))
  have h2 := tot_mono (f := f) (n := b) 400 hb hf
  have h3 : 0 ≤ tot f a := tot_nn (fun j hj => hf j (by omega))
  omega
theorem win_U {n : Nat} {σ μ : St} (h : Rel n σ μ) (hn : n ≤ 512) {i : Nat} (hi : i < 16) {a b : Nat} (hab : a ≤ b) (hb : b ≤ 400) : 0 ≤ tot (Uf σ i) b - tot (Uf σ i) a ∧ tot (Uf σ i) b - tot (Uf σ i) a ≤ 51200000 := win hab hb (fun _ hj => Uf_0 h hi hj) (U_tot h hn hi)
theorem win_UO {n : Nat} {σ μ : St} (h : Rel n σ μ) (hn : n ≤ 512) {i : Nat} (hi : i < 16) {a b : Nat} (hab : a ≤ b) (hb : b ≤ 400) : 0 ≤ tot (UOf σ i) b - tot (UOf σ i) a ∧ tot (UOf σ i) b - tot (UOf σ i) a ≤ 51200000 := win hab hb (fun _ hj => UOf_0 h hi hj) (Int.le_trans (tot_le 400 (fun _ hj => UOf_U h hi hj)) (U_tot h hn hi))
theorem win_O (σ : St) {a b : Nat} (hab : a ≤ b) (hb : b ≤ 400) : 0 ≤ tot (Of σ) b - tot (Of σ) a ∧ tot (Of σ) b - tot (Of σ) a ≤ 400 := win hab hb (fun _ _ => Of_0 σ _) (tot_n 400 (fun _ _ => Of_1 σ _))
theorem today {n : Nat} {σ μ : St} (h : Rel n σ μ) : nx (σ 40 0) < 400 ∧ ¬ σ 40 0 < 0 ∧ μ 18 0 = σ 40 0 := ⟨vp_lt h.2.2.1.2.2.2.2.2, vp_pos h.2.2.1.2.2.2.2.2, h.2.2.1.2.2.2.2.1.symm⟩
theorem first_nx {n : Nat} {σ μ : St} (h : Rel n σ μ) {m : Int32} (hm : ¬ m < 0) : nx (c_firstOf σ m) = nx (σ 40 0) - nx m := by
  obtain ⟨t1, t2, _⟩ := today h
  rw [firstOf_eq t2 hm]; exact nxnI (by omega)
theorem isOpen_nI {σ : St} {k : Nat} (hk : k < 400) : c_isOpen σ (nI k) = if σ 33 k = 0 then 1 else 0 := by
  unfold c_isOpen; rw [nxnI (by omega)]
theorem od_c {n : Nat} {σ μ : St} (h : Rel n σ μ) {m : Int32} (hm : ¬ m < 0) : (c_openDays σ m).toInt = tot (Of σ) (nx (σ 40 0)) - tot (Of σ) (nx (σ 40 0) - nx m) := by
  obtain ⟨t1, _, _⟩ := today h
  unfold c_openDays
  rw [first_nx h hm]
  have e : nx (σ 40 0) - nx m + (nx (σ 40 0) - (nx (σ 40 0) - nx m)) = nx (σ 40 0) := by omega
  have w := win_O σ (a := nx (σ 40 0) - nx m) (b := nx (σ 40 0)) (by omega) (by omega)
  have a := asc32 (F := c_openF σ) (f := Of σ) (hi := nx (σ 40 0)) (B := 1000) (fun k s hk hs hb => by
    unfold c_openF Of at *
    rw [isOpen_nI (by omega)]
    by_cases q : σ 33 k = 0
    · rw [if_pos q] at hb ⊢; rw [if_neg (by decide)]
      rw [if_pos q, i_add (by rw [z_1]; omega) (by rw [z_1]; omega), z_1]
    · rw [if_neg q] at hb ⊢; rw [if_pos rfl]; rw [if_neg q]; omega) (fun k _ => Of_0 σ k) (nx (σ 40 0) - (nx (σ 40 0) - nx m)) (nx (σ 40 0) - nx m) 0 (by omega) (by decide) (by rw [e, z_0]; omega)
  rw [a, e, z_0]; omega
theorem closed_eq {n : Nat} {σ μ : St} (h : Rel n σ μ) {k : Nat} (hk : k < 400) : μ 11 k = σ 33 k := (h.2.2.1.2.2.2.1 k hk).symm
theorem md_nx {n : Nat} {σ μ : St} (h : Rel n σ μ) {k : Nat} (hk : k < nx (σ 40 0)) : m_d μ k = nI (nx (σ 40 0) - 1 - k) ∧ nx (m_d μ k) = nx (σ 40 0) - 1 - k := by
  obtain ⟨t1, t2, t3⟩ := today h
  have a : m_d μ k = nI (nx (μ 18 0) - 1 - k) := m_d_eq (by rw [t3]; exact h.2.2.1.2.2.2.2.2) (by rw [t3]; exact hk)
  rw [t3] at a
  exact ⟨a, by rw [a]; exact nxnI (by omega)⟩
theorem cnt_eq {n : Nat} {σ μ : St} (h : Rel n σ μ) (m : Int32) : m_cnt μ m = nx (σ 40 0) - (nx (σ 40 0) - nx m) := by unfold m_cnt; rw [(today h).2.2]
theorem od_m {n : Nat} {σ μ : St} (h : Rel n σ μ) (m : Int32) : (m_openDays μ m).toInt = tot (Of σ) (nx (σ 40 0)) - tot (Of σ) (nx (σ 40 0) - nx m) := by
  obtain ⟨t1, _, _⟩ := today h
  unfold m_openDays
  rw [cnt_eq h]
  have e : nx (σ 40 0) - 0 - (nx (σ 40 0) - (nx (σ 40 0) - nx m)) = nx (σ 40 0) - nx m := by omega
  have w := win_O σ (a := nx (σ 40 0) - nx m) (b := nx (σ 40 0)) (by omega) (by omega)
  have a := desc32 (F := m_opF μ) (f := Of σ) (t := nx (σ 40 0)) (B := 1000) (fun k s hk hs hb => by
    unfold m_opF Of at *
    rw [(md_nx h hk).2, closed_eq h (by omega)]
    by_cases q : σ 33 (nx (σ 40 0) - 1 - k) = 0
    · rw [if_pos q] at hb ⊢
      rw [if_pos q, i_add (by rw [z_1]; omega) (by rw [z_1]; omega), z_1]
    · rw [if_neg q] at hb ⊢; rw [if_neg q, i_add (by rw [z_0]; omega) (by rw [z_0]; omega), z_0]) (fun k _ => Of_0 σ k) (nx (σ 40 0) - (nx (σ 40 0) - nx m)) 0 0 (by omega) (by decide) (by rw [e, z_0, Nat.sub_zero]; omega)
  rw [a, e, z_0, Nat.sub_zero]; omega
theorem od_eq {n : Nat} {σ μ : St} (h : Rel n σ μ) {m : Int32} (hm : ¬ m < 0) : m_openDays μ m = c_openDays σ m := i_eq.mpr (by rw [od_m h, od_c h hm])
theorem od_bd {n : Nat} {σ μ : St} (h : Rel n σ μ) {m : Int32} (hm : ¬ m < 0) : 0 ≤ (c_openDays σ m).toInt ∧ (c_openDays σ m).toInt ≤ 400 := by
  rw [od_c h hm]; exact win_O σ (by omega) (by have := (today h).1; omega)
theorem up_c {n : Nat} {σ μ : St} (h : Rel n σ μ) (hn : n ≤ 512) {i : Nat} (hi : i < 16) : (c_usedPast σ i).toInt = tot (UOf σ i) (nx (σ 40 0)) - tot (UOf σ i) (nx (σ 40 0) - 28) := by
  obtain ⟨t1, _, _⟩ := today h
  unfold c_usedPast
  rw [first_nx h (show ¬ (28 : Int32) < 0 by decide), show nx (28 : Int32) = 28 by decide]
  have e : nx (σ 40 0) - 28 + (nx (σ 40 0) - (nx (σ 40 0) - 28)) = nx (σ 40 0) := by omega
  have w := win_UO h hn hi (a := nx (σ 40 0) - 28) (b := nx (σ 40 0)) (by omega) (by omega)
  have a := asc64 (F := c_usedPastF σ i) (f := UOf σ i) (hi := nx (σ 40 0)) (B := 51200000) (fun k s hk hs hb => by
    unfold c_usedPastF UOf at *
    rw [isOpen_nI (by omega), nxnI (by omega)]
    have u0 := ((h.2.1 i hi).1 k (by omega)).2
    by_cases q : σ 33 k = 0
    · rw [if_pos q] at hb ⊢; rw [if_neg (by decide)]
      rw [if_pos q, l_add (by rw [i_l]; omega) (by rw [i_l]; omega), i_l]
    · rw [if_neg q] at hb ⊢; rw [if_pos rfl]; rw [if_neg q]; omega) (fun k hk => UOf_0 h hi (by omega)) (nx (σ 40 0) - (nx (σ 40 0) - 28)) (nx (σ 40 0) - 28) 0 (by omega) (by decide) (by rw [e, zl_0]; omega)
  rw [a, e, zl_0]; omega
theorem ua_c {n : Nat} {σ μ : St} (h : Rel n σ μ) (hn : n ≤ 512) {i : Nat} (hi : i < 16) {m : Int32} (hm : ¬ m < 0) : (c_usedAll σ i m).toInt = tot (Uf σ i) (nx (σ 40 0)) - tot (Uf σ i) (nx (σ 40 0) - nx m) := by
  obtain ⟨t1, _, _⟩ := today h
  unfold c_usedAll
  rw [first_nx h hm]
  have e : nx (σ 40 0) - nx m + (nx (σ 40 0) - (nx (σ 40 0) - nx m)) = nx (σ 40 0) := by omega
  have w := win_U h hn hi (a := nx (σ 40 0) - nx m) (b := nx (σ 40 0)) (by omega) (by omega)
  have a := asc64 (F := c_usedAllF σ i) (f := Uf σ i) (hi := nx (σ 40 0)) (B := 51200000) (fun k s hk hs hb => by
    unfold c_usedAllF Uf at *
    rw [nxnI (by omega)]
    have u0 := ((h.2.1 i hi).1 k (by omega)).2
    rw [l_add (by rw [i_l]; omega) (by rw [i_l]; omega), i_l]) (fun k hk => Uf_0 h hi (by omega)) (nx (σ 40 0) - (nx (σ 40 0) - nx m)) (nx (σ 40 0) - nx m) 0 (by omega) (by decide) (by rw [e, zl_0]; omega)
  rw [a, e, zl_0]; omega
theorem used_eq {n : Nat} {σ μ : St} (h : Rel n σ μ) {p : Int32} (hp : vp_in p 16) {d : Int32} (hd : vp_in d 400) : μ 12 (nx (400 * p + d)) = σ (100 + nx p) (nx d) := by
  have a : nx (400 * p + d) = 400 * nx p + nx d := by
    rw [mix_eq hp hd]; exact nxnI (by have := vp_lt hp; have := vp_lt hd; omega)
  rw [a]; exact ((h.2.1 _ (vp_lt hp)).1 _ (vp_lt hd)).1.symm
theorem sm_m {n : Nat} {σ μ : St} (h : Rel n σ μ) (hn : n ≤ 512) {p : Int32} (hp : vp_in p 16) (m o : Int32) : (m_sum μ p m o).toInt = tot (if o = 0 then Uf σ (nx p) else UOf σ (nx p)) (nx (σ 40 0)) - tot (if o = 0 then Uf σ (nx p) else UOf σ (nx p)) (nx (σ 40 0) - nx m) := by
  obtain ⟨t1, _, _⟩ := today h
  have hi := vp_lt hp
  unfold m_sum
  rw [cnt_eq h]
  have e : nx (σ 40 0) - 0 - (nx (σ 40 0) - (nx (σ 40 0) - nx m)) = nx (σ 40 0) - nx m := by omega
  have f0 : ∀ j, j < 400 → 0 ≤ (if o = 0 then Uf σ (nx p) else UOf σ (nx p)) j := fun j hj => by
    split
    · exact Uf_0 h hi hj
    · exact UOf_0 h hi hj
  have w : 0 ≤ tot (if o = 0 then Uf σ (nx p) else UOf σ (nx p)) (nx (σ 40 0)) - tot (if o = 0 then Uf σ (nx p) else UOf σ (nx p)) (nx (σ 40 0) - nx m) ∧ tot (if o = 0 then Uf σ (nx p) else UOf σ (nx p)) (nx (σ 40 0)) - tot (if o = 0 then Uf σ (nx p) else UOf σ (nx p)) (nx (σ 40 0) - nx m) ≤ 51200000 := by
    split
    · exact win_U h hn hi (by omega) (by omega)
    · exact win_UO h hn hi (by omega) (by omega)
  have a := desc32 (F := m_sumF μ p o) (f := if o = 0 then Uf σ (nx p) else UOf σ (nx p)) (t := nx (σ 40 0)) (B := 51200000) (fun k s hk hs hb => by
    obtain ⟨d1, d2⟩ := md_nx h hk
    have f1 := f0 (nx (σ 40 0) - 1 - k) (by omega)
    unfold m_sumF
    rw [used_eq h hp (d := m_d μ k) (by rw [d1]; exact vp_in_nI (by omega) (by decide)), d2, closed_eq h (by omega)]
    have u0 := ((h.2.1 _ hi).1 (nx (σ 40 0) - 1 - k) (by omega)).2
    by_cases q : o = 0
    · rw [if_pos q] at hb f1 ⊢
      rw [if_pos q]
      unfold Uf at hb f1 ⊢
      exact i_add (by omega) (by omega)
    · rw [if_neg q] at hb f1 ⊢
      rw [if_neg q]
      unfold UOf at hb f1 ⊢
      by_cases q2 : σ 33 (nx (σ 40 0) - 1 - k) = 0
      · rw [if_pos q2] at hb f1 ⊢; rw [if_pos q2]; exact i_add (by omega) (by omega)
      · rw [if_neg q2] at hb f1 ⊢; rw [if_neg q2, i_add (by rw [z_0]; omega) (by rw [z_0]; omega), z_0]) (fun k hk => f0 k (by omega)) (nx (σ 40 0) - (nx (σ 40 0) - nx m)) 0 0 (by omega) (by decide) (by rw [e, z_0, Nat.sub_zero]; omega)
  rw [a, e, z_0, Nat.sub_zero]; omega
theorem past_eq {n : Nat} {σ μ : St} (h : Rel n σ μ) (hn : n ≤ 512) {p : Int32} (hp : vp_in p 16) : (m_sum μ p 28 1).toInt64 = c_usedPast σ (nx p) ∧ 0 ≤ (c_usedPast σ (nx p)).toInt ∧ (c_usedPast σ (nx p)).toInt ≤ 51200000 := by
  have a := sm_m h hn hp 28 1
  rw [if_neg (by decide), show nx (28 : Int32) = 28 by decide] at a
  have b := up_c h hn (vp_lt hp)
  refine ⟨l_eq.mpr (by rw [i_l, a, b]), ?_⟩
  rw [b]; exact win_UO h hn (vp_lt hp) (by omega) (by have := (today h).1; omega)
theorem fold_bd {F : Nat → Int64 → Int64} {B : Int} {hi : Nat} (hF : ∀ k s, k < hi → 0 ≤ s.toInt → s.toInt ≤ B → 0 ≤ (F k s).toInt ∧ (F k s).toInt ≤ B) : ∀ n a s, a + n ≤ hi → 0 ≤ s.toInt → s.toInt ≤ B → 0 ≤ (foldN F n a s).toInt ∧ (foldN F n a s).toInt ≤ B := by
  intro n
  induction n with
  | zero => intro a s _ h1 h2; exact ⟨h1, h2⟩
  | succ n ih => intro a s h h1 h2; rw [foldN_s]; have q := hF a s (by omega) h1 h2; exact ih _ _ (by omega) q.1 q.2
theorem fold_id {α : Type} {F : Nat → α → α} {lo hi : Nat} (hF : ∀ k s, lo ≤ k → k < hi → F k s = s) : ∀ n a s, lo ≤ a → a + n ≤ hi → foldN F n a s = s := by
  intro n
  induction n with
  | zero => intros; rfl
  | succ n ih => intro a s h1 h2; rw [foldN_s, hF a s h1 (by omega)]; exact ih _ _ (by omega) (by omega)
theorem fade_eq {n : Nat} {σ μ : St} (h : Rel n σ μ) {p : Int32} (hp : vp_in p 16) : m_fade μ p = c_fade σ (nx p) := by
  obtain ⟨t1, t2, t3⟩ := today h
  have e1 : nx (m_first μ) = nx (σ 40 0) - 28 := by rw [mfirst_nx (by rw [t3]; exact h.2.2.1.2.2.2.2.2), t3]
  unfold m_fade c_fade
  rw [e1, t3, first_nx h (show ¬ (28 : Int32) < 0 by decide), show nx (28 : Int32) = 28 by decide]
  refine foldN_congr (hi := nx (σ 40 0)) (fun k s hk => ?_) _ _ _ (by omega)
  unfold m_fadeF c_fadeF
  rw [used_eq h hp (d := nI k) (vp_in_nI (by omega) (by decide)), nxnI (by omega), closed_eq h (by omega), isOpen_nI (by omega)]
  by_cases q : σ 33 k = 0
  · rw [if_pos q, if_pos q, if_neg (by decide)]
  · rw [if_neg q, if_neg q, if_pos rfl]
theorem fade_bd {n : Nat} {σ μ : St} (h : Rel n σ μ) (hn : n ≤ 512) {i : Nat} (hi : i < 16) : 0 ≤ (c_fade σ i).toInt ∧ (c_fade σ i).toInt ≤ 51200000000 := by
  obtain ⟨t1, t2, t3⟩ := today h
  unfold c_fade
  rw [first_nx h (show ¬ (28 : Int32) < 0 by decide), show nx (28 : Int32) = 28 by decide]
  refine fold_bd (hi := nx (σ 40 0)) (fun k s hk h1 h2 => ?_) _ _ _ (by omega) (by decide) (by decide)
  unfold c_fadeF
  rw [nxnI (by omega), isOpen_nI (by omega)]
  by_cases q : σ 33 k = 0
  · have u0 := ((h.2.1 i hi).1 k (by omega)).2
    have u1 : (σ (100 + i) k).toInt ≤ 51200000 := Int.le_trans (tot_one (f := Uf σ i) (fun j hj => Uf_0 h hi hj) (by omega)) (U_tot h hn hi)
    have z7 : (7 : Int64).toInt = 7 := by decide
    have z8 : (8 : Int64).toInt = 8 := by decide
    have zk : (1000 : Int64).toInt = 1000 := by decide
    have m1 := l_mul (x := 7) (y := s) (by rw [z7]; omega) (by rw [z7]; omega)
    have m2 := l_mul (x := 1000) (y := (σ (100 + i) k).toInt64) (by rw [zk, i_l]; omega) (by rw [zk, i_l]; omega)
    rw [z7] at m1; rw [zk, i_l] at m2
    have m3 := l_add (x := 7 * s) (y := 1000 * (σ (100 + i) k).toInt64) (by omega) (by omega)
    have m4 := l_div (x := 7 * s + 1000 * (σ (100 + i) k).toInt64) (y := 8) (by omega) (by rw [z8]; decide)
    rw [if_pos q, if_neg (by decide), m4, m3, m1, m2, z8]
    omega
  · rw [if_neg q, if_pos rfl]; exact ⟨h1, h2⟩
theorem fade_0 {n : Nat} {σ μ : St} (h : Rel n σ μ) {i : Nat} (ho : c_openDays σ 28 = 0) : c_fade σ i = 0 := by
  obtain ⟨t1, t2, t3⟩ := today h
  have a := od_c h (m := 28) (by decide)
  rw [ho, z_0, show nx (28 : Int32) = 28 by decide] at a
  unfold c_fade
  rw [first_nx h (show ¬ (28 : Int32) < 0 by decide), show nx (28 : Int32) = 28 by decide]
  refine fold_id (lo := nx (σ 40 0) - 28) (hi := nx (σ 40 0)) (fun k s h1 h2 => ?_) _ _ _ (by omega) (by omega)
  have q : ¬ σ 33 k = 0 := fun q => by
    have b1 := tot_mono (f := Of σ) (n := nx (σ 40 0) - 28) k h1 (fun j _ => Of_0 σ j)
    have b2 := tot_mono (f := Of σ) (n := k + 1) (nx (σ 40 0)) h2 (fun j _ => Of_0 σ j)
    have b3 : Of σ k = 1 := if_pos q
    rw [tot_s] at b2; omega
  unfold c_fadeF
  rw [isOpen_nI (by omega), if_neg q, if_pos rfl]
