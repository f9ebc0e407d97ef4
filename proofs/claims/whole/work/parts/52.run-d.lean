/-! run, class and reference side by side (4): the whole run -/
theorem m_inner_end {f : Int32} {i : Nat} {w p : Int32} {μ : St} (h : w ≤ 0 ∨ p = -1 ∨ 30 ≤ μ 23 0) : m_inner f i w p μ = μ := by
  cases i with
  | zero => rfl
  | succ i =>
    rw [m_inner]
    by_cases q1 : w ≤ 0
    · rw [if_pos q1]
    · by_cases q2 : p = -1
      · rw [if_neg q1, if_pos q2]
      · rcases h with h | h | h
        · exact absurd h q1
        · exact absurd h q2
        · rw [if_neg q1, if_neg q2, if_pos h]
/-- before each face -/
def RO (n : Nat) (σ μ : St) : Prop := RK n σ μ ∧ (∀ j, j < 16 → σ 9 j = if μ 32 j = 0 then m_missing μ (nI j) else 0) ∧ ∀ j, j < 16 → ¬ σ 5 j = -1 → σ 10 j = m_needTime μ (nI j)
theorem rel_rows {n : Nat} {σ μ σ' μ' : St} (h : Rel n σ μ) (hs : ∀ r, (r < 8 ∨ 11 ≤ r ∧ r ≠ 43 ∧ r ≠ 44 ∧ r ≠ 45) → σ' r = σ r) (hm : ∀ r, r ≠ 0 → r < 31 → μ' r = μ r) : Rel n σ' μ' := by
  refine ⟨fun i hi => Rp_of (h.1 i hi) (fun r q => by rw [hs r (by omega)]) (fun r q1 q2 => by rw [hm r (by omega) (by omega)]), fun i hi => Ru_of (h.2.1 i hi) (hs _ (by omega)) (hm _ (by omega) (by omega)), Rc_of h.2.2.1 (fun r q1 q2 => hs r (by omega)) (fun r q1 q2 => hm r (by omega) (by omega)), Rw_of h.2.2.2.1 (fun r q1 q2 q3 => hs r (by omega)) (fun r q1 q2 => hm r (by omega) (by omega)), ?_⟩
  have m := h.2.2.2.2
  unfold Rm at m ⊢
  rw [hs 42 (by omega), hs 50 (by omega), hs 51 (by omega), hs 52 (by omega), hs 53 (by omega), hs 54 (by omega), hs 55 (by omega), hs 56 (by omega), hs 5 (by omega), hm 23 (by omega) (by omega), hm 24 (by omega) (by omega), hm 25 (by omega) (by omega), hm 26 (by omega) (by omega), hm 27 (by omega) (by omega), hm 28 (by omega) (by omega), hm 29 (by omega) (by omega), hm 30 (by omega) (by omega)]
  exact m
theorem TR_rows {σ μ σ' μ' : St} (h : TR σ μ) (h43 : σ' 43 = σ 43) (h44 : σ' 44 = σ 44) (h45 : σ' 45 = σ 45) (hm : ∀ r, r ≠ 0 → r < 31 → μ' r = μ r) : TR σ' μ' := by
  have e : ∀ t, m_sizeF μ' t = m_sizeF μ t := fun t => by funext k s; unfold m_sizeF; rw [hm 28 (by omega) (by omega)]
  unfold TR at h ⊢
  simp only [h43, h44, h45, hm 23 (by omega) (by omega), hm 28 (by omega) (by omega), hm 24 (by omega) (by omega), hm 2 (by omega) (by omega), e]
  exact h
theorem serve_eq {n b : Nat} {σ μ : St} (hb : b < 16) (O : RO n σ μ) (hf : ¬ σ 5 b = -1) (hg : μ 32 b = 0) : RO n (c_serve σ b) (m_serve μ (nI b)) ∧ (∀ j, j ≠ b → c_serve σ b 9 j = σ 9 j) ∧ c_serve σ b 9 b = 0 := by
  obtain ⟨H, h9, h10⟩ := O
  have hnb : nx (nI b) = b := nxnI (by omega)
  have er : ∀ r, r ≠ 32 → up μ 32 b 1 r = μ r := fun r c => up_row c
  have H1 : RK n σ (up μ 32 b 1) := ⟨rel_rows H.1 (fun _ _ => rfl) (fun r _ c => er r (by omega)), by rw [er 0 (by omega)]; exact H.2.1, fun j hj => by rw [er 31 (by omega)]; exact H.2.2.1 j hj, TR_rows H.2.2.2 rfl rfl rfl (fun r _ c => er r (by omega))⟩
  have st1 := fun p => miss_st (μ := μ) (ν := up μ 32 b 1) (fun r _ c => er r (by omega)) p
  have S1 : SI n b 31 σ (up μ 32 b 1) := ⟨H1, hf, by rw [(st1 _).2]; exact h10 b hb hf, by omega⟩
  obtain ⟨i2, μ2, x1, S2, F2, A2⟩ := pass_near hb S1
  obtain ⟨i3, μ3, y1, S3, F3, A3⟩ := pass_far hb S2 A2
  have F := FR_trans F2 F3
  have ew : m_missing (up μ 32 b 1) (nI b) = σ 9 b := by rw [(st1 _).1, h9 b hb, if_pos hg]
  have em : m_serve μ (nI b) = μ3 := by
    unfold m_serve
    simp only
    rw [hnb, ew, x1, y1]
    refine m_inner_end ?_
    rcases A3 with a | (a | a)
    · exact .inr (.inl (res_none hb a))
    · exact .inl a
    · refine .inr (.inr ?_)
      rw [← S3.1.1.2.2.2.2.1, i_le]
      rw [i_lt] at a
      omega
  have es : c_serve σ b = up (c_takeFrom (c_takeFrom σ b 1) b 0) 9 b 0 := rfl
  rw [em, es]
  generalize c_takeFrom (c_takeFrom σ b 1) b 0 = σ3 at *
  have eu : ∀ r, r ≠ 9 → up σ3 9 b 0 r = σ3 r := fun r c => up_row c
  have st3 := fun p => miss_st (μ := μ) (ν := μ3) (fun r r0 c => by rw [F.2.2 r (by omega), er r (by omega)]) p
  have e32 : ∀ j, μ3 32 j = up μ 32 b 1 32 j := fun j => by rw [F.2.2 32 (by omega)]
  refine ⟨⟨⟨rel_rows S3.1.1 (fun r c => eu r (by omega)) (fun _ _ _ => rfl), S3.1.2.1, fun j hj => by rw [eu 8 (by decide), eu 2 (by decide), eu 3 (by decide)]; exact S3.1.2.2.1 j hj, TR_rows S3.1.2.2.2 (eu 43 (by decide)) (eu 44 (by decide)) (eu 45 (by decide)) (fun _ _ _ => rfl)⟩, fun j hj => ?_, fun j hj hj5 => ?_⟩, fun j hj => ?_, up_eq⟩
  · rw [e32, (st3 _).1]
    by_cases q : j = b
    · subst q; rw [up_eq, up_eq, if_neg (by decide)]
    · rw [up_ix q, up_ix q, F.1 j q]; exact h9 j hj
  · rw [eu 5 (by decide), F.2.1 5 (by omega)] at hj5
    rw [eu 10 (by decide), F.2.1 10 (by omega), (st3 _).2]; exact h10 j hj hj5
  · rw [up_ix hj, F.1 j hj]
/-- the next face -/
def NX (σ μ : St) (r : Option Nat) (x : Int32) : Prop := (r = none ∧ x = -1) ∨ ∃ j, j < 16 ∧ r = some j ∧ x = nI j ∧ ¬ σ 5 j = -1 ∧ μ 32 j = 0 ∧ ¬ σ 9 j ≤ 0
theorem next_step {n : Nat} {σ μ : St} (O : RO n σ μ) {k : Nat} (hk : k < 16) {r : Option Nat} {x : Int32} (h : NX σ μ r x) : NX σ μ (c_urgF σ k r) (m_nextF μ k x) := by
  obtain ⟨H, h9, h10⟩ := O
  have hnk : nx (nI k) = k := nxnI (by omega)
  have hB : (σ 9 k ≤ 0 ∧ m_nextB μ k = 0) ∨ (¬ σ 9 k ≤ 0 ∧ m_nextB μ k = 1 ∧ ¬ σ 5 k = -1 ∧ μ 32 k = 0) := by
    unfold m_nextB
    rw [hnk, h9 k hk]
    rcases isFace_iff (H.1.1 k hk) with ⟨f1, f2, f3⟩ | ⟨f1, f2, f3, _⟩
    · have e : m_missing μ (nI k) = 0 := by unfold m_missing; rw [hnk, f2, if_pos rfl]
      rw [f2, e, if_pos rfl]
      exact .inl ⟨by split <;> decide, rfl⟩
    · have n10 : ¬ (1 : Int32) = 0 := by decide
      rw [f2]
      simp only [if_neg n10]
      by_cases q : μ 32 k = 0
      · simp only [if_pos q]
        by_cases q2 : m_missing μ (nI k) ≤ 0
        · simp only [if_pos q2]; exact .inl ⟨q2, trivial⟩
        · simp only [if_neg q2]; exact .inr ⟨q2, trivial, f3, q⟩
      · simp only [if_neg q]; exact .inl ⟨by decide, trivial⟩
  unfold c_urgF m_nextF
  rw [hnk]
  rcases hB with ⟨a1, a2⟩ | ⟨a1, a2, a3, a4⟩
  · rw [if_pos a1, a2, if_pos rfl]; exact h
  · rw [if_neg a1, a2, if_neg (by decide)]
    rcases h with ⟨rfl, rfl⟩ | ⟨j, hj, rfl, rfl, j1, j2, j3⟩
    · rw [if_pos rfl]; exact .inr ⟨k, hk, rfl, rfl, a3, a4, a1⟩
    · rw [if_neg (nI_m1 hj), ← h10 j hj j1, ← h10 k hk a3]
      simp only
      by_cases q : σ 10 j ≤ σ 10 k
      · rw [if_pos q, if_pos q]; exact .inr ⟨j, hj, rfl, rfl, j1, j2, j3⟩
      · rw [if_neg q, if_neg q]; exact .inr ⟨k, hk, rfl, rfl, a3, a4, a1⟩
theorem next_eq {n : Nat} {σ μ : St} (O : RO n σ μ) : NX σ μ (c_urgent σ) (m_next μ) := by
  have h : ∀ m k r x, k + m ≤ 16 → NX σ μ r x → NX σ μ (foldN (c_urgF σ) m k r) (foldN (m_nextF μ) m k x) := by
    intro m
    induction m with
    | zero => intro k r x _ h; exact h
    | succ m ih => intro k r x hk h; rw [foldN_s, foldN_s]; exact ih _ _ _ (by omega) (next_step O (by omega) h)
  exact h 16 0 none (-1) (by decide) (.inl ⟨rfl, rfl⟩)
/-- how many still want something -/
def cpos (σ : St) : Nat → Nat
  | 0 => 0
  | n + 1 => cpos σ n + (if σ 9 n ≤ 0 then 0 else 1)
theorem cpos_s (σ : St) (n : Nat) : cpos σ (n + 1) = cpos σ n + (if σ 9 n ≤ 0 then 0 else 1) := rfl
theorem cpos_le (σ : St) : ∀ n, cpos σ n ≤ n := by
  intro n
  induction n with
  | zero => exact Nat.le_refl _
  | succ n ih => rw [cpos_s]; split <;> omega
theorem cpos_dec {σ σ' : St} {b : Nat} (h1 : ∀ j, j ≠ b → σ' 9 j = σ 9 j) (h2 : σ' 9 b = 0) (h3 : ¬ σ 9 b ≤ 0) : ∀ n, cpos σ' n + (if b < n then 1 else 0) = cpos σ n := by
  intro n
  induction n with
  | zero => rfl
  | succ n ih =>
    rw [cpos_s, cpos_s]
    by_cases q : n = b
    · subst q
      rw [h2, if_pos (show (0 : Int32) ≤ 0 by decide), if_neg h3, if_pos (Nat.lt_succ_self _)]
      rw [if_neg (Nat.lt_irrefl _)] at ih; omega
    · rw [h1 n q]
      by_cases q2 : b < n
      · rw [if_pos q2] at ih; rw [if_pos (show b < n + 1 by omega)]; omega
      · rw [if_neg q2] at ih; rw [if_neg (show ¬ b < n + 1 by omega)]; omega
theorem take_full {σ : St} {b : Nat} {z : Int32} (h : ¬ σ 42 0 < 30) : c_takeFrom σ b z = σ := by
  have e : ∀ k, c_takeF b z k σ = σ := fun k => by
    unfold c_takeF
    rw [plan_dn (.inl (.inr h))]
    simp only [ite_self]
  have : ∀ m k, foldN (c_takeF b z) m k σ = σ := by
    intro m
    induction m with
    | zero => intro k; rfl
    | succ m ih => intro k; rw [foldN_s, e]; exact ih _
  exact this 16 0
theorem full_run {n : Nat} {μ : St} : ∀ m k σ, Rel n σ μ → ¬ σ 42 0 < 30 → Rel n (foldN (fun _ σ => c_runF σ) m k σ) μ := by
  intro m
  induction m with
  | zero => intro k σ h _; exact h
  | succ m ih =>
    intro k σ h hc
    rw [foldN_s]
    have e : c_runF σ = σ ∨ ∃ b, c_runF σ = up σ 9 b 0 := by
      unfold c_runF
      cases q : c_urgent σ with
      | none => exact .inl rfl
      | some b =>
        refine .inr ⟨b, ?_⟩
        show c_serve σ b = _
        unfold c_serve
        rw [take_full hc, take_full hc]
    rcases e with e | ⟨b, e⟩
    · rw [e]; exact ih _ _ h hc
    · rw [e]; exact ih _ _ (rel_rows h (fun r c => up_row (by omega)) (fun _ _ _ => rfl)) hc
theorem outer_eq {n : Nat} : ∀ m k σ μ, RO n σ μ → cpos σ 16 ≤ m → Rel n (foldN (fun _ σ => c_runF σ) m k σ) (m_outer (m + 1) (m_next μ) μ) ∧ m_outer (m + 1) (m_next μ) μ 0 0 = 0 := by
  intro m
  induction m with
  | zero =>
    intro k σ μ O hc
    rcases next_eq O with ⟨_, e⟩ | ⟨b, hb, _, _, _, _, b3⟩
    · rw [m_outer, if_pos e]; exact ⟨O.1.1, O.1.2.1⟩
    · exfalso
      have h := cpos_dec (σ := σ) (σ' := up σ 9 b 0) (b := b) (fun j hj => up_ix hj) up_eq b3 16
      rw [if_pos hb] at h; omega
  | succ m ih =>
    intro k σ μ O hc
    rcases next_eq O with ⟨e1, e2⟩ | ⟨b, hb, e1, e2, b1, b2, b3⟩
    · rw [m_outer, if_pos e2, runF_none e1]; exact ⟨O.1.1, O.1.2.1⟩
    · rw [m_outer, e2, if_neg (nI_m1 hb)]
      by_cases q : 30 ≤ μ 23 0
      · rw [if_pos q]
        refine ⟨full_run _ _ _ O.1.1 (fun z => ?_), O.1.2.1⟩
        rw [O.1.1.2.2.2.2.1, i_lt] at z
        rw [i_le] at q
        omega
      · rw [if_neg q, foldN_s]
        have er : c_runF σ = c_serve σ b := by unfold c_runF; rw [e1]
        obtain ⟨s1, s2, s3⟩ := serve_eq hb O b1 b2
        rw [er]
        have h := cpos_dec (σ := σ) (σ' := c_serve σ b) (b := b) s2 s3 b3 16
        rw [if_pos hb] at h
        exact ih (k + 1) (c_serve σ b) (m_serve μ (nI b)) s1 (by omega)
