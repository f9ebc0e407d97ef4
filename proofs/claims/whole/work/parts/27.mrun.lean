/-! the reference's run: its loops end, its indices stay inside (mine) -/
section
variable {p : Program} {l : Launch} {e : Env} {R : Room} {s : State} {m : MethodId} {args : Array Value} {below : List Frame} {meth : Method} {c : Code} {cells slots : Nat} {Q : State → Prop}
/-- a loop of the reference that is left somewhere: by fuel -/
theorem mm_wh {G : va_G} {cA : Nat → ClassId} {ad : Nat → Nat} {A : Nat → Prop} {H0 : Heap} {nL : Nat} {β : Type} (I : Nat → β → St → Prop) (LV : β → List (Nat × Value)) (out : Nat → β → St → St) (pc px : Nat) (LX : List (Nat × Value))
    (step : ∀ (j : Nat) (b : β) (σ : St) (H : Heap) (locs : List Loc), I (j + 1) b σ → va_P G vwCl (mmL cA ad σ) H → va_S A H0 H locs →
      (∀ (H : Heap) (locs : List Loc) (ls : Array Slot), va_P G vwCl (mmL cA ad (out (j + 1) b σ)) H → va_S A H0 H locs → lv_has ls nL LX → W p l e R s m args below meth c H locs cells slots Q (F0 m px ls [])) →
      (∀ (b' : β) (σ' : St) (H : Heap) (locs : List Loc) (ls : Array Slot), I j b' σ' → out j b' σ' = out (j + 1) b σ → va_P G vwCl (mmL cA ad σ') H → va_S A H0 H locs → lv_has ls nL (LV b') → W p l e R s m args below meth c H locs cells slots Q (F0 m pc ls [])) →
      ∀ ls : Array Slot, lv_has ls nL (LV b) → W p l e R s m args below meth c H locs cells slots Q (F0 m pc ls []))
    (i : Nat) (b : β) (σ : St) (H : Heap) (locs : List Loc) (ls : Array Slot) (hI : I i b σ) (hP : va_P G vwCl (mmL cA ad σ) H) (hS : va_S A H0 H locs) (hl : lv_has ls nL (LV b))
    (exit : ∀ (H : Heap) (locs : List Loc) (ls : Array Slot), va_P G vwCl (mmL cA ad (out i b σ)) H → va_S A H0 H locs → lv_has ls nL LX → W p l e R s m args below meth c H locs cells slots Q (F0 m px ls []))
    (hne : ∀ b σ, ¬ I 0 b σ := by intro b σ h; exact Nat.not_lt_zero _ h.2.2) : W p l e R s m args below meth c H locs cells slots Q (F0 m pc ls []) := by
  induction i generalizing b σ H locs ls with
  | zero => exact absurd hI (hne b σ)
  | succ j ih => exact step j b σ H locs hI hP hS exit (fun b' σ' H' locs' ls' hI' ho hP' hS' hl' => ih b' σ' H' locs' ls' hI' hP' hS' hl' (fun H2 locs2 ls2 h1 h2 h3 => exit H2 locs2 ls2 (by rw [← ho]; exact h1) h2 h3)) ls hl
end
theorem nar_ite {q : Prop} [Decidable q] : vp_nar .boolean (if q then (1 : Int32) else 0) = (if q then (1 : Int32) else 0) := by
  by_cases h : q
  · rw [if_pos h]; decide
  · rw [if_neg h]; decide
theorem mlt {x : Int32} (h : ¬ 30 ≤ x) : x < 30 := by
  rw [Int32.le_iff_toInt_le] at h
  rw [Int32.lt_iff_toInt_lt]
  omega
theorem nextF_in {σ : St} {k : Nat} (hk : k < 16) {a : Int32} (h : a = -1 ∨ vp_in a 16) : m_nextF σ k a = -1 ∨ vp_in (m_nextF σ k a) 16 := by
  unfold m_nextF
  split
  · exact h
  · split
    · exact Or.inr (nI_in16 hk)
    · split
      · exact h
      · exact Or.inr (nI_in16 hk)
theorem nextB_gone {σ : St} {k : Nat} (h : ¬ m_nextB σ k = 0) : σ 32 (nx (nI k)) = 0 := by
  unfold m_nextB at h
  by_cases h1 : σ 6 (nx (nI k)) = 0
  · rw [if_pos h1] at h; exact absurd rfl h
  · rw [if_neg h1] at h
    by_cases h2 : σ 32 (nx (nI k)) = 0
    · exact h2
    · rw [if_neg h2] at h; exact absurd rfl h
theorem next_in (σ : St) : m_next σ = -1 ∨ (vp_in (m_next σ) 16 ∧ σ 32 (nx (m_next σ)) = 0) := by
  unfold m_next
  refine foldN_inv (f := m_nextF σ) (fun b => b = -1 ∨ (vp_in b 16 ∧ σ 32 (nx b) = 0)) (fun k a hk h => ?_) 16 0 (-1) (by decide) (Or.inl rfl)
  unfold m_nextF
  by_cases hb : m_nextB σ k = 0
  · rw [if_pos hb]; exact h
  · rw [if_neg hb]
    split
    · exact Or.inr ⟨nI_in16 hk, nextB_gone hb⟩
    · split
      · exact h
      · exact Or.inr ⟨nI_in16 hk, nextB_gone hb⟩
theorem m_r_0 : m_r 0 = 15 := by decide
theorem m_r_1 {k : Nat} : m_r k + Int32.ofInt (-1) = m_r (k + 1) := by
  unfold m_r
  rw [← nI_1 k, ← Int32.sub_sub]
  exact dec_1 _
theorem m_r_eq {k : Nat} (hk : k < 16) : m_r k = nI (15 - k) := pk_sub (a := 15) (b := k) (by omega)
theorem m_r_in {k : Nat} (hk : k < 16) : vp_in (m_r k) 16 := by
  rw [m_r_eq hk]; exact nI_in16 (by omega)
theorem resP_in {σ : St} {f : Int32} : ((m_resP σ f).1 = -1 ∨ vp_in (m_resP σ f).1 16) ∧ ((m_resP σ f).2 = -1 ∨ vp_in (m_resP σ f).2 16) := by
  unfold m_resP
  refine foldN_inv (f := m_resF σ f) (fun b => (b.1 = -1 ∨ vp_in b.1 16) ∧ (b.2 = -1 ∨ vp_in b.2 16)) (fun k a hk h => ?_) 16 0 (-1, -1) (by decide) ⟨Or.inl rfl, Or.inl rfl⟩
  refine ⟨?_, ?_⟩
  · show m_resN σ f k a.1 = -1 ∨ vp_in (m_resN σ f k a.1) 16
    unfold m_resN
    split
    · exact h.1
    · split
      · exact Or.inr (m_r_in hk)
      · exact h.1
  · show m_resE σ f k a.2 = -1 ∨ vp_in (m_resE σ f k a.2) 16
    unfold m_resE
    split
    · exact h.2
    · exact Or.inr (m_r_in hk)
theorem reserve_in {σ : St} {f : Int32} : m_reserve σ f = -1 ∨ vp_in (m_reserve σ f) 16 := by
  unfold m_reserve
  split
  · exact resP_in.2
  · exact resP_in.1
theorem minv_24 {σ : St} {j : Nat} {v : Int32} (h : MInv σ) (hv : vp_in v 16) : MInv (up σ 24 j v) := by
  obtain ⟨h1, h2, h3, h4, h5, h6, h7, h8⟩ := h
  unfold MInv
  simp only [up_row (show (18 : Nat) ≠ 24 by decide), up_row (show (2 : Nat) ≠ 24 by decide), up_row (show (7 : Nat) ≠ 24 by decide), up_row (show (10 : Nat) ≠ 24 by decide), up_row (show (17 : Nat) ≠ 24 by decide), up_row (show (19 : Nat) ≠ 24 by decide), up_row (show (23 : Nat) ≠ 24 by decide), up_row (show (25 : Nat) ≠ 24 by decide)]
  refine ⟨h1, h2, h3, h4, h5, h6, h7, fun k hk => ⟨?_, (h8 k hk).2⟩⟩
  by_cases q : k = j
  · rw [q, up_eq]; exact hv
  · rw [up_ix q]; exact (h8 k hk).1
theorem minv_25 {σ : St} {j : Nat} {v : Int32} (h : MInv σ) (hv : vp_in v 16) : MInv (up σ 25 j v) := by
  obtain ⟨h1, h2, h3, h4, h5, h6, h7, h8⟩ := h
  unfold MInv
  simp only [up_row (show (18 : Nat) ≠ 25 by decide), up_row (show (2 : Nat) ≠ 25 by decide), up_row (show (7 : Nat) ≠ 25 by decide), up_row (show (10 : Nat) ≠ 25 by decide), up_row (show (17 : Nat) ≠ 25 by decide), up_row (show (19 : Nat) ≠ 25 by decide), up_row (show (23 : Nat) ≠ 25 by decide), up_row (show (24 : Nat) ≠ 25 by decide)]
  refine ⟨h1, h2, h3, h4, h5, h6, h7, fun k hk => ⟨(h8 k hk).1, ?_⟩⟩
  by_cases q : k = j
  · rw [q, up_eq]; exact hv
  · rw [up_ix q]; exact (h8 k hk).2
theorem minv_23 {σ : St} {v : Int32} (h : MInv σ) (hv : ¬ v < 0 ∧ nx v ≤ 30) : MInv (up σ 23 0 v) := by
  obtain ⟨h1, h2, h3, h4, h5, h6, h7, h8⟩ := h
  unfold MInv
  simp only [up_row (show (18 : Nat) ≠ 23 by decide), up_row (show (2 : Nat) ≠ 23 by decide), up_row (show (7 : Nat) ≠ 23 by decide), up_row (show (10 : Nat) ≠ 23 by decide), up_row (show (17 : Nat) ≠ 23 by decide), up_row (show (19 : Nat) ≠ 23 by decide), up_row (show (24 : Nat) ≠ 23 by decide), up_row (show (25 : Nat) ≠ 23 by decide), up_eq]
  exact ⟨h1, h2, h3, h4, h5, h6, hv, h8⟩
theorem mv1_in {σ : St} (h : MInv σ) (h0 : ¬ σ 23 0 = 0) : vp_in (σ 23 0 - 1) 30 := by
  obtain ⟨h1, h2⟩ := minv_mc h
  have e := nx_toInt h1
  have hz : ¬ (σ 23 0).toInt = 0 := fun q => h0 (Int32.toInt_inj.mp q)
  rw [vp_in_iff, sub_toInt h1 (by decide)]
  have : (1 : Int32).toInt = 1 := rfl
  omega
theorem p4_row {σ : St} {p f n : Int32} {r : Nat} (h : r ≠ 31 ∧ r ≠ 24 ∧ r ≠ 25 ∧ r ≠ 26) : m_p4 σ p f n r = σ r := by
  unfold m_p4
  rw [up_row h.2.2.2, up_row h.2.2.1, up_row h.2.1, up_row h.1]
theorem p7_row {σ : St} {p f n : Int32} {r : Nat} (h : r ≠ 31 ∧ r ≠ 24 ∧ r ≠ 25 ∧ r ≠ 26) (h2 : r ≠ 27 ∧ r ≠ 29 ∧ r ≠ 30) : m_p7 σ p f n r = σ r := by
  unfold m_p7
  rw [up_row h2.2.2, up_row h2.2.1, up_row h2.1, p4_row h]
theorem p8_row {σ : St} {p : Int32} {r : Nat} (h : r ≠ 28) : m_p8 σ p r = σ r := by
  unfold m_p8
  split <;> rw [up_row h]
theorem plan_row {σ : St} {p f n : Int32} {r : Nat} (h : r ≠ 31 ∧ r ≠ 24 ∧ r ≠ 25 ∧ r ≠ 26) (h2 : r ≠ 27 ∧ r ≠ 29 ∧ r ≠ 30) (h3 : r ≠ 28 ∧ r ≠ 23) : m_plan σ p f n r = σ r := by
  unfold m_plan
  rw [up_row h3.2, p8_row h3.1, p7_row h h2]
theorem plan_23 {σ : St} {p f n : Int32} : m_plan σ p f n 23 0 = σ 23 0 + 1 := by
  unfold m_plan
  rw [up_eq, p8_row (by decide), p7_row (by decide) (by decide)]
theorem minv_p4 {σ : St} {p f n : Int32} (h : MInv σ) (hp : vp_in p 16) (hf : vp_in f 16) : MInv (m_p4 σ p f n) := minv_up (by decide) (minv_25 (minv_24 (minv_up (by decide) h) hp) hf)
theorem minv_p7 {σ : St} {p f n : Int32} (h : MInv σ) (hp : vp_in p 16) (hf : vp_in f 16) : MInv (m_p7 σ p f n) := minv_up (by decide) (minv_up (by decide) (minv_up (by decide) (minv_p4 h hp hf)))
theorem minv_p8 {σ : St} {p : Int32} (h : MInv σ) : MInv (m_p8 σ p) := by
  unfold m_p8
  split
  · exact minv_up (by decide) h
  · exact minv_up (by decide) h
theorem minv_plan {σ : St} {p f n : Int32} (h : MInv σ) (hp : vp_in p 16) (hf : vp_in f 16) (hm : σ 23 0 < 30) : MInv (m_plan σ p f n) := by
  unfold m_plan
  refine minv_23 (minv_p8 (minv_p7 h hp hf)) ?_
  rw [p8_row (by decide), p7_row (by decide) (by decide)]
  exact cnt_up (minv_mc h).1 hm
theorem plan_fuel {σ τ : St} {p f n : Int32} {j : Nat} (h : MInv σ) (hm : σ 23 0 < 30) (e : τ = m_plan σ p f n) (hf : 30 - nx (σ 23 0) < j + 1) : 30 - nx (τ 23 0) < j := by
  rw [e, plan_23]
  obtain ⟨h1, h2⟩ := minv_mc h
  have h3 := vp_lt (lt30_in h1 hm)
  have e2 := nI_nx h1
  generalize nx (σ 23 0) = a at e2 h3 hf
  rw [← e2, nI_1]
  show 30 - (nI (a + 1)).toNatClampNeg < j
  rw [nI_clamp (by omega)]
  omega
theorem outer_out1 {i : Nat} {f : Int32} {σ : St} (h : f = -1) : m_outer i f σ = σ := by
  cases i with
  | zero => rfl
  | succ j => rw [m_outer, if_pos h]
theorem outer_out2 {i : Nat} {f : Int32} {σ : St} (h : 30 ≤ σ 23 0) : m_outer i f σ = σ := by
  cases i with
  | zero => rfl
  | succ j =>
    rw [m_outer]
    by_cases q : f = -1
    · rw [if_pos q]
    · rw [if_neg q, if_pos h]
theorem outer_step {i : Nat} {f : Int32} {σ : St} (h1 : ¬ f = -1) (h2 : ¬ 30 ≤ σ 23 0) : m_outer (i + 1) f σ = m_outer i (m_next (m_serve σ f)) (m_serve σ f) := by
  rw [m_outer, if_neg h1, if_neg h2]
theorem inner_out1 {f n p : Int32} {i : Nat} {σ : St} (h : n ≤ 0) : m_inner f i n p σ = σ := by
  cases i with
  | zero => rfl
  | succ j => rw [m_inner, if_pos h]
theorem inner_out2 {f n p : Int32} {i : Nat} {σ : St} (h : p = -1) : m_inner f i n p σ = σ := by
  cases i with
  | zero => rfl
  | succ j =>
    rw [m_inner]
    by_cases q : n ≤ 0
    · rw [if_pos q]
    · rw [if_neg q, if_pos h]
theorem inner_out3 {f n p : Int32} {i : Nat} {σ : St} (h : 30 ≤ σ 23 0) : m_inner f i n p σ = σ := by
  cases i with
  | zero => rfl
  | succ j =>
    rw [m_inner]
    by_cases q : n ≤ 0
    · rw [if_pos q]
    · rw [if_neg q]
      by_cases q2 : p = -1
      · rw [if_pos q2]
      · rw [if_neg q2, if_pos h]
theorem inner_step {f n p : Int32} {i : Nat} {σ : St} (h1 : ¬ n ≤ 0) (h2 : ¬ p = -1) (h3 : ¬ 30 ≤ σ 23 0) : m_inner f (i + 1) n p σ = m_inner f i (n - m_tk σ p n) (m_reserve (m_plan σ p f (m_tk σ p n)) f) (m_plan σ p f (m_tk σ p n)) := by
  rw [m_inner, if_neg h1, if_neg h2, if_neg h3]
/-- what the inner loop keeps, it keeps to its end -/
theorem inner_keep (I : St → Prop) {f : Int32} (hs : ∀ σ p n, I σ → vp_in p 16 → σ 23 0 < 30 → I (m_plan σ p f n)) : ∀ (i : Nat) (n p : Int32) (σ : St), (p = -1 ∨ vp_in p 16) → I σ → I (m_inner f i n p σ) := by
  intro i
  induction i with
  | zero => intro n p σ _ h; exact h
  | succ i ih =>
    intro n p σ hp h
    by_cases h1 : n ≤ 0
    · rw [inner_out1 h1]; exact h
    · by_cases h2 : p = -1
      · rw [inner_out2 h2]; exact h
      · by_cases h3 : 30 ≤ σ 23 0
        · rw [inner_out3 h3]; exact h
        · rw [inner_step h1 h2 h3]
          exact ih _ _ _ reserve_in (hs σ p _ h (hp.resolve_left h2) (mlt h3))
theorem minv_serve {σ : St} {f : Int32} (h : MInv σ) (hf : vp_in f 16) : MInv (m_serve σ f) := by
  unfold m_serve
  exact inner_keep MInv (fun σ p n h hp hm => minv_plan h hp hf hm) 31 _ _ _ reserve_in (minv_up (by decide) h)
theorem serve_32 {σ : St} {f : Int32} : m_serve σ f 32 = up σ 32 (nx f) 1 32 := by
  unfold m_serve
  exact inner_keep (fun τ => τ 32 = up σ 32 (nx f) 1 32) (fun τ p n h _ _ => by rw [plan_row (by decide) (by decide) (by decide)]; exact h) 31 _ _ _ reserve_in rfl
/-- how many places aren't gone -/
def m_og (σ : St) : Nat := (List.range 16).countP (fun k => decide (σ 32 k = 0))
theorem og_le {σ : St} : m_og σ ≤ 16 := by
  unfold m_og
  exact Nat.le_trans List.countP_le_length (by simp)
theorem countP_lt {α : Type} {p q : α → Bool} : ∀ (l : List α), (∀ x, q x = true → p x = true) → (∃ x ∈ l, p x = true ∧ q x = false) → l.countP q < l.countP p := by
  intro l
  induction l with
  | nil => intro _ h; obtain ⟨x, hx, _⟩ := h; cases hx
  | cons y l ih =>
    intro hm hx
    have hle : l.countP q ≤ l.countP p := List.countP_mono_left fun x _ => hm x
    obtain ⟨x, hx, h1, h2⟩ := hx
    rw [List.countP_cons, List.countP_cons]
    rcases List.mem_cons.mp hx with rfl | hx
    · rw [h1, h2]; simp; omega
    · have := ih hm ⟨x, hx, h1, h2⟩
      by_cases hq : q y = true
      · rw [hq, hm y hq]; simp; omega
      · rw [Bool.not_eq_true] at hq
        rw [hq]
        have : (if false = true then 1 else 0) = 0 := rfl
        omega
theorem og_serve {σ : St} {f : Int32} (hf : vp_in f 16) (h : σ 32 (nx f) = 0) : m_og (m_serve σ f) < m_og σ := by
  unfold m_og
  rw [serve_32]
  refine countP_lt _ (fun k hk => ?_) ⟨nx f, List.mem_range.mpr (vp_lt hf), ?_, ?_⟩
  · have hk := of_decide_eq_true hk
    by_cases q : k = nx f
    · rw [q]; exact decide_eq_true h
    · rw [up_ix q] at hk; exact decide_eq_true hk
  · exact decide_eq_true h
  · rw [up_eq]; decide
theorem mvi_in {σ : St} (hI : MInv σ) {i : Int32} (h : ¬ m_in i 0 (σ 23 0 - 1) = 0) : vp_in i 30 := by
  obtain ⟨h1, h2⟩ := in_0 h
  obtain ⟨p1, p2⟩ := minv_mc hI
  have e := nx_toInt p1
  have e1 : ¬ i.toInt < 0 := fun q => h1 (Int32.lt_iff_toInt_lt.mpr (by simpa using q))
  have e2 := Int32.le_iff_toInt_le.mp h2
  rw [sub_toInt p1 (by decide)] at e2
  have : (1 : Int32).toInt = 1 := rfl
  rw [vp_in_iff]
  omega
theorem moveT_0 {σ : St} {i w : Int32} (h : m_moveT σ i w ≤ 0) : ¬ m_in i 0 (σ 23 0 - 1) = 0 ∧ ¬ m_in w 0 6 = 0 := by
  have h1 : ¬ m_in i 0 (σ 23 0 - 1) = 0 := fun q => by rw [m_moveT, if_pos q] at h; exact absurd h (by decide)
  exact ⟨h1, fun q => by rw [m_moveT, if_neg h1, if_pos q] at h; exact absurd h (by decide)⟩
theorem moveT_in {σ : St} (hI : MInv σ) {i w : Int32} (h : m_moveT σ i w ≤ 0) : vp_in i 30 := mvi_in hI (moveT_0 h).1
theorem toldT_in {p w : Int32} (h : m_toldT p w ≤ 0) : vp_in p 16 := isP fun q => by rw [m_toldT, if_pos q] at h; exact absurd h (by decide)
