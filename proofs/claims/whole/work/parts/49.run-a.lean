/-! run, class and reference side by side (1): the next reserve, the next face -/
theorem foldN_add {α : Type} (f : Nat → α → α) : ∀ m n k a, foldN f (m + n) k a = foldN f n (k + m) (foldN f m k a) := by
  intro m
  induction m with
  | zero => intro n k a; rw [Nat.zero_add]; rfl
  | succ m ih => intro n k a; rw [show m + 1 + n = (m + n) + 1 by omega, foldN_s, ih, foldN_s]; rw [show k + 1 + m = k + (m + 1) by omega]
theorem foldN_snoc {α : Type} (f : Nat → α → α) (n k : Nat) (a : α) : foldN f (n + 1) k a = f (k + n) (foldN f n k a) := by rw [foldN_add f n 1 k a]; rfl
theorem fold_pair {α β : Type} (f : Nat → α → α) (g : Nat → β → β) : ∀ n k a b, foldN (fun k (x : α × β) => (f k x.1, g k x.2)) n k (a, b) = (foldN f n k a, foldN g n k b) := by
  intro n
  induction n with
  | zero => intros; rfl
  | succ n ih => intro k a b; rw [foldN_s, foldN_s, foldN_s]; exact ih _ _ _
/-- a fold downwards whose last hit wins: the least hit -/
theorem least_hit {C : Nat → Prop} {g : Nat → Int32 → Int32} (h1 : ∀ k a, k < 16 → C (15 - k) → g k a = nI (15 - k)) (h0 : ∀ k a, k < 16 → ¬ C (15 - k) → g k a = a) (a : Int32) : (∀ k, k < 16 → C k → (∀ j, j < k → ¬ C j) → foldN g 16 0 a = nI k) ∧ ((∀ j, j < 16 → ¬ C j) → foldN g 16 0 a = a) := by
  constructor
  · intro k hk hc hj
    have e : 16 = (15 - k + 1) + k := by omega
    have e2 : foldN g 16 0 a = foldN g ((15 - k + 1) + k) 0 a := by rw [← e]
    rw [e2, foldN_add, foldN_snoc, h1 (0 + (15 - k)) _ (by omega) (by rw [show 15 - (0 + (15 - k)) = k by omega]; exact hc)]
    rw [fold_id (lo := 15 - k + 1) (hi := 16) (fun i s l1 l2 => h0 i s l2 (hj _ (by omega))) _ _ _ (by omega) (by omega)]
    rw [show 15 - (0 + (15 - k)) = k by omega]
  · intro hj
    exact fold_id (lo := 0) (hi := 16) (fun i s l1 l2 => h0 i s l2 (hj _ (by omega))) _ _ _ (by omega) (by omega)
theorem m_r_2 {k : Nat} (hk : k < 16) : m_r k = nI (15 - k) ∧ nx (m_r k) = 15 - k := by
  have e : m_r k = nI (15 - k) := by
    unfold m_r
    rw [show (15 : Int32) = nI 15 from rfl, pk_sub (by omega)]
  exact ⟨e, by rw [e]; exact nxnI (by omega)⟩
/-- place j may serve face b -/
def rsv (μ : St) (b j : Nat) : Prop := μ 6 j = 0 ∧ μ 4 j = μ 7 b ∧ ¬ m_left μ (nI j) ≤ 0
def near (μ : St) (b j : Nat) : Prop := μ 2 j = μ 2 b
theorem resB_iff {μ : St} {b k : Nat} (hb : b < 16) (hk : k < 16) : (rsv μ b (15 - k) → m_resB μ (nI b) k = 1) ∧ (¬ rsv μ b (15 - k) → m_resB μ (nI b) k = 0) := by
  obtain ⟨e1, e2⟩ := m_r_2 hk
  unfold m_resB rsv
  rw [e2, e1, nxnI (show b < 2 ^ 31 by omega)]
  constructor
  · rintro ⟨a, b, c⟩; rw [if_pos a, if_pos b, if_neg c]
  · intro h
    by_cases q1 : μ 6 (15 - k) = 0
    · by_cases q2 : μ 4 (15 - k) = μ 7 b
      · by_cases q3 : m_left μ (nI (15 - k)) ≤ 0
        · rw [if_pos q1, if_pos q2, if_pos q3]
        · exact absurd ⟨q1, q2, q3⟩ h
      · rw [if_pos q1, if_neg q2]
    · rw [if_neg q1]
theorem resP_eq (μ : St) (f : Int32) : m_resP μ f = (foldN (m_resN μ f) 16 0 (-1), foldN (m_resE μ f) 16 0 (-1)) := fold_pair (m_resN μ f) (m_resE μ f) 16 0 (-1) (-1)
theorem nI_m1 {k : Nat} (hk : k < 16) : ¬ nI k = -1 := fun q => by
  have := i_eq.mp q
  rw [nI_toInt (by omega), z_m] at this; omega
theorem resN_w {μ : St} {b : Nat} (hb : b < 16) : (∀ k, k < 16 → (rsv μ b k ∧ near μ b k) → (∀ j, j < k → ¬ (rsv μ b j ∧ near μ b j)) → foldN (m_resN μ (nI b)) 16 0 (-1) = nI k) ∧ ((∀ j, j < 16 → ¬ (rsv μ b j ∧ near μ b j)) → foldN (m_resN μ (nI b)) 16 0 (-1) = -1) := by
  refine least_hit (C := fun j => rsv μ b j ∧ near μ b j) (fun k a hk c => ?_) (fun k a hk c => ?_) (-1)
  · unfold m_resN
    rw [(resB_iff hb hk).1 c.1, if_neg (by decide), (m_r_2 hk).2, nxnI (show b < 2 ^ 31 by omega), if_pos (show μ 2 (15 - k) = μ 2 b from c.2), (m_r_2 hk).1]
  · unfold m_resN
    by_cases q : rsv μ b (15 - k)
    · rw [(resB_iff hb hk).1 q, if_neg (by decide), (m_r_2 hk).2, nxnI (show b < 2 ^ 31 by omega), if_neg (show ¬ μ 2 (15 - k) = μ 2 b from fun z => c ⟨q, z⟩)]
    · rw [(resB_iff hb hk).2 q, if_pos rfl]
theorem resE_w {μ : St} {b : Nat} (hb : b < 16) : (∀ k, k < 16 → rsv μ b k → (∀ j, j < k → ¬ rsv μ b j) → foldN (m_resE μ (nI b)) 16 0 (-1) = nI k) ∧ ((∀ j, j < 16 → ¬ rsv μ b j) → foldN (m_resE μ (nI b)) 16 0 (-1) = -1) := by
  refine least_hit (C := fun j => rsv μ b j) (fun k a hk c => ?_) (fun k a hk c => ?_) (-1)
  · unfold m_resE
    rw [(resB_iff hb hk).1 c, if_neg (by decide), (m_r_2 hk).1]
  · unfold m_resE
    rw [(resB_iff hb hk).2 c, if_pos rfl]
theorem res_near {μ : St} {b k : Nat} (hb : b < 16) (hk : k < 16) (h : rsv μ b k) (hn : near μ b k) (hj : ∀ j, j < k → near μ b j → ¬ rsv μ b j) : m_reserve μ (nI b) = nI k := by
  unfold m_reserve
  rw [resP_eq]
  simp only
  rw [(resN_w hb).1 k hk ⟨h, hn⟩ (fun j l c => hj j l c.2 c.1), if_neg (nI_m1 hk)]
theorem res_far {μ : St} {b k : Nat} (hb : b < 16) (hk : k < 16) (h : rsv μ b k) (hn : ∀ j, j < 16 → near μ b j → ¬ rsv μ b j) (hj : ∀ j, j < k → ¬ rsv μ b j) : m_reserve μ (nI b) = nI k := by
  unfold m_reserve
  rw [resP_eq]
  simp only
  rw [(resN_w hb).2 (fun j l c => hn j l c.2 c.1), if_pos rfl, (resE_w hb).1 k hk h hj]
theorem res_none {μ : St} {b : Nat} (hb : b < 16) (hj : ∀ j, j < 16 → ¬ rsv μ b j) : m_reserve μ (nI b) = -1 := by
  unfold m_reserve
  rw [resP_eq]
  simp only
  rw [(resN_w hb).2 (fun j l c => hj j l c.1), if_pos rfl, (resE_w hb).2 hj]
/-- the rows that a run leaves alone -/
def rho (μ : St) : St := fun r j => bif (r == 0 || Nat.ble 23 r) then 0 else μ r j
theorem miss_rho (μ : St) (p : Int32) : m_missing μ p = m_missing (rho μ) p := rfl
theorem time_rho (μ : St) (p : Int32) : m_needTime μ p = m_needTime (rho μ) p := rfl
theorem rho_eq {μ ν : St} (h : ∀ r, r ≠ 0 → r < 23 → ν r = μ r) : rho ν = rho μ := by
  funext r j
  unfold rho
  by_cases q : (r == 0 || Nat.ble 23 r) = true
  · rw [q]; rfl
  · have q1 : ¬ r = 0 := fun z => q (by rw [z]; rfl)
    have q2 : ¬ 23 ≤ r := fun z => q (by rw [Nat.ble_eq_true_of_le z, Bool.or_true])
    rw [Bool.not_eq_true] at q
    rw [q, h r q1 (by omega)]
theorem miss_st {μ ν : St} (h : ∀ r, r ≠ 0 → r < 23 → ν r = μ r) (p : Int32) : m_missing ν p = m_missing μ p ∧ m_needTime ν p = m_needTime μ p :=
  ⟨by rw [miss_rho ν, miss_rho μ, rho_eq h], by rw [time_rho ν, time_rho μ, rho_eq h]⟩
