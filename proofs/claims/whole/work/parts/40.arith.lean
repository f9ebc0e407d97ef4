/-! numbers: the machine's arithmetic where nothing runs over -/
theorem i_add {x y : Int32} (h1 : -2147483648 ≤ x.toInt + y.toInt) (h2 : x.toInt + y.toInt < 2147483648) : (x + y).toInt = x.toInt + y.toInt := by
  rw [Int32.toInt_add]; apply Int.bmod_eq_of_le_mul_two <;> omega
theorem i_sub {x y : Int32} (h1 : -2147483648 ≤ x.toInt - y.toInt) (h2 : x.toInt - y.toInt < 2147483648) : (x - y).toInt = x.toInt - y.toInt := by
  rw [Int32.toInt_sub]; apply Int.bmod_eq_of_le_mul_two <;> omega
theorem i_mul {x y : Int32} (h1 : -2147483648 ≤ x.toInt * y.toInt) (h2 : x.toInt * y.toInt < 2147483648) : (x * y).toInt = x.toInt * y.toInt := by
  rw [Int32.toInt_mul]; generalize x.toInt * y.toInt = z at *; apply Int.bmod_eq_of_le_mul_two <;> omega
theorem i_div {x y : Int32} (hx : 0 ≤ x.toInt) (hy : 0 < y.toInt) : (x / y).toInt = x.toInt / y.toInt := by
  rw [Int32.toInt_div, Int.tdiv_eq_ediv_of_nonneg hx]
  have h1 := Int.ediv_nonneg hx (Int.le_of_lt hy)
  have h2 : x.toInt / y.toInt ≤ x.toInt := Int.ediv_le_self _ hx
  have h3 := x.toInt_lt
  generalize x.toInt / y.toInt = z at *
  apply Int.bmod_eq_of_le_mul_two <;> omega
theorem l_add {x y : Int64} (h1 : -9223372036854775808 ≤ x.toInt + y.toInt) (h2 : x.toInt + y.toInt < 9223372036854775808) : (x + y).toInt = x.toInt + y.toInt := by
  rw [Int64.toInt_add]; apply Int.bmod_eq_of_le_mul_two <;> omega
theorem l_sub {x y : Int64} (h1 : -9223372036854775808 ≤ x.toInt - y.toInt) (h2 : x.toInt - y.toInt < 9223372036854775808) : (x - y).toInt = x.toInt - y.toInt := by
  rw [Int64.toInt_sub]; apply Int.bmod_eq_of_le_mul_two <;> omega
theorem l_mul {x y : Int64} (h1 : -9223372036854775808 ≤ x.toInt * y.toInt) (h2 : x.toInt * y.toInt < 9223372036854775808) : (x * y).toInt = x.toInt * y.toInt := by
  rw [Int64.toInt_mul]; generalize x.toInt * y.toInt = z at *; apply Int.bmod_eq_of_le_mul_two <;> omega
theorem l_div {x y : Int64} (hx : 0 ≤ x.toInt) (hy : 0 < y.toInt) : (x / y).toInt = x.toInt / y.toInt := by
  rw [Int64.toInt_div, Int.tdiv_eq_ediv_of_nonneg hx]
  have h1 := Int.ediv_nonneg hx (Int.le_of_lt hy)
  have h2 : x.toInt / y.toInt ≤ x.toInt := Int.ediv_le_self _ hx
  have h3 := x.toInt_lt
  generalize x.toInt / y.toInt = z at *
  apply Int.bmod_eq_of_le_mul_two <;> omega
theorem l_i {y : Int64} (h1 : -2147483648 ≤ y.toInt) (h2 : y.toInt < 2147483648) : y.toInt32.toInt = y.toInt := by
  rw [Int64.toInt_toInt32]; apply Int.bmod_eq_of_le_mul_two <;> omega
theorem i_l (x : Int32) : x.toInt64.toInt = x.toInt := Int32.toInt_toInt64 x
theorem i_lt {x y : Int32} : x < y ↔ x.toInt < y.toInt := Int32.lt_iff_toInt_lt
theorem i_le {x y : Int32} : x ≤ y ↔ x.toInt ≤ y.toInt := Int32.le_iff_toInt_le
theorem i_eq {x y : Int32} : x = y ↔ x.toInt = y.toInt := Int32.toInt_inj.symm
theorem l_lt {x y : Int64} : x < y ↔ x.toInt < y.toInt := Int64.lt_iff_toInt_lt
theorem l_eq {x y : Int64} : x = y ↔ x.toInt = y.toInt := Int64.toInt_inj.symm
theorem z_0 : (0 : Int32).toInt = 0 := by decide
theorem z_1 : (1 : Int32).toInt = 1 := by decide
theorem z_m : (-1 : Int32).toInt = -1 := by decide
theorem zl_0 : (0 : Int64).toInt = 0 := by decide
theorem zl_1 : (1 : Int64).toInt = 1 := by decide
theorem cmp_le {x y : Int64} : lg_cmp x y ≤ 0 ↔ x.toInt ≤ y.toInt := by
  unfold lg_cmp
  by_cases h : x > y
  · rw [if_pos h]
    have h2 : y.toInt < x.toInt := l_lt.mp h
    exact ⟨fun q => absurd q (by decide), fun q => absurd q (by omega)⟩
  · rw [if_neg h]
    have h2 : ¬ y.toInt < x.toInt := fun q => h (l_lt.mpr q)
    by_cases h3 : x = y
    · rw [if_pos h3]; exact ⟨fun _ => by omega, fun _ => by decide⟩
    · rw [if_neg h3]; exact ⟨fun _ => by omega, fun _ => by decide⟩
theorem cmp_0 {x y : Int64} : lg_cmp x y = 0 ↔ x = y := by
  unfold lg_cmp
  by_cases h : x > y
  · rw [if_pos h]
    exact ⟨fun q => absurd q (by decide), fun q => by subst q; exact absurd (l_lt.mp h) (by omega)⟩
  · rw [if_neg h]
    by_cases h3 : x = y
    · rw [if_pos h3]; exact ⟨fun _ => h3, fun _ => rfl⟩
    · rw [if_neg h3]; exact ⟨fun q => absurd q (by decide), fun q => absurd q h3⟩
theorem cmp_gt {x y : Int64} : 0 < lg_cmp x y ↔ y.toInt < x.toInt := by
  have h := cmp_le (x := x) (y := y)
  have a : 0 < lg_cmp x y ↔ ¬ lg_cmp x y ≤ 0 := by rw [i_lt, i_le]; omega
  rw [a, h]; omega
theorem nx_I {x : Int32} (h : 0 ≤ x.toInt) : (nx x : Int) = x.toInt := (nx_toInt (fun q => by have := i_lt.mp q; rw [z_0] at this; omega)).symm
theorem in_I {x : Int32} {n : Nat} (h : vp_in x n) : 0 ≤ x.toInt ∧ x.toInt < n := vp_in_iff.mp h
theorem I_in {x : Int32} {n : Nat} (h : 0 ≤ x.toInt ∧ x.toInt < n) : vp_in x n := vp_in_iff.mpr h
theorem nI_nx_in {x : Int32} {n : Nat} (h : vp_in x n) : nI (nx x) = x := nI_nx (vp_pos h)
theorem nxnI {k : Nat} (h : k < 2 ^ 31) : nx (nI k) = k := nI_clamp h
theorem foldN_congr {α : Type} {f g : Nat → α → α} {hi : Nat} (h : ∀ k a, k < hi → f k a = g k a) : ∀ n k a, k + n ≤ hi → foldN f n k a = foldN g n k a := by
  intro n
  induction n with
  | zero => intros; rfl
  | succ n ih => intro k a hk; rw [foldN_s, foldN_s, h k a (by omega)]; exact ih _ _ (by omega)
/-- the sum of the first n -/
def tot (f : Nat → Int) : Nat → Int
  | 0 => 0
  | n + 1 => tot f n + f n
theorem tot_s (f : Nat → Int) (n : Nat) : tot f (n + 1) = tot f n + f n := rfl
theorem tot_mono {f : Nat → Int} {n : Nat} : ∀ m, n ≤ m → (∀ j, j < m → 0 ≤ f j) → tot f n ≤ tot f m := by
  intro m
  induction m with
  | zero => intro h _; rw [Nat.le_zero.mp h]; exact Int.le_refl _
  | succ m ih =>
    intro h hf
    by_cases q : n = m + 1
    · rw [q]; exact Int.le_refl _
    · have a := ih (by omega) (fun j hj => hf j (by omega))
      have b := hf m (by omega)
      rw [tot_s]; omega
theorem tot_nn {f : Nat → Int} {n : Nat} (hf : ∀ j, j < n → 0 ≤ f j) : 0 ≤ tot f n := tot_mono (n := 0) n (Nat.zero_le _) hf
theorem tot_congr {f g : Nat → Int} : ∀ n, (∀ j, j < n → f j = g j) → tot f n = tot g n := by
  intro n
  induction n with
  | zero => intro _; rfl
  | succ n ih => intro h; rw [tot_s, tot_s, ih (fun j hj => h j (by omega)), h n (by omega)]
theorem tot_le {f g : Nat → Int} : ∀ n, (∀ j, j < n → f j ≤ g j) → tot f n ≤ tot g n := by
  intro n
  induction n with
  | zero => intro _; exact Int.le_refl _
  | succ n ih => intro h; have a := ih (fun j hj => h j (by omega)); have b := h n (by omega); rw [tot_s, tot_s]; omega
theorem tot_up {f g : Nat → Int} {d : Nat} {v : Int} (hd : g d = f d + v) (ho : ∀ j, j ≠ d → g j = f j) : ∀ n, tot g n = tot f n + (if d < n then v else 0) := by
  intro n
  induction n with
  | zero => simp [tot]
  | succ n ih =>
    rw [tot_s, tot_s, ih]
    by_cases q : n = d
    · subst q; rw [hd, if_neg (Nat.lt_irrefl _), if_pos (Nat.lt_succ_self _)]; omega
    · rw [ho n q]
      by_cases q2 : d < n
      · rw [if_pos q2, if_pos (by omega)]; omega
      · rw [if_neg q2, if_neg (by omega)]; omega
theorem tot_one {f : Nat → Int} {n j : Nat} (hf : ∀ j, j < n → 0 ≤ f j) (hj : j < n) : f j ≤ tot f n := by
  have a := tot_mono (n := j + 1) n hj hf
  have b : 0 ≤ tot f j := tot_nn (fun i hi => hf i (by omega))
  rw [tot_s] at a; omega
theorem asc64 {F : Nat → Int64 → Int64} {f : Nat → Int} {hi : Nat} {B : Int} (hF : ∀ k s, k < hi → 0 ≤ s.toInt → s.toInt + f k ≤ B → (F k s).toInt = s.toInt + f k) (hf : ∀ k, k < hi → 0 ≤ f k) : ∀ n a s, a + n ≤ hi → 0 ≤ s.toInt → s.toInt + (tot f (a + n) - tot f a) ≤ B → (foldN F n a s).toInt = s.toInt + (tot f (a + n) - tot f a) := by
  intro n
  induction n with
  | zero => intro a s _ _ _; rw [foldN_0, Nat.add_zero]; omega
  | succ n ih =>
    intro a s h h0 hB
    have e : a + (n + 1) = a + 1 + n := by omega
    have m1 : tot f (a + 1) ≤ tot f (a + 1 + n) := tot_mono _ (by omega) (fun j hj => hf j (by omega))
    have t1 := tot_s f a
    have p1 := hf a (by omega)
    rw [e] at hB ⊢
    have s1 := hF a s (by omega) h0 (by omega)
    rw [foldN_s, ih (a + 1) (F a s) (by omega) (by omega) (by omega)]
    omega
theorem asc32 {F : Nat → Int32 → Int32} {f : Nat → Int} {hi : Nat} {B : Int} (hF : ∀ k s, k < hi → 0 ≤ s.toInt → s.toInt + f k ≤ B → (F k s).toInt = s.toInt + f k) (hf : ∀ k, k < hi → 0 ≤ f k) : ∀ n a s, a + n ≤ hi → 0 ≤ s.toInt → s.toInt + (tot f (a + n) - tot f a) ≤ B → (foldN F n a s).toInt = s.toInt + (tot f (a + n) - tot f a) := by
  intro n
  induction n with
  | zero => intro a s _ _ _; rw [foldN_0, Nat.add_zero]; omega
  | succ n ih =>
    intro a s h h0 hB
    have e : a + (n + 1) = a + 1 + n := by omega
    have m1 : tot f (a + 1) ≤ tot f (a + 1 + n) := tot_mono _ (by omega) (fun j hj => hf j (by omega))
    have t1 := tot_s f a
    have p1 := hf a (by omega)
    rw [e] at hB ⊢
    have s1 := hF a s (by omega) h0 (by omega)
    rw [foldN_s, ih (a + 1) (F a s) (by omega) (by omega) (by omega)]
    omega
theorem desc32 {F : Nat → Int32 → Int32} {f : Nat → Int} {t : Nat} {B : Int} (hF : ∀ k s, k < t → 0 ≤ s.toInt → s.toInt + f (t - 1 - k) ≤ B → (F k s).toInt = s.toInt + f (t - 1 - k)) (hf : ∀ k, k < t → 0 ≤ f k) : ∀ n k s, k + n ≤ t → 0 ≤ s.toInt → s.toInt + (tot f (t - k) - tot f (t - k - n)) ≤ B → (foldN F n k s).toInt = s.toInt + (tot f (t - k) - tot f (t - k - n)) := by
  intro n
  induction n with
  | zero => intro k s _ _ _; rw [foldN_0, Nat.sub_zero]; omega
  | succ n ih =>
    intro k s h h0 hB
    have e : t - k - (n + 1) = t - (k + 1) - n := by omega
    have m1 : tot f (t - (k + 1) - n) ≤ tot f (t - (k + 1)) := tot_mono _ (by omega) (fun j hj => hf j (by omega))
    have e2 : t - k = (t - 1 - k) + 1 := by omega
    have e3 : t - (k + 1) = t - 1 - k := by omega
    have t1 : tot f (t - k) = tot f (t - (k + 1)) + f (t - 1 - k) := by rw [e2, e3, tot_s]
    have p1 := hf (t - 1 - k) (by omega)
    rw [e] at hB ⊢
    have s1 := hF k s (by omega) h0 (by omega)
    rw [foldN_s, ih (k + 1) (F k s) (by omega) (by omega) (by omega)]
    omega
/-- to divide upwards, two ways -/
theorem div_up {A B : Int} (hA : 0 ≤ A) (hB : 0 < B) : (A + B - 1) / B = A / B + (if A - A / B * B ≤ 0 then 0 else 1) := by
  have h1 := Int.emod_nonneg A (Int.ne_of_gt hB)
  have h2 := Int.emod_lt_of_pos A hB
  have h3 : A = B * (A / B) + A % B := (Int.mul_ediv_add_emod A B).symm
  have h4 : A / B * B = B * (A / B) := Int.mul_comm _ _
  rw [h4]
  generalize hq : A / B = q at *
  generalize A % B = r at *
  have e : A + B - 1 = (r + B - 1) + B * q := by omega
  rw [e, Int.add_mul_ediv_left _ _ (Int.ne_of_gt hB)]
  by_cases z : r = 0
  · rw [if_pos (by omega), Int.ediv_eq_zero_of_lt (by omega) (by omega)]; omega
  · rw [if_neg (by omega)]
    have e5 : (r + B - 1) = (r - 1) + B * 1 := by omega
    rw [e5, Int.add_mul_ediv_left _ _ (Int.ne_of_gt hB), Int.ediv_eq_zero_of_lt (by omega) (by omega)]; omega
