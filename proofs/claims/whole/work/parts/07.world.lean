def f_Place (ad : Nat → Nat) (σ : St) (i : Nat) : List Value := [.int (nI i), .ref (ad (16 + i)), .int (σ 0 i), .int (σ 1 i), .int (σ 2 i), .int (σ 3 i), .int (σ 4 i), .int (σ 5 i), .int (σ 6 i), .int (σ 7 i), .int (σ 8 i), .int (σ 9 i), .int (σ 10 i)]
def f_Rule (ad : Nat → Nat) (σ : St) (i : Nat) : List Value := [.int (σ 20 i), .int (σ 21 i), .int (σ 22 i)]
def f_Move (ad : Nat → Nat) (σ : St) (i : Nat) : List Value := [.int (σ 50 i), .int (σ 51 i), .int (σ 52 i), .int (σ 53 i), .int (σ 54 i), .int (σ 55 i), .int (σ 56 i)]
def f_Main (ad : Nat → Nat) (σ : St) : List Value := [.ref (ad 67), .ref (ad 68), .ref (ad 69), .ref (ad 70), .ref (ad 71), .ref (ad 72), .ref (ad 74), .ref (ad 78)]
def f_Calendar (ad : Nat → Nat) (σ : St) : List Value := [.ref (ad 73), .int (σ 40 0)]
def f_Waves (ad : Nat → Nat) (σ : St) : List Value := [.ref (ad 75), .ref (ad 76), .ref (ad 77), .int (σ 41 0)]
def f_Plan (ad : Nat → Nat) (σ : St) : List Value := [.ref (ad 79), .int (σ 42 0), .int (σ 43 0), .int (σ 44 0), .int (σ 45 0)]
def f_refs (ad : Nat → Nat) (o : Nat) : Nat → Option Nat := fun j => some (ad (o + j))
/-- the class's cells: 0 places, 16 what was used, 32 rules, 36 moves, 66 itself, 67 its arrays and parts -/
def rr_at (cA : Nat → ClassId) (ad : Nat → Nat) (σ : St) (k : Nat) : va_E :=
  if k < 16 then .inr (2, f_Place ad σ k)
  else if k < 32 then .inl (cA 0, 400, .inl (σ (100 + (k - 16))))
  else if k < 36 then .inr (4, f_Rule ad σ (k - 32))
  else if k < 66 then .inr (1, f_Move ad σ (k - 36))
  else if k = 66 then .inr (6, f_Main ad σ)
  else if k = 67 then .inl (cA 2, 16, .inr (.inr (.inr (.inr (fun j => some (ad j))))))
  else if k = 68 then .inl (cA 3, 4, .inr (.inr (.inr (.inr (f_refs ad 32)))))
  else if k = 69 then .inl (cA 0, 8, .inl (σ 30))
  else if k = 70 then .inl (cA 0, 12, .inl (σ 31))
  else if k = 71 then .inl (cA 0, 12, .inl (σ 32))
  else if k = 72 then .inr (0, f_Calendar ad σ)
  else if k = 73 then .inl (cA 1, 400, .inl (σ 33))
  else if k = 74 then .inr (5, f_Waves ad σ)
  else if k = 75 then .inl (cA 0, 30, .inl (σ 34))
  else if k = 76 then .inl (cA 0, 30, .inl (σ 35))
  else if k = 77 then .inl (cA 0, 30, .inl (σ 36))
  else if k = 78 then .inr (3, f_Plan ad σ)
  else .inl (cA 4, 30, .inr (.inr (.inr (.inr (f_refs ad 36)))))
def rrL (cA : Nat → ClassId) (ad : Nat → Nat) (σ : St) : va_W := (List.range 80).map (fun k => (ad k, rr_at cA ad σ k))
abbrev rrTy (cA : Nat → ClassId) : List (ClassId × FieldType) := [(cA 0, .int), (cA 1, .boolean), (cA 2, .object RX2), (cA 3, .object RX4), (cA 4, .object RX1)]
def rrA (ad : Nat → Nat) : Nat → Prop := fun q => ∃ k, k < 80 ∧ q = ad k
def rr_inj (ad : Nat → Nat) : Prop := ∀ i j, i < 80 → j < 80 → ad i = ad j → i = j
def rrW (G : va_G) (cA : Nat → ClassId) (ad : Nat → Nat) (σ : St) (U : State) : Prop := va_P G vwCl (rrL cA ad σ) U.heap ∧ va_K G vwCl (rrTy cA) U
theorem rr_look {cA : Nat → ClassId} {ad : Nat → Nat} {σ : St} {k : Nat} (hk : k < 80) : (rrL cA ad σ)[k]? = some (ad k, rr_at cA ad σ k) := by
  simp [rrL, List.getElem?_map, List.getElem?_range hk]
theorem rr_D {cA : Nat → ClassId} {ad : Nat → Nat} {σ : St} (hJ : rr_inj ad) : va_D (rrA ad) (rrL cA ad σ) := by
  have key : ∀ (k : Nat) (q : Nat × va_E), (rrL cA ad σ)[k]? = some q → k < 80 ∧ q.1 = ad k := by
    intro k q h
    by_cases hk : k < 80
    · rw [rr_look hk] at h
      cases h
      exact ⟨hk, rfl⟩
    · have : (rrL cA ad σ)[k]? = none := List.getElem?_eq_none (by simp [rrL]; omega)
      rw [this] at h
      cases h
  refine ⟨fun i j p q hi hj he => ?_, fun k q hk => ⟨k, (key k q hk).1, (key k q hk).2⟩⟩
  obtain ⟨h1, e1⟩ := key i p hi
  obtain ⟨h2, e2⟩ := key j q hj
  exact hJ i j h1 h2 (by rw [← e1, ← e2]; exact he)
theorem rr_set {cA : Nat → ClassId} {ad : Nat → Nat} {σ σ' : St} {k : Nat} {e : va_E} (hk : k < 80) (h1 : rr_at cA ad σ' k = e) (h2 : ∀ j, j < 80 → j ≠ k → rr_at cA ad σ' j = rr_at cA ad σ j) : (rrL cA ad σ).set k (ad k, e) = rrL cA ad σ' := by
  apply List.ext_getElem?
  intro j
  by_cases hj : j < 80
  · rw [rr_look hj]
    by_cases hkj : k = j
    · subst hkj
      rw [List.getElem?_set_self (by simp [rrL]; exact hk), h1]
    · rw [List.getElem?_set_ne hkj, rr_look hj, h2 j hj (fun h => hkj h.symm)]
  · rw [List.getElem?_eq_none (by simp [rrL]; omega), List.getElem?_eq_none (by simp [rrL]; omega)]
theorem rl_Place {cA : Nat → ClassId} {ad : Nat → Nat} {σ : St} {i : Nat} (hi : i < 16) : (rrL cA ad σ)[i]? = some (ad i, .inr (2, f_Place ad σ i)) := by
  rw [rr_look (by omega)]; simp [rr_at, hi]
theorem rl_Used {cA : Nat → ClassId} {ad : Nat → Nat} {σ : St} {i : Nat} (hi : i < 16) : (rrL cA ad σ)[16 + i]? = some (ad (16 + i), .inl (cA 0, 400, .inl (σ (100 + i)))) := by
  have e : rr_at cA ad σ (16 + i) = .inl (cA 0, 400, .inl (σ (100 + i))) := by
    unfold rr_at
    rw [if_neg (by omega)]; rw [if_pos (by omega)]; simp
  rw [rr_look (by omega), e]
theorem rl_Rule {cA : Nat → ClassId} {ad : Nat → Nat} {σ : St} {i : Nat} (hi : i < 4) : (rrL cA ad σ)[32 + i]? = some (ad (32 + i), .inr (4, f_Rule ad σ i)) := by
  have e : rr_at cA ad σ (32 + i) = .inr (4, f_Rule ad σ i) := by
    unfold rr_at
    rw [if_neg (by omega)]; rw [if_neg (by omega)]; rw [if_pos (by omega)]; simp
  rw [rr_look (by omega), e]
theorem rl_Move {cA : Nat → ClassId} {ad : Nat → Nat} {σ : St} {i : Nat} (hi : i < 30) : (rrL cA ad σ)[36 + i]? = some (ad (36 + i), .inr (1, f_Move ad σ i)) := by
  have e : rr_at cA ad σ (36 + i) = .inr (1, f_Move ad σ i) := by
    unfold rr_at
    rw [if_neg (by omega)]; rw [if_neg (by omega)]; rw [if_neg (by omega)]; rw [if_pos (by omega)]; simp
  rw [rr_look (by omega), e]
theorem rl_main {cA : Nat → ClassId} {ad : Nat → Nat} {σ : St} : (rrL cA ad σ)[66]? = some (ad 66, .inr (6, f_Main ad σ)) := rr_look (by decide)
theorem rl_placesA {cA : Nat → ClassId} {ad : Nat → Nat} {σ : St} : (rrL cA ad σ)[67]? = some (ad 67, .inl (cA 2, 16, .inr (.inr (.inr (.inr (fun j => some (ad j))))))) := rr_look (by decide)
theorem rl_rulesA {cA : Nat → ClassId} {ad : Nat → Nat} {σ : St} : (rrL cA ad σ)[68]? = some (ad 68, .inl (cA 3, 4, .inr (.inr (.inr (.inr (f_refs ad 32)))))) := rr_look (by decide)
theorem rl_casesA {cA : Nat → ClassId} {ad : Nat → Nat} {σ : St} : (rrL cA ad σ)[69]? = some (ad 69, .inl (cA 0, 8, .inl (σ 30))) := rr_look (by decide)
theorem rl_upsA {cA : Nat → ClassId} {ad : Nat → Nat} {σ : St} : (rrL cA ad σ)[70]? = some (ad 70, .inl (cA 0, 12, .inl (σ 31))) := rr_look (by decide)
theorem rl_downsA {cA : Nat → ClassId} {ad : Nat → Nat} {σ : St} : (rrL cA ad σ)[71]? = some (ad 71, .inl (cA 0, 12, .inl (σ 32))) := rr_look (by decide)
theorem rl_Calendar {cA : Nat → ClassId} {ad : Nat → Nat} {σ : St} : (rrL cA ad σ)[72]? = some (ad 72, .inr (0, f_Calendar ad σ)) := rr_look (by decide)
theorem rl_closedA {cA : Nat → ClassId} {ad : Nat → Nat} {σ : St} : (rrL cA ad σ)[73]? = some (ad 73, .inl (cA 1, 400, .inl (σ 33))) := rr_look (by decide)
theorem rl_Waves {cA : Nat → ClassId} {ad : Nat → Nat} {σ : St} : (rrL cA ad σ)[74]? = some (ad 74, .inr (5, f_Waves ad σ)) := rr_look (by decide)
theorem rl_facesA {cA : Nat → ClassId} {ad : Nat → Nat} {σ : St} : (rrL cA ad σ)[75]? = some (ad 75, .inl (cA 0, 30, .inl (σ 34))) := rr_look (by decide)
theorem rl_wpiecesA {cA : Nat → ClassId} {ad : Nat → Nat} {σ : St} : (rrL cA ad σ)[76]? = some (ad 76, .inl (cA 0, 30, .inl (σ 35))) := rr_look (by decide)
theorem rl_daysA {cA : Nat → ClassId} {ad : Nat → Nat} {σ : St} : (rrL cA ad σ)[77]? = some (ad 77, .inl (cA 0, 30, .inl (σ 36))) := rr_look (by decide)
theorem rl_Plan {cA : Nat → ClassId} {ad : Nat → Nat} {σ : St} : (rrL cA ad σ)[78]? = some (ad 78, .inr (3, f_Plan ad σ)) := rr_look (by decide)
theorem rl_movesA {cA : Nat → ClassId} {ad : Nat → Nat} {σ : St} : (rrL cA ad σ)[79]? = some (ad 79, .inl (cA 4, 30, .inr (.inr (.inr (.inr (f_refs ad 36)))))) := rr_look (by decide)
theorem rn_P {cA : Nat → ClassId} {ad : Nat → Nat} {σ : St} {f j : Nat} {v : Int32} (hf : f < 11) {k : Nat} (hk : k ≠ j) : rr_at cA ad (up σ f j v) k = rr_at cA ad σ k := by
  have r20 : up σ f j v 20 = σ 20 := up_row (by omega)
  have r21 : up σ f j v 21 = σ 21 := up_row (by omega)
  have r22 : up σ f j v 22 = σ 22 := up_row (by omega)
  have r30 : up σ f j v 30 = σ 30 := up_row (by omega)
  have r31 : up σ f j v 31 = σ 31 := up_row (by omega)
  have r32 : up σ f j v 32 = σ 32 := up_row (by omega)
  have r33 : up σ f j v 33 = σ 33 := up_row (by omega)
  have r34 : up σ f j v 34 = σ 34 := up_row (by omega)
  have r35 : up σ f j v 35 = σ 35 := up_row (by omega)
  have r36 : up σ f j v 36 = σ 36 := up_row (by omega)
  have r40 : up σ f j v 40 = σ 40 := up_row (by omega)
  have r41 : up σ f j v 41 = σ 41 := up_row (by omega)
  have r42 : up σ f j v 42 = σ 42 := up_row (by omega)
  have r43 : up σ f j v 43 = σ 43 := up_row (by omega)
  have r44 : up σ f j v 44 = σ 44 := up_row (by omega)
  have r45 : up σ f j v 45 = σ 45 := up_row (by omega)
  have r50 : up σ f j v 50 = σ 50 := up_row (by omega)
  have r51 : up σ f j v 51 = σ 51 := up_row (by omega)
  have r52 : up σ f j v 52 = σ 52 := up_row (by omega)
  have r53 : up σ f j v 53 = σ 53 := up_row (by omega)
  have r54 : up σ f j v 54 = σ 54 := up_row (by omega)
  have r55 : up σ f j v 55 = σ 55 := up_row (by omega)
  have r56 : up σ f j v 56 = σ 56 := up_row (by omega)
  have u : ∀ x : Nat, up σ f j v (100 + x) = σ (100 + x) := fun x => up_row (by omega)
  have q : ∀ r : Nat, up σ f j v r k = σ r k := fun r => up_ix hk
  simp only [rr_at, f_Place, f_Rule, f_Move, f_Main, f_Calendar, f_Waves, f_Plan, q, u, r20, r21, r22, r30, r31, r32, r33, r34, r35, r36, r40, r41, r42, r43, r44, r45, r50, r51, r52, r53, r54, r55, r56]
theorem rn_Rule {cA : Nat → ClassId} {ad : Nat → Nat} {σ : St} {f j : Nat} {v : Int32} (hf : 20 ≤ f) (hg : f < 23) {k : Nat} (hk : k ≠ 32 + j) (hj : j < 4) : rr_at cA ad (up σ f j v) k = rr_at cA ad σ k := by
  have r30 : up σ f j v 30 = σ 30 := up_row (by omega)
  have r31 : up σ f j v 31 = σ 31 := up_row (by omega)
  have r32 : up σ f j v 32 = σ 32 := up_row (by omega)
  have r33 : up σ f j v 33 = σ 33 := up_row (by omega)
  have r34 : up σ f j v 34 = σ 34 := up_row (by omega)
  have r35 : up σ f j v 35 = σ 35 := up_row (by omega)
  have r36 : up σ f j v 36 = σ 36 := up_row (by omega)
  have r40 : up σ f j v 40 = σ 40 := up_row (by omega)
  have r41 : up σ f j v 41 = σ 41 := up_row (by omega)
  have r42 : up σ f j v 42 = σ 42 := up_row (by omega)
  have r43 : up σ f j v 43 = σ 43 := up_row (by omega)
  have r44 : up σ f j v 44 = σ 44 := up_row (by omega)
  have r45 : up σ f j v 45 = σ 45 := up_row (by omega)
  have r50 : up σ f j v 50 = σ 50 := up_row (by omega)
  have r51 : up σ f j v 51 = σ 51 := up_row (by omega)
  have r52 : up σ f j v 52 = σ 52 := up_row (by omega)
  have r53 : up σ f j v 53 = σ 53 := up_row (by omega)
  have r54 : up σ f j v 54 = σ 54 := up_row (by omega)
  have r55 : up σ f j v 55 = σ 55 := up_row (by omega)
  have r56 : up σ f j v 56 = σ 56 := up_row (by omega)
  have p0 : up σ f j v 0 = σ 0 := up_row (by omega)
  have p1 : up σ f j v 1 = σ 1 := up_row (by omega)
  have p2 : up σ f j v 2 = σ 2 := up_row (by omega)
  have p3 : up σ f j v 3 = σ 3 := up_row (by omega)
  have p4 : up σ f j v 4 = σ 4 := up_row (by omega)
  have p5 : up σ f j v 5 = σ 5 := up_row (by omega)
  have p6 : up σ f j v 6 = σ 6 := up_row (by omega)
  have p7 : up σ f j v 7 = σ 7 := up_row (by omega)
  have p8 : up σ f j v 8 = σ 8 := up_row (by omega)
  have p9 : up σ f j v 9 = σ 9 := up_row (by omega)
  have p10 : up σ f j v 10 = σ 10 := up_row (by omega)
  have u : ∀ x : Nat, up σ f j v (100 + x) = σ (100 + x) := fun x => up_row (by omega)
  unfold rr_at
  by_cases h : k < 32
  · by_cases h16 : k < 16
    · simp only [if_pos h16, f_Place, f_Rule, f_Move, f_Main, f_Calendar, f_Waves, f_Plan, p0, p1, p2, p3, p4, p5, p6, p7, p8, p9, p10, r30, r31, r32, r33, r34, r35, r36, r40, r41, r42, r43, r44, r45, r50, r51, r52, r53, r54, r55, r56, u]
    by_cases h32 : k < 32
    · simp only [if_neg h16, if_pos h32, f_Place, f_Rule, f_Move, f_Main, f_Calendar, f_Waves, f_Plan, p0, p1, p2, p3, p4, p5, p6, p7, p8, p9, p10, r30, r31, r32, r33, r34, r35, r36, r40, r41, r42, r43, r44, r45, r50, r51, r52, r53, r54, r55, r56, u]
    exact absurd h (by omega)
  · have q : ∀ r : Nat, up σ f j v r (k - 32) = σ r (k - 32) := fun r => up_ix (by omega)
    simp only [f_Place, f_Rule, f_Move, f_Main, f_Calendar, f_Waves, f_Plan, q, u, p0, p1, p2, p3, p4, p5, p6, p7, p8, p9, p10, r30, r31, r32, r33, r34, r35, r36, r40, r41, r42, r43, r44, r45, r50, r51, r52, r53, r54, r55, r56]
theorem rn_Move {cA : Nat → ClassId} {ad : Nat → Nat} {σ : St} {f j : Nat} {v : Int32} (hf : 50 ≤ f) (hg : f < 57) {k : Nat} (hk : k ≠ 36 + j) (hj : j < 30) : rr_at cA ad (up σ f j v) k = rr_at cA ad σ k := by
  have r20 : up σ f j v 20 = σ 20 := up_row (by omega)
  have r21 : up σ f j v 21 = σ 21 := up_row (by omega)
  have r22 : up σ f j v 22 = σ 22 := up_row (by omega)
  have r30 : up σ f j v 30 = σ 30 := up_row (by omega)
  have r31 : up σ f j v 31 = σ 31 := up_row (by omega)
  have r32 : up σ f j v 32 = σ 32 := up_row (by omega)
  have r33 : up σ f j v 33 = σ 33 := up_row (by omega)
  have r34 : up σ f j v 34 = σ 34 := up_row (by omega)
  have r35 : up σ f j v 35 = σ 35 := up_row (by omega)
  have r36 : up σ f j v 36 = σ 36 := up_row (by omega)
  have r40 : up σ f j v 40 = σ 40 := up_row (by omega)
  have r41 : up σ f j v 41 = σ 41 := up_row (by omega)
  have r42 : up σ f j v 42 = σ 42 := up_row (by omega)
  have r43 : up σ f j v 43 = σ 43 := up_row (by omega)
  have r44 : up σ f j v 44 = σ 44 := up_row (by omega)
  have r45 : up σ f j v 45 = σ 45 := up_row (by omega)
  have p0 : up σ f j v 0 = σ 0 := up_row (by omega)
  have p1 : up σ f j v 1 = σ 1 := up_row (by omega)
  have p2 : up σ f j v 2 = σ 2 := up_row (by omega)
  have p3 : up σ f j v 3 = σ 3 := up_row (by omega)
  have p4 : up σ f j v 4 = σ 4 := up_row (by omega)
  have p5 : up σ f j v 5 = σ 5 := up_row (by omega)
  have p6 : up σ f j v 6 = σ 6 := up_row (by omega)
  have p7 : up σ f j v 7 = σ 7 := up_row (by omega)
  have p8 : up σ f j v 8 = σ 8 := up_row (by omega)
  have p9 : up σ f j v 9 = σ 9 := up_row (by omega)
  have p10 : up σ f j v 10 = σ 10 := up_row (by omega)
  have u : ∀ x : Nat, up σ f j v (100 + x) = σ (100 + x) := fun x => up_row (by omega)
  unfold rr_at
  by_cases h : k < 36
  · by_cases h16 : k < 16
    · simp only [if_pos h16, f_Place, f_Rule, f_Move, f_Main, f_Calendar, f_Waves, f_Plan, p0, p1, p2, p3, p4, p5, p6, p7, p8, p9, p10, r20, r21, r22, r30, r31, r32, r33, r34, r35, r36, r40, r41, r42, r43, r44, r45, u]
    by_cases h32 : k < 32
    · simp only [if_neg h16, if_pos h32, f_Place, f_Rule, f_Move, f_Main, f_Calendar, f_Waves, f_Plan, p0, p1, p2, p3, p4, p5, p6, p7, p8, p9, p10, r20, r21, r22, r30, r31, r32, r33, r34, r35, r36, r40, r41, r42, r43, r44, r45, u]
    by_cases h36 : k < 36
    · simp only [if_neg h16, if_neg h32, if_pos h36, f_Place, f_Rule, f_Move, f_Main, f_Calendar, f_Waves, f_Plan, p0, p1, p2, p3, p4, p5, p6, p7, p8, p9, p10, r20, r21, r22, r30, r31, r32, r33, r34, r35, r36, r40, r41, r42, r43, r44, r45, u]
    exact absurd h (by omega)
  · have q : ∀ r : Nat, up σ f j v r (k - 36) = σ r (k - 36) := fun r => up_ix (by omega)
    simp only [f_Place, f_Rule, f_Move, f_Main, f_Calendar, f_Waves, f_Plan, q, u, p0, p1, p2, p3, p4, p5, p6, p7, p8, p9, p10, r20, r21, r22, r30, r31, r32, r33, r34, r35, r36, r40, r41, r42, r43, r44, r45]
theorem rn_30 {cA : Nat → ClassId} {ad : Nat → Nat} {σ : St} {j : Nat} {v : Int32} {k : Nat} (hk : k ≠ 69) : rr_at cA ad (up σ 30 j v) k = rr_at cA ad σ k := by
  have r20 : up σ 30 j v 20 = σ 20 := up_row (by omega)
  have r21 : up σ 30 j v 21 = σ 21 := up_row (by omega)
  have r22 : up σ 30 j v 22 = σ 22 := up_row (by omega)
  have r31 : up σ 30 j v 31 = σ 31 := up_row (by omega)
  have r32 : up σ 30 j v 32 = σ 32 := up_row (by omega)
  have r33 : up σ 30 j v 33 = σ 33 := up_row (by omega)
  have r34 : up σ 30 j v 34 = σ 34 := up_row (by omega)
  have r35 : up σ 30 j v 35 = σ 35 := up_row (by omega)
  have r36 : up σ 30 j v 36 = σ 36 := up_row (by omega)
  have r40 : up σ 30 j v 40 = σ 40 := up_row (by omega)
  have r41 : up σ 30 j v 41 = σ 41 := up_row (by omega)
  have r42 : up σ 30 j v 42 = σ 42 := up_row (by omega)
  have r43 : up σ 30 j v 43 = σ 43 := up_row (by omega)
  have r44 : up σ 30 j v 44 = σ 44 := up_row (by omega)
  have r45 : up σ 30 j v 45 = σ 45 := up_row (by omega)
  have r50 : up σ 30 j v 50 = σ 50 := up_row (by omega)
  have r51 : up σ 30 j v 51 = σ 51 := up_row (by omega)
  have r52 : up σ 30 j v 52 = σ 52 := up_row (by omega)
  have r53 : up σ 30 j v 53 = σ 53 := up_row (by omega)
  have r54 : up σ 30 j v 54 = σ 54 := up_row (by omega)
  have r55 : up σ 30 j v 55 = σ 55 := up_row (by omega)
  have r56 : up σ 30 j v 56 = σ 56 := up_row (by omega)
  have p0 : up σ 30 j v 0 = σ 0 := up_row (by omega)
  have p1 : up σ 30 j v 1 = σ 1 := up_row (by omega)
  have p2 : up σ 30 j v 2 = σ 2 := up_row (by omega)
  have p3 : up σ 30 j v 3 = σ 3 := up_row (by omega)
  have p4 : up σ 30 j v 4 = σ 4 := up_row (by omega)
  have p5 : up σ 30 j v 5 = σ 5 := up_row (by omega)
  have p6 : up σ 30 j v 6 = σ 6 := up_row (by omega)
  have p7 : up σ 30 j v 7 = σ 7 := up_row (by omega)
  have p8 : up σ 30 j v 8 = σ 8 := up_row (by omega)
  have p9 : up σ 30 j v 9 = σ 9 := up_row (by omega)
  have p10 : up σ 30 j v 10 = σ 10 := up_row (by omega)
  have u : ∀ x : Nat, up σ 30 j v (100 + x) = σ (100 + x) := fun x => up_row (by omega)
  simp only [rr_at, if_neg hk, f_Place, f_Rule, f_Move, f_Main, f_Calendar, f_Waves, f_Plan, u, p0, p1, p2, p3, p4, p5, p6, p7, p8, p9, p10, r20, r21, r22, r31, r32, r33, r34, r35, r36, r40, r41, r42, r43, r44, r45, r50, r51, r52, r53, r54, r55, r56]
theorem rn_31 {cA : Nat → ClassId} {ad : Nat → Nat} {σ : St} {j : Nat} {v : Int32} {k : Nat} (hk : k ≠ 70) : rr_at cA ad (up σ 31 j v) k = rr_at cA ad σ k := by
  have r20 : up σ 31 j v 20 = σ 20 := up_row (by omega)
  have r21 : up σ 31 j v 21 = σ 21 := up_row (by omega)
  have r22 : up σ 31 j v 22 = σ 22 := up_row (by omega)
  have r30 : up σ 31 j v 30 = σ 30 := up_row (by omega)
  have r32 : up σ 31 j v 32 = σ 32 := up_row (by omega)
  have r33 : up σ 31 j v 33 = σ 33 := up_row (by omega)
  have r34 : up σ 31 j v 34 = σ 34 := up_row (by omega)
  have r35 : up σ 31 j v 35 = σ 35 := up_row (by omega)
  have r36 : up σ 31 j v 36 = σ 36 := up_row (by omega)
  have r40 : up σ 31 j v 40 = σ 40 := up_row (by omega)
  have r41 : up σ 31 j v 41 = σ 41 := up_row (by omega)
  have r42 : up σ 31 j v 42 = σ 42 := up_row (by omega)
  have r43 : up σ 31 j v 43 = σ 43 := up_row (by omega)
  have r44 : up σ 31 j v 44 = σ 44 := up_row (by omega)
  have r45 : up σ 31 j v 45 = σ 45 := up_row (by omega)
  have r50 : up σ 31 j v 50 = σ 50 := up_row (by omega)
  have r51 : up σ 31 j v 51 = σ 51 := up_row (by omega)
  have r52 : up σ 31 j v 52 = σ 52 := up_row (by omega)
  have r53 : up σ 31 j v 53 = σ 53 := up_row (by omega)
  have r54 : up σ 31 j v 54 = σ 54 := up_row (by omega)
  have r55 : up σ 31 j v 55 = σ 55 := up_row (by omega)
  have r56 : up σ 31 j v 56 = σ 56 := up_row (by omega)
  have p0 : up σ 31 j v 0 = σ 0 := up_row (by omega)
  have p1 : up σ 31 j v 1 = σ 1 := up_row (by omega)
  have p2 : up σ 31 j v 2 = σ 2 := up_row (by omega)
  have p3 : up σ 31 j v 3 = σ 3 := up_row (by omega)
  have p4 : up σ 31 j v 4 = σ 4 := up_row (by omega)
  have p5 : up σ 31 j v 5 = σ 5 := up_row (by omega)
  have p6 : up σ 31 j v 6 = σ 6 := up_row (by omega)
  have p7 : up σ 31 j v 7 = σ 7 := up_row (by omega)
  have p8 : up σ 31 j v 8 = σ 8 := up_row (by omega)
  have p9 : up σ 31 j v 9 = σ 9 := up_row (by omega)
  have p10 : up σ 31 j v 10 = σ 10 := up_row (by omega)
  have u : ∀ x : Nat, up σ 31 j v (100 + x) = σ (100 + x) := fun x => up_row (by omega)
  simp only [rr_at, if_neg hk, f_Place, f_Rule, f_Move, f_Main, f_Calendar, f_Waves, f_Plan, u, p0, p1, p2, p3, p4, p5, p6, p7, p8, p9, p10, r20, r21, r22, r30, r32, r33, r34, r35, r36, r40, r41, r42, r43, r44, r45, r50, r51, r52, r53, r54, r55, r56]
theorem rn_32 {cA : Nat → ClassId} {ad : Nat → Nat} {σ : St} {j : Nat} {v : Int32} {k : Nat} (hk : k ≠ 71) : rr_at cA ad (up σ 32 j v) k = rr_at cA ad σ k := by
  have r20 : up σ 32 j v 20 = σ 20 := up_row (by omega)
  have r21 : up σ 32 j v 21 = σ 21 := up_row (by omega)
  have r22 : up σ 32 j v 22 = σ 22 := up_row (by omega)
  have r30 : up σ 32 j v 30 = σ 30 := up_row (by omega)
  have r31 : up σ 32 j v 31 = σ 31 := up_row (by omega)
  have r33 : up σ 32 j v 33 = σ 33 := up_row (by omega)
  have r34 : up σ 32 j v 34 = σ 34 := up_row (by omega)
  have r35 : up σ 32 j v 35 = σ 35 := up_row (by omega)
  have r36 : up σ 32 j v 36 = σ 36 := up_row (by omega)
  have r40 : up σ 32 j v 40 = σ 40 := up_row (by omega)
  have r41 : up σ 32 j v 41 = σ 41 := up_row (by omega)
  have r42 : up σ 32 j v 42 = σ 42 := up_row (by omega)
  have r43 : up σ 32 j v 43 = σ 43 := up_row (by omega)
  have r44 : up σ 32 j v 44 = σ 44 := up_row (by omega)
  have r45 : up σ 32 j v 45 = σ 45 := up_row (by omega)
  have r50 : up σ 32 j v 50 = σ 50 := up_row (by omega)
  have r51 : up σ 32 j v 51 = σ 51 := up_row (by omega)
  have r52 : up σ 32 j v 52 = σ 52 := up_row (by omega)
  have r53 : up σ 32 j v 53 = σ 53 := up_row (by omega)
  have r54 : up σ 32 j v 54 = σ 54 := up_row (by omega)
  have r55 : up σ 32 j v 55 = σ 55 := up_row (by omega)
  have r56 : up σ 32 j v 56 = σ 56 := up_row (by omega)
  have p0 : up σ 32 j v 0 = σ 0 := up_row (by omega)
  have p1 : up σ 32 j v 1 = σ 1 := up_row (by omega)
  have p2 : up σ 32 j v 2 = σ 2 := up_row (by omega)
  have p3 : up σ 32 j v 3 = σ 3 := up_row (by omega)
  have p4 : up σ 32 j v 4 = σ 4 := up_row (by omega)
  have p5 : up σ 32 j v 5 = σ 5 := up_row (by omega)
  have p6 : up σ 32 j v 6 = σ 6 := up_row (by omega)
  have p7 : up σ 32 j v 7 = σ 7 := up_row (by omega)
  have p8 : up σ 32 j v 8 = σ 8 := up_row (by omega)
  have p9 : up σ 32 j v 9 = σ 9 := up_row (by omega)
  have p10 : up σ 32 j v 10 = σ 10 := up_row (by omega)
  have u : ∀ x : Nat, up σ 32 j v (100 + x) = σ (100 + x) := fun x => up_row (by omega)
  simp only [rr_at, if_neg hk, f_Place, f_Rule, f_Move, f_Main, f_Calendar, f_Waves, f_Plan, u, p0, p1, p2, p3, p4, p5, p6, p7, p8, p9, p10, r20, r21, r22, r30, r31, r33, r34, r35, r36, r40, r41, r42, r43, r44, r45, r50, r51, r52, r53, r54, r55, r56]
theorem rn_33 {cA : Nat → ClassId} {ad : Nat → Nat} {σ : St} {j : Nat} {v : Int32} {k : Nat} (hk : k ≠ 73) : rr_at cA ad (up σ 33 j v) k = rr_at cA ad σ k := by
  have r20 : up σ 33 j v 20 = σ 20 := up_row (by omega)
  have r21 : up σ 33 j v 21 = σ 21 := up_row (by omega)
  have r22 : up σ 33 j v 22 = σ 22 := up_row (by omega)
  have r30 : up σ 33 j v 30 = σ 30 := up_row (by omega)
  have r31 : up σ 33 j v 31 = σ 31 := up_row (by omega)
  have r32 : up σ 33 j v 32 = σ 32 := up_row (by omega)
  have r34 : up σ 33 j v 34 = σ 34 := up_row (by omega)
  have r35 : up σ 33 j v 35 = σ 35 := up_row (by omega)
  have r36 : up σ 33 j v 36 = σ 36 := up_row (by omega)
  have r40 : up σ 33 j v 40 = σ 40 := up_row (by omega)
  have r41 : up σ 33 j v 41 = σ 41 := up_row (by omega)
  have r42 : up σ 33 j v 42 = σ 42 := up_row (by omega)
  have r43 : up σ 33 j v 43 = σ 43 := up_row (by omega)
  have r44 : up σ 33 j v 44 = σ 44 := up_row (by omega)
  have r45 : up σ 33 j v 45 = σ 45 := up_row (by omega)
  have r50 : up σ 33 j v 50 = σ 50 := up_row (by omega)
  have r51 : up σ 33 j v 51 = σ 51 := up_row (by omega)
  have r52 : up σ 33 j v 52 = σ 52 := up_row (by omega)
  have r53 : up σ 33 j v 53 = σ 53 := up_row (by omega)
  have r54 : up σ 33 j v 54 = σ 54 := up_row (by omega)
  have r55 : up σ 33 j v 55 = σ 55 := up_row (by omega)
  have r56 : up σ 33 j v 56 = σ 56 := up_row (by omega)
  have p0 : up σ 33 j v 0 = σ 0 := up_row (by omega)
  have p1 : up σ 33 j v 1 = σ 1 := up_row (by omega)
  have p2 : up σ 33 j v 2 = σ 2 := up_row (by omega)
  have p3 : up σ 33 j v 3 = σ 3 := up_row (by omega)
  have p4 : up σ 33 j v 4 = σ 4 := up_row (by omega)
  have p5 : up σ 33 j v 5 = σ 5 := up_row (by omega)
  have p6 : up σ 33 j v 6 = σ 6 := up_row (by omega)
  have p7 : up σ 33 j v 7 = σ 7 := up_row (by omega)
  have p8 : up σ 33 j v 8 = σ 8 := up_row (by omega)
  have p9 : up σ 33 j v 9 = σ 9 := up_row (by omega)
  have p10 : up σ 33 j v 10 = σ 10 := up_row (by omega)
  have u : ∀ x : Nat, up σ 33 j v (100 + x) = σ (100 + x) := fun x => up_row (by omega)
  simp only [rr_at, if_neg hk, f_Place, f_Rule, f_Move, f_Main, f_Calendar, f_Waves, f_Plan, u, p0, p1, p2, p3, p4, p5, p6, p7, p8, p9, p10, r20, r21, r22, r30, r31, r32, r34, r35, r36, r40, r41, r42, r43, r44, r45, r50, r51, r52, r53, r54, r55, r56]
theorem rn_34 {cA : Nat → ClassId} {ad : Nat → Nat} {σ : St} {j : Nat} {v : Int32} {k : Nat} (hk : k ≠ 75) : rr_at cA ad (up σ 34 j v) k = rr_at cA ad σ k := by
  have r20 : up σ 34 j v 20 = σ 20 := up_row (by omega)
  have r21 : up σ 34 j v 21 = σ 21 := up_row (by omega)
  have r22 : up σ 34 j v 22 = σ 22 := up_row (by omega)
  have r30 : up σ 34 j v 30 = σ 30 := up_row (by omega)
  have r31 : up σ 34 j v 31 = σ 31 := up_row (by omega)
  have r32 : up σ 34 j v 32 = σ 32 := up_row (by omega)
  have r33 : up σ 34 j v 33 = σ 33 := up_row (by omega)
  have r35 : up σ 34 j v 35 = σ 35 := up_row (by omega)
  have r36 : up σ 34 j v 36 = σ 36 := up_row (by omega)
  have r40 : up σ 34 j v 40 = σ 40 := up_row (by omega)
  have r41 : up σ 34 j v 41 = σ 41 := up_row (by omega)
  have r42 : up σ 34 j v 42 = σ 42 := up_row (by omega)
  have r43 : up σ 34 j v 43 = σ 43 := up_row (by omega)
  have r44 : up σ 34 j v 44 = σ 44 := up_row (by omega)
  have r45 : up σ 34 j v 45 = σ 45 := up_row (by omega)
  have r50 : up σ 34 j v 50 = σ 50 := up_row (by omega)
  have r51 : up σ 34 j v 51 = σ 51 := up_row (by omega)
  have r52 : up σ 34 j v 52 = σ 52 := up_row (by omega)
  have r53 : up σ 34 j v 53 = σ 53 := up_row (by omega)
  have r54 : up σ 34 j v 54 = σ 54 := up_row (by omega)
  have r55 : up σ 34 j v 55 = σ 55 := up_row (by omega)
  have r56 : up σ 34 j v 56 = σ 56 := up_row (by omega)
  have p0 : up σ 34 j v 0 = σ 0 := up_row (by omega)
  have p1 : up σ 34 j v 1 = σ 1 := up_row (by omega)
  have p2 : up σ 34 j v 2 = σ 2 := up_row (by omega)
  have p3 : up σ 34 j v 3 = σ 3 := up_row (by omega)
  have p4 : up σ 34 j v 4 = σ 4 := up_row (by omega)
  have p5 : up σ 34 j v 5 = σ 5 := up_row (by omega)
  have p6 : up σ 34 j v 6 = σ 6 := up_row (by omega)
  have p7 : up σ 34 j v 7 = σ 7 := up_row (by omega)
  have p8 : up σ 34 j v 8 = σ 8 := up_row (by omega)
  have p9 : up σ 34 j v 9 = σ 9 := up_row (by omega)
  have p10 : up σ 34 j v 10 = σ 10 := up_row (by omega)
  have u : ∀ x : Nat, up σ 34 j v (100 + x) = σ (100 + x) := fun x => up_row (by omega)
  simp only [rr_at, if_neg hk, f_Place, f_Rule, f_Move, f_Main, f_Calendar, f_Waves, f_Plan, u, p0, p1, p2, p3, p4, p5, p6, p7, p8, p9, p10, r20, r21, r22, r30, r31, r32, r33, r35, r36, r40, r41, r42, r43, r44, r45, r50, r51, r52, r53, r54, r55, r56]
theorem rn_35 {cA : Nat → ClassId} {ad : Nat → Nat} {σ : St} {j : Nat} {v : Int32} {k : Nat} (hk : k ≠ 76) : rr_at cA ad (up σ 35 j v) k = rr_at cA ad σ k := by
  have r20 : up σ 35 j v 20 = σ 20 := up_row (by omega)
  have r21 : up σ 35 j v 21 = σ 21 := up_row (by omega)
  have r22 : up σ 35 j v 22 = σ 22 := up_row (by omega)
  have r30 : up σ 35 j v 30 = σ 30 := up_row (by omega)
  have r31 : up σ 35 j v 31 = σ 31 := up_row (by omega)
  have r32 : up σ 35 j v 32 = σ 32 := up_row (by omega)
  have r33 : up σ 35 j v 33 = σ 33 := up_row (by omega)
  have r34 : up σ 35 j v 34 = σ 34 := up_row (by omega)
  have r36 : up σ 35 j v 36 = σ 36 := up_row (by omega)
  have r40 : up σ 35 j v 40 = σ 40 := up_row (by omega)
  have r41 : up σ 35 j v 41 = σ 41 := up_row (by omega)
  have r42 : up σ 35 j v 42 = σ 42 := up_row (by omega)
  have r43 : up σ 35 j v 43 = σ 43 := up_row (by omega)
  have r44 : up σ 35 j v 44 = σ 44 := up_row (by omega)
  have r45 : up σ 35 j v 45 = σ 45 := up_row (by omega)
  have r50 : up σ 35 j v 50 = σ 50 := up_row (by omega)
  have r51 : up σ 35 j v 51 = σ 51 := up_row (by omega)
  have r52 : up σ 35 j v 52 = σ 52 := up_row (by omega)
  have r53 : up σ 35 j v 53 = σ 53 := up_row (by omega)
  have r54 : up σ 35 j v 54 = σ 54 := up_row (by omega)
  have r55 : up σ 35 j v 55 = σ 55 := up_row (by omega)
  have r56 : up σ 35 j v 56 = σ 56 := up_row (by omega)
  have p0 : up σ 35 j v 0 = σ 0 := up_row (by omega)
  have p1 : up σ 35 j v 1 = σ 1 := up_row (by omega)
  have p2 : up σ 35 j v 2 = σ 2 := up_row (by omega)
  have p3 : up σ 35 j v 3 = σ 3 := up_row (by omega)
  have p4 : up σ 35 j v 4 = σ 4 := up_row (by omega)
  have p5 : up σ 35 j v 5 = σ 5 := up_row (by omega)
  have p6 : up σ 35 j v 6 = σ 6 := up_row (by omega)
  have p7 : up σ 35 j v 7 = σ 7 := up_row (by omega)
  have p8 : up σ 35 j v 8 = σ 8 := up_row (by omega)
  have p9 : up σ 35 j v 9 = σ 9 := up_row (by omega)
  have p10 : up σ 35 j v 10 = σ 10 := up_row (by omega)
  have u : ∀ x : Nat, up σ 35 j v (100 + x) = σ (100 + x) := fun x => up_row (by omega)
  simp only [rr_at, if_neg hk, f_Place, f_Rule, f_Move, f_Main, f_Calendar, f_Waves, f_Plan, u, p0, p1, p2, p3, p4, p5, p6, p7, p8, p9, p10, r20, r21, r22, r30, r31, r32, r33, r34, r36, r40, r41, r42, r43, r44, r45, r50, r51, r52, r53, r54, r55, r56]
theorem rn_36 {cA : Nat → ClassId} {ad : Nat → Nat} {σ : St} {j : Nat} {v : Int32} {k : Nat} (hk : k ≠ 77) : rr_at cA ad (up σ 36 j v) k = rr_at cA ad σ k := by
  have r20 : up σ 36 j v 20 = σ 20 := up_row (by omega)
  have r21 : up σ 36 j v 21 = σ 21 := up_row (by omega)
  have r22 : up σ 36 j v 22 = σ 22 := up_row (by omega)
  have r30 : up σ 36 j v 30 = σ 30 := up_row (by omega)
  have r31 : up σ 36 j v 31 = σ 31 := up_row (by omega)
  have r32 : up σ 36 j v 32 = σ 32 := up_row (by omega)
  have r33 : up σ 36 j v 33 = σ 33 := up_row (by omega)
  have r34 : up σ 36 j v 34 = σ 34 := up_row (by omega)
  have r35 : up σ 36 j v 35 = σ 35 := up_row (by omega)
  have r40 : up σ 36 j v 40 = σ 40 := up_row (by omega)
  have r41 : up σ 36 j v 41 = σ 41 := up_row (by omega)
  have r42 : up σ 36 j v 42 = σ 42 := up_row (by omega)
  have r43 : up σ 36 j v 43 = σ 43 := up_row (by omega)
  have r44 : up σ 36 j v 44 = σ 44 := up_row (by omega)
  have r45 : up σ 36 j v 45 = σ 45 := up_row (by omega)
  have r50 : up σ 36 j v 50 = σ 50 := up_row (by omega)
  have r51 : up σ 36 j v 51 = σ 51 := up_row (by omega)
  have r52 : up σ 36 j v 52 = σ 52 := up_row (by omega)
  have r53 : up σ 36 j v 53 = σ 53 := up_row (by omega)
  have r54 : up σ 36 j v 54 = σ 54 := up_row (by omega)
  have r55 : up σ 36 j v 55 = σ 55 := up_row (by omega)
  have r56 : up σ 36 j v 56 = σ 56 := up_row (by omega)
  have p0 : up σ 36 j v 0 = σ 0 := up_row (by omega)
  have p1 : up σ 36 j v 1 = σ 1 := up_row (by omega)
  have p2 : up σ 36 j v 2 = σ 2 := up_row (by omega)
  have p3 : up σ 36 j v 3 = σ 3 := up_row (by omega)
  have p4 : up σ 36 j v 4 = σ 4 := up_row (by omega)
  have p5 : up σ 36 j v 5 = σ 5 := up_row (by omega)
  have p6 : up σ 36 j v 6 = σ 6 := up_row (by omega)
  have p7 : up σ 36 j v 7 = σ 7 := up_row (by omega)
  have p8 : up σ 36 j v 8 = σ 8 := up_row (by omega)
  have p9 : up σ 36 j v 9 = σ 9 := up_row (by omega)
  have p10 : up σ 36 j v 10 = σ 10 := up_row (by omega)
  have u : ∀ x : Nat, up σ 36 j v (100 + x) = σ (100 + x) := fun x => up_row (by omega)
  simp only [rr_at, if_neg hk, f_Place, f_Rule, f_Move, f_Main, f_Calendar, f_Waves, f_Plan, u, p0, p1, p2, p3, p4, p5, p6, p7, p8, p9, p10, r20, r21, r22, r30, r31, r32, r33, r34, r35, r40, r41, r42, r43, r44, r45, r50, r51, r52, r53, r54, r55, r56]
theorem rn_40 {cA : Nat → ClassId} {ad : Nat → Nat} {σ : St} {j : Nat} {v : Int32} {k : Nat} (hk : k ≠ 72) : rr_at cA ad (up σ 40 j v) k = rr_at cA ad σ k := by
  have r20 : up σ 40 j v 20 = σ 20 := up_row (by omega)
  have r21 : up σ 40 j v 21 = σ 21 := up_row (by omega)
  have r22 : up σ 40 j v 22 = σ 22 := up_row (by omega)
  have r30 : up σ 40 j v 30 = σ 30 := up_row (by omega)
  have r31 : up σ 40 j v 31 = σ 31 := up_row (by omega)
  have r32 : up σ 40 j v 32 = σ 32 := up_row (by omega)
  have r33 : up σ 40 j v 33 = σ 33 := up_row (by omega)
  have r34 : up σ 40 j v 34 = σ 34 := up_row (by omega)
  have r35 : up σ 40 j v 35 = σ 35 := up_row (by omega)
  have r36 : up σ 40 j v 36 = σ 36 := up_row (by omega)
  have r41 : up σ 40 j v 41 = σ 41 := up_row (by omega)
  have r42 : up σ 40 j v 42 = σ 42 := up_row (by omega)
  have r43 : up σ 40 j v 43 = σ 43 := up_row (by omega)
  have r44 : up σ 40 j v 44 = σ 44 := up_row (by omega)
  have r45 : up σ 40 j v 45 = σ 45 := up_row (by omega)
  have r50 : up σ 40 j v 50 = σ 50 := up_row (by omega)
  have r51 : up σ 40 j v 51 = σ 51 := up_row (by omega)
  have r52 : up σ 40 j v 52 = σ 52 := up_row (by omega)
  have r53 : up σ 40 j v 53 = σ 53 := up_row (by omega)
  have r54 : up σ 40 j v 54 = σ 54 := up_row (by omega)
  have r55 : up σ 40 j v 55 = σ 55 := up_row (by omega)
  have r56 : up σ 40 j v 56 = σ 56 := up_row (by omega)
  have p0 : up σ 40 j v 0 = σ 0 := up_row (by omega)
  have p1 : up σ 40 j v 1 = σ 1 := up_row (by omega)
  have p2 : up σ 40 j v 2 = σ 2 := up_row (by omega)
  have p3 : up σ 40 j v 3 = σ 3 := up_row (by omega)
  have p4 : up σ 40 j v 4 = σ 4 := up_row (by omega)
  have p5 : up σ 40 j v 5 = σ 5 := up_row (by omega)
  have p6 : up σ 40 j v 6 = σ 6 := up_row (by omega)
  have p7 : up σ 40 j v 7 = σ 7 := up_row (by omega)
  have p8 : up σ 40 j v 8 = σ 8 := up_row (by omega)
  have p9 : up σ 40 j v 9 = σ 9 := up_row (by omega)
  have p10 : up σ 40 j v 10 = σ 10 := up_row (by omega)
  have u : ∀ x : Nat, up σ 40 j v (100 + x) = σ (100 + x) := fun x => up_row (by omega)
  simp only [rr_at, if_neg hk, f_Place, f_Rule, f_Move, f_Main, f_Calendar, f_Waves, f_Plan, u, p0, p1, p2, p3, p4, p5, p6, p7, p8, p9, p10, r20, r21, r22, r30, r31, r32, r33, r34, r35, r36, r41, r42, r43, r44, r45, r50, r51, r52, r53, r54, r55, r56]
theorem rn_41 {cA : Nat → ClassId} {ad : Nat → Nat} {σ : St} {j : Nat} {v : Int32} {k : Nat} (hk : k ≠ 74) : rr_at cA ad (up σ 41 j v) k = rr_at cA ad σ k := by
  have r20 : up σ 41 j v 20 = σ 20 := up_row (by omega)
  have r21 : up σ 41 j v 21 = σ 21 := up_row (by omega)
  have r22 : up σ 41 j v 22 = σ 22 := up_row (by omega)
  have r30 : up σ 41 j v 30 = σ 30 := up_row (by omega)
  have r31 : up σ 41 j v 31 = σ 31 := up_row (by omega)
  have r32 : up σ 41 j v 32 = σ 32 := up_row (by omega)
  have r33 : up σ 41 j v 33 = σ 33 := up_row (by omega)
  have r34 : up σ 41 j v 34 = σ 34 := up_row (by omega)
  have r35 : up σ 41 j v 35 = σ 35 := up_row (by omega)
  have r36 : up σ 41 j v 36 = σ 36 := up_row (by omega)
  have r40 : up σ 41 j v 40 = σ 40 := up_row (by omega)
  have r42 : up σ 41 j v 42 = σ 42 := up_row (by omega)
  have r43 : up σ 41 j v 43 = σ 43 := up_row (by omega)
  have r44 : up σ 41 j v 44 = σ 44 := up_row (by omega)
  have r45 : up σ 41 j v 45 = σ 45 := up_row (by omega)
  have r50 : up σ 41 j v 50 = σ 50 := up_row (by omega)
  have r51 : up σ 41 j v 51 = σ 51 := up_row (by omega)
  have r52 : up σ 41 j v 52 = σ 52 := up_row (by omega)
  have r53 : up σ 41 j v 53 = σ 53 := up_row (by omega)
  have r54 : up σ 41 j v 54 = σ 54 := up_row (by omega)
  have r55 : up σ 41 j v 55 = σ 55 := up_row (by omega)
  have r56 : up σ 41 j v 56 = σ 56 := up_row (by omega)
  have p0 : up σ 41 j v 0 = σ 0 := up_row (by omega)
  have p1 : up σ 41 j v 1 = σ 1 := up_row (by omega)
  have p2 : up σ 41 j v 2 = σ 2 := up_row (by omega)
  have p3 : up σ 41 j v 3 = σ 3 := up_row (by omega)
  have p4 : up σ 41 j v 4 = σ 4 := up_row (by omega)
  have p5 : up σ 41 j v 5 = σ 5 := up_row (by omega)
  have p6 : up σ 41 j v 6 = σ 6 := up_row (by omega)
  have p7 : up σ 41 j v 7 = σ 7 := up_row (by omega)
  have p8 : up σ 41 j v 8 = σ 8 := up_row (by omega)
  have p9 : up σ 41 j v 9 = σ 9 := up_row (by omega)
  have p10 : up σ 41 j v 10 = σ 10 := up_row (by omega)
  have u : ∀ x : Nat, up σ 41 j v (100 + x) = σ (100 + x) := fun x => up_row (by omega)
  simp only [rr_at, if_neg hk, f_Place, f_Rule, f_Move, f_Main, f_Calendar, f_Waves, f_Plan, u, p0, p1, p2, p3, p4, p5, p6, p7, p8, p9, p10, r20, r21, r22, r30, r31, r32, r33, r34, r35, r36, r40, r42, r43, r44, r45, r50, r51, r52, r53, r54, r55, r56]
theorem rn_42 {cA : Nat → ClassId} {ad : Nat → Nat} {σ : St} {j : Nat} {v : Int32} {k : Nat} (hk : k ≠ 78) : rr_at cA ad (up σ 42 j v) k = rr_at cA ad σ k := by
  have r20 : up σ 42 j v 20 = σ 20 := up_row (by omega)
  have r21 : up σ 42 j v 21 = σ 21 := up_row (by omega)
  have r22 : up σ 42 j v 22 = σ 22 := up_row (by omega)
  have r30 : up σ 42 j v 30 = σ 30 := up_row (by omega)
  have r31 : up σ 42 j v 31 = σ 31 := up_row (by omega)
  have r32 : up σ 42 j v 32 = σ 32 := up_row (by omega)
  have r33 : up σ 42 j v 33 = σ 33 := up_row (by omega)
  have r34 : up σ 42 j v 34 = σ 34 := up_row (by omega)
  have r35 : up σ 42 j v 35 = σ 35 := up_row (by omega)
  have r36 : up σ 42 j v 36 = σ 36 := up_row (by omega)
  have r40 : up σ 42 j v 40 = σ 40 := up_row (by omega)
  have r41 : up σ 42 j v 41 = σ 41 := up_row (by omega)
  have r43 : up σ 42 j v 43 = σ 43 := up_row (by omega)
  have r44 : up σ 42 j v 44 = σ 44 := up_row (by omega)
  have r45 : up σ 42 j v 45 = σ 45 := up_row (by omega)
  have r50 : up σ 42 j v 50 = σ 50 := up_row (by omega)
  have r51 : up σ 42 j v 51 = σ 51 := up_row (by omega)
  have r52 : up σ 42 j v 52 = σ 52 := up_row (by omega)
  have r53 : up σ 42 j v 53 = σ 53 := up_row (by omega)
  have r54 : up σ 42 j v 54 = σ 54 := up_row (by omega)
  have r55 : up σ 42 j v 55 = σ 55 := up_row (by omega)
  have r56 : up σ 42 j v 56 = σ 56 := up_row (by omega)
  have p0 : up σ 42 j v 0 = σ 0 := up_row (by omega)
  have p1 : up σ 42 j v 1 = σ 1 := up_row (by omega)
  have p2 : up σ 42 j v 2 = σ 2 := up_row (by omega)
  have p3 : up σ 42 j v 3 = σ 3 := up_row (by omega)
  have p4 : up σ 42 j v 4 = σ 4 := up_row (by omega)
  have p5 : up σ 42 j v 5 = σ 5 := up_row (by omega)
  have p6 : up σ 42 j v 6 = σ 6 := up_row (by omega)
  have p7 : up σ 42 j v 7 = σ 7 := up_row (by omega)
  have p8 : up σ 42 j v 8 = σ 8 := up_row (by omega)
  have p9 : up σ 42 j v 9 = σ 9 := up_row (by omega)
  have p10 : up σ 42 j v 10 = σ 10 := up_row (by omega)
  have u : ∀ x : Nat, up σ 42 j v (100 + x) = σ (100 + x) := fun x => up_row (by omega)
  simp only [rr_at, if_neg hk, f_Place, f_Rule, f_Move, f_Main, f_Calendar, f_Waves, f_Plan, u, p0, p1, p2, p3, p4, p5, p6, p7, p8, p9, p10, r20, r21, r22, r30, r31, r32, r33, r34, r35, r36, r40, r41, r43, r44, r45, r50, r51, r52, r53, r54, r55, r56]
theorem rn_43 {cA : Nat → ClassId} {ad : Nat → Nat} {σ : St} {j : Nat} {v : Int32} {k : Nat} (hk : k ≠ 78) : rr_at cA ad (up σ 43 j v) k = rr_at cA ad σ k := by
  have r20 : up σ 43 j v 20 = σ 20 := up_row (by omega)
  have r21 : up σ 43 j v 21 = σ 21 := up_row (by omega)
  have r22 : up σ 43 j v 22 = σ 22 := up_row (by omega)
  have r30 : up σ 43 j v 30 = σ 30 := up_row (by omega)
  have r31 : up σ 43 j v 31 = σ 31 := up_row (by omega)
  have r32 : up σ 43 j v 32 = σ 32 := up_row (by omega)
  have r33 : up σ 43 j v 33 = σ 33 := up_row (by omega)
  have r34 : up σ 43 j v 34 = σ 34 := up_row (by omega)
  have r35 : up σ 43 j v 35 = σ 35 := up_row (by omega)
  have r36 : up σ 43 j v 36 = σ 36 := up_row (by omega)
  have r40 : up σ 43 j v 40 = σ 40 := up_row (by omega)
  have r41 : up σ 43 j v 41 = σ 41 := up_row (by omega)
  have r42 : up σ 43 j v 42 = σ 42 := up_row (by omega)
  have r44 : up σ 43 j v 44 = σ 44 := up_row (by omega)
  have r45 : up σ 43 j v 45 = σ 45 := up_row (by omega)
  have r50 : up σ 43 j v 50 = σ 50 := up_row (by omega)
  have r51 : up σ 43 j v 51 = σ 51 := up_row (by omega)
  have r52 : up σ 43 j v 52 = σ 52 := up_row (by omega)
  have r53 : up σ 43 j v 53 = σ 53 := up_row (by omega)
  have r54 : up σ 43 j v 54 = σ 54 := up_row (by omega)
  have r55 : up σ 43 j v 55 = σ 55 := up_row (by omega)
  have r56 : up σ 43 j v 56 = σ 56 := up_row (by omega)
  have p0 : up σ 43 j v 0 = σ 0 := up_row (by omega)
  have p1 : up σ 43 j v 1 = σ 1 := up_row (by omega)
  have p2 : up σ 43 j v 2 = σ 2 := up_row (by omega)
  have p3 : up σ 43 j v 3 = σ 3 := up_row (by omega)
  have p4 : up σ 43 j v 4 = σ 4 := up_row (by omega)
  have p5 : up σ 43 j v 5 = σ 5 := up_row (by omega)
  have p6 : up σ 43 j v 6 = σ 6 := up_row (by omega)
  have p7 : up σ 43 j v 7 = σ 7 := up_row (by omega)
  have p8 : up σ 43 j v 8 = σ 8 := up_row (by omega)
  have p9 : up σ 43 j v 9 = σ 9 := up_row (by omega)
  have p10 : up σ 43 j v 10 = σ 10 := up_row (by omega)
  have u : ∀ x : Nat, up σ 43 j v (100 + x) = σ (100 + x) := fun x => up_row (by omega)
  simp only [rr_at, if_neg hk, f_Place, f_Rule, f_Move, f_Main, f_Calendar, f_Waves, f_Plan, u, p0, p1, p2, p3, p4, p5, p6, p7, p8, p9, p10, r20, r21, r22, r30, r31, r32, r33, r34, r35, r36, r40, r41, r42, r44, r45, r50, r51, r52, r53, r54, r55, r56]
theorem rn_44 {cA : Nat → ClassId} {ad : Nat → Nat} {σ : St} {j : Nat} {v : Int32} {k : Nat} (hk : k ≠ 78) : rr_at cA ad (up σ 44 j v) k = rr_at cA ad σ k := by
  have r20 : up σ 44 j v 20 = σ 20 := up_row (by omega)
  have r21 : up σ 44 j v 21 = σ 21 := up_row (by omega)
  have r22 : up σ 44 j v 22 = σ 22 := up_row (by omega)
  have r30 : up σ 44 j v 30 = σ 30 := up_row (by omega)
  have r31 : up σ 44 j v 31 = σ 31 := up_row (by omega)
  have r32 : up σ 44 j v 32 = σ 32 := up_row (by omega)
  have r33 : up σ 44 j v 33 = σ 33 := up_row (by omega)
  have r34 : up σ 44 j v 34 = σ 34 := up_row (by omega)
  have r35 : up σ 44 j v 35 = σ 35 := up_row (by omega)
  have r36 : up σ 44 j v 36 = σ 36 := up_row (by omega)
  have r40 : up σ 44 j v 40 = σ 40 := up_row (by omega)
  have r41 : up σ 44 j v 41 = σ 41 := up_row (by omega)
  have r42 : up σ 44 j v 42 = σ 42 := up_row (by omega)
  have r43 : up σ 44 j v 43 = σ 43 := up_row (by omega)
  have r45 : up σ 44 j v 45 = σ 45 := up_row (by omega)
  have r50 : up σ 44 j v 50 = σ 50 := up_row (by omega)
  have r51 : up σ 44 j v 51 = σ 51 := up_row (by omega)
  have r52 : up σ 44 j v 52 = σ 52 := up_row (by omega)
  have r53 : up σ 44 j v 53 = σ 53 := up_row (by omega)
  have r54 : up σ 44 j v 54 = σ 54 := up_row (by omega)
  have r55 : up σ 44 j v 55 = σ 55 := up_row (by omega)
  have r56 : up σ 44 j v 56 = σ 56 := up_row (by omega)
  have p0 : up σ 44 j v 0 = σ 0 := up_row (by omega)
  have p1 : up σ 44 j v 1 = σ 1 := up_row (by omega)
  have p2 : up σ 44 j v 2 = σ 2 := up_row (by omega)
  have p3 : up σ 44 j v 3 = σ 3 := up_row (by omega)
  have p4 : up σ 44 j v 4 = σ 4 := up_row (by omega)
  have p5 : up σ 44 j v 5 = σ 5 := up_row (by omega)
  have p6 : up σ 44 j v 6 = σ 6 := up_row (by omega)
  have p7 : up σ 44 j v 7 = σ 7 := up_row (by omega)
  have p8 : up σ 44 j v 8 = σ 8 := up_row (by omega)
  have p9 : up σ 44 j v 9 = σ 9 := up_row (by omega)
  have p10 : up σ 44 j v 10 = σ 10 := up_row (by omega)
  have u : ∀ x : Nat, up σ 44 j v (100 + x) = σ (100 + x) := fun x => up_row (by omega)
  simp only [rr_at, if_neg hk, f_Place, f_Rule, f_Move, f_Main, f_Calendar, f_Waves, f_Plan, u, p0, p1, p2, p3, p4, p5, p6, p7, p8, p9, p10, r20, r21, r22, r30, r31, r32, r33, r34, r35, r36, r40, r41, r42, r43, r45, r50, r51, r52, r53, r54, r55, r56]
theorem rn_45 {cA : Nat → ClassId} {ad : Nat → Nat} {σ : St} {j : Nat} {v : Int32} {k : Nat} (hk : k ≠ 78) : rr_at cA ad (up σ 45 j v) k = rr_at cA ad σ k := by
  have r20 : up σ 45 j v 20 = σ 20 := up_row (by omega)
  have r21 : up σ 45 j v 21 = σ 21 := up_row (by omega)
  have r22 : up σ 45 j v 22 = σ 22 := up_row (by omega)
  have r30 : up σ 45 j v 30 = σ 30 := up_row (by omega)
  have r31 : up σ 45 j v 31 = σ 31 := up_row (by omega)
  have r32 : up σ 45 j v 32 = σ 32 := up_row (by omega)
  have r33 : up σ 45 j v 33 = σ 33 := up_row (by omega)
  have r34 : up σ 45 j v 34 = σ 34 := up_row (by omega)
  have r35 : up σ 45 j v 35 = σ 35 := up_row (by omega)
  have r36 : up σ 45 j v 36 = σ 36 := up_row (by omega)
  have r40 : up σ 45 j v 40 = σ 40 := up_row (by omega)
  have r41 : up σ 45 j v 41 = σ 41 := up_row (by omega)
  have r42 : up σ 45 j v 42 = σ 42 := up_row (by omega)
  have r43 : up σ 45 j v 43 = σ 43 := up_row (by omega)
  have r44 : up σ 45 j v 44 = σ 44 := up_row (by omega)
  have r50 : up σ 45 j v 50 = σ 50 := up_row (by omega)
  have r51 : up σ 45 j v 51 = σ 51 := up_row (by omega)
  have r52 : up σ 45 j v 52 = σ 52 := up_row (by omega)
  have r53 : up σ 45 j v 53 = σ 53 := up_row (by omega)
  have r54 : up σ 45 j v 54 = σ 54 := up_row (by omega)
  have r55 : up σ 45 j v 55 = σ 55 := up_row (by omega)
  have r56 : up σ 45 j v 56 = σ 56 := up_row (by omega)
  have p0 : up σ 45 j v 0 = σ 0 := up_row (by omega)
  have p1 : up σ 45 j v 1 = σ 1 := up_row (by omega)
  have p2 : up σ 45 j v 2 = σ 2 := up_row (by omega)
  have p3 : up σ 45 j v 3 = σ 3 := up_row (by omega)
  have p4 : up σ 45 j v 4 = σ 4 := up_row (by omega)
  have p5 : up σ 45 j v 5 = σ 5 := up_row (by omega)
  have p6 : up σ 45 j v 6 = σ 6 := up_row (by omega)
  have p7 : up σ 45 j v 7 = σ 7 := up_row (by omega)
  have p8 : up σ 45 j v 8 = σ 8 := up_row (by omega)
  have p9 : up σ 45 j v 9 = σ 9 := up_row (by omega)
  have p10 : up σ 45 j v 10 = σ 10 := up_row (by omega)
  have u : ∀ x : Nat, up σ 45 j v (100 + x) = σ (100 + x) := fun x => up_row (by omega)
  simp only [rr_at, if_neg hk, f_Place, f_Rule, f_Move, f_Main, f_Calendar, f_Waves, f_Plan, u, p0, p1, p2, p3, p4, p5, p6, p7, p8, p9, p10, r20, r21, r22, r30, r31, r32, r33, r34, r35, r36, r40, r41, r42, r43, r44, r50, r51, r52, r53, r54, r55, r56]
theorem rn_U {cA : Nat → ClassId} {ad : Nat → Nat} {σ : St} {i j : Nat} {v : Int32} {k : Nat} (hk : k ≠ 16 + i) : rr_at cA ad (up σ (100 + i) j v) k = rr_at cA ad σ k := by
  have r20 : up σ (100 + i) j v 20 = σ 20 := up_row (by omega)
  have r21 : up σ (100 + i) j v 21 = σ 21 := up_row (by omega)
  have r22 : up σ (100 + i) j v 22 = σ 22 := up_row (by omega)
  have r30 : up σ (100 + i) j v 30 = σ 30 := up_row (by omega)
  have r31 : up σ (100 + i) j v 31 = σ 31 := up_row (by omega)
  have r32 : up σ (100 + i) j v 32 = σ 32 := up_row (by omega)
  have r33 : up σ (100 + i) j v 33 = σ 33 := up_row (by omega)
  have r34 : up σ (100 + i) j v 34 = σ 34 := up_row (by omega)
  have r35 : up σ (100 + i) j v 35 = σ 35 := up_row (by omega)
  have r36 : up σ (100 + i) j v 36 = σ 36 := up_row (by omega)
  have r40 : up σ (100 + i) j v 40 = σ 40 := up_row (by omega)
  have r41 : up σ (100 + i) j v 41 = σ 41 := up_row (by omega)
  have r42 : up σ (100 + i) j v 42 = σ 42 := up_row (by omega)
  have r43 : up σ (100 + i) j v 43 = σ 43 := up_row (by omega)
  have r44 : up σ (100 + i) j v 44 = σ 44 := up_row (by omega)
  have r45 : up σ (100 + i) j v 45 = σ 45 := up_row (by omega)
  have r50 : up σ (100 + i) j v 50 = σ 50 := up_row (by omega)
  have r51 : up σ (100 + i) j v 51 = σ 51 := up_row (by omega)
  have r52 : up σ (100 + i) j v 52 = σ 52 := up_row (by omega)
  have r53 : up σ (100 + i) j v 53 = σ 53 := up_row (by omega)
  have r54 : up σ (100 + i) j v 54 = σ 54 := up_row (by omega)
  have r55 : up σ (100 + i) j v 55 = σ 55 := up_row (by omega)
  have r56 : up σ (100 + i) j v 56 = σ 56 := up_row (by omega)
  have p0 : up σ (100 + i) j v 0 = σ 0 := up_row (by omega)
  have p1 : up σ (100 + i) j v 1 = σ 1 := up_row (by omega)
  have p2 : up σ (100 + i) j v 2 = σ 2 := up_row (by omega)
  have p3 : up σ (100 + i) j v 3 = σ 3 := up_row (by omega)
  have p4 : up σ (100 + i) j v 4 = σ 4 := up_row (by omega)
  have p5 : up σ (100 + i) j v 5 = σ 5 := up_row (by omega)
  have p6 : up σ (100 + i) j v 6 = σ 6 := up_row (by omega)
  have p7 : up σ (100 + i) j v 7 = σ 7 := up_row (by omega)
  have p8 : up σ (100 + i) j v 8 = σ 8 := up_row (by omega)
  have p9 : up σ (100 + i) j v 9 = σ 9 := up_row (by omega)
  have p10 : up σ (100 + i) j v 10 = σ 10 := up_row (by omega)
  unfold rr_at
  by_cases h1 : k < 16
  · simp only [if_pos h1, f_Place, f_Rule, f_Move, f_Main, f_Calendar, f_Waves, f_Plan, p0, p1, p2, p3, p4, p5, p6, p7, p8, p9, p10]
  · have u : up σ (100 + i) j v (100 + (k - 16)) = σ (100 + (k - 16)) := up_row (by omega)
    simp only [if_neg h1, f_Place, f_Rule, f_Move, f_Main, f_Calendar, f_Waves, f_Plan, u, p0, p1, p2, p3, p4, p5, p6, p7, p8, p9, p10, r20, r21, r22, r30, r31, r32, r33, r34, r35, r36, r40, r41, r42, r43, r44, r45, r50, r51, r52, r53, r54, r55, r56]
theorem rs_Place_room {cA : Nat → ClassId} {ad : Nat → Nat} {σ : St} {i : Nat} {v : Int32} (hi : i < 16) : (rrL cA ad σ).set i (ad i, .inr (2, (f_Place ad σ i).set 2 (.int v))) = rrL cA ad (up σ 0 i v) := by
  have e := rl_Place (cA := cA) (ad := ad) (σ := up σ 0 i v) hi
  rw [rr_look (by omega)] at e
  refine rr_set (by omega) ((Prod.mk.inj (Option.some.inj e)).2.trans ?_) (fun k _ hn => rn_P (by omega) hn)
  simp [f_Place, up]
theorem rs_Place_zone {cA : Nat → ClassId} {ad : Nat → Nat} {σ : St} {i : Nat} {v : Int32} (hi : i < 16) : (rrL cA ad σ).set i (ad i, .inr (2, (f_Place ad σ i).set 3 (.int v))) = rrL cA ad (up σ 1 i v) := by
  have e := rl_Place (cA := cA) (ad := ad) (σ := up σ 1 i v) hi
  rw [rr_look (by omega)] at e
  refine rr_set (by omega) ((Prod.mk.inj (Option.some.inj e)).2.trans ?_) (fun k _ hn => rn_P (by omega) hn)
  simp [f_Place, up]
theorem rs_Place_pieces {cA : Nat → ClassId} {ad : Nat → Nat} {σ : St} {i : Nat} {v : Int32} (hi : i < 16) : (rrL cA ad σ).set i (ad i, .inr (2, (f_Place ad σ i).set 4 (.int v))) = rrL cA ad (up σ 2 i v) := by
  have e := rl_Place (cA := cA) (ad := ad) (σ := up σ 2 i v) hi
  rw [rr_look (by omega)] at e
  refine rr_set (by omega) ((Prod.mk.inj (Option.some.inj e)).2.trans ?_) (fun k _ hn => rn_P (by omega) hn)
  simp [f_Place, up]
theorem rs_Place_held {cA : Nat → ClassId} {ad : Nat → Nat} {σ : St} {i : Nat} {v : Int32} (hi : i < 16) : (rrL cA ad σ).set i (ad i, .inr (2, (f_Place ad σ i).set 5 (.int v))) = rrL cA ad (up σ 3 i v) := by
  have e := rl_Place (cA := cA) (ad := ad) (σ := up σ 3 i v) hi
  rw [rr_look (by omega)] at e
  refine rr_set (by omega) ((Prod.mk.inj (Option.some.inj e)).2.trans ?_) (fun k _ hn => rn_P (by omega) hn)
  simp [f_Place, up]
theorem rs_Place_good {cA : Nat → ClassId} {ad : Nat → Nat} {σ : St} {i : Nat} {v : Int32} (hi : i < 16) : (rrL cA ad σ).set i (ad i, .inr (2, (f_Place ad σ i).set 6 (.int v))) = rrL cA ad (up σ 4 i v) := by
  have e := rl_Place (cA := cA) (ad := ad) (σ := up σ 4 i v) hi
  rw [rr_look (by omega)] at e
  refine rr_set (by omega) ((Prod.mk.inj (Option.some.inj e)).2.trans ?_) (fun k _ hn => rn_P (by omega) hn)
  simp [f_Place, up]
theorem rs_Place_faceGood {cA : Nat → ClassId} {ad : Nat → Nat} {σ : St} {i : Nat} {v : Int32} (hi : i < 16) : (rrL cA ad σ).set i (ad i, .inr (2, (f_Place ad σ i).set 7 (.int v))) = rrL cA ad (up σ 5 i v) := by
  have e := rl_Place (cA := cA) (ad := ad) (σ := up σ 5 i v) hi
  rw [rr_look (by omega)] at e
  refine rr_set (by omega) ((Prod.mk.inj (Option.some.inj e)).2.trans ?_) (fun k _ hn => rn_P (by omega) hn)
  simp [f_Place, up]
theorem rs_Place_least {cA : Nat → ClassId} {ad : Nat → Nat} {σ : St} {i : Nat} {v : Int32} (hi : i < 16) : (rrL cA ad σ).set i (ad i, .inr (2, (f_Place ad σ i).set 8 (.int v))) = rrL cA ad (up σ 6 i v) := by
  have e := rl_Place (cA := cA) (ad := ad) (σ := up σ 6 i v) hi
  rw [rr_look (by omega)] at e
  refine rr_set (by omega) ((Prod.mk.inj (Option.some.inj e)).2.trans ?_) (fun k _ hn => rn_P (by omega) hn)
  simp [f_Place, up]
theorem rs_Place_most {cA : Nat → ClassId} {ad : Nat → Nat} {σ : St} {i : Nat} {v : Int32} (hi : i < 16) : (rrL cA ad σ).set i (ad i, .inr (2, (f_Place ad σ i).set 9 (.int v))) = rrL cA ad (up σ 7 i v) := by
  have e := rl_Place (cA := cA) (ad := ad) (σ := up σ 7 i v) hi
  rw [rr_look (by omega)] at e
  refine rr_set (by omega) ((Prod.mk.inj (Option.some.inj e)).2.trans ?_) (fun k _ hn => rn_P (by omega) hn)
  simp [f_Place, up]
theorem rs_Place_planned {cA : Nat → ClassId} {ad : Nat → Nat} {σ : St} {i : Nat} {v : Int32} (hi : i < 16) : (rrL cA ad σ).set i (ad i, .inr (2, (f_Place ad σ i).set 10 (.int v))) = rrL cA ad (up σ 8 i v) := by
  have e := rl_Place (cA := cA) (ad := ad) (σ := up σ 8 i v) hi
  rw [rr_look (by omega)] at e
  refine rr_set (by omega) ((Prod.mk.inj (Option.some.inj e)).2.trans ?_) (fun k _ hn => rn_P (by omega) hn)
  simp [f_Place, up]
theorem rs_Place_wanted {cA : Nat → ClassId} {ad : Nat → Nat} {σ : St} {i : Nat} {v : Int32} (hi : i < 16) : (rrL cA ad σ).set i (ad i, .inr (2, (f_Place ad σ i).set 11 (.int v))) = rrL cA ad (up σ 9 i v) := by
  have e := rl_Place (cA := cA) (ad := ad) (σ := up σ 9 i v) hi
  rw [rr_look (by omega)] at e
  refine rr_set (by omega) ((Prod.mk.inj (Option.some.inj e)).2.trans ?_) (fun k _ hn => rn_P (by omega) hn)
  simp [f_Place, up]
theorem rs_Place_needTime {cA : Nat → ClassId} {ad : Nat → Nat} {σ : St} {i : Nat} {v : Int32} (hi : i < 16) : (rrL cA ad σ).set i (ad i, .inr (2, (f_Place ad σ i).set 12 (.int v))) = rrL cA ad (up σ 10 i v) := by
  have e := rl_Place (cA := cA) (ad := ad) (σ := up σ 10 i v) hi
  rw [rr_look (by omega)] at e
  refine rr_set (by omega) ((Prod.mk.inj (Option.some.inj e)).2.trans ?_) (fun k _ hn => rn_P (by omega) hn)
  simp [f_Place, up]
theorem rs_Rule_kind {cA : Nat → ClassId} {ad : Nat → Nat} {σ : St} {i : Nat} {v : Int32} (hi : i < 4) : (rrL cA ad σ).set (32 + i) (ad (32 + i), .inr (4, (f_Rule ad σ i).set 0 (.int v))) = rrL cA ad (up σ 20 i v) := by
  have e := rl_Rule (cA := cA) (ad := ad) (σ := up σ 20 i v) hi
  rw [rr_look (by omega)] at e
  refine rr_set (by omega) ((Prod.mk.inj (Option.some.inj e)).2.trans ?_) (fun k _ hn => rn_Rule (by omega) (by omega) hn hi)
  simp [f_Rule, up]
theorem rs_Rule_ahead {cA : Nat → ClassId} {ad : Nat → Nat} {σ : St} {i : Nat} {v : Int32} (hi : i < 4) : (rrL cA ad σ).set (32 + i) (ad (32 + i), .inr (4, (f_Rule ad σ i).set 1 (.int v))) = rrL cA ad (up σ 21 i v) := by
  have e := rl_Rule (cA := cA) (ad := ad) (σ := up σ 21 i v) hi
  rw [rr_look (by omega)] at e
  refine rr_set (by omega) ((Prod.mk.inj (Option.some.inj e)).2.trans ?_) (fun k _ hn => rn_Rule (by omega) (by omega) hn hi)
  simp [f_Rule, up]
theorem rs_Rule_until {cA : Nat → ClassId} {ad : Nat → Nat} {σ : St} {i : Nat} {v : Int32} (hi : i < 4) : (rrL cA ad σ).set (32 + i) (ad (32 + i), .inr (4, (f_Rule ad σ i).set 2 (.int v))) = rrL cA ad (up σ 22 i v) := by
  have e := rl_Rule (cA := cA) (ad := ad) (σ := up σ 22 i v) hi
  rw [rr_look (by omega)] at e
  refine rr_set (by omega) ((Prod.mk.inj (Option.some.inj e)).2.trans ?_) (fun k _ hn => rn_Rule (by omega) (by omega) hn hi)
  simp [f_Rule, up]
theorem rs_Move_from {cA : Nat → ClassId} {ad : Nat → Nat} {σ : St} {i : Nat} {v : Int32} (hi : i < 30) : (rrL cA ad σ).set (36 + i) (ad (36 + i), .inr (1, (f_Move ad σ i).set 0 (.int v))) = rrL cA ad (up σ 50 i v) := by
  have e := rl_Move (cA := cA) (ad := ad) (σ := up σ 50 i v) hi
  rw [rr_look (by omega)] at e
  refine rr_set (by omega) ((Prod.mk.inj (Option.some.inj e)).2.trans ?_) (fun k _ hn => rn_Move (by omega) (by omega) hn hi)
  simp [f_Move, up]
theorem rs_Move_to {cA : Nat → ClassId} {ad : Nat → Nat} {σ : St} {i : Nat} {v : Int32} (hi : i < 30) : (rrL cA ad σ).set (36 + i) (ad (36 + i), .inr (1, (f_Move ad σ i).set 1 (.int v))) = rrL cA ad (up σ 51 i v) := by
  have e := rl_Move (cA := cA) (ad := ad) (σ := up σ 51 i v) hi
  rw [rr_look (by omega)] at e
  refine rr_set (by omega) ((Prod.mk.inj (Option.some.inj e)).2.trans ?_) (fun k _ hn => rn_Move (by omega) (by omega) hn hi)
  simp [f_Move, up]
theorem rs_Move_pieces {cA : Nat → ClassId} {ad : Nat → Nat} {σ : St} {i : Nat} {v : Int32} (hi : i < 30) : (rrL cA ad σ).set (36 + i) (ad (36 + i), .inr (1, (f_Move ad σ i).set 2 (.int v))) = rrL cA ad (up σ 52 i v) := by
  have e := rl_Move (cA := cA) (ad := ad) (σ := up σ 52 i v) hi
  rw [rr_look (by omega)] at e
  refine rr_set (by omega) ((Prod.mk.inj (Option.some.inj e)).2.trans ?_) (fun k _ hn => rn_Move (by omega) (by omega) hn hi)
  simp [f_Move, up]
theorem rs_Move_needTime {cA : Nat → ClassId} {ad : Nat → Nat} {σ : St} {i : Nat} {v : Int32} (hi : i < 30) : (rrL cA ad σ).set (36 + i) (ad (36 + i), .inr (1, (f_Move ad σ i).set 3 (.int v))) = rrL cA ad (up σ 53 i v) := by
  have e := rl_Move (cA := cA) (ad := ad) (σ := up σ 53 i v) hi
  rw [rr_look (by omega)] at e
  refine rr_set (by omega) ((Prod.mk.inj (Option.some.inj e)).2.trans ?_) (fun k _ hn => rn_Move (by omega) (by omega) hn hi)
  simp [f_Move, up]
theorem rs_Move_trip {cA : Nat → ClassId} {ad : Nat → Nat} {σ : St} {i : Nat} {v : Int32} (hi : i < 30) : (rrL cA ad σ).set (36 + i) (ad (36 + i), .inr (1, (f_Move ad σ i).set 4 (.int v))) = rrL cA ad (up σ 54 i v) := by
  have e := rl_Move (cA := cA) (ad := ad) (σ := up σ 54 i v) hi
  rw [rr_look (by omega)] at e
  refine rr_set (by omega) ((Prod.mk.inj (Option.some.inj e)).2.trans ?_) (fun k _ hn => rn_Move (by omega) (by omega) hn hi)
  simp [f_Move, up]
theorem rs_Move_emptiesReserve {cA : Nat → ClassId} {ad : Nat → Nat} {σ : St} {i : Nat} {v : Int32} (hi : i < 30) : (rrL cA ad σ).set (36 + i) (ad (36 + i), .inr (1, (f_Move ad σ i).set 5 (.int v))) = rrL cA ad (up σ 55 i v) := by
  have e := rl_Move (cA := cA) (ad := ad) (σ := up σ 55 i v) hi
  rw [rr_look (by omega)] at e
  refine rr_set (by omega) ((Prod.mk.inj (Option.some.inj e)).2.trans ?_) (fun k _ hn => rn_Move (by omega) (by omega) hn hi)
  simp [f_Move, up]
theorem rs_Move_isDone {cA : Nat → ClassId} {ad : Nat → Nat} {σ : St} {i : Nat} {v : Int32} (hi : i < 30) : (rrL cA ad σ).set (36 + i) (ad (36 + i), .inr (1, (f_Move ad σ i).set 6 (.int v))) = rrL cA ad (up σ 56 i v) := by
  have e := rl_Move (cA := cA) (ad := ad) (σ := up σ 56 i v) hi
  rw [rr_look (by omega)] at e
  refine rr_set (by omega) ((Prod.mk.inj (Option.some.inj e)).2.trans ?_) (fun k _ hn => rn_Move (by omega) (by omega) hn hi)
  simp [f_Move, up]
theorem rs_Calendar_today {cA : Nat → ClassId} {ad : Nat → Nat} {σ : St} {v : Int32} : (rrL cA ad σ).set 72 (ad 72, .inr (0, (f_Calendar ad σ).set 1 (.int v))) = rrL cA ad (up σ 40 0 v) := by
  refine rr_set (by omega) ?_ (fun k _ hn => rn_40 hn)
  simp [rr_at, f_Calendar, up]
theorem rs_Waves_count {cA : Nat → ClassId} {ad : Nat → Nat} {σ : St} {v : Int32} : (rrL cA ad σ).set 74 (ad 74, .inr (5, (f_Waves ad σ).set 3 (.int v))) = rrL cA ad (up σ 41 0 v) := by
  refine rr_set (by omega) ?_ (fun k _ hn => rn_41 hn)
  simp [rr_at, f_Waves, up]
theorem rs_Plan_count {cA : Nat → ClassId} {ad : Nat → Nat} {σ : St} {v : Int32} : (rrL cA ad σ).set 78 (ad 78, .inr (3, (f_Plan ad σ).set 1 (.int v))) = rrL cA ad (up σ 42 0 v) := by
  refine rr_set (by omega) ?_ (fun k _ hn => rn_42 hn)
  simp [rr_at, f_Plan, up]
theorem rs_Plan_trip {cA : Nat → ClassId} {ad : Nat → Nat} {σ : St} {v : Int32} : (rrL cA ad σ).set 78 (ad 78, .inr (3, (f_Plan ad σ).set 2 (.int v))) = rrL cA ad (up σ 43 0 v) := by
  refine rr_set (by omega) ?_ (fun k _ hn => rn_43 hn)
  simp [rr_at, f_Plan, up]
theorem rs_Plan_tripZone {cA : Nat → ClassId} {ad : Nat → Nat} {σ : St} {v : Int32} : (rrL cA ad σ).set 78 (ad 78, .inr (3, (f_Plan ad σ).set 3 (.int v))) = rrL cA ad (up σ 44 0 v) := by
  refine rr_set (by omega) ?_ (fun k _ hn => rn_44 hn)
  simp [rr_at, f_Plan, up]
theorem rs_Plan_tripMoves {cA : Nat → ClassId} {ad : Nat → Nat} {σ : St} {v : Int32} : (rrL cA ad σ).set 78 (ad 78, .inr (3, (f_Plan ad σ).set 4 (.int v))) = rrL cA ad (up σ 45 0 v) := by
  refine rr_set (by omega) ?_ (fun k _ hn => rn_45 hn)
  simp [rr_at, f_Plan, up]
theorem rs_casesA {cA : Nat → ClassId} {ad : Nat → Nat} {σ : St} {j : Nat} {v : Int32} : (rrL cA ad σ).set 69 (ad 69, .inl (cA 0, 8, .inl (upd (σ 30) j v))) = rrL cA ad (up σ 30 j v) := by
  refine rr_set (by omega) ?_ (fun k _ hn => rn_30 hn)
  rw [← up_upd]
  rfl
theorem rs_upsA {cA : Nat → ClassId} {ad : Nat → Nat} {σ : St} {j : Nat} {v : Int32} : (rrL cA ad σ).set 70 (ad 70, .inl (cA 0, 12, .inl (upd (σ 31) j v))) = rrL cA ad (up σ 31 j v) := by
  refine rr_set (by omega) ?_ (fun k _ hn => rn_31 hn)
  rw [← up_upd]
  rfl
theorem rs_downsA {cA : Nat → ClassId} {ad : Nat → Nat} {σ : St} {j : Nat} {v : Int32} : (rrL cA ad σ).set 71 (ad 71, .inl (cA 0, 12, .inl (upd (σ 32) j v))) = rrL cA ad (up σ 32 j v) := by
  refine rr_set (by omega) ?_ (fun k _ hn => rn_32 hn)
  rw [← up_upd]
  rfl
theorem rs_closedA {cA : Nat → ClassId} {ad : Nat → Nat} {σ : St} {j : Nat} {v : Int32} : (rrL cA ad σ).set 73 (ad 73, .inl (cA 1, 400, .inl (upd (σ 33) j v))) = rrL cA ad (up σ 33 j v) := by
  refine rr_set (by omega) ?_ (fun k _ hn => rn_33 hn)
  rw [← up_upd]
  rfl
theorem rs_facesA {cA : Nat → ClassId} {ad : Nat → Nat} {σ : St} {j : Nat} {v : Int32} : (rrL cA ad σ).set 75 (ad 75, .inl (cA 0, 30, .inl (upd (σ 34) j v))) = rrL cA ad (up σ 34 j v) := by
  refine rr_set (by omega) ?_ (fun k _ hn => rn_34 hn)
  rw [← up_upd]
  rfl
theorem rs_wpiecesA {cA : Nat → ClassId} {ad : Nat → Nat} {σ : St} {j : Nat} {v : Int32} : (rrL cA ad σ).set 76 (ad 76, .inl (cA 0, 30, .inl (upd (σ 35) j v))) = rrL cA ad (up σ 35 j v) := by
  refine rr_set (by omega) ?_ (fun k _ hn => rn_35 hn)
  rw [← up_upd]
  rfl
theorem rs_daysA {cA : Nat → ClassId} {ad : Nat → Nat} {σ : St} {j : Nat} {v : Int32} : (rrL cA ad σ).set 77 (ad 77, .inl (cA 0, 30, .inl (upd (σ 36) j v))) = rrL cA ad (up σ 36 j v) := by
  refine rr_set (by omega) ?_ (fun k _ hn => rn_36 hn)
  rw [← up_upd]
  rfl
theorem rs_Used {cA : Nat → ClassId} {ad : Nat → Nat} {σ : St} {i j : Nat} {v : Int32} (hi : i < 16) : (rrL cA ad σ).set (16 + i) (ad (16 + i), .inl (cA 0, 400, .inl (upd (σ (100 + i)) j v))) = rrL cA ad (up σ (100 + i) j v) := by
  have e := rl_Used (cA := cA) (ad := ad) (σ := up σ (100 + i) j v) hi
  rw [rr_look (by omega)] at e
  refine rr_set (by omega) ((Prod.mk.inj (Option.some.inj e)).2.trans ?_) (fun k _ hn => rn_U hn)
  rw [up_upd]
