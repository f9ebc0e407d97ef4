/-! new objects as worlds: the class's and the reference's first states -/
theorem arrV_cg {cI : ClassId} {N : Nat} {f g : Nat → Value} (h : ∀ j, j < N → f j = g j) : arrV cI N f = arrV cI N g := by
  have e : (fun j : Fin N => f j.val) = fun j : Fin N => g j.val := funext fun j => h j.val j.isLt
  unfold arrV
  rw [e]
theorem at_i {G : va_G} {cl : List vw_C} {a n : Nat} {c : ClassId} {f g : Nat → Int32} {H : Heap} (h : va_at G cl (a, .inl (c, n, .inl f)) H) (e : ∀ j, j < n → f j = g j) : va_at G cl (a, .inl (c, n, .inl g)) H := by
  have h2 : H[a]? = some (arrV c n (fun j => .int (f j))) := h
  show H[a]? = some (arrV c n (fun j => .int (g j)))
  rw [h2, arrV_cg (fun j hj => by rw [e j hj])]
theorem at_q {G : va_G} {cl : List vw_C} {a n : Nat} {c : ClassId} {f g : Nat → Option Nat} {H : Heap} (h : va_at G cl (a, .inl (c, n, .inr (.inr (.inr (.inr f))))) H) (e : ∀ j, j < n → f j = g j) : va_at G cl (a, .inl (c, n, .inr (.inr (.inr (.inr g))))) H := by
  have h2 : H[a]? = some (arrV c n (fun j => va_rf (f j))) := h
  show H[a]? = some (arrV c n (fun j => va_rf (g j)))
  rw [h2, arrV_cg (fun j hj => by rw [e j hj])]
/-- the class's first state -/
def c_0 : St := fun r _ => if r = 0 then 1000 else if r = 4 then -1 else if r = 5 then -1 else if r = 21 then 1 else if r = 22 then 399 else if r = 30 then 1 else if r = 31 then 1 else if r = 32 then 1 else if r = 43 then -1 else if r = 44 then -1 else 0
/-- the reference's first state -/
def m_0 : St := fun r _ => if r = 1 then 1000 else if r = 4 then -1 else if r = 10 then 1 else if r = 14 then 1 else if r = 15 then 399 else if r = 16 then 1 else if r = 17 then 1 else 0
theorem c_0_used (i j : Nat) : c_0 (100 + i) j = 0 := by
  unfold c_0
  rw [if_neg (by omega), if_neg (by omega), if_neg (by omega), if_neg (by omega), if_neg (by omega), if_neg (by omega), if_neg (by omega), if_neg (by omega), if_neg (by omega), if_neg (by omega)]
theorem rel_0 : Rel 0 c_0 m_0 := by
  refine ⟨fun i hi => ?_, fun i hi => ⟨fun j hj => ⟨?_, ?_⟩, ?_⟩, ⟨fun i hi => ?_, fun i hi => ?_, fun i hi => ?_, fun i hi => rfl, rfl, by show vp_in 0 400; unfold vp_in; decide⟩, ⟨rfl, by show ¬ (0 : Int32) < 0 ∧ nx 0 ≤ 30; decide, fun j hj => ⟨rfl, rfl, rfl⟩⟩, ⟨rfl, by show ¬ (0 : Int32) < 0 ∧ nx 0 ≤ 30; decide, fun j hj => ⟨rfl, rfl, rfl, rfl, rfl, rfl, rfl, ?_, ?_⟩, fun j hj => ?_⟩⟩
  · show RpV 1000 0 0 0 (-1) (-1) 0 0 1000 0 0 (-1) 0 0 0 0 0
    unfold RpV vp_in; decide
  · rw [c_0_used]; rfl
  · rw [c_0_used]; decide
  · have e : (fun j => (c_0 (100 + i) j).toInt) = fun _ => 0 := funext fun j => by rw [c_0_used]; rfl
    rw [e]
    have : ∀ n, tot (fun _ => 0) n = 0 := fun n => by
      induction n with
      | zero => rfl
      | succ n ih => rw [tot_s, ih]; rfl
    rw [this]; decide
  · show (1 : Int32) = 1 ∧ 1 ≤ (1 : Int32).toInt ∧ (1 : Int32).toInt ≤ 1000; decide
  · show (0 : Int32) = 0 ∧ (1 : Int32) = 1 ∧ (399 : Int32) = 399 ∧ vp_in 0 3 ∧ 1 ≤ (1 : Int32).toInt ∧ (1 : Int32).toInt ≤ 30
    unfold vp_in; decide
  · show (1 : Int32) = 1 ∧ (1 : Int32) = 1 ∧ 0 ≤ (1 : Int32).toInt ∧ (1 : Int32).toInt ≤ 1000 ∧ 1 ≤ (1 : Int32).toInt ∧ (1 : Int32).toInt ≤ 1000
    decide
  · show vp_in 0 16; unfold vp_in; decide
  · show vp_in 0 16; unfold vp_in; decide
  · exact absurd hj (by show ¬ j < nx 0; rw [show nx (0 : Int32) = 0 by decide]; exact Nat.not_lt_zero _)
def gk (k : Nat) : Nat := if k < 16 then 44 + 2 * k else if k < 32 then 45 + 2 * (k - 16) else if k < 36 then 76 + (k - 32) else if k < 66 then 14 + (k - 36) else k - 66
theorem gk_inj : ∀ i, i < 80 → ∀ j, j < 80 → gk i = gk j → i = j := by decide +kernel
theorem gk_lt : ∀ i, i < 80 → gk i < 80 := by decide +kernel
theorem gk_P {k : Nat} (h : k < 16) : gk k = 44 + 2 * k := by unfold gk; rw [if_pos h]
theorem gk_U {k : Nat} (h : k < 16) : gk (16 + k) = 45 + 2 * k := by unfold gk; rw [if_neg (by omega), if_pos (by omega)]; omega
theorem gk_R {k : Nat} (h : k < 4) : gk (32 + k) = 76 + k := by unfold gk; rw [if_neg (by omega), if_neg (by omega), if_pos (by omega)]; omega
theorem gk_M {k : Nat} (h : k < 30) : gk (36 + k) = 14 + k := by unfold gk; rw [if_neg (by omega), if_neg (by omega), if_neg (by omega), if_pos (by omega)]; omega
theorem rr_made {G : va_G} {cA : Nat → ClassId} {h0 sz : Nat} {H : Heap} {qP qR qC qU qD qCal qCl qW qWf qWp qWd qPl qM : Nat} {fM fP fR : Nat → Option Nat} {fc fu fd : Nat → Int32} {TM TP TR : va_W} (hM : mvI (.inr (1, [.int 0, .int 0, .int 0, .int 0, .int 0, .int 0, .int 0])) 30 fM TM) (hPl : plI cA 16 fP TP) (hR : mvI (.inr (4, [.int 0, .int 1, .int 399])) 4 fR TR) (hc : ∀ j, j < 8 → fc j = 1) (hu : ∀ j, j < 12 → fu j = 1) (hd : ∀ j, j < 12 → fd j = 1) (hP : va_P G vwCl ((h0, .inr (6, [.ref qP, .ref qR, .ref qC, .ref qU, .ref qD, .ref qCal, .ref qW, .ref qPl])) :: (mkF cA qP qR qC qU qD qCal qCl qW qWf qWp qWd qPl qM fM fP fR fc fu fd ++ ((([] ++ TM) ++ TP) ++ TR))) H) (hD : va_D (ncA h0 sz) ((h0, .inr (6, [.ref qP, .ref qR, .ref qC, .ref qU, .ref qD, .ref qCal, .ref qW, .ref qPl])) :: (mkF cA qP qR qC qU qD qCal qCl qW qWf qWp qWd qPl qM fM fP fR fc fu fd ++ ((([] ++ TM) ++ TP) ++ TR)))) : ∃ ad : Nat → Nat, ad 66 = h0 ∧ rr_inj ad ∧ va_P G vwCl (rrL cA ad c_0) H ∧ ∀ k, k < 80 → ncA h0 sz (ad k) := by
  have hlen : (((h0, .inr (6, [.ref qP, .ref qR, .ref qC, .ref qU, .ref qD, .ref qCal, .ref qW, .ref qPl])) :: (mkF cA qP qR qC qU qD qCal qCl qW qWf qWp qWd qPl qM fM fP fR fc fu fd ++ ((([] ++ TM) ++ TP) ++ TR))) : va_W).length = 80 := by
    simp only [List.length_cons, List.length_append, List.length_nil, hM.1, hPl.1, hR.1, mkF]
  have L0 : (((h0, .inr (6, [.ref qP, .ref qR, .ref qC, .ref qU, .ref qD, .ref qCal, .ref qW, .ref qPl])) :: (mkF cA qP qR qC qU qD qCal qCl qW qWf qWp qWd qPl qM fM fP fR fc fu fd ++ ((([] ++ TM) ++ TP) ++ TR))) : va_W)[0]? = some (h0, .inr (6, [.ref qP, .ref qR, .ref qC, .ref qU, .ref qD, .ref qCal, .ref qW, .ref qPl])) := rfl
  have L1 : (((h0, .inr (6, [.ref qP, .ref qR, .ref qC, .ref qU, .ref qD, .ref qCal, .ref qW, .ref qPl])) :: (mkF cA qP qR qC qU qD qCal qCl qW qWf qWp qWd qPl qM fM fP fR fc fu fd ++ ((([] ++ TM) ++ TP) ++ TR))) : va_W)[1]? = some (qP, .inl (cA 2, 16, .inr (.inr (.inr (.inr fP))))) := rfl
  have L2 : (((h0, .inr (6, [.ref qP, .ref qR, .ref qC, .ref qU, .ref qD, .ref qCal, .ref qW, .ref qPl])) :: (mkF cA qP qR qC qU qD qCal qCl qW qWf qWp qWd qPl qM fM fP fR fc fu fd ++ ((([] ++ TM) ++ TP) ++ TR))) : va_W)[2]? = some (qR, .inl (cA 3, 4, .inr (.inr (.inr (.inr fR))))) := rfl
  have L3 : (((h0, .inr (6, [.ref qP, .ref qR, .ref qC, .ref qU, .ref qD, .ref qCal, .ref qW, .ref qPl])) :: (mkF cA qP qR qC qU qD qCal qCl qW qWf qWp qWd qPl qM fM fP fR fc fu fd ++ ((([] ++ TM) ++ TP) ++ TR))) : va_W)[3]? = some (qC, .inl (cA 0, 8, .inl fc)) := rfl
  have L4 : (((h0, .inr (6, [.ref qP, .ref qR, .ref qC, .ref qU, .ref qD, .ref qCal, .ref qW, .ref qPl])) :: (mkF cA qP qR qC qU qD qCal qCl qW qWf qWp qWd qPl qM fM fP fR fc fu fd ++ ((([] ++ TM) ++ TP) ++ TR))) : va_W)[4]? = some (qU, .inl (cA 0, 12, .inl fu)) := rfl
  have L5 : (((h0, .inr (6, [.ref qP, .ref qR, .ref qC, .ref qU, .ref qD, .ref qCal, .ref qW, .ref qPl])) :: (mkF cA qP qR qC qU qD qCal qCl qW qWf qWp qWd qPl qM fM fP fR fc fu fd ++ ((([] ++ TM) ++ TP) ++ TR))) : va_W)[5]? = some (qD, .inl (cA 0, 12, .inl fd)) := rfl
  have L6 : (((h0, .inr (6, [.ref qP, .ref qR, .ref qC, .ref qU, .ref qD, .ref qCal, .ref qW, .ref qPl])) :: (mkF cA qP qR qC qU qD qCal qCl qW qWf qWp qWd qPl qM fM fP fR fc fu fd ++ ((([] ++ TM) ++ TP) ++ TR))) : va_W)[6]? = some (qCal, .inr (0, [.ref qCl, .int 0])) := rfl
  have L7 : (((h0, .inr (6, [.ref qP, .ref qR, .ref qC, .ref qU, .ref qD, .ref qCal, .ref qW, .ref qPl])) :: (mkF cA qP qR qC qU qD qCal qCl qW qWf qWp qWd qPl qM fM fP fR fc fu fd ++ ((([] ++ TM) ++ TP) ++ TR))) : va_W)[7]? = some (qCl, .inl (cA 1, 400, .inl (fun _ => 0))) := rfl
  have L8 : (((h0, .inr (6, [.ref qP, .ref qR, .ref qC, .ref qU, .ref qD, .ref qCal, .ref qW, .ref qPl])) :: (mkF cA qP qR qC qU qD qCal qCl qW qWf qWp qWd qPl qM fM fP fR fc fu fd ++ ((([] ++ TM) ++ TP) ++ TR))) : va_W)[8]? = some (qW, .inr (5, [.ref qWf, .ref qWp, .ref qWd, .int 0])) := rfl
  have L9 : (((h0, .inr (6, [.ref qP, .ref qR, .ref qC, .ref qU, .ref qD, .ref qCal, .ref qW, .ref qPl])) :: (mkF cA qP qR qC qU qD qCal qCl qW qWf qWp qWd qPl qM fM fP fR fc fu fd ++ ((([] ++ TM) ++ TP) ++ TR))) : va_W)[9]? = some (qWf, .inl (cA 0, 30, .inl (fun _ => 0))) := rfl
  have L10 : (((h0, .inr (6, [.ref qP, .ref qR, .ref qC, .ref qU, .ref qD, .ref qCal, .ref qW, .ref qPl])) :: (mkF cA qP qR qC qU qD qCal qCl qW qWf qWp qWd qPl qM fM fP fR fc fu fd ++ ((([] ++ TM) ++ TP) ++ TR))) : va_W)[10]? = some (qWp, .inl (cA 0, 30, .inl (fun _ => 0))) := rfl
  have L11 : (((h0, .inr (6, [.ref qP, .ref qR, .ref qC, .ref qU, .ref qD, .ref qCal, .ref qW, .ref qPl])) :: (mkF cA qP qR qC qU qD qCal qCl qW qWf qWp qWd qPl qM fM fP fR fc fu fd ++ ((([] ++ TM) ++ TP) ++ TR))) : va_W)[11]? = some (qWd, .inl (cA 0, 30, .inl (fun _ => 0))) := rfl
  have L12 : (((h0, .inr (6, [.ref qP, .ref qR, .ref qC, .ref qU, .ref qD, .ref qCal, .ref qW, .ref qPl])) :: (mkF cA qP qR qC qU qD qCal qCl qW qWf qWp qWd qPl qM fM fP fR fc fu fd ++ ((([] ++ TM) ++ TP) ++ TR))) : va_W)[12]? = some (qPl, .inr (3, [.ref qM, .int 0, .int (-1), .int (-1), .int 0])) := rfl
  have L13 : (((h0, .inr (6, [.ref qP, .ref qR, .ref qC, .ref qU, .ref qD, .ref qCal, .ref qW, .ref qPl])) :: (mkF cA qP qR qC qU qD qCal qCl qW qWf qWp qWd qPl qM fM fP fR fc fu fd ++ ((([] ++ TM) ++ TP) ++ TR))) : va_W)[13]? = some (qM, .inl (cA 4, 30, .inr (.inr (.inr (.inr fM))))) := rfl
  have LM : ∀ j, j < 30 → ∃ a, fM j = some a ∧ (((h0, .inr (6, [.ref qP, .ref qR, .ref qC, .ref qU, .ref qD, .ref qCal, .ref qW, .ref qPl])) :: (mkF cA qP qR qC qU qD qCal qCl qW qWf qWp qWd qPl qM fM fP fR fc fu fd ++ ((([] ++ TM) ++ TP) ++ TR))) : va_W)[14 + j]? = some (a, .inr (1, [.int 0, .int 0, .int 0, .int 0, .int 0, .int 0, .int 0])) := fun j hj => by
    obtain ⟨a, h1, h2⟩ := hM.2 j hj
    refine ⟨a, h1, ?_⟩
    rw [show 14 + j = 13 + j + 1 by omega, List.getElem?_cons_succ, List.getElem?_append_right (by simp [mkF]), show 13 + j - (mkF cA qP qR qC qU qD qCal qCl qW qWf qWp qWd qPl qM fM fP fR fc fu fd).length = j by simp [mkF], List.getElem?_append_left (by simp [hM.1, hPl.1]; omega), List.getElem?_append_left (by simp [hM.1]; omega), List.nil_append]
    exact h2
  have LP : ∀ j, j < 16 → ∃ a u, fP j = some a ∧ (((h0, .inr (6, [.ref qP, .ref qR, .ref qC, .ref qU, .ref qD, .ref qCal, .ref qW, .ref qPl])) :: (mkF cA qP qR qC qU qD qCal qCl qW qWf qWp qWd qPl qM fM fP fR fc fu fd ++ ((([] ++ TM) ++ TP) ++ TR))) : va_W)[44 + 2 * j]? = some (a, ePl j u) ∧ (((h0, .inr (6, [.ref qP, .ref qR, .ref qC, .ref qU, .ref qD, .ref qCal, .ref qW, .ref qPl])) :: (mkF cA qP qR qC qU qD qCal qCl qW qWf qWp qWd qPl qM fM fP fR fc fu fd ++ ((([] ++ TM) ++ TP) ++ TR))) : va_W)[45 + 2 * j]? = some (u, eUs cA) := fun j hj => by
    obtain ⟨a, u, h1, h2, h3⟩ := hPl.2 j hj
    refine ⟨a, u, h1, ?_, ?_⟩
    · rw [show 44 + 2 * j = 43 + 2 * j + 1 by omega, List.getElem?_cons_succ, List.getElem?_append_right (by simp [mkF]; omega), show 43 + 2 * j - (mkF cA qP qR qC qU qD qCal qCl qW qWf qWp qWd qPl qM fM fP fR fc fu fd).length = 30 + 2 * j by simp [mkF]; omega, List.getElem?_append_left (by simp [hM.1, hPl.1]; omega), List.nil_append, List.getElem?_append_right (by simp [hM.1]), hM.1, Nat.add_sub_cancel_left]
      exact h2
    · rw [show 45 + 2 * j = 43 + (2 * j + 1) + 1 by omega, List.getElem?_cons_succ, List.getElem?_append_right (by simp [mkF]; omega), show 43 + (2 * j + 1) - (mkF cA qP qR qC qU qD qCal qCl qW qWf qWp qWd qPl qM fM fP fR fc fu fd).length = 30 + (2 * j + 1) by simp [mkF]; omega, List.getElem?_append_left (by simp [hM.1, hPl.1]; omega), List.nil_append, List.getElem?_append_right (by simp [hM.1]), hM.1, Nat.add_sub_cancel_left]
      exact h3
  have LR : ∀ j, j < 4 → ∃ a, fR j = some a ∧ (((h0, .inr (6, [.ref qP, .ref qR, .ref qC, .ref qU, .ref qD, .ref qCal, .ref qW, .ref qPl])) :: (mkF cA qP qR qC qU qD qCal qCl qW qWf qWp qWd qPl qM fM fP fR fc fu fd ++ ((([] ++ TM) ++ TP) ++ TR))) : va_W)[76 + j]? = some (a, .inr (4, [.int 0, .int 1, .int 399])) := fun j hj => by
    obtain ⟨a, h1, h2⟩ := hR.2 j hj
    refine ⟨a, h1, ?_⟩
    rw [show 76 + j = 75 + j + 1 by omega, List.getElem?_cons_succ, List.getElem?_append_right (by simp [mkF]; omega), show 75 + j - (mkF cA qP qR qC qU qD qCal qCl qW qWf qWp qWd qPl qM fM fP fR fc fu fd).length = 62 + j by simp [mkF]; omega, List.getElem?_append_right (by simp [hM.1, hPl.1]), show 62 + j - (([] ++ TM) ++ TP : va_W).length = j by simp [hM.1, hPl.1]]
    exact h2
  generalize (((h0, .inr (6, [.ref qP, .ref qR, .ref qC, .ref qU, .ref qD, .ref qCal, .ref qW, .ref qPl])) :: (mkF cA qP qR qC qU qD qCal qCl qW qWf qWp qWd qPl qM fM fP fR fc fu fd ++ ((([] ++ TM) ++ TP) ++ TR))) : va_W) = WL at *
  have ok : ∀ k, k < 80 → ∃ q, WL[gk k]? = some q := fun k hk => ⟨_, List.getElem?_eq_getElem (by rw [hlen]; exact gk_lt k hk)⟩
  have key : ∃ ad : Nat → Nat, ∀ k q, WL[gk k]? = some q → ad k = q.1 := ⟨fun k => ((WL[gk k]?).map Prod.fst).getD 0, fun k q h => by simp [h]⟩
  obtain ⟨ad, had⟩ := key
  have a66 : ad 66 = h0 := had 66 _ L0
  have a67 : ad 67 = qP := had 67 _ L1
  have a68 : ad 68 = qR := had 68 _ L2
  have a69 : ad 69 = qC := had 69 _ L3
  have a70 : ad 70 = qU := had 70 _ L4
  have a71 : ad 71 = qD := had 71 _ L5
  have a72 : ad 72 = qCal := had 72 _ L6
  have a73 : ad 73 = qCl := had 73 _ L7
  have a74 : ad 74 = qW := had 74 _ L8
  have a75 : ad 75 = qWf := had 75 _ L9
  have a76 : ad 76 = qWp := had 76 _ L10
  have a77 : ad 77 = qWd := had 77 _ L11
  have a78 : ad 78 = qPl := had 78 _ L12
  have a79 : ad 79 = qM := had 79 _ L13
  have aM : ∀ j, j < 30 → fM j = some (ad (36 + j)) := fun j hj => by
    obtain ⟨a, h1, h2⟩ := LM j hj
    rw [h1, had (36 + j) _ (by rw [gk_M hj]; exact h2)]
  have aP : ∀ j, j < 16 → fP j = some (ad j) := fun j hj => by
    obtain ⟨a, u, h1, h2, h3⟩ := LP j hj
    rw [h1, had j _ (by rw [gk_P hj]; exact h2)]
  have aR : ∀ j, j < 4 → fR j = some (ad (32 + j)) := fun j hj => by
    obtain ⟨a, h1, h2⟩ := LR j hj
    rw [h1, had (32 + j) _ (by rw [gk_R hj]; exact h2)]
  refine ⟨ad, a66, fun i j hi hj he => ?_, fun k q hk => ?_, fun k hk => ?_⟩
  · obtain ⟨x, hx⟩ := ok i hi
    obtain ⟨y, hy⟩ := ok j hj
    exact gk_inj i hi j hj (hD.1 _ _ x y hx hy (by rw [← had i x hx, ← had j y hy, he]))
  · have k80 : k < 80 := by
      have := (List.getElem?_eq_some_iff.mp hk).1
      simpa [rrL] using this
    by_cases c1 : k < 16
    · rw [rl_Place c1] at hk
      cases hk
      obtain ⟨a, u, h1, h2, h3⟩ := LP k c1
      have e1 : ad k = a := had k _ (by rw [gk_P c1]; exact h2)
      have e2 : ad (16 + k) = u := had (16 + k) _ (by rw [gk_U c1]; exact h3)
      have e3 : (.inr (2, f_Place ad c_0 k) : va_E) = ePl k u := by unfold f_Place ePl; rw [e2]; rfl
      rw [e3, e1]; exact hP _ _ h2
    · by_cases c2 : k < 32
      · obtain ⟨i, rfl⟩ : ∃ i, k = 16 + i := ⟨k - 16, by omega⟩
        have ci : i < 16 := by omega
        rw [rl_Used ci] at hk
        cases hk
        obtain ⟨a, u, h1, h2, h3⟩ := LP i ci
        rw [had (16 + i) _ (by rw [gk_U ci]; exact h3)]
        exact at_i (hP _ _ h3) (fun j _ => (c_0_used i j).symm)
      · by_cases c3 : k < 36
        · obtain ⟨i, rfl⟩ : ∃ i, k = 32 + i := ⟨k - 32, by omega⟩
          have ci : i < 4 := by omega
          rw [rl_Rule ci] at hk
          cases hk
          obtain ⟨a, h1, h2⟩ := LR i ci
          rw [had (32 + i) _ (by rw [gk_R ci]; exact h2)]
          exact hP _ _ h2
        · by_cases c4 : k < 66
          · obtain ⟨i, rfl⟩ : ∃ i, k = 36 + i := ⟨k - 36, by omega⟩
            have ci : i < 30 := by omega
            rw [rl_Move ci] at hk
            cases hk
            obtain ⟨a, h1, h2⟩ := LM i ci
            rw [had (36 + i) _ (by rw [gk_M ci]; exact h2)]
            exact hP _ _ h2
          · have c5 : k = 66 ∨ k = 67 ∨ k = 68 ∨ k = 69 ∨ k = 70 ∨ k = 71 ∨ k = 72 ∨ k = 73 ∨ k = 74 ∨ k = 75 ∨ k = 76 ∨ k = 77 ∨ k = 78 ∨ k = 79 := by omega
            rcases c5 with rfl | rfl | rfl | rfl | rfl | rfl | rfl | rfl | rfl | rfl | rfl | rfl | rfl | rfl
            · rw [rl_main] at hk; cases hk
              rw [show f_Main ad c_0 = [.ref qP, .ref qR, .ref qC, .ref qU, .ref qD, .ref qCal, .ref qW, .ref qPl] by unfold f_Main; rw [a67, a68, a69, a70, a71, a72, a74, a78], a66]; exact hP _ _ L0
            · rw [rl_placesA] at hk; cases hk
              rw [a67]; exact at_q (hP _ _ L1) (fun j hj => aP j hj)
            · rw [rl_rulesA] at hk; cases hk
              rw [a68]; exact at_q (hP _ _ L2) (fun j hj => aR j hj)
            · rw [rl_casesA] at hk; cases hk
              rw [a69]; exact at_i (hP _ _ L3) (fun j hj => hc j hj)
            · rw [rl_upsA] at hk; cases hk
              rw [a70]; exact at_i (hP _ _ L4) (fun j hj => hu j hj)
            · rw [rl_downsA] at hk; cases hk
              rw [a71]; exact at_i (hP _ _ L5) (fun j hj => hd j hj)
            · rw [rl_Calendar] at hk; cases hk
              rw [show f_Calendar ad c_0 = [.ref qCl, .int 0] by unfold f_Calendar; rw [a73]; rfl, a72]; exact hP _ _ L6
            · rw [rl_closedA] at hk; cases hk
              rw [a73]; exact at_i (hP _ _ L7) (fun _ _ => rfl)
            · rw [rl_Waves] at hk; cases hk
              rw [show f_Waves ad c_0 = [.ref qWf, .ref qWp, .ref qWd, .int 0] by unfold f_Waves; rw [a75, a76, a77]; rfl, a74]; exact hP _ _ L8
            · rw [rl_facesA] at hk; cases hk
              rw [a75]; exact at_i (hP _ _ L9) (fun _ _ => rfl)
            · rw [rl_wpiecesA] at hk; cases hk
              rw [a76]; exact at_i (hP _ _ L10) (fun _ _ => rfl)
            · rw [rl_daysA] at hk; cases hk
              rw [a77]; exact at_i (hP _ _ L11) (fun _ _ => rfl)
            · rw [rl_Plan] at hk; cases hk
              rw [show f_Plan ad c_0 = [.ref qM, .int 0, .int (-1), .int (-1), .int 0] by unfold f_Plan; rw [a79]; rfl, a78]; exact hP _ _ L12
            · rw [rl_movesA] at hk; cases hk
              rw [a79]; exact at_q (hP _ _ L13) (fun j hj => aM j hj)
  · obtain ⟨x, hx⟩ := ok k hk
    rw [had k x hx]; exact hD.2 _ x hx
