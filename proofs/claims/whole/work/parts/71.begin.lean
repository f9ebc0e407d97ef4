theorem qB_long : Cond.arrayClass .long ∈ wG := mG 970 (by decide +kernel) rfl
theorem qI_X6_init : Cond.instanceMethod yX6_init ∈ wG := mG 21 (by decide +kernel) rfl
theorem qI_X7_init : Cond.instanceMethod yX7_init ∈ wG := mG 706 (by decide +kernel) rfl
theorem qK_L_8 : Cond.classLink RL 8 RX6 ∈ wG := mG 18 (by decide +kernel) rfl
theorem qK_L_87 : Cond.classLink RL 87 RX7 ∈ wG := mG 703 (by decide +kernel) rfl
theorem qM_L_86 : Cond.methodLink RL 86 yX6_init ∈ wG := mG 20 (by decide +kernel) rfl
theorem qM_L_89 : Cond.methodLink RL 89 yX7_init ∈ wG := mG 705 (by decide +kernel) rfl
set_option maxHeartbeats 8000000 in
set_option maxRecDepth 100000 in
/-- THE LAW, from its entry -/
theorem whole_start {p : Program} {e : Env} {s : State} {m : MethodId} {below : List Frame} {meth : Method} {c : Code} (l : Launch) (hl9 : l.stackTraces = false) {b L : Nat} {xs : Nat → Int32} (hL : L ≤ 2560) (C0 : lw_At p s m meth c b L xs) : W p l e room_1 s m #[Value.ref b] below meth c s.heap [] 0 0 (lw_Z below #[Value.ref b] s) (entryFrame m ([Value.ref b] : List Value).toArray 8) := by
  obtain ⟨hx, hb, hr, hml, hown0, hts, hX, hbl, hlocks, hgv⟩ := id C0
  have hown : s.vm.findClass RL = some m.cls := hown0
  have hg : ∀ w ∈ wG, w.before #[Value.ref b] s = true := fun w h => hts w (List.mem_filter.mp h).1
  obtain ⟨G, cA, hK⟩ := ws_K C0
  have hC := ws_C C0
  have hA9 := ws_A C0
  have hA : ∀ q : Nat, s.heap.size ≤ q → (fun q : Nat => s.heap.size ≤ q) q := fun _ h => h
  have hS : va_S (fun q : Nat => s.heap.size ≤ q) s.heap s.heap [] := va_S.rf
  have hP : va_P G vwCl [] s.heap := fun k q h => by simp at h
  have hD : va_D (fun q : Nat => s.heap.size ≤ q) [] := ⟨fun i j p q h => by simp at h, fun k q h => by simp at h⟩
  have hl := lv_entry ([.ref b]) (n := 8) (Nat.le_of_ble_eq_true rfl)
  rw [lg_entry_eq]
  generalize (lg_sl ([.ref b]) ++ List.replicate (8 - (lg_sl ([.ref b])).length) Slot.unset).toArray = ls at hl ⊢
  have hl : lv_has ls 8 [(0, .ref b)] := hl
  refine va_new (ci := 6) (fs := [.null, .null, .null, .null, .null, .null, .null, .null]) (C := RX6) (T := TX6) (N := 8) hx hb hg hinX6 tyX6 tyX6_ok hown (hg _ qK_L_8) (hg _ qA_X6) (hg _ qN_X6) hK hP hD hS hA rfl (fun j hj => by rcases (show j = 0 ∨ j = 1 ∨ j = 2 ∨ j = 3 ∨ j = 4 ∨ j = 5 ∨ j = 6 ∨ j = 7 by omega) with rfl | rfl | rfl | rfl | rfl | rfl | rfl | rfl <;> rfl) (Nat.le_of_ble_eq_true rfl) (Nat.le_of_ble_eq_true rfl) dL_law_0 (fun q1 H hP hD hS => ?_)
  have hP : va_P G vwCl [(q1, .inr (6, [.null, .null, .null, .null, .null, .null, .null, .null]))] H := hP
  have hD : va_D (fun q : Nat => s.heap.size ≤ q) [(q1, .inr (6, [.null, .null, .null, .null, .null, .null, .null, .null]))] := hD
  have hq1 : s.heap.size ≤ q1 := hD.2 0 _ rfl
  refine W.widen (k := 1) (n := 8) (Nat.le_of_ble_eq_true rfl) (Nat.le_of_ble_eq_true rfl) ?_
  refine lv_dup hx hb dL_law_3 rfl ?_
  have hSz := hS.1
  refine va_callv (va_runI (As := []) (rest := [.ref q1]) ⟨hx, hb, hml, hown, hg⟩ (n_Main l G cA q1 H.size) (cwI 0 hg (gI kX6_init) rfl rfl rfl (hg _ qN_X6) (hg _ qM_L_86) (hg _ qI_X6_init) rfl (by decide +kernel) ⟨Nat.le_of_ble_eq_true rfl, Nat.le_of_ble_eq_true rfl⟩) (nc_ps hC hK hP) rfl rfl hl.1 rfl (lv_room (Nat.le_of_ble_eq_true rfl)) dL_law_4 ⟨Nat.le_of_ble_eq_true rfl, Nat.le_of_ble_eq_true rfl⟩) hS (fun r hr9 h => h.elim (fun z => by rw [z]; exact hq1) (fun z => absurd hr9 (Nat.not_lt.mpr z))) (fun r h => h.elim (fun z => by rw [z]; exact hq1) (fun z => Nat.le_trans hSz z)) (fun u t H9 locs ht hvm hw hB hz9 hk9 hS => ?_)
  obtain ⟨u1, u2⟩ := u
  have hB : va_P G vwCl ((q1, u1) :: u2) t.heap ∧ va_D (ncA q1 H.size) ((q1, u1) :: u2) := hB
  rw [ht] at hB
  obtain ⟨qP, qR, qC, qU, qD, qCal, qCl, qW, qWf, qWp, qWd, qPl, qM, fM, fP, fR, fc, fu, fd, TM, TP, TR, hTM, hTP, hTR, hfc, hfu, hfd, hw⟩ := hw
  cases hw
  obtain ⟨ad, a66, hJ, hPr, hAd⟩ := rr_made hTM hTP hTR hfc hfu hfd hB.1 hB.2
  have hadS : ∀ k, k < 80 → s.heap.size ≤ ad k := fun k hk => (hAd k hk).elim (fun z => by rw [z]; exact hq1) (fun z => Nat.le_trans hSz z)
  clear hB hTM hTP hTR hAd hP hD hk9 hz9 hSz
  subst a66
  have hDr : va_D (fun q : Nat => s.heap.size ≤ q) (rrL cA ad c_0) := (rr_D hJ).weaken (fun k q hk _ => by obtain ⟨g1, g2⟩ := la_key hk; rw [g2]; exact hadS k g1)
  generalize H9 = H1 at hPr hS ⊢
  refine W.widen (k := 80) (n := 7421) (Nat.le_of_ble_eq_true rfl) (Nat.le_of_ble_eq_true rfl) ?_
  refine lv_astore_n (lv' := [(1, .ref (ad 66)), (0, .ref b)]) hx hb dL_law_7 rfl hl (by decide) rfl (fun ls hl => ?_)
  refine va_new (ci := 7) (fs := [.int 0, .null, .null, .null, .null, .null, .null, .null, .null, .null, .null, .null, .null, .null, .null, .null, .null, .null, .int 0, .int 0, .null, .null, .null, .int 0, .null, .null, .null, .null, .null, .null, .null, .null, .null]) (C := RX7) (T := TX7) (N := 33) hx hb hg hinX7 tyX7 tyX7_ok hown (hg _ qK_L_87) (hg _ qA_X7) (hg _ qN_X7) hK hPr hDr hS hA rfl (fun j hj => by rcases (show j = 0 ∨ j = 1 ∨ j = 2 ∨ j = 3 ∨ j = 4 ∨ j = 5 ∨ j = 6 ∨ j = 7 ∨ j = 8 ∨ j = 9 ∨ j = 10 ∨ j = 11 ∨ j = 12 ∨ j = 13 ∨ j = 14 ∨ j = 15 ∨ j = 16 ∨ j = 17 ∨ j = 18 ∨ j = 19 ∨ j = 20 ∨ j = 21 ∨ j = 22 ∨ j = 23 ∨ j = 24 ∨ j = 25 ∨ j = 26 ∨ j = 27 ∨ j = 28 ∨ j = 29 ∨ j = 30 ∨ j = 31 ∨ j = 32 by omega) with rfl | rfl | rfl | rfl | rfl | rfl | rfl | rfl | rfl | rfl | rfl | rfl | rfl | rfl | rfl | rfl | rfl | rfl | rfl | rfl | rfl | rfl | rfl | rfl | rfl | rfl | rfl | rfl | rfl | rfl | rfl | rfl | rfl <;> rfl) (Nat.le_of_ble_eq_true rfl) (Nat.le_of_ble_eq_true rfl) dL_law_8 (fun q2 H hP hD hS => ?_)
  have hq2 : s.heap.size ≤ q2 := hD.2 _ _ pn_last
  have hne : ∀ i, i < 80 → ¬ ad i = q2 := fun i hi he => by
    have h1 : (rrL cA ad c_0 ++ [(q2, (.inr (7, [.int 0, .null, .null, .null, .null, .null, .null, .null, .null, .null, .null, .null, .null, .null, .null, .null, .null, .null, .int 0, .int 0, .null, .null, .null, .int 0, .null, .null, .null, .null, .null, .null, .null, .null, .null]) : va_E))])[i]? = some (ad i, rr_at cA ad c_0 i) := by rw [List.getElem?_append_left (by simp [rrL]; exact hi)]; exact rr_look hi
    have h2 := hD.1 _ _ _ _ h1 pn_last he
    have h3 : (rrL cA ad c_0).length = 80 := by simp [rrL]
    omega
  have hlt : ∀ i, i < 80 → ad i < H.size := fun i hi => (pn_lP hP i _ (rr_look hi)).lt
  refine W.widen (k := 81) (n := 7454) (Nat.le_of_ble_eq_true rfl) (Nat.le_of_ble_eq_true rfl) ?_
  refine lv_dup hx hb dL_law_11 rfl ?_
  have hSz := hS.1
  refine va_callv (va_runI (As := []) (rest := [.ref q2]) ⟨hx, hb, hml, hown, hg⟩ (n_Model l G cA q2 H.size) (cwI 0 hg (gI kX7_init) rfl rfl rfl (hg _ qN_X7) (hg _ qM_L_89) (hg _ qI_X7_init) rfl (by decide +kernel) ⟨Nat.le_of_ble_eq_true rfl, Nat.le_of_ble_eq_true rfl⟩) (nc_ps hC hK (pn_rP hP)) rfl rfl hl.1 rfl (lv_room (Nat.le_of_ble_eq_true rfl)) dL_law_12 ⟨Nat.le_of_ble_eq_true rfl, Nat.le_of_ble_eq_true rfl⟩) hS (fun r hr9 h => h.elim (fun z => by rw [z]; exact hq2) (fun z => absurd hr9 (Nat.not_lt.mpr z))) (fun r h => h.elim (fun z => by rw [z]; exact hq2) (fun z => Nat.le_trans hSz z)) (fun u t H9 locs ht hvm hw hB hz9 hk9 hS => ?_)
  obtain ⟨u1, u2⟩ := u
  have hB : va_P G vwCl ((q2, u1) :: u2) t.heap ∧ va_D (ncA q2 H.size) ((q2, u1) :: u2) := hB
  rw [ht] at hB
  have hPr9 : va_P G vwCl (rrL cA ad c_0) H9 := (pn_lP hP).kept fun k q hk => by
    obtain ⟨g1, g2⟩ := la_key hk
    rw [g2]
    exact hk9 (ad k) (hlt k g1) fun h => h.elim (fun z => hne k g1 z) (fun z => absurd (hlt k g1) (Nat.not_lt.mpr z))
  obtain ⟨q7, q15, q23, q31, q39, q47, q55, q63, q71, q79, q88, q97, q104, q111, q118, q126, q134, q142, q150, q158, q166, q174, q182, q190, q198, q206, q214, q222, q230, fa0, fa1, fb0, fc0, fc1, fd0, fd1, hfa0, hfa1, hfb0, hfc0, hfc1, hfd0, hfd1, hw⟩ := hw
  cases hw
  obtain ⟨am, a0, hJm, hPm, hAm⟩ := mm_made hfa0 hfa1 hfb0 hfc0 hfc1 hfd0 hfd1 hB.1 hB.2 rfl rfl rfl rfl rfl rfl rfl rfl rfl rfl rfl rfl rfl rfl rfl rfl rfl rfl rfl rfl rfl rfl rfl rfl rfl rfl rfl rfl rfl rfl rfl
  have hamS : ∀ k, k < 30 → s.heap.size ≤ am k := fun k hk => (hAm k hk).elim (fun z => by rw [z]; exact hq2) (fun z => Nat.le_trans hSz z)
  have hdis : ∀ i, i < 80 → ∀ j, j < 30 → ¬ ad i = am j := fun i hi j hj he => (hAm j hj).elim (fun z => hne i hi (he.trans z)) (fun z => absurd (hlt i hi) (Nat.not_lt.mpr (by rw [he]; exact z)))
  clear hB hAm hP hD hk9 hz9 hSz hlt hne hPr hDr
  subst a0
  have hDr : va_D (fun q : Nat => s.heap.size ≤ q) (rrL cA ad c_0) := (rr_D hJ).weaken (fun k q hk _ => by obtain ⟨g1, g2⟩ := la_key hk; rw [g2]; exact hadS k g1)
  have hDm : va_D (fun q : Nat => s.heap.size ≤ q) (mmL cA am m_0) := (mm_D hJm).weaken (fun k q hk _ => by obtain ⟨g1, g2⟩ := lm_key hk; rw [g2]; exact hamS k g1)
  have hD : va_D (fun q : Nat => s.heap.size ≤ q) (rrL cA ad c_0 ++ mmL cA am m_0) := hDr.app hDm (fun i j x y hi hj he => by
    obtain ⟨g1, g2⟩ := la_key hi
    obtain ⟨g3, g4⟩ := lm_key hj
    exact hdis i g1 j g3 (by rw [← g2, ← g4]; exact he))
  have hP := hPr9.app hPm
  generalize H9 = H2 at hPr9 hPm hP hS ⊢
  refine W.widen (k := 110) (n := 14774) (Nat.le_of_ble_eq_true rfl) (Nat.le_of_ble_eq_true rfl) ?_
  refine lv_astore_n (lv' := [(2, .ref (am 0)), (1, .ref (ad 66)), (0, .ref b)]) hx hb dL_law_15 rfl hl (by decide) rfl (fun ls hl => ?_)
  refine lv_iconst (v := 1) hx hb dL_law_16 (by decide) ?_
  refine va_newa (atype := .long) (ty := .long) (a0 := (1, .inr (.inl fun _ => 0))) (N' := 1) hx hb (hg _ qB_long) rfl hK hP hD hS hA (fun _ => rfl) (by decide) (by decide) (by decide) (Nat.le_of_ble_eq_true rfl) (Nat.le_of_ble_eq_true rfl) dL_law_17 (fun qo cJ H3 hK3 hP3 hD3 hS3 => ?_)
  have hlen : (rrL cA ad c_0 ++ mmL cA am m_0).length = 110 := by simp [rrL, mmL]
  have hoT : ArrOfT s cJ .long := (hK3.2 5 _ rfl).1
  have ho : H3[qo]? = some (oC cJ 0) := hP3 _ _ pn_last
  have hqo : s.heap.size ≤ qo := hD3.2 _ _ pn_last
  have d2 : ∀ i, i < 80 → ¬ ad i = qo := fun i hi he => by
    have h1 : ((rrL cA ad c_0 ++ mmL cA am m_0) ++ [(qo, (.inl (cJ, 1, .inr (.inl fun _ => 0)) : va_E))])[i]? = some (ad i, rr_at cA ad c_0 i) := by
      rw [List.getElem?_append_left (by rw [hlen]; omega), List.getElem?_append_left (by simp [rrL]; exact hi)]; exact rr_look hi
    have h2 := hD3.1 _ _ _ _ h1 pn_last he
    omega
  have d3 : ∀ j, j < 30 → ¬ am j = qo := fun j hj he => by
    have h1 : ((rrL cA ad c_0 ++ mmL cA am m_0) ++ [(qo, (.inl (cJ, 1, .inr (.inl fun _ => 0)) : va_E))])[80 + j]? = some (am j, mm_at cA am m_0 j) := by
      have h80 : (rrL cA ad c_0).length = 80 := by simp [rrL]
      rw [List.getElem?_append_left (by rw [hlen]; omega), List.getElem?_append_right (by rw [h80]; omega), h80, Nat.add_sub_cancel_left]; exact mm_look hj
    have h2 := hD3.1 _ _ _ _ h1 pn_last he
    omega
  have hPr3 : va_P G vwCl (rrL cA ad c_0) H3 := pn_lP (pn_lP hP3)
  have hPm3 : va_P G vwCl (mmL cA am m_0) H3 := pn_rP (pn_lP hP3)
  have hTT : rr_T (rrA ad) s s.heap := ws_T C0 (fun a ha h => by obtain ⟨k, hk, e9⟩ := h; have := hadS k hk; rw [e9] at ha; omega)
  have D : LD l p s m meth c b L xs G cA ad am qo cJ := ⟨C0, hl9, hK, hoT, hA9, hTT, ⟨hJ, hJm⟩, ⟨hadS, hamS, hqo⟩, ⟨hdis, d2, d3⟩⟩
  refine lv_astore_n (lv' := [(3, .ref qo), (2, .ref (am 0)), (1, .ref (ad 66)), (0, .ref b)]) hx hb dL_law_19 rfl hl (by decide) rfl (fun ls hl => ?_)
  refine lv_iconst (v := 0) hx hb dL_law_20 (by decide) ?_
  refine lv_istore (lv' := [(4, .int 0), (3, .ref qo), (2, .ref (am 0)), (1, .ref (ad 66)), (0, .ref b)]) hx hb dL_law_21 hl (by decide) rfl (fun ls hl => ?_)
  have hl : lv_has ls 8 [(4, .int (nI (5 * 0))), (3, .ref qo), (2, .ref (am 0)), (1, .ref (ad 66)), (0, .ref b)] := hl
  exact law_loop D hL (L + 1) 0 c_0 m_0 0 H3 _ ls (by omega) (by omega) rel_0 ⟨hPr3, hPm3, ho, hS3⟩ (lv_sub hl [4, 3, 2, 1, 0] rfl)
