set_option maxHeartbeats 600000 in
set_option maxRecDepth 100000 in
theorem m_ReplenishRules_checkRange (l : Launch) (hl9 : l.stackTraces = false) (G : va_G) (cA : Nat → ClassId) (ad : Nat → Nat) (σ : St) (hJ : rr_inj ad) (a0 : Int32) (b0 : Int32) (c0 : Int32) : cx_Met (fun _ => False) l yX6_checkRange wX6_checkRange ({ frames := 6, cells := 1, slots := 6, locals := 91 }) [.int a0, .int b0, .int c0] G cA ad σ (c_rg a0 b0 c0) (fun v τ => v = none ∧ τ = σ) 1 6 := by
  refine cx_ofW (cc := cX6_checkRange) (maxL := 3) (ret := none) (by decide) ?_
  intro p e s m args below meth c s₁ B hml hEx hv
  obtain ⟨rfl, hP, hK, hT⟩ := hv
  have hx := B.exec
  have hb := B.bytes
  have hr := B.returns
  have hts := atoms_spec (ws := wX6_checkRange :: wG) B.pre
  have hg : ∀ w ∈ wG, w.before _ s = true := fun w h => hts w (List.mem_cons_of_mem _ h)
  have hown : s.vm.findClass RX6 = some m.cls := findClass_of_methodNamed B.named
  have hlocks := B.notSynchronized
  have hS : va_S (fun _ => False) s.heap s.heap [] := va_S.rf
  have hP0 := hP
  have hl := lv_entry ([.int a0, .int b0, .int c0]) (n := 3) (Nat.le_of_ble_eq_true rfl)
  rw [lg_entry_eq]
  generalize (lg_sl ([.int a0, .int b0, .int c0]) ++ List.replicate (3 - (lg_sl ([.int a0, .int b0, .int c0])).length) Slot.unset).toArray = ls at hl ⊢
  have hl : lv_has ls 3 [(0, .int a0), (1, .int b0), (2, .int c0)] := hl
  refine lv_iload_n hx hb dX6_checkRange_0 rfl (lv_at hl 0 rfl) ?_
  refine lv_iload_n hx hb dX6_checkRange_1 rfl (lv_at hl 1 rfl) ?_
  refine lv_icmp_lt (tgt := 10) hx hb dX6_checkRange_2 (by decide) (fun c_2 => ?_) (fun c_2 => ?_)
  · -- if_icmplt taken
    have eK : c_rg a0 b0 c0 = 1 := by simp only [c_rg, if_pos c_2]
    obtain ⟨sa, hstr⟩ := hT.2.2.2 ("ReplenishRules", 241, "a number is outside its range") (by decide +kernel)
    exact cx_throw (own := RX6) (cls := "java/lang/IllegalArgumentException") (names := rr_nm) hx hb hl9 hown (by decide +kernel) rr_nm_fit (hg _ qK_X6_128) (hg _ qA_IllegalArgumentException) (hg _ qN_IllegalArgumentException) hstr (cx_words rr_at1 hg hT) hP0 hK hS (hl.1.trans hml.symm) dX6_checkRange_10 dX6_checkRange_13 dX6_checkRange_14 dX6_checkRange_16 dX6_checkRange_19 hEx hlocks (Nat.le_of_ble_eq_true rfl) (Nat.le_of_ble_eq_true rfl) (Nat.le_of_ble_eq_true rfl) (Nat.le_of_ble_eq_true rfl) (by rw [eK]; decide) (by rw [eK]; rfl) (Nat.le_of_ble_eq_true rfl) (Nat.le_of_ble_eq_true rfl)
  · -- if_icmplt not taken
    refine lv_iload_n hx hb dX6_checkRange_5 rfl (lv_at hl 0 rfl) ?_
    refine lv_iload_n hx hb dX6_checkRange_6 rfl (lv_at hl 2 rfl) ?_
    refine lv_icmp_le (tgt := 20) hx hb dX6_checkRange_7 (by decide) (fun c_7 => ?_) (fun c_7 => ?_)
    · -- if_icmple taken
      refine W.widen (k := 1) (n := 6) (Nat.le_of_ble_eq_true rfl) (Nat.le_of_ble_eq_true rfl) ?_
      exact cx_ret (by simp only [c_rg, if_neg c_2, if_pos c_7]) (W.vret hx hb hr (fun t ht hW => ⟨⟨_, σ, rfl, ⟨rfl, rfl⟩, by rw [ht]; exact hP, va_K.moved hW.alike hK⟩, hS.F ht⟩) hS.2.2 dX6_checkRange_20)
    · -- if_icmple not taken
      have eK : c_rg a0 b0 c0 = 1 := by simp only [c_rg, if_neg c_2, if_neg c_7]
      obtain ⟨sa, hstr⟩ := hT.2.2.2 ("ReplenishRules", 241, "a number is outside its range") (by decide +kernel)
      exact cx_throw (own := RX6) (cls := "java/lang/IllegalArgumentException") (names := rr_nm) hx hb hl9 hown (by decide +kernel) rr_nm_fit (hg _ qK_X6_128) (hg _ qA_IllegalArgumentException) (hg _ qN_IllegalArgumentException) hstr (cx_words rr_at1 hg hT) hP0 hK hS (hl.1.trans hml.symm) dX6_checkRange_10 dX6_checkRange_13 dX6_checkRange_14 dX6_checkRange_16 dX6_checkRange_19 hEx hlocks (Nat.le_of_ble_eq_true rfl) (Nat.le_of_ble_eq_true rfl) (Nat.le_of_ble_eq_true rfl) (Nat.le_of_ble_eq_true rfl) (by rw [eK]; decide) (by rw [eK]; rfl) (Nat.le_of_ble_eq_true rfl) (Nat.le_of_ble_eq_true rfl)

set_option maxHeartbeats 600000 in
set_option maxRecDepth 100000 in
theorem m_ReplenishRules_checkSpace (l : Launch) (hl9 : l.stackTraces = false) (G : va_G) (cA : Nat → ClassId) (ad : Nat → Nat) (σ : St) (hJ : rr_inj ad) (a0 : Nat) (ha0 : a0 < 16) (b0 : Int32) : cx_Met (fun _ => False) l yX6_checkSpace wX6_checkSpace ({ frames := 6, cells := 1, slots := 6, locals := 91 }) [.ref (ad a0), .int b0] G cA ad σ (c_sp σ a0 b0) (fun v τ => v = none ∧ τ = σ) 1 6 := by
  refine cx_ofW (cc := cX6_checkSpace) (maxL := 2) (ret := none) (by decide) ?_
  intro p e s m args below meth c s₁ B hml hEx hv
  obtain ⟨rfl, hP, hK, hT⟩ := hv
  have hx := B.exec
  have hb := B.bytes
  have hr := B.returns
  have hts := atoms_spec (ws := wX6_checkSpace :: wG) B.pre
  have hg : ∀ w ∈ wG, w.before _ s = true := fun w h => hts w (List.mem_cons_of_mem _ h)
  have hown : s.vm.findClass RX6 = some m.cls := findClass_of_methodNamed B.named
  have hlocks := B.notSynchronized
  have hS : va_S (fun _ => False) s.heap s.heap [] := va_S.rf
  have hP0 := hP
  have hl := lv_entry ([.ref (ad a0), .int b0]) (n := 2) (Nat.le_of_ble_eq_true rfl)
  rw [lg_entry_eq]
  generalize (lg_sl ([.ref (ad a0), .int b0]) ++ List.replicate (2 - (lg_sl ([.ref (ad a0), .int b0])).length) Slot.unset).toArray = ls at hl ⊢
  have hl : lv_has ls 2 [(0, .ref (ad a0)), (1, .int b0)] := hl
  refine lv_aload_n hx hb dX6_checkSpace_0 rfl (lv_at hl 0 rfl) ?_
  refine vp_callSi (W.runV (As := []) (rest := []) ⟨hx, hb, hml, hown, hg⟩ (m_Place_space l G cA ad σ a0 ha0) (cwV 0 hg (gV qM_X6_243 qI_X2_space qS_X2_space qN_X2 kX2_space) rfl rfl rfl (by decide +kernel) ⟨Nat.le_of_ble_eq_true rfl, Nat.le_of_ble_eq_true rfl⟩) (rr_pv hK hP (va_recv hK hP (ci := 2) (q0 := a0) rfl (rl_Place ha0))) rfl rfl hl.1 rfl (lv_room (Nat.le_of_ble_eq_true rfl)) dX6_checkSpace_1 ⟨Nat.le_of_ble_eq_true rfl, Nat.le_of_ble_eq_true rfl⟩) (nm_e ?_)
  refine lv_iload_n hx hb dX6_checkSpace_4 rfl (lv_at hl 1 rfl) ?_
  refine lv_icmp_ge (tgt := 18) hx hb dX6_checkSpace_5 (by decide) (fun c_5 => ?_) (fun c_5 => ?_)
  · -- if_icmpge taken
    refine W.widen (k := 1) (n := 6) (Nat.le_of_ble_eq_true rfl) (Nat.le_of_ble_eq_true rfl) ?_
    exact cx_ret (by simp only [c_sp, if_pos c_5]) (W.vret hx hb hr (fun t ht hW => ⟨⟨_, σ, rfl, ⟨rfl, rfl⟩, by rw [ht]; exact hP, va_K.moved hW.alike hK⟩, hS.F ht⟩) hS.2.2 dX6_checkSpace_18)
  · -- if_icmpge not taken
    have eK : c_sp σ a0 b0 = 3 := by simp only [c_sp, if_neg c_5]
    obtain ⟨sa, hstr⟩ := hT.2.2.2 ("ReplenishRules", 246, "the place has no room for so many") (by decide +kernel)
    exact cx_throw (own := RX6) (cls := "java/lang/UnsupportedOperationException") (names := rr_nm) hx hb hl9 hown (by decide +kernel) rr_nm_fit (hg _ qK_X6_150) (hg _ qA_UnsupportedOperationException) (hg _ qN_UnsupportedOperationException) hstr (cx_words rr_at3 hg hT) hP0 hK hS (hl.1.trans hml.symm) dX6_checkSpace_8 dX6_checkSpace_11 dX6_checkSpace_12 dX6_checkSpace_14 dX6_checkSpace_17 hEx hlocks (Nat.le_of_ble_eq_true rfl) (Nat.le_of_ble_eq_true rfl) (Nat.le_of_ble_eq_true rfl) (Nat.le_of_ble_eq_true rfl) (by rw [eK]; decide) (by rw [eK]; rfl) (Nat.le_of_ble_eq_true rfl) (Nat.le_of_ble_eq_true rfl)

set_option maxHeartbeats 600000 in
set_option maxRecDepth 100000 in
theorem m_ReplenishRules_placeAt (l : Launch) (hl9 : l.stackTraces = false) (G : va_G) (cA : Nat → ClassId) (ad : Nat → Nat) (σ : St) (hJ : rr_inj ad) (a0 : Int32) : cx_Met (fun _ => False) l yX6_placeAt wX6_placeAt ({ frames := 7, cells := 1, slots := 6, locals := 113 }) [.ref (ad 66), .int a0] G cA ad σ (c_placeAt a0) (fun v τ => v = some (.ref (ad (nx a0))) ∧ τ = σ) 1 6 := by
  refine cx_ofW (cc := cX6_placeAt) (maxL := 2) (ret := (some (.object "ReplenishRules$Place"))) (by decide) ?_
  intro p e s m args below meth c s₁ B hml hEx hv
  obtain ⟨rfl, hP, hK, hT⟩ := hv
  have hx := B.exec
  have hb := B.bytes
  have hr := B.returns
  have hts := atoms_spec (ws := wX6_placeAt :: wG) B.pre
  have hg : ∀ w ∈ wG, w.before _ s = true := fun w h => hts w (List.mem_cons_of_mem _ h)
  have hown : s.vm.findClass RX6 = some m.cls := findClass_of_methodNamed B.named
  have hlocks := B.notSynchronized
  have hS : va_S (fun _ => False) s.heap s.heap [] := va_S.rf
  have hP0 := hP
  have hl := lv_entry ([.ref (ad 66), .int a0]) (n := 2) (Nat.le_of_ble_eq_true rfl)
  rw [lg_entry_eq]
  generalize (lg_sl ([.ref (ad 66), .int a0]) ++ List.replicate (2 - (lg_sl ([.ref (ad 66), .int a0])).length) Slot.unset).toArray = ls at hl ⊢
  have hl : lv_has ls 2 [(0, .ref (ad 66)), (1, .int a0)] := hl
  refine lv_iload_n hx hb dX6_placeAt_0 rfl (lv_at hl 1 rfl) ?_
  refine lv_iconst (v := 0) hx hb dX6_placeAt_1 (by decide) ?_
  refine lv_bipush (v := 15) hx hb dX6_placeAt_2 (by decide) ?_
  refine cx_callS (As := [.int a0, .int 0, .int 15]) (rest := []) ⟨hx, hb, hml, hown, hg⟩ (m_ReplenishRules_checkRange l hl9 G cA ad σ hJ a0 0 15) (cwS 3 hg (gS qM_X6_61 qT_X6_checkRange qN_X6 kX6_checkRange) rfl rfl rfl (by decide +kernel) ⟨Nat.le_of_ble_eq_true rfl, Nat.le_of_ble_eq_true rfl⟩) hK hP hT (fun _ h => h.elim) hS  rfl hl.1 rfl (lv_room (Nat.le_of_ble_eq_true rfl)) dX6_placeAt_4 ⟨Nat.le_of_ble_eq_true rfl, Nat.le_of_ble_eq_true rfl⟩ hEx hlocks (Nat.le_of_ble_eq_true rfl) (Nat.le_of_ble_eq_true rfl) (fun hk_4 => by simp only [c_placeAt, c_then_n hk_4]) (fun hk_4 v9 τ9 H hR hP hS _ => ?_)
  obtain ⟨rfl, hτ9⟩ := hR
  rw [hτ9] at hP
  show W _ _ _ _ _ _ _ _ _ _ _ _ _ _ _ (F0 m 7 ls [])
  refine W.widen (k := 1) (n := 6) (Nat.le_of_ble_eq_true rfl) (Nat.le_of_ble_eq_true rfl) ?_
  refine lv_aload_n hx hb dX6_placeAt_7 rfl (lv_at hl 0 rfl) ?_
  refine va_get (D := G) (ci := 6) (v := .ref (ad 67)) (C := RX6) (T := TX6) (N := 8) hx hb hg hinX6 hown hK hP 66 rl_main rfl 0 (by decide) (hg _ qF_X6_11) (fun _ h9 => h9) rfl dX6_placeAt_8 ?_
  refine lv_iload_n hx hb dX6_placeAt_11 rfl (lv_at hl 1 rfl) ?_
  refine va_aldq hx hb hK hP 67 2 rl_placesA rfl (placeAt_in hk_4) dX6_placeAt_12 ?_
  show W _ _ _ _ _ _ _ _ _ _ _ _ _ _ _ (F0 m _ ls (.ref (ad (nx a0)) :: []))
  refine W.widen (k := 1) (n := 6) (Nat.le_of_ble_eq_true rfl) (Nat.le_of_ble_eq_true rfl) ?_
  exact cx_ret (by simp only [c_placeAt, hk_4, c_then_z]) (W.aret (v := .ref (ad (nx a0))) (rt := .object "ReplenishRules$Place") hx hb hr (Or.inl ⟨_, rfl⟩) (Or.inr ⟨_, rfl⟩) (fun t ht hW => ⟨⟨_, σ, rfl, ⟨rfl, rfl⟩, by rw [ht]; exact hP, va_K.moved hW.alike hK⟩, hS.F ht⟩) hS.2.2 dX6_placeAt_13)

set_option maxHeartbeats 600000 in
set_option maxRecDepth 100000 in
theorem m_ReplenishRules_faceAt (l : Launch) (hl9 : l.stackTraces = false) (G : va_G) (cA : Nat → ClassId) (ad : Nat → Nat) (σ : St) (hJ : rr_inj ad) (a0 : Int32) : cx_Met (fun _ => False) l yX6_faceAt wX6_faceAt ({ frames := 8, cells := 2, slots := 12, locals := 134 }) [.ref (ad 66), .int a0] G cA ad σ (c_faceAt σ a0) (fun v τ => v = some (.ref (ad (nx a0))) ∧ τ = σ) 2 12 := by
  refine cx_ofW (cc := cX6_faceAt) (maxL := 3) (ret := (some (.object "ReplenishRules$Place"))) (by decide) ?_
  intro p e s m args below meth c s₁ B hml hEx hv
  obtain ⟨rfl, hP, hK, hT⟩ := hv
  have hx := B.exec
  have hb := B.bytes
  have hr := B.returns
  have hts := atoms_spec (ws := wX6_faceAt :: wG) B.pre
  have hg : ∀ w ∈ wG, w.before _ s = true := fun w h => hts w (List.mem_cons_of_mem _ h)
  have hown : s.vm.findClass RX6 = some m.cls := findClass_of_methodNamed B.named
  have hlocks := B.notSynchronized
  have hS : va_S (fun _ => False) s.heap s.heap [] := va_S.rf
  have hP0 := hP
  have hl := lv_entry ([.ref (ad 66), .int a0]) (n := 3) (Nat.le_of_ble_eq_true rfl)
  rw [lg_entry_eq]
  generalize (lg_sl ([.ref (ad 66), .int a0]) ++ List.replicate (3 - (lg_sl ([.ref (ad 66), .int a0])).length) Slot.unset).toArray = ls at hl ⊢
  have hl : lv_has ls 3 [(0, .ref (ad 66)), (1, .int a0)] := hl
  refine lv_aload_n hx hb dX6_faceAt_0 rfl (lv_at hl 0 rfl) ?_
  refine lv_iload_n hx hb dX6_faceAt_1 rfl (lv_at hl 1 rfl) ?_
  refine cx_callV (As := [.int a0]) (rest := []) ⟨hx, hb, hml, hown, hg⟩ (m_ReplenishRules_placeAt l hl9 G cA ad σ hJ a0) (cwV 1 hg (gV qM_X6_56 qI_X6_placeAt qS_X6_placeAt qN_X6 kX6_placeAt) rfl rfl rfl (by decide +kernel) ⟨Nat.le_of_ble_eq_true rfl, Nat.le_of_ble_eq_true rfl⟩) hK hP hT (fun _ h => h.elim) hS (va_recv hK hP (ci := 6) (q0 := 66) rfl rl_main) rfl hl.1 rfl (lv_room (Nat.le_of_ble_eq_true rfl)) dX6_faceAt_2 ⟨Nat.le_of_ble_eq_true rfl, Nat.le_of_ble_eq_true rfl⟩ hEx hlocks (Nat.le_of_ble_eq_true rfl) (Nat.le_of_ble_eq_true rfl) (fun hk_2 => by simp only [c_faceAt, c_then_n hk_2]) (fun hk_2 v9 τ9 H hR hP hS _ => ?_)
  obtain ⟨rfl, hτ9⟩ := hR
  rw [hτ9] at hP
  show W _ _ _ _ _ _ _ _ _ _ _ _ _ _ _ (F0 m 5 ls [.ref (ad (nx a0))])
  refine W.widen (k := 1) (n := 6) (Nat.le_of_ble_eq_true rfl) (Nat.le_of_ble_eq_true rfl) ?_
  refine lv_astore_n (lv' := [(2, .ref (ad (nx a0))), (0, .ref (ad 66)), (1, .int a0)]) hx hb dX6_faceAt_5 rfl hl (by decide) rfl (fun ls hl => ?_)
  refine lv_aload_n hx hb dX6_faceAt_6 rfl (lv_at hl 0 rfl) ?_
  refine vp_callSi (W.runV (As := []) (rest := []) ⟨hx, hb, hml, hown, hg⟩ (m_Place_isFace l G cA ad σ (nx a0) (vp_lt (placeAt_in hk_2))) (cwV 0 hg (gV qM_X6_248 qI_X2_isFace qS_X2_isFace qN_X2 kX2_isFace) rfl rfl rfl (by decide +kernel) ⟨Nat.le_of_ble_eq_true rfl, Nat.le_of_ble_eq_true rfl⟩) (rr_pv hK hP (va_recv hK hP (ci := 2) (q0 := (nx a0)) rfl (rl_Place (vp_lt (placeAt_in hk_2))))) rfl rfl hl.1 rfl (lv_room (Nat.le_of_ble_eq_true rfl)) dX6_faceAt_7 ⟨Nat.le_of_ble_eq_true rfl, Nat.le_of_ble_eq_true rfl⟩) (nm_e ?_)
  refine lv_if_ne (tgt := 23) hx hb dX6_faceAt_10 (by decide) (fun c_10 => ?_) (fun c_10 => ?_)
  · -- ifne taken
    refine lv_aload_n hx hb dX6_faceAt_23 rfl (lv_at hl 0 rfl) ?_
    refine W.widen (k := 2) (n := 12) (Nat.le_of_ble_eq_true rfl) (Nat.le_of_ble_eq_true rfl) ?_
    exact cx_ret (by simp only [c_faceAt, hk_2, c_then_z, if_neg c_10]) (W.aret (v := .ref (ad (nx a0))) (rt := .object "ReplenishRules$Place") hx hb hr (Or.inl ⟨_, rfl⟩) (Or.inr ⟨_, rfl⟩) (fun t ht hW => ⟨⟨_, σ, rfl, ⟨rfl, rfl⟩, by rw [ht]; exact hP, va_K.moved hW.alike hK⟩, hS.F ht⟩) hS.2.2 dX6_faceAt_24)
  · -- ifne not taken
    have eK : c_faceAt σ a0 = 2 := by simp only [c_faceAt, hk_2, c_then_z, if_pos c_10]
    obtain ⟨sa, hstr⟩ := hT.2.2.2 ("ReplenishRules", 252, "the place is no face") (by decide +kernel)
    exact cx_throw (own := RX6) (cls := "java/lang/IllegalStateException") (names := rr_nm) hx hb hl9 hown (by decide +kernel) rr_nm_fit (hg _ qK_X6_72) (hg _ qA_IllegalStateException) (hg _ qN_IllegalStateException) hstr (cx_words rr_at2 hg hT) hP0 hK hS (hl.1.trans hml.symm) dX6_faceAt_13 dX6_faceAt_16 dX6_faceAt_17 dX6_faceAt_19 dX6_faceAt_22 hEx hlocks (Nat.le_of_ble_eq_true rfl) (Nat.le_of_ble_eq_true rfl) (Nat.le_of_ble_eq_true rfl) (Nat.le_of_ble_eq_true rfl) (by rw [eK]; decide) (by rw [eK]; rfl) (Nat.le_of_ble_eq_true rfl) (Nat.le_of_ble_eq_true rfl)

set_option maxHeartbeats 600000 in
set_option maxRecDepth 100000 in
theorem m_Plan_moveAt (l : Launch) (hl9 : l.stackTraces = false) (G : va_G) (cA : Nat → ClassId) (ad : Nat → Nat) (σ : St) (hJ : rr_inj ad) (hI : Inv σ) (a0 : Int32) : cx_Met (fun _ => False) l yX3_moveAt wX3_moveAt ({ frames := 6, cells := 1, slots := 6, locals := 91 }) [.ref (ad 78), .int a0] G cA ad σ (c_moveAt σ a0) (fun v τ => v = some (.ref (ad (36 + nx a0))) ∧ τ = σ) 1 6 := by
  refine cx_ofW (cc := cX3_moveAt) (maxL := 2) (ret := (some (.object "ReplenishRules$Move"))) (by decide) ?_
  intro p e s m args below meth c s₁ B hml hEx hv
  obtain ⟨rfl, hP, hK, hT⟩ := hv
  have hx := B.exec
  have hb := B.bytes
  have hr := B.returns
  have hts := atoms_spec (ws := wX3_moveAt :: wG) B.pre
  have hg : ∀ w ∈ wG, w.before _ s = true := fun w h => hts w (List.mem_cons_of_mem _ h)
  have hown : s.vm.findClass RX3 = some m.cls := findClass_of_methodNamed B.named
  have hlocks := B.notSynchronized
  have hS : va_S (fun _ => False) s.heap s.heap [] := va_S.rf
  have hP0 := hP
  have hl := lv_entry ([.ref (ad 78), .int a0]) (n := 2) (Nat.le_of_ble_eq_true rfl)
  rw [lg_entry_eq]
  generalize (lg_sl ([.ref (ad 78), .int a0]) ++ List.replicate (2 - (lg_sl ([.ref (ad 78), .int a0])).length) Slot.unset).toArray = ls at hl ⊢
  have hl : lv_has ls 2 [(0, .ref (ad 78)), (1, .int a0)] := hl
  refine lv_iload_n hx hb dX3_moveAt_0 rfl (lv_at hl 1 rfl) ?_
  refine lv_if_lt (tgt := 12) hx hb dX3_moveAt_1 (by decide) (fun c_1 => ?_) (fun c_1 => ?_)
  · -- iflt taken
    have eK : c_moveAt σ a0 = 4 := by simp only [c_moveAt, if_pos c_1]
    obtain ⟨sa, hstr⟩ := hT.2.2.2 ("ReplenishRules$Plan", 33, "there is no such move") (by decide +kernel)
    exact cx_throwN (own := RX3) hx hb hl9 hown  (hg _ qK_X3_31) (hg _ qA_NoSuchElementException) (hg _ qN_NoSuchElementException) hstr (cx_words rr_at4 hg hT) hP0 hK hS (hl.1.trans hml.symm) dX3_moveAt_12 dX3_moveAt_15 dX3_moveAt_16 dX3_moveAt_18 dX3_moveAt_21 hEx hlocks (Nat.le_of_ble_eq_true rfl) (Nat.le_of_ble_eq_true rfl) (Nat.le_of_ble_eq_true rfl) (Nat.le_of_ble_eq_true rfl) (by rw [eK]; decide) (by rw [eK]; rfl) (Nat.le_of_ble_eq_true rfl) (Nat.le_of_ble_eq_true rfl)
  · -- iflt not taken
    refine lv_iload_n hx hb dX3_moveAt_4 rfl (lv_at hl 1 rfl) ?_
    refine lv_aload_n hx hb dX3_moveAt_5 rfl (lv_at hl 0 rfl) ?_
    refine va_get (D := G) (ci := 3) (v := .int (σ 42 0)) (C := RX3) (T := TX3) (N := 5) hx hb hg hinX3 hown hK hP 78 rl_Plan rfl 1 (by decide) (hg _ qF_X3_17) (fun _ h9 => h9) rfl dX3_moveAt_6 ?_
    refine lv_icmp_lt (tgt := 22) hx hb dX3_moveAt_9 (by decide) (fun c_9 => ?_) (fun c_9 => ?_)
    · -- if_icmplt taken
      refine lv_aload_n hx hb dX3_moveAt_22 rfl (lv_at hl 0 rfl) ?_
      refine va_get (D := G) (ci := 3) (v := .ref (ad 79)) (C := RX3) (T := TX3) (N := 5) hx hb hg hinX3 hown hK hP 78 rl_Plan rfl 0 (by decide) (hg _ qF_X3_11) (fun _ h9 => h9) rfl dX3_moveAt_23 ?_
      refine lv_iload_n hx hb dX3_moveAt_26 rfl (lv_at hl 1 rfl) ?_
      refine va_aldq hx hb hK hP 79 4 rl_movesA rfl (moveAt_in hI (by simp only [c_moveAt, if_neg c_1, if_pos c_9])) dX3_moveAt_27 ?_
      show W _ _ _ _ _ _ _ _ _ _ _ _ _ _ _ (F0 m _ ls (.ref (ad (36 + nx a0)) :: []))
      refine W.widen (k := 1) (n := 6) (Nat.le_of_ble_eq_true rfl) (Nat.le_of_ble_eq_true rfl) ?_
      exact cx_ret (by simp only [c_moveAt, if_neg c_1, if_pos c_9]) (W.aret (v := .ref (ad (36 + nx a0))) (rt := .object "ReplenishRules$Move") hx hb hr (Or.inl ⟨_, rfl⟩) (Or.inr ⟨_, rfl⟩) (fun t ht hW => ⟨⟨_, σ, rfl, ⟨rfl, rfl⟩, by rw [ht]; exact hP, va_K.moved hW.alike hK⟩, hS.F ht⟩) hS.2.2 dX3_moveAt_28)
    · -- if_icmplt not taken
      have eK : c_moveAt σ a0 = 4 := by simp only [c_moveAt, if_neg c_1, if_neg c_9]
      obtain ⟨sa, hstr⟩ := hT.2.2.2 ("ReplenishRules$Plan", 33, "there is no such move") (by decide +kernel)
      exact cx_throwN (own := RX3) hx hb hl9 hown  (hg _ qK_X3_31) (hg _ qA_NoSuchElementException) (hg _ qN_NoSuchElementException) hstr (cx_words rr_at4 hg hT) hP0 hK hS (hl.1.trans hml.symm) dX3_moveAt_12 dX3_moveAt_15 dX3_moveAt_16 dX3_moveAt_18 dX3_moveAt_21 hEx hlocks (Nat.le_of_ble_eq_true rfl) (Nat.le_of_ble_eq_true rfl) (Nat.le_of_ble_eq_true rfl) (Nat.le_of_ble_eq_true rfl) (by rw [eK]; decide) (by rw [eK]; rfl) (Nat.le_of_ble_eq_true rfl) (Nat.le_of_ble_eq_true rfl)
