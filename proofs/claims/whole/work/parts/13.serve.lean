set_option maxHeartbeats 600000 in
set_option maxRecDepth 100000 in
theorem m_ReplenishRules_takeFromReserves (l : Launch) (G : va_G) (cA : Nat → ClassId) (ad : Nat → Nat) (σ : St) (hJ : rr_inj ad) (hI : Inv σ) (a0 : Nat) (ha0 : a0 < 16) (b0 : Int32) : Met l yX6_takeFromReserves (wX6_takeFromReserves :: wG) ({ frames := 4, cells := 0, slots := 0, locals := 87 }) (va_Pc [.ref (ad 66), .ref (ad a0), .int b0] (rrW G cA ad σ)) (va_Qv (fun σ' => σ' = c_takeFrom σ a0 b0) (rrW G cA ad) (rrA ad)) 0 0 (rrA ad) := by
  refine Met.ofW (cc := cX6_takeFromReserves) (maxL := 6) (ret := none) (by decide) rfl ?_
  intro p e s m args below meth c s₁ B hml hv
  obtain ⟨rfl, hP, hK⟩ := hv
  have hx := B.exec
  have hb := B.bytes
  have hr := B.returns
  have hts := atoms_spec (ws := wX6_takeFromReserves :: wG) B.pre
  have hg : ∀ w ∈ wG, w.before _ s = true := fun w h => hts w (List.mem_cons_of_mem _ h)
  have hown : s.vm.findClass RX6 = some m.cls := findClass_of_methodNamed B.named
  have hlocks := B.notSynchronized
  have hS : va_S (rrA ad) s.heap s.heap [] := va_S.rf
  have hl := lv_entry ([.ref (ad 66), .ref (ad a0), .int b0]) (n := 6) (Nat.le_of_ble_eq_true rfl)
  rw [lg_entry_eq]
  generalize (lg_sl ([.ref (ad 66), .ref (ad a0), .int b0]) ++ List.replicate (6 - (lg_sl ([.ref (ad 66), .ref (ad a0), .int b0])).length) Slot.unset).toArray = ls at hl ⊢
  have hl : lv_has ls 6 [(0, .ref (ad 66)), (1, .ref (ad a0)), (2, .int b0)] := hl
  refine lv_iconst (v := 0) hx hb dX6_takeFromReserves_0 (by decide) ?_
  refine lv_topi (fun y_1 ey_1 => ?_)
  obtain rfl : y_1 = nI 0 := ey_1.trans (nI_0.symm)
  refine lv_istore_n (lv' := [(3, .int (nI 0)), (0, .ref (ad 66)), (1, .ref (ad a0)), (2, .int b0)]) hx hb dX6_takeFromReserves_1 rfl hl (by decide) rfl (fun ls hl => ?_)
  refine lp_rw (f := c_takeF a0 b0) (t := 16) (nL := 6) (fun _ σ => Inv σ) (fun k => [(3, .int (nI k)), (0, .ref (ad 66)), (1, .ref (ad a0)), (2, .int b0)]) 16 0 σ (by decide) ?_ ?_ hI hP hS ls (lv_sub hl [0, 1, 2, 3] rfl)
  · intro k σ1 H locs hk hIσ1 hP hS IH ls hl
    have hl : lv_has ls 6 [(3, .int (nI k)), (0, .ref (ad 66)), (1, .ref (ad a0)), (2, .int b0)] := hl
    refine lv_iload_n hx hb dX6_takeFromReserves_2 rfl (lv_at hl 0 rfl) ?_
    refine lv_bipush (v := 16) hx hb dX6_takeFromReserves_3 (by decide) ?_
    refine lv_icmp_ge (tgt := 66) hx hb dX6_takeFromReserves_5 (by decide) (fun c_5 => ?_) (fun c_5 => ?_)
    · -- if_icmpge taken
      exact absurd c_5 (nI_ge hk (by decide))
    · -- if_icmpge not taken
      refine lv_aload_n hx hb dX6_takeFromReserves_8 rfl (lv_at hl 1 rfl) ?_
      refine va_get (D := G) (ci := 6) (v := .ref (ad 67)) (C := RX6) (T := TX6) (N := 8) hx hb hg hinX6 hown hK hP 66 rl_main rfl 0 (by decide) (hg _ qF_X6_11) (fun _ h9 => h9) rfl dX6_takeFromReserves_9 ?_
      refine lv_iload_n hx hb dX6_takeFromReserves_12 rfl (lv_at hl 0 rfl) ?_
      refine va_aldq hx hb hK hP 67 2 rl_placesA rfl (nI_in16 hk) dX6_takeFromReserves_13 ?_
      show W _ _ _ _ _ _ _ _ _ _ _ _ _ _ _ (F0 m _ ls (.ref (ad (nx (nI k))) :: []))
      refine lv_astore (lv' := [(4, .ref (ad (nx (nI k)))), (3, .int (nI k)), (0, .ref (ad 66)), (1, .ref (ad a0)), (2, .int b0)]) hx hb dX6_takeFromReserves_14 hl (by decide) rfl (fun ls hl => ?_)
      refine lv_aload hx hb dX6_takeFromReserves_16 (lv_at hl 0 rfl) ?_
      refine va_get (D := G) (ci := 2) (v := .int (σ1 1 (nx (nI k)))) (C := RX2) (T := TX2) (N := 13) hx hb hg hinX2 hown hK hP (nx (nI k)) (rl_Place (vp_lt (nI_in16 hk))) rfl 3 (by decide) (hg _ qF_X6_82) (fun _ h9 => h9) rfl dX6_takeFromReserves_18 ?_
      refine lv_aload_n hx hb dX6_takeFromReserves_21 rfl (lv_at hl 3 rfl) ?_
      refine va_get (D := G) (ci := 2) (v := .int (σ1 1 a0)) (C := RX2) (T := TX2) (N := 13) hx hb hg hinX2 hown hK hP a0 (rl_Place ha0) rfl 3 (by decide) (hg _ qF_X6_82) (fun _ h9 => h9) rfl dX6_takeFromReserves_22 ?_
      refine lv_icmp_ne (tgt := 32) hx hb dX6_takeFromReserves_25 (by decide) (fun c_25 => ?_) (fun c_25 => ?_)
      · -- if_icmpne taken
        refine lv_iconst (v := 0) hx hb dX6_takeFromReserves_32 (by decide) ?_
        refine lv_istore (lv' := [(5, .int 0), (4, .ref (ad (nx (nI k)))), (3, .int (nI k)), (0, .ref (ad 66)), (1, .ref (ad a0)), (2, .int b0)]) hx hb dX6_takeFromReserves_33 hl (by decide) rfl (fun ls hl => ?_)
        refine lv_iload hx hb dX6_takeFromReserves_35 (lv_at hl 0 rfl) ?_
        refine lv_iload_n hx hb dX6_takeFromReserves_37 rfl (lv_at hl 5 rfl) ?_
        refine lv_icmp_ne (tgt := 60) hx hb dX6_takeFromReserves_38 (by decide) (fun c_38 => ?_) (fun c_38 => ?_)
        · -- if_icmpne taken
          refine lv_iinc (v := nI (k + 1)) (lv' := [(3, .int (nI (k + 1))), (5, .int 0), (4, .ref (ad (nx (nI k)))), (0, .ref (ad 66)), (1, .ref (ad a0)), (2, .int b0)]) hx hb dX6_takeFromReserves_60 hl (k := 2) rfl (nI_1 k) (by decide) rfl (fun ls hl => ?_)
          refine lv_goto (tgt := 2) hx hb dX6_takeFromReserves_63 (by decide) ?_
          have eF : (c_takeF a0 b0) k σ1 = σ1 := by simp only [c_takeF, if_neg c_5, if_neg c_25, if_neg c_38]
          exact IH H locs ls (by rw [eF]; exact hIσ1) (by rw [eF]; exact hP) hS (lv_sub hl [0, 3, 4, 5] rfl)
        · -- if_icmpne not taken
          refine lv_aload hx hb dX6_takeFromReserves_41 (lv_at hl 1 rfl) ?_
          refine lv_aload_n hx hb dX6_takeFromReserves_43 rfl (lv_at hl 4 rfl) ?_
          refine va_get (D := G) (ci := 2) (v := .int (σ1 5 a0)) (C := RX2) (T := TX2) (N := 13) hx hb hg hinX2 hown hK hP a0 (rl_Place ha0) rfl 7 (by decide) (hg _ qF_X6_91) (fun _ h9 => h9) rfl dX6_takeFromReserves_44 ?_
          refine vp_callSi (W.runV (As := [.int (σ1 5 a0)]) (rest := []) ⟨hx, hb, hml, hown, hg⟩ (m_Place_isReserveOf l G cA ad σ1 (nx (nI k)) (vp_lt (nI_in16 hk)) (σ1 5 a0)) (cwV 1 hg (gV qM_X6_321 qI_X2_isReserveOf qS_X2_isReserveOf qN_X2 kX2_isReserveOf) rfl rfl rfl (by decide +kernel) ⟨Nat.le_of_ble_eq_true rfl, Nat.le_of_ble_eq_true rfl⟩) (rr_pv hK hP (va_recv hK hP (ci := 2) (q0 := (nx (nI k))) rfl (rl_Place (vp_lt (nI_in16 hk))))) rfl rfl hl.1 rfl (lv_room (Nat.le_of_ble_eq_true rfl)) dX6_takeFromReserves_47 ⟨Nat.le_of_ble_eq_true rfl, Nat.le_of_ble_eq_true rfl⟩) (nm_e ?_)
          refine lv_if_eq (tgt := 60) hx hb dX6_takeFromReserves_50 (by decide) (fun c_50 => ?_) (fun c_50 => ?_)
          · -- ifeq taken
            refine lv_iinc (v := nI (k + 1)) (lv' := [(3, .int (nI (k + 1))), (5, .int 0), (4, .ref (ad (nx (nI k)))), (0, .ref (ad 66)), (1, .ref (ad a0)), (2, .int b0)]) hx hb dX6_takeFromReserves_60 hl (k := 2) rfl (nI_1 k) (by decide) rfl (fun ls hl => ?_)
            refine lv_goto (tgt := 2) hx hb dX6_takeFromReserves_63 (by decide) ?_
            have eF : (c_takeF a0 b0) k σ1 = σ1 := by simp only [c_takeF, if_neg c_5, if_neg c_25, if_pos c_38, if_pos c_50]
            exact IH H locs ls (by rw [eF]; exact hIσ1) (by rw [eF]; exact hP) hS (lv_sub hl [0, 3, 4, 5] rfl)
          · -- ifeq not taken
            refine lv_aload_n hx hb dX6_takeFromReserves_53 rfl (lv_at hl 3 rfl) ?_
            refine lv_aload hx hb dX6_takeFromReserves_54 (lv_at hl 1 rfl) ?_
            refine lv_aload_n hx hb dX6_takeFromReserves_56 rfl (lv_at hl 4 rfl) ?_
            refine va_callv (va_runV (As := [.ref (ad (nx (nI k))), .ref (ad a0)]) (rest := []) ⟨hx, hb, hml, hown, hg⟩ (m_ReplenishRules_planMove l G cA ad σ1 hJ (nx (nI k)) (vp_lt (nI_in16 hk)) a0 ha0 (inv_pc hIσ1).1) (cwV 2 hg (gV qM_X6_324 qI_X6_planMove qS_X6_planMove qN_X6 kX6_planMove) rfl rfl rfl (by decide +kernel) ⟨Nat.le_of_ble_eq_true rfl, Nat.le_of_ble_eq_true rfl⟩) (rr_pv hK hP (va_recv hK hP (ci := 6) (q0 := 66) rfl rl_main)) rfl rfl hl.1 rfl (lv_room (Nat.le_of_ble_eq_true rfl)) dX6_takeFromReserves_57 ⟨Nat.le_of_ble_eq_true rfl, Nat.le_of_ble_eq_true rfl⟩) hS (fun q _ h => h) (fun q h => h) (fun σ2 t H locs ht hvm eσ2 hB hz9 hk9 hS => ?_)
            have hP := hB.1
            rw [ht] at hP
            refine lv_iinc (v := nI (k + 1)) (lv' := [(3, .int (nI (k + 1))), (5, .int 0), (4, .ref (ad (nx (nI k)))), (0, .ref (ad 66)), (1, .ref (ad a0)), (2, .int b0)]) hx hb dX6_takeFromReserves_60 hl (k := 2) rfl (nI_1 k) (by decide) rfl (fun ls hl => ?_)
            refine lv_goto (tgt := 2) hx hb dX6_takeFromReserves_63 (by decide) ?_
            have eF : (c_takeF a0 b0) k σ1 = σ2 := by subst eσ2; simp only [c_takeF, if_neg c_5, if_neg c_25, if_pos c_38, if_neg c_50]
            exact IH H locs ls (by rw [eF]; exact (by rw [eσ2]; exact inv_planMove hIσ1 (nx16 hk) ha0)) (by rw [eF]; exact hP) hS (lv_sub hl [0, 3, 4, 5] rfl)
      · -- if_icmpne not taken
        refine lv_iconst (v := 1) hx hb dX6_takeFromReserves_28 (by decide) ?_
        refine lv_goto (tgt := 33) hx hb dX6_takeFromReserves_29 (by decide) ?_
        refine lv_istore (lv' := [(5, .int 1), (4, .ref (ad (nx (nI k)))), (3, .int (nI k)), (0, .ref (ad 66)), (1, .ref (ad a0)), (2, .int b0)]) hx hb dX6_takeFromReserves_33 hl (by decide) rfl (fun ls hl => ?_)
        refine lv_iload hx hb dX6_takeFromReserves_35 (lv_at hl 0 rfl) ?_
        refine lv_iload_n hx hb dX6_takeFromReserves_37 rfl (lv_at hl 5 rfl) ?_
        refine lv_icmp_ne (tgt := 60) hx hb dX6_takeFromReserves_38 (by decide) (fun c_38 => ?_) (fun c_38 => ?_)
        · -- if_icmpne taken
          refine lv_iinc (v := nI (k + 1)) (lv' := [(3, .int (nI (k + 1))), (5, .int 1), (4, .ref (ad (nx (nI k)))), (0, .ref (ad 66)), (1, .ref (ad a0)), (2, .int b0)]) hx hb dX6_takeFromReserves_60 hl (k := 2) rfl (nI_1 k) (by decide) rfl (fun ls hl => ?_)
          refine lv_goto (tgt := 2) hx hb dX6_takeFromReserves_63 (by decide) ?_
          have eF : (c_takeF a0 b0) k σ1 = σ1 := by simp only [c_takeF, if_neg c_5, if_pos c_25, if_neg c_38]
          exact IH H locs ls (by rw [eF]; exact hIσ1) (by rw [eF]; exact hP) hS (lv_sub hl [0, 3, 4, 5] rfl)
        · -- if_icmpne not taken
          refine lv_aload hx hb dX6_takeFromReserves_41 (lv_at hl 1 rfl) ?_
          refine lv_aload_n hx hb dX6_takeFromReserves_43 rfl (lv_at hl 4 rfl) ?_
          refine va_get (D := G) (ci := 2) (v := .int (σ1 5 a0)) (C := RX2) (T := TX2) (N := 13) hx hb hg hinX2 hown hK hP a0 (rl_Place ha0) rfl 7 (by decide) (hg _ qF_X6_91) (fun _ h9 => h9) rfl dX6_takeFromReserves_44 ?_
          refine vp_callSi (W.runV (As := [.int (σ1 5 a0)]) (rest := []) ⟨hx, hb, hml, hown, hg⟩ (m_Place_isReserveOf l G cA ad σ1 (nx (nI k)) (vp_lt (nI_in16 hk)) (σ1 5 a0)) (cwV 1 hg (gV qM_X6_321 qI_X2_isReserveOf qS_X2_isReserveOf qN_X2 kX2_isReserveOf) rfl rfl rfl (by decide +kernel) ⟨Nat.le_of_ble_eq_true rfl, Nat.le_of_ble_eq_true rfl⟩) (rr_pv hK hP (va_recv hK hP (ci := 2) (q0 := (nx (nI k))) rfl (rl_Place (vp_lt (nI_in16 hk))))) rfl rfl hl.1 rfl (lv_room (Nat.le_of_ble_eq_true rfl)) dX6_takeFromReserves_47 ⟨Nat.le_of_ble_eq_true rfl, Nat.le_of_ble_eq_true rfl⟩) (nm_e ?_)
          refine lv_if_eq (tgt := 60) hx hb dX6_takeFromReserves_50 (by decide) (fun c_50 => ?_) (fun c_50 => ?_)
          · -- ifeq taken
            refine lv_iinc (v := nI (k + 1)) (lv' := [(3, .int (nI (k + 1))), (5, .int 1), (4, .ref (ad (nx (nI k)))), (0, .ref (ad 66)), (1, .ref (ad a0)), (2, .int b0)]) hx hb dX6_takeFromReserves_60 hl (k := 2) rfl (nI_1 k) (by decide) rfl (fun ls hl => ?_)
            refine lv_goto (tgt := 2) hx hb dX6_takeFromReserves_63 (by decide) ?_
            have eF : (c_takeF a0 b0) k σ1 = σ1 := by simp only [c_takeF, if_neg c_5, if_pos c_25, if_pos c_38, if_pos c_50]
            exact IH H locs ls (by rw [eF]; exact hIσ1) (by rw [eF]; exact hP) hS (lv_sub hl [0, 3, 4, 5] rfl)
          · -- ifeq not taken
            refine lv_aload_n hx hb dX6_takeFromReserves_53 rfl (lv_at hl 3 rfl) ?_
            refine lv_aload hx hb dX6_takeFromReserves_54 (lv_at hl 1 rfl) ?_
            refine lv_aload_n hx hb dX6_takeFromReserves_56 rfl (lv_at hl 4 rfl) ?_
            refine va_callv (va_runV (As := [.ref (ad (nx (nI k))), .ref (ad a0)]) (rest := []) ⟨hx, hb, hml, hown, hg⟩ (m_ReplenishRules_planMove l G cA ad σ1 hJ (nx (nI k)) (vp_lt (nI_in16 hk)) a0 ha0 (inv_pc hIσ1).1) (cwV 2 hg (gV qM_X6_324 qI_X6_planMove qS_X6_planMove qN_X6 kX6_planMove) rfl rfl rfl (by decide +kernel) ⟨Nat.le_of_ble_eq_true rfl, Nat.le_of_ble_eq_true rfl⟩) (rr_pv hK hP (va_recv hK hP (ci := 6) (q0 := 66) rfl rl_main)) rfl rfl hl.1 rfl (lv_room (Nat.le_of_ble_eq_true rfl)) dX6_takeFromReserves_57 ⟨Nat.le_of_ble_eq_true rfl, Nat.le_of_ble_eq_true rfl⟩) hS (fun q _ h => h) (fun q h => h) (fun σ2 t H locs ht hvm eσ2 hB hz9 hk9 hS => ?_)
            have hP := hB.1
            rw [ht] at hP
            refine lv_iinc (v := nI (k + 1)) (lv' := [(3, .int (nI (k + 1))), (5, .int 1), (4, .ref (ad (nx (nI k)))), (0, .ref (ad 66)), (1, .ref (ad a0)), (2, .int b0)]) hx hb dX6_takeFromReserves_60 hl (k := 2) rfl (nI_1 k) (by decide) rfl (fun ls hl => ?_)
            refine lv_goto (tgt := 2) hx hb dX6_takeFromReserves_63 (by decide) ?_
            have eF : (c_takeF a0 b0) k σ1 = σ2 := by subst eσ2; simp only [c_takeF, if_neg c_5, if_pos c_25, if_pos c_38, if_neg c_50]
            exact IH H locs ls (by rw [eF]; exact (by rw [eσ2]; exact inv_planMove hIσ1 (nx16 hk) ha0)) (by rw [eF]; exact hP) hS (lv_sub hl [0, 3, 4, 5] rfl)
  · intro H locs hI9 hP hS ls hl
    have hl : lv_has ls 6 [(3, .int (nI 16)), (0, .ref (ad 66)), (1, .ref (ad a0)), (2, .int b0)] := hl
    obtain ⟨σ2, eσ2⟩ : ∃ z, z = foldN (c_takeF a0 b0) 16 0 σ := ⟨_, rfl⟩
    rw [← eσ2] at hP hI9
    refine lv_iload_n hx hb dX6_takeFromReserves_2 rfl (lv_at hl 0 rfl) ?_
    refine lv_bipush (v := 16) hx hb dX6_takeFromReserves_3 (by decide) ?_
    refine lv_icmp_ge (tgt := 66) hx hb dX6_takeFromReserves_5 (by decide) (fun c_5 => ?_) (fun c_5 => ?_)
    · -- if_icmpge taken
      exact W.vret hx hb hr (fun t ht hW => ⟨⟨σ2, rfl, by unfold c_takeFrom; exact eσ2, by rw [ht]; exact hP, va_K.moved hW.alike hK⟩, hS.F ht⟩) hS.2.2 dX6_takeFromReserves_66
    · -- if_icmpge not taken
      exact absurd (Int32.le_refl _) c_5

set_option maxHeartbeats 600000 in
set_option maxRecDepth 100000 in
theorem m_ReplenishRules_serve (l : Launch) (G : va_G) (cA : Nat → ClassId) (ad : Nat → Nat) (σ : St) (hJ : rr_inj ad) (hI : Inv σ) (a0 : Nat) (ha0 : a0 < 16) : Met l yX6_serve (wX6_serve :: wG) ({ frames := 5, cells := 0, slots := 0, locals := 112 }) (va_Pc [.ref (ad 66), .ref (ad a0)] (rrW G cA ad σ)) (va_Qv (fun σ' => σ' = c_serve σ a0) (rrW G cA ad) (rrA ad)) 0 0 (rrA ad) := by
  refine Met.ofW (cc := cX6_serve) (maxL := 2) (ret := none) (by decide) rfl ?_
  intro p e s m args below meth c s₁ B hml hv
  obtain ⟨rfl, hP, hK⟩ := hv
  have hx := B.exec
  have hb := B.bytes
  have hr := B.returns
  have hts := atoms_spec (ws := wX6_serve :: wG) B.pre
  have hg : ∀ w ∈ wG, w.before _ s = true := fun w h => hts w (List.mem_cons_of_mem _ h)
  have hown : s.vm.findClass RX6 = some m.cls := findClass_of_methodNamed B.named
  have hlocks := B.notSynchronized
  have hS : va_S (rrA ad) s.heap s.heap [] := va_S.rf
  have hl := lv_entry ([.ref (ad 66), .ref (ad a0)]) (n := 2) (Nat.le_of_ble_eq_true rfl)
  rw [lg_entry_eq]
  generalize (lg_sl ([.ref (ad 66), .ref (ad a0)]) ++ List.replicate (2 - (lg_sl ([.ref (ad 66), .ref (ad a0)])).length) Slot.unset).toArray = ls at hl ⊢
  have hl : lv_has ls 2 [(0, .ref (ad 66)), (1, .ref (ad a0))] := hl
  refine lv_aload_n hx hb dX6_serve_0 rfl (lv_at hl 0 rfl) ?_
  refine lv_aload_n hx hb dX6_serve_1 rfl (lv_at hl 1 rfl) ?_
  refine lv_iconst (v := 1) hx hb dX6_serve_2 (by decide) ?_
  refine va_callv (va_runV (As := [.ref (ad a0), .int 1]) (rest := []) ⟨hx, hb, hml, hown, hg⟩ (m_ReplenishRules_takeFromReserves l G cA ad σ hJ hI a0 ha0 1) (cwV 2 hg (gV qM_X6_317 qI_X6_takeFromReserves qS_X6_takeFromReserves qN_X6 kX6_takeFromReserves) rfl rfl rfl (by decide +kernel) ⟨Nat.le_of_ble_eq_true rfl, Nat.le_of_ble_eq_true rfl⟩) (rr_pv hK hP (va_recv hK hP (ci := 6) (q0 := 66) rfl rl_main)) rfl rfl hl.1 rfl (lv_room (Nat.le_of_ble_eq_true rfl)) dX6_serve_3 ⟨Nat.le_of_ble_eq_true rfl, Nat.le_of_ble_eq_true rfl⟩) hS (fun q _ h => h) (fun q h => h) (fun σ1 t H locs ht hvm eσ1 hB hz9 hk9 hS => ?_)
  have hP := hB.1
  rw [ht] at hP
  have hIσ1 : Inv σ1 := by rw [eσ1]; exact inv_takeFrom hI ha0 1
  refine lv_aload_n hx hb dX6_serve_6 rfl (lv_at hl 0 rfl) ?_
  refine lv_aload_n hx hb dX6_serve_7 rfl (lv_at hl 1 rfl) ?_
  refine lv_iconst (v := 0) hx hb dX6_serve_8 (by decide) ?_
  refine va_callv (va_runV (As := [.ref (ad a0), .int 0]) (rest := []) ⟨hx, hb, hml, hown, hg⟩ (m_ReplenishRules_takeFromReserves l G cA ad σ1 hJ hIσ1 a0 ha0 0) (cwV 2 hg (gV qM_X6_317 qI_X6_takeFromReserves qS_X6_takeFromReserves qN_X6 kX6_takeFromReserves) rfl rfl rfl (by decide +kernel) ⟨Nat.le_of_ble_eq_true rfl, Nat.le_of_ble_eq_true rfl⟩) (rr_pv hK hP (va_recv hK hP (ci := 6) (q0 := 66) rfl rl_main)) rfl rfl hl.1 rfl (lv_room (Nat.le_of_ble_eq_true rfl)) dX6_serve_9 ⟨Nat.le_of_ble_eq_true rfl, Nat.le_of_ble_eq_true rfl⟩) hS (fun q _ h => h) (fun q h => h) (fun σ2 t H locs ht hvm eσ2 hB hz9 hk9 hS => ?_)
  have hP := hB.1
  rw [ht] at hP
  have hIσ2 : Inv σ2 := by rw [eσ2]; exact inv_takeFrom hIσ1 ha0 0
  refine lv_aload_n hx hb dX6_serve_12 rfl (lv_at hl 1 rfl) ?_
  refine lv_iconst (v := 0) hx hb dX6_serve_13 (by decide) ?_
  refine pp_put (D := G) (ci := 2) (v := .int 0) (ty := .int) (C := RX2) (T := TX2) (N := 13) hx hb hg hinX2 tyX2 tyX2_ok nmX2 hown hK hP (rr_D hJ) hS a0 (rl_Place ha0) rfl 11 (by decide) (hg _ qF_X6_297) (fun _ h9 => h9) rfl (by decide +kernel) rfl rfl (Nat.le_of_ble_eq_true rfl) (rs_Place_wanted ha0) dX6_serve_14 (fun H locs hP hS => ?_)
  obtain ⟨σ3, eσ3⟩ : ∃ z, z = up σ2 9 a0 0 := ⟨_, rfl⟩
  rw [← eσ3] at hP
  exact W.vret hx hb hr (fun t ht hW => ⟨⟨σ3, rfl, by rw [eσ3, eσ2, eσ1]; unfold c_serve; rfl, by rw [ht]; exact hP, va_K.moved hW.alike hK⟩, hS.F ht⟩) hS.2.2 dX6_serve_17

set_option maxHeartbeats 600000 in
set_option maxRecDepth 100000 in
theorem m_ReplenishRules_prepare (l : Launch) (G : va_G) (cA : Nat → ClassId) (ad : Nat → Nat) (σ : St) (hJ : rr_inj ad) (hI : Inv σ) (a0 : Nat) (ha0 : a0 < 16) : Met l yX6_prepare (wX6_prepare :: wG) ({ frames := 5, cells := 0, slots := 0, locals := 119 }) (va_Pc [.ref (ad 66), .ref (ad a0)] (rrW G cA ad σ)) (va_Qv (fun σ' => σ' = c_prepare σ a0) (rrW G cA ad) (rrA ad)) 0 0 (rrA ad) := by
  refine Met.ofW (cc := cX6_prepare) (maxL := 2) (ret := none) (by decide) rfl ?_
  intro p e s m args below meth c s₁ B hml hv
  obtain ⟨rfl, hP, hK⟩ := hv
  have hx := B.exec
  have hb := B.bytes
  have hr := B.returns
  have hts := atoms_spec (ws := wX6_prepare :: wG) B.pre
  have hg : ∀ w ∈ wG, w.before _ s = true := fun w h => hts w (List.mem_cons_of_mem _ h)
  have hown : s.vm.findClass RX6 = some m.cls := findClass_of_methodNamed B.named
  have hlocks := B.notSynchronized
  have hS : va_S (rrA ad) s.heap s.heap [] := va_S.rf
  have hl := lv_entry ([.ref (ad 66), .ref (ad a0)]) (n := 2) (Nat.le_of_ble_eq_true rfl)
  rw [lg_entry_eq]
  generalize (lg_sl ([.ref (ad 66), .ref (ad a0)]) ++ List.replicate (2 - (lg_sl ([.ref (ad 66), .ref (ad a0)])).length) Slot.unset).toArray = ls at hl ⊢
  have hl : lv_has ls 2 [(0, .ref (ad 66)), (1, .ref (ad a0))] := hl
  refine lv_aload_n hx hb dX6_prepare_0 rfl (lv_at hl 1 rfl) ?_
  refine lv_iconst (v := 0) hx hb dX6_prepare_1 (by decide) ?_
  refine pp_put (D := G) (ci := 2) (v := .int 0) (ty := .int) (C := RX2) (T := TX2) (N := 13) hx hb hg hinX2 tyX2 tyX2_ok nmX2 hown hK hP (rr_D hJ) hS a0 (rl_Place ha0) rfl 10 (by decide) (hg _ qF_X6_294) (fun _ h9 => h9) rfl (by decide +kernel) rfl rfl (Nat.le_of_ble_eq_true rfl) (rs_Place_planned ha0) dX6_prepare_2 (fun H locs hP hS => ?_)
  obtain ⟨σ1, eσ1⟩ : ∃ z, z = up σ 8 a0 0 := ⟨_, rfl⟩
  rw [← eσ1] at hP
  have hIσ1 : Inv σ1 := by rw [eσ1]; exact inv_up (by decide) hI
  refine lv_aload_n hx hb dX6_prepare_5 rfl (lv_at hl 1 rfl) ?_
  refine lv_iconst (v := 0) hx hb dX6_prepare_6 (by decide) ?_
  refine pp_put (D := G) (ci := 2) (v := .int 0) (ty := .int) (C := RX2) (T := TX2) (N := 13) hx hb hg hinX2 tyX2 tyX2_ok nmX2 hown hK hP (rr_D hJ) hS a0 (rl_Place ha0) rfl 11 (by decide) (hg _ qF_X6_297) (fun _ h9 => h9) rfl (by decide +kernel) rfl rfl (Nat.le_of_ble_eq_true rfl) (rs_Place_wanted ha0) dX6_prepare_7 (fun H locs hP hS => ?_)
  obtain ⟨σ2, eσ2⟩ : ∃ z, z = up σ1 9 a0 0 := ⟨_, rfl⟩
  rw [← eσ2] at hP
  have hIσ2 : Inv σ2 := by rw [eσ2]; exact inv_up (by decide) hIσ1
  refine lv_aload_n hx hb dX6_prepare_10 rfl (lv_at hl 1 rfl) ?_
  refine vp_callSi (W.runV (As := []) (rest := []) ⟨hx, hb, hml, hown, hg⟩ (m_Place_isFace l G cA ad σ2 a0 ha0) (cwV 0 hg (gV qM_X6_248 qI_X2_isFace qS_X2_isFace qN_X2 kX2_isFace) rfl rfl rfl (by decide +kernel) ⟨Nat.le_of_ble_eq_true rfl, Nat.le_of_ble_eq_true rfl⟩) (rr_pv hK hP (va_recv hK hP (ci := 2) (q0 := a0) rfl (rl_Place ha0))) rfl rfl hl.1 rfl (lv_room (Nat.le_of_ble_eq_true rfl)) dX6_prepare_11 ⟨Nat.le_of_ble_eq_true rfl, Nat.le_of_ble_eq_true rfl⟩) (nm_e ?_)
  refine lv_if_eq (tgt := 40) hx hb dX6_prepare_14 (by decide) (fun c_14 => ?_) (fun c_14 => ?_)
  · -- ifeq taken
    exact W.vret hx hb hr (fun t ht hW => ⟨⟨σ2, rfl, by subst eσ1 eσ2; unfold c_prepare; exact (if_pos c_14).symm, by rw [ht]; exact hP, va_K.moved hW.alike hK⟩, hS.F ht⟩) hS.2.2 dX6_prepare_40
  · -- ifeq not taken
    refine lv_aload_n hx hb dX6_prepare_17 rfl (lv_at hl 1 rfl) ?_
    refine lv_aload_n hx hb dX6_prepare_18 rfl (lv_at hl 0 rfl) ?_
    refine lv_aload_n hx hb dX6_prepare_19 rfl (lv_at hl 1 rfl) ?_
    refine lv_aload_n hx hb dX6_prepare_20 rfl (lv_at hl 0 rfl) ?_
    refine lv_aload_n hx hb dX6_prepare_21 rfl (lv_at hl 1 rfl) ?_
    refine vp_callSi (W.runV (As := [.ref (ad a0)]) (rest := [.ref (ad a0), .ref (ad 66), .ref (ad a0)]) ⟨hx, hb, hml, hown, hg⟩ (m_ReplenishRules_thresholdOf l G cA ad σ2 hIσ2 a0 ha0) (cwV 1 hg (gV qM_X6_184 qI_X6_thresholdOf qS_X6_thresholdOf qN_X6 kX6_thresholdOf) rfl rfl rfl (by decide +kernel) ⟨Nat.le_of_ble_eq_true rfl, Nat.le_of_ble_eq_true rfl⟩) (rr_pv hK hP (va_recv hK hP (ci := 6) (q0 := 66) rfl rl_main)) rfl rfl hl.1 rfl (lv_room (Nat.le_of_ble_eq_true rfl)) dX6_prepare_22 ⟨Nat.le_of_ble_eq_true rfl, Nat.le_of_ble_eq_true rfl⟩) (nm_e ?_)
    refine vp_callSi (W.runV (As := [.ref (ad a0), .int (c_thresholdOf σ2 a0)]) (rest := [.ref (ad a0)]) ⟨hx, hb, hml, hown, hg⟩ (m_ReplenishRules_wantedBy l G cA ad σ2 a0 ha0 (c_thresholdOf σ2 a0) (inv_face hIσ2 ha0 c_14)) (cwV 2 hg (gV qM_X6_300 qI_X6_wantedBy qS_X6_wantedBy qN_X6 kX6_wantedBy) rfl rfl rfl (by decide +kernel) ⟨Nat.le_of_ble_eq_true rfl, Nat.le_of_ble_eq_true rfl⟩) (rr_pv hK hP (va_recv hK hP (ci := 6) (q0 := 66) rfl rl_main)) rfl rfl hl.1 rfl (lv_room (Nat.le_of_ble_eq_true rfl)) dX6_prepare_25 ⟨Nat.le_of_ble_eq_true rfl, Nat.le_of_ble_eq_true rfl⟩) (nm_e ?_)
    refine pp_put (D := G) (ci := 2) (v := .int (c_wantedBy σ2 a0 (c_thresholdOf σ2 a0))) (ty := .int) (C := RX2) (T := TX2) (N := 13) hx hb hg hinX2 tyX2 tyX2_ok nmX2 hown hK hP (rr_D hJ) hS a0 (rl_Place ha0) rfl 11 (by decide) (hg _ qF_X6_297) (fun _ h9 => h9) rfl (by decide +kernel) rfl rfl (Nat.le_of_ble_eq_true rfl) (rs_Place_wanted ha0) dX6_prepare_28 (fun H locs hP hS => ?_)
    obtain ⟨σ3, eσ3⟩ : ∃ z, z = up σ2 9 a0 (c_wantedBy σ2 a0 (c_thresholdOf σ2 a0)) := ⟨_, rfl⟩
    rw [← eσ3] at hP
    have hIσ3 : Inv σ3 := by rw [eσ3]; exact inv_up (by decide) hIσ2
    refine lv_aload_n hx hb dX6_prepare_31 rfl (lv_at hl 1 rfl) ?_
    refine lv_aload_n hx hb dX6_prepare_32 rfl (lv_at hl 0 rfl) ?_
    refine lv_aload_n hx hb dX6_prepare_33 rfl (lv_at hl 1 rfl) ?_
    refine vp_callSi (W.runV (As := [.ref (ad a0)]) (rest := [.ref (ad a0)]) ⟨hx, hb, hml, hown, hg⟩ (m_ReplenishRules_needTimeOf l G cA ad σ3 hIσ3 a0 ha0) (cwV 1 hg (gV qM_X6_304 qI_X6_needTimeOf qS_X6_needTimeOf qN_X6 kX6_needTimeOf) rfl rfl rfl (by decide +kernel) ⟨Nat.le_of_ble_eq_true rfl, Nat.le_of_ble_eq_true rfl⟩) (rr_pv hK hP (va_recv hK hP (ci := 6) (q0 := 66) rfl rl_main)) rfl rfl hl.1 rfl (lv_room (Nat.le_of_ble_eq_true rfl)) dX6_prepare_34 ⟨Nat.le_of_ble_eq_true rfl, Nat.le_of_ble_eq_true rfl⟩) (nm_e ?_)
    refine pp_put (D := G) (ci := 2) (v := .int (c_needTimeOf σ3 a0)) (ty := .int) (C := RX2) (T := TX2) (N := 13) hx hb hg hinX2 tyX2 tyX2_ok nmX2 hown hK hP (rr_D hJ) hS a0 (rl_Place ha0) rfl 12 (by decide) (hg _ qF_X6_307) (fun _ h9 => h9) rfl (by decide +kernel) rfl rfl (Nat.le_of_ble_eq_true rfl) (rs_Place_needTime ha0) dX6_prepare_37 (fun H locs hP hS => ?_)
    obtain ⟨σ4, eσ4⟩ : ∃ z, z = up σ3 10 a0 (c_needTimeOf σ3 a0) := ⟨_, rfl⟩
    rw [← eσ4] at hP
    have hIσ4 : Inv σ4 := by rw [eσ4]; exact inv_up (by decide) hIσ3
    exact W.vret hx hb hr (fun t ht hW => ⟨⟨σ4, rfl, by subst eσ1 eσ2 eσ3 eσ4; unfold c_prepare; exact (if_neg c_14).symm, by rw [ht]; exact hP, va_K.moved hW.alike hK⟩, hS.F ht⟩) hS.2.2 dX6_prepare_40
