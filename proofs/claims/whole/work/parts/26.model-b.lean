set_option maxHeartbeats 4000000 in
set_option maxRecDepth 100000 in
theorem m_ReplenishRulesModel_openDays (l : Launch) (G : va_G) (cA : Nat → ClassId) (ad : Nat → Nat) (σ : St) (hI : MInv σ) (a0 : Int32) (hp0 : ¬ a0 < 0) : Met l yX7_openDays (wX7_openDays :: wG) ({ frames := 0, cells := 0, slots := 0, locals := 0 }) (va_Pc [.ref (ad 0), .int a0] (mmW G cA ad σ)) (vp_Si (fun r => r = m_openDays σ a0)) 0 0 (fun _ => False) := by
  refine Met.ofW (cc := cX7_openDays) (maxL := 4) (ret := (some .int)) (by decide) rfl ?_
  intro p e s m args below meth c s₁ B hml hv
  obtain ⟨rfl, hP, hK⟩ := hv
  have hx := B.exec
  have hb := B.bytes
  have hr := B.returns
  have hts := atoms_spec (ws := wX7_openDays :: wG) B.pre
  have hg : ∀ w ∈ wG, w.before _ s = true := fun w h => hts w (List.mem_cons_of_mem _ h)
  have hown : s.vm.findClass RX7 = some m.cls := findClass_of_methodNamed B.named
  have hlocks := B.notSynchronized
  have hl := lv_entry ([.ref (ad 0), .int a0]) (n := 4) (Nat.le_of_ble_eq_true rfl)
  rw [lg_entry_eq]
  generalize (lg_sl ([.ref (ad 0), .int a0]) ++ List.replicate (4 - (lg_sl ([.ref (ad 0), .int a0])).length) Slot.unset).toArray = ls at hl ⊢
  have hl : lv_has ls 4 [(0, .ref (ad 0)), (1, .int a0)] := hl
  refine lv_iconst (v := 0) hx hb dX7_openDays_0 (by decide) ?_
  refine lv_istore_n (lv' := [(2, .int 0), (0, .ref (ad 0)), (1, .int a0)]) hx hb dX7_openDays_1 rfl hl (by decide) rfl (fun ls hl => ?_)
  refine lv_aload_n hx hb dX7_openDays_2 rfl (lv_at hl 1 rfl) ?_
  refine va_get (D := G) (ci := 7) (v := .int (σ 18 0)) (C := RX7) (T := TX7) (N := 33) hx hb hg hinX7 hown hK hP 0 ml_obj rfl 18 (by decide) (hg _ qF_X7_123) (fun _ h9 => h9) rfl dX7_openDays_3 ?_
  refine lv_iconst (v := 1) hx hb dX7_openDays_6 (by decide) ?_
  refine lv_isub hx hb dX7_openDays_7 ?_
  refine lv_topi (fun y_8 ey_8 => ?_)
  obtain rfl : y_8 = m_d σ 0 := ey_8.trans (m_d_0.symm)
  refine lv_istore_n (lv' := [(3, .int (m_d σ 0)), (2, .int 0), (0, .ref (ad 0)), (1, .int a0)]) hx hb dX7_openDays_8 rfl hl (by decide) rfl (fun ls hl => ?_)
  refine lp_ro (f := m_opF σ) (t := m_cnt σ a0) (nL := 4) (fun k a => [(3, .int (m_d σ k)), (2, .int a), (0, .ref (ad 0)), (1, .int a0)]) (m_cnt σ a0) 0 0 (Nat.zero_add _) ?_ ?_ ls (lv_sub hl [0, 1, 2, 3] rfl)
  · intro k a hk IH ls hl
    have hl : lv_has ls 4 [(3, .int (m_d σ k)), (2, .int a), (0, .ref (ad 0)), (1, .int a0)] := hl
    refine lv_iload_n hx hb dX7_openDays_9 rfl (lv_at hl 0 rfl) ?_
    refine lv_if_lt (tgt := 46) hx hb dX7_openDays_10 (by decide) (fun c_10 => ?_) (fun c_10 => ?_)
    · -- iflt taken
      exact absurd c_10 (m_d_pos (minv_today hI) hk)
    · -- iflt not taken
      refine lv_iload_n hx hb dX7_openDays_13 rfl (lv_at hl 0 rfl) ?_
      refine lv_aload_n hx hb dX7_openDays_14 rfl (lv_at hl 2 rfl) ?_
      refine va_get (D := G) (ci := 7) (v := .int (σ 18 0)) (C := RX7) (T := TX7) (N := 33) hx hb hg hinX7 hown hK hP 0 ml_obj rfl 18 (by decide) (hg _ qF_X7_123) (fun _ h9 => h9) rfl dX7_openDays_15 ?_
      refine lv_iload_n hx hb dX7_openDays_18 rfl (lv_at hl 3 rfl) ?_
      refine lv_isub hx hb dX7_openDays_19 ?_
      refine lv_icmp_lt (tgt := 46) hx hb dX7_openDays_20 (by decide) (fun c_20 => ?_) (fun c_20 => ?_)
      · -- if_icmplt taken
        exact absurd c_20 (m_d_ge (minv_today hI) hp0 hk)
      · -- if_icmplt not taken
        refine lv_iload_n hx hb dX7_openDays_23 rfl (lv_at hl 1 rfl) ?_
        refine lv_aload_n hx hb dX7_openDays_24 rfl (lv_at hl 2 rfl) ?_
        refine va_get (D := G) (ci := 7) (v := .ref (ad 11)) (C := RX7) (T := TX7) (N := 33) hx hb hg hinX7 hown hK hP 0 ml_obj rfl 11 (by decide) (hg _ qF_X7_41) (fun _ h9 => h9) rfl dX7_openDays_25 ?_
        refine lv_iload_n hx hb dX7_openDays_28 rfl (lv_at hl 0 rfl) ?_
        refine va_zald hx hb hK hP 11 1 ml_closed rfl (m_d_in (minv_today hI) hk) dX7_openDays_29 ?_
        refine lv_if_eq (tgt := 37) hx hb dX7_openDays_30 (by decide) (fun c_30 => ?_) (fun c_30 => ?_)
        · -- ifeq taken
          refine lv_iconst (v := 1) hx hb dX7_openDays_37 (by decide) ?_
          refine lv_iadd hx hb dX7_openDays_38 ?_
          refine lv_istore_n (lv' := [(2, .int (a + 1)), (3, .int (m_d σ k)), (0, .ref (ad 0)), (1, .int a0)]) hx hb dX7_openDays_39 rfl hl (by decide) rfl (fun ls hl => ?_)
          refine lv_iinc (v := m_d σ (k + 1)) (lv' := [(3, .int (m_d σ (k + 1))), (2, .int (a + 1)), (0, .ref (ad 0)), (1, .int a0)]) hx hb dX7_openDays_40 hl (k := 1) rfl m_d_1 (by decide) rfl (fun ls hl => ?_)
          refine lv_goto (tgt := 9) hx hb dX7_openDays_43 (by decide) ?_
          refine IH ls ?_
          show lv_has ls 4 [(3, .int (m_d σ (k + 1))), (2, .int ((m_opF σ) k a)), (0, .ref (ad 0)), (1, .int a0)]
          rw [show (m_opF σ) k a = a + 1 from by simp only [m_opF, if_neg c_10, if_neg c_20, if_pos c_30]]
          exact lv_sub hl [0, 1, 2, 3] rfl
        · -- ifeq not taken
          refine lv_iconst (v := 0) hx hb dX7_openDays_33 (by decide) ?_
          refine lv_goto (tgt := 38) hx hb dX7_openDays_34 (by decide) ?_
          refine lv_iadd hx hb dX7_openDays_38 ?_
          refine lv_istore_n (lv' := [(2, .int (a + 0)), (3, .int (m_d σ k)), (0, .ref (ad 0)), (1, .int a0)]) hx hb dX7_openDays_39 rfl hl (by decide) rfl (fun ls hl => ?_)
          refine lv_iinc (v := m_d σ (k + 1)) (lv' := [(3, .int (m_d σ (k + 1))), (2, .int (a + 0)), (0, .ref (ad 0)), (1, .int a0)]) hx hb dX7_openDays_40 hl (k := 1) rfl m_d_1 (by decide) rfl (fun ls hl => ?_)
          refine lv_goto (tgt := 9) hx hb dX7_openDays_43 (by decide) ?_
          refine IH ls ?_
          show lv_has ls 4 [(3, .int (m_d σ (k + 1))), (2, .int ((m_opF σ) k a)), (0, .ref (ad 0)), (1, .int a0)]
          rw [show (m_opF σ) k a = a + 0 from by simp only [m_opF, if_neg c_10, if_neg c_20, if_neg c_30]]
          exact lv_sub hl [0, 1, 2, 3] rfl
  · intro ls hl
    have hl : lv_has ls 4 [(3, .int (m_d σ (m_cnt σ a0))), (2, .int (foldN (m_opF σ) (m_cnt σ a0) 0 0)), (0, .ref (ad 0)), (1, .int a0)] := hl
    refine lv_iload_n hx hb dX7_openDays_9 rfl (lv_at hl 0 rfl) ?_
    refine lv_if_lt (tgt := 46) hx hb dX7_openDays_10 (by decide) (fun c_10 => ?_) (fun c_10 => ?_)
    · -- iflt taken
      refine lv_iload_n hx hb dX7_openDays_46 rfl (lv_at hl 1 rfl) ?_
      exact W.iret (v := foldN (m_opF σ) (m_cnt σ a0) 0 0) hx hb hr (fun t ht hW => ⟨_, rfl, rfl, ht⟩) (fun _ h => nomatch h) dX7_openDays_47
    · -- iflt not taken
      refine lv_iload_n hx hb dX7_openDays_13 rfl (lv_at hl 0 rfl) ?_
      refine lv_aload_n hx hb dX7_openDays_14 rfl (lv_at hl 2 rfl) ?_
      refine va_get (D := G) (ci := 7) (v := .int (σ 18 0)) (C := RX7) (T := TX7) (N := 33) hx hb hg hinX7 hown hK hP 0 ml_obj rfl 18 (by decide) (hg _ qF_X7_123) (fun _ h9 => h9) rfl dX7_openDays_15 ?_
      refine lv_iload_n hx hb dX7_openDays_18 rfl (lv_at hl 3 rfl) ?_
      refine lv_isub hx hb dX7_openDays_19 ?_
      refine lv_icmp_lt (tgt := 46) hx hb dX7_openDays_20 (by decide) (fun c_20 => ?_) (fun c_20 => ?_)
      · -- if_icmplt taken
        refine lv_iload_n hx hb dX7_openDays_46 rfl (lv_at hl 1 rfl) ?_
        exact W.iret (v := foldN (m_opF σ) (m_cnt σ a0) 0 0) hx hb hr (fun t ht hW => ⟨_, rfl, rfl, ht⟩) (fun _ h => nomatch h) dX7_openDays_47
      · -- if_icmplt not taken
        exact absurd (m_d_end (minv_today hI) hp0 c_10) c_20

set_option maxHeartbeats 4000000 in
set_option maxRecDepth 100000 in
theorem m_ReplenishRulesModel_mean (l : Launch) (G : va_G) (cA : Nat → ClassId) (ad : Nat → Nat) (σ : St) (hJ : mm_inj ad) (hI : MInv σ) (a0 : Int32) (b0 : Int32) : Met l yX7_mean (wX7_mean :: wG) ({ frames := 2, cells := 0, slots := 0, locals := 42 }) (va_Pc [.ref (ad 0), .int a0, .int b0] (mmW G cA ad σ)) (va_Qi (fun r σ' => r = m_meanR σ a0 b0 ∧ σ' = m_meanS σ a0 b0) (mmW G cA ad) (mmA ad)) 0 0 (mmA ad) := by
  refine Met.ofW (cc := cX7_mean) (maxL := 4) (ret := (some .int)) (by decide) rfl ?_
  intro p e s m args below meth c s₁ B hml hv
  obtain ⟨rfl, hP, hK⟩ := hv
  have hx := B.exec
  have hb := B.bytes
  have hr := B.returns
  have hts := atoms_spec (ws := wX7_mean :: wG) B.pre
  have hg : ∀ w ∈ wG, w.before _ s = true := fun w h => hts w (List.mem_cons_of_mem _ h)
  have hown : s.vm.findClass RX7 = some m.cls := findClass_of_methodNamed B.named
  have hlocks := B.notSynchronized
  have hS : va_S (mmA ad) s.heap s.heap [] := va_S.rf
  have hl := lv_entry ([.ref (ad 0), .int a0, .int b0]) (n := 4) (Nat.le_of_ble_eq_true rfl)
  rw [lg_entry_eq]
  generalize (lg_sl ([.ref (ad 0), .int a0, .int b0]) ++ List.replicate (4 - (lg_sl ([.ref (ad 0), .int a0, .int b0])).length) Slot.unset).toArray = ls at hl ⊢
  have hl : lv_has ls 4 [(0, .ref (ad 0)), (1, .int a0), (2, .int b0)] := hl
  refine lp_cut (J := 22) (nL := 4) (LV := [(0, .ref (ad 0)), (1, .int a0), (2, .int b0)]) (st := [.int (m_meanI a0 b0)]) (fun ls hl => ?_) (fun hcut22 => ?_)
  · have hl : lv_has ls 4 [(0, .ref (ad 0)), (1, .int a0), (2, .int b0)] := hl
    refine lv_istore_n (lv' := [(3, .int (m_meanI a0 b0)), (0, .ref (ad 0)), (1, .int a0), (2, .int b0)]) hx hb dX7_mean_22 rfl hl (by decide) rfl (fun ls hl => ?_)
    refine lp_cut (J := 58) (nL := 4) (LV := [(3, .int (m_meanI a0 b0)), (0, .ref (ad 0)), (1, .int a0), (2, .int b0)]) (st := [.int (m_meanT σ a0 b0), .ref (ad 0)]) (fun ls hl => ?_) (fun hcut58 => ?_)
    · have hl : lv_has ls 4 [(3, .int (m_meanI a0 b0)), (0, .ref (ad 0)), (1, .int a0), (2, .int b0)] := hl
      refine pp_put (D := G) (ci := 7) (v := .int (m_meanT σ a0 b0)) (ty := .int) (C := RX7) (T := TX7) (N := 33) hx hb hg hinX7 tyX7 tyX7_ok nmX7 hown hK hP (mm_D hJ) hS 0 ml_obj rfl 0 (by decide) (hg _ qF_X7_98) (fun _ h9 => h9) rfl (by decide +kernel) rfl rfl (Nat.le_of_ble_eq_true rfl) (ms_thrown) dX7_mean_58 (fun H locs hP hS => ?_)
      obtain ⟨σ1, eσ1⟩ : ∃ z, z = up σ 0 0 (m_meanT σ a0 b0) := ⟨_, rfl⟩
      rw [← eσ1] at hP
      have hIσ1 : MInv σ1 := by rw [eσ1]; exact minv_up (by decide) hI
      refine lv_aload_n hx hb dX7_mean_61 rfl (lv_at hl 1 rfl) ?_
      refine va_get (D := G) (ci := 7) (v := .int (σ1 0 0)) (C := RX7) (T := TX7) (N := 33) hx hb hg hinX7 hown hK hP 0 ml_obj rfl 0 (by decide) (hg _ qF_X7_98) (fun _ h9 => h9) rfl dX7_mean_62 ?_
      refine lv_if_ne (tgt := 84) hx hb dX7_mean_65 (by decide) (fun c_65 => ?_) (fun c_65 => ?_)
      · -- ifne taken
        refine lv_iconst (v := 0) hx hb dX7_mean_84 (by decide) ?_
        exact W.iret (v := 0) hx hb hr (fun t ht hW => ⟨⟨_, σ1, rfl, ⟨by subst eσ1; simp only [m_meanR, if_neg c_65], eσ1⟩, by rw [ht]; exact hP, va_K.moved hW.alike hK⟩, hS.F ht⟩) hS.2.2 dX7_mean_85
      · -- ifne not taken
        refine lv_aload_n hx hb dX7_mean_68 rfl (lv_at hl 1 rfl) ?_
        refine lv_iload_n hx hb dX7_mean_69 rfl (lv_at hl 2 rfl) ?_
        refine lv_iload_n hx hb dX7_mean_70 rfl (lv_at hl 3 rfl) ?_
        refine lv_iconst (v := 0) hx hb dX7_mean_71 (by decide) ?_
        refine vp_callSi (W.runV (As := [.int a0, .int b0, .int 0]) (rest := []) ⟨hx, hb, hml, hown, hg⟩ (m_ReplenishRulesModel_sum l G cA ad σ1 hIσ1 a0 b0 0 (meanI_in (meanT_0 (by rw [eσ1, up_eq] at c_65; exact c_65)).1).1 (meanI_in (meanT_0 (by rw [eσ1, up_eq] at c_65; exact c_65)).1).2) (cwV 3 hg (gV qM_X7_132 qI_X7_sum qS_X7_sum qN_X7 kX7_sum) rfl rfl rfl (by decide +kernel) ⟨Nat.le_of_ble_eq_true rfl, Nat.le_of_ble_eq_true rfl⟩) (mm_pv hK hP (va_recv hK hP (ci := 7) (q0 := 0) rfl ml_obj)) rfl rfl hl.1 rfl (lv_room (Nat.le_of_ble_eq_true rfl)) dX7_mean_72 ⟨Nat.le_of_ble_eq_true rfl, Nat.le_of_ble_eq_true rfl⟩) (nm_e ?_)
        refine lv_aload_n hx hb dX7_mean_75 rfl (lv_at hl 1 rfl) ?_
        refine lv_iload_n hx hb dX7_mean_76 rfl (lv_at hl 3 rfl) ?_
        refine vp_callSi (W.runV (As := [.int b0]) (rest := [.int (m_sum σ1 a0 b0 0)]) ⟨hx, hb, hml, hown, hg⟩ (m_ReplenishRulesModel_openDays l G cA ad σ1 hIσ1 b0 (meanI_in (meanT_0 (by rw [eσ1, up_eq] at c_65; exact c_65)).1).2) (cwV 1 hg (gV qM_X7_129 qI_X7_openDays qS_X7_openDays qN_X7 kX7_openDays) rfl rfl rfl (by decide +kernel) ⟨Nat.le_of_ble_eq_true rfl, Nat.le_of_ble_eq_true rfl⟩) (mm_pv hK hP (va_recv hK hP (ci := 7) (q0 := 0) rfl ml_obj)) rfl rfl hl.1 rfl (lv_room (Nat.le_of_ble_eq_true rfl)) dX7_mean_77 ⟨Nat.le_of_ble_eq_true rfl, Nat.le_of_ble_eq_true rfl⟩) (nm_e ?_)
        refine lv_idiv hx hb dX7_mean_80 (mean_ne eσ1 c_65) ?_
        refine lv_goto (tgt := 85) hx hb dX7_mean_81 (by decide) ?_
        exact W.iret (v := (m_sum σ1 a0 b0 0) / (m_openDays σ1 b0)) hx hb hr (fun t ht hW => ⟨⟨_, σ1, rfl, ⟨by subst eσ1; simp only [m_meanR, if_pos c_65], eσ1⟩, by rw [ht]; exact hP, va_K.moved hW.alike hK⟩, hS.F ht⟩) hS.2.2 dX7_mean_85
    · -- to the cut
      refine lv_aload_n hx hb dX7_mean_23 rfl (lv_at hl 1 rfl) ?_
      refine lv_iload_n hx hb dX7_mean_24 rfl (lv_at hl 0 rfl) ?_
      refine lv_if_ne (tgt := 32) hx hb dX7_mean_25 (by decide) (fun c_25 => ?_) (fun c_25 => ?_)
      · -- ifne taken
        refine lv_aload_n hx hb dX7_mean_32 rfl (lv_at hl 1 rfl) ?_
        refine va_get (D := G) (ci := 7) (v := .ref (ad 6)) (C := RX7) (T := TX7) (N := 33) hx hb hg hinX7 hown hK hP 0 ml_obj rfl 6 (by decide) (hg _ qF_X7_25) (fun _ h9 => h9) rfl dX7_mean_33 ?_
        refine lv_iload_n hx hb dX7_mean_36 rfl (lv_at hl 2 rfl) ?_
        refine va_zald hx hb hK hP 6 1 ml_isFace rfl (meanI_in c_25).1 dX7_mean_37 ?_
        refine lv_if_ne (tgt := 45) hx hb dX7_mean_38 (by decide) (fun c_38 => ?_) (fun c_38 => ?_)
        · -- ifne taken
          refine lv_aload_n hx hb dX7_mean_45 rfl (lv_at hl 1 rfl) ?_
          refine lv_iload_n hx hb dX7_mean_46 rfl (lv_at hl 3 rfl) ?_
          refine vp_callSi (W.runV (As := [.int b0]) (rest := [.ref (ad 0)]) ⟨hx, hb, hml, hown, hg⟩ (m_ReplenishRulesModel_openDays l G cA ad σ hI b0 (meanI_in c_25).2) (cwV 1 hg (gV qM_X7_129 qI_X7_openDays qS_X7_openDays qN_X7 kX7_openDays) rfl rfl rfl (by decide +kernel) ⟨Nat.le_of_ble_eq_true rfl, Nat.le_of_ble_eq_true rfl⟩) (mm_pv hK hP (va_recv hK hP (ci := 7) (q0 := 0) rfl ml_obj)) rfl rfl hl.1 rfl (lv_room (Nat.le_of_ble_eq_true rfl)) dX7_mean_47 ⟨Nat.le_of_ble_eq_true rfl, Nat.le_of_ble_eq_true rfl⟩) (nm_e ?_)
          refine lv_if_ne (tgt := 57) hx hb dX7_mean_50 (by decide) (fun c_50 => ?_) (fun c_50 => ?_)
          · -- ifne taken
            refine lv_iconst (v := 0) hx hb dX7_mean_57 (by decide) ?_
            exact lp_topi (show m_meanT σ a0 b0 = 0 from by simp only [m_meanT, if_neg c_25, if_neg c_38, if_neg c_50]) (hcut58 ls (lv_sub hl [0, 1, 2, 3] rfl))
          · -- ifne not taken
            refine lv_iconst (v := 3) hx hb dX7_mean_53 (by decide) ?_
            refine lv_goto (tgt := 58) hx hb dX7_mean_54 (by decide) ?_
            exact lp_topi (show m_meanT σ a0 b0 = 3 from by simp only [m_meanT, if_neg c_25, if_neg c_38, if_pos c_50]) (hcut58 ls (lv_sub hl [0, 1, 2, 3] rfl))
        · -- ifne not taken
          refine lv_iconst (v := 2) hx hb dX7_mean_41 (by decide) ?_
          refine lv_goto (tgt := 58) hx hb dX7_mean_42 (by decide) ?_
          exact lp_topi (show m_meanT σ a0 b0 = 2 from by simp only [m_meanT, if_neg c_25, if_pos c_38]) (hcut58 ls (lv_sub hl [0, 1, 2, 3] rfl))
      · -- ifne not taken
        refine lv_iconst (v := 1) hx hb dX7_mean_28 (by decide) ?_
        refine lv_goto (tgt := 58) hx hb dX7_mean_29 (by decide) ?_
        exact lp_topi (show m_meanT σ a0 b0 = 1 from by simp only [m_meanT, if_pos c_25]) (hcut58 ls (lv_sub hl [0, 1, 2, 3] rfl))
  · -- to the cut
    refine lv_iload_n hx hb dX7_mean_0 rfl (lv_at hl 1 rfl) ?_
    refine vp_callSi (W.runS (As := [.int a0]) (rest := []) ⟨hx, hb, hml, hown, hg⟩ (m_ReplenishRulesModel_isPlace l a0) (cwS 1 hg (gS qM_X7_106 qT_X7_isPlace qN_X7 kX7_isPlace) rfl rfl rfl (by decide +kernel) ⟨Nat.le_of_ble_eq_true rfl, Nat.le_of_ble_eq_true rfl⟩) ⟨fun _ _ _ _ q => q, fun _ _ _ => ⟨rfl, trivial⟩⟩ rfl rfl hl.1 rfl (lv_room (Nat.le_of_ble_eq_true rfl)) dX7_mean_1 ⟨Nat.le_of_ble_eq_true rfl, Nat.le_of_ble_eq_true rfl⟩) (nm_e ?_)
    refine lv_if_eq (tgt := 21) hx hb dX7_mean_4 (by decide) (fun c_4 => ?_) (fun c_4 => ?_)
    · -- ifeq taken
      refine lv_iconst (v := 0) hx hb dX7_mean_21 (by decide) ?_
      exact lp_topi (show m_meanI a0 b0 = 0 from by simp only [m_meanI, if_pos c_4]) (hcut22 ls (lv_sub hl [0, 1, 2] rfl))
    · -- ifeq not taken
      refine lv_iload_n hx hb dX7_mean_7 rfl (lv_at hl 2 rfl) ?_
      refine lv_iconst (v := 0) hx hb dX7_mean_8 (by decide) ?_
      refine lv_bipush (v := 60) hx hb dX7_mean_9 (by decide) ?_
      refine vp_callSi (W.runS (As := [.int b0, .int 0, .int 60]) (rest := []) ⟨hx, hb, hml, hown, hg⟩ (m_ReplenishRulesModel_in l b0 0 60) (cwS 3 hg (gS qM_X7_102 qT_X7_in qN_X7 kX7_in) rfl rfl rfl (by decide +kernel) ⟨Nat.le_of_ble_eq_true rfl, Nat.le_of_ble_eq_true rfl⟩) ⟨fun _ _ _ _ q => q, fun _ _ _ => ⟨rfl, trivial⟩⟩ rfl rfl hl.1 rfl (lv_room (Nat.le_of_ble_eq_true rfl)) dX7_mean_11 ⟨Nat.le_of_ble_eq_true rfl, Nat.le_of_ble_eq_true rfl⟩) (nm_e ?_)
      refine lv_if_eq (tgt := 21) hx hb dX7_mean_14 (by decide) (fun c_14 => ?_) (fun c_14 => ?_)
      · -- ifeq taken
        refine lv_iconst (v := 0) hx hb dX7_mean_21 (by decide) ?_
        exact lp_topi (show m_meanI a0 b0 = 0 from by simp only [m_meanI, if_neg c_4, if_pos c_14]) (hcut22 ls (lv_sub hl [0, 1, 2] rfl))
      · -- ifeq not taken
        refine lv_iconst (v := 1) hx hb dX7_mean_17 (by decide) ?_
        refine lv_goto (tgt := 22) hx hb dX7_mean_18 (by decide) ?_
        exact lp_topi (show m_meanI a0 b0 = 1 from by simp only [m_meanI, if_neg c_4, if_neg c_14]) (hcut22 ls (lv_sub hl [0, 1, 2] rfl))

set_option maxHeartbeats 4000000 in
set_option maxRecDepth 100000 in
theorem m_ReplenishRulesModel_kindOf (l : Launch) (G : va_G) (cA : Nat → ClassId) (ad : Nat → Nat) (σ : St) (hI : MInv σ) (a0 : Int32) (hp0 : vp_in a0 16) : Met l yX7_kindOf (wX7_kindOf :: wG) ({ frames := 0, cells := 0, slots := 0, locals := 0 }) (va_Pc [.ref (ad 0), .int a0] (mmW G cA ad σ)) (vp_Si (fun r => r = m_kindOf σ a0)) 0 0 (fun _ => False) := by
  refine Met.ofW (cc := cX7_kindOf) (maxL := 2) (ret := (some .int)) (by decide) rfl ?_
  intro p e s m args below meth c s₁ B hml hv
  obtain ⟨rfl, hP, hK⟩ := hv
  have hx := B.exec
  have hb := B.bytes
  have hr := B.returns
  have hts := atoms_spec (ws := wX7_kindOf :: wG) B.pre
  have hg : ∀ w ∈ wG, w.before _ s = true := fun w h => hts w (List.mem_cons_of_mem _ h)
  have hown : s.vm.findClass RX7 = some m.cls := findClass_of_methodNamed B.named
  have hlocks := B.notSynchronized
  have hl := lv_entry ([.ref (ad 0), .int a0]) (n := 2) (Nat.le_of_ble_eq_true rfl)
  rw [lg_entry_eq]
  generalize (lg_sl ([.ref (ad 0), .int a0]) ++ List.replicate (2 - (lg_sl ([.ref (ad 0), .int a0])).length) Slot.unset).toArray = ls at hl ⊢
  have hl : lv_has ls 2 [(0, .ref (ad 0)), (1, .int a0)] := hl
  refine lv_aload_n hx hb dX7_kindOf_0 rfl (lv_at hl 0 rfl) ?_
  refine va_get (D := G) (ci := 7) (v := .int (σ 18 0)) (C := RX7) (T := TX7) (N := 33) hx hb hg hinX7 hown hK hP 0 ml_obj rfl 18 (by decide) (hg _ qF_X7_123) (fun _ h9 => h9) rfl dX7_kindOf_1 ?_
  refine lv_aload_n hx hb dX7_kindOf_4 rfl (lv_at hl 0 rfl) ?_
  refine va_get (D := G) (ci := 7) (v := .ref (ad 15)) (C := RX7) (T := TX7) (N := 33) hx hb hg hinX7 hown hK hP 0 ml_obj rfl 15 (by decide) (hg _ qF_X7_53) (fun _ h9 => h9) rfl dX7_kindOf_5 ?_
  refine lv_aload_n hx hb dX7_kindOf_8 rfl (lv_at hl 0 rfl) ?_
  refine va_get (D := G) (ci := 7) (v := .ref (ad 2)) (C := RX7) (T := TX7) (N := 33) hx hb hg hinX7 hown hK hP 0 ml_obj rfl 2 (by decide) (hg _ qF_X7_13) (fun _ h9 => h9) rfl dX7_kindOf_9 ?_
  refine lv_iload_n hx hb dX7_kindOf_12 rfl (lv_at hl 1 rfl) ?_
  refine va_iald hx hb hK hP 2 0 ml_zone rfl hp0 dX7_kindOf_13 ?_
  refine va_iald hx hb hK hP 15 0 ml_untils rfl (minv_zone hI (vp_lt hp0)) dX7_kindOf_14 ?_
  refine lv_icmp_le (tgt := 22) hx hb dX7_kindOf_15 (by decide) (fun c_15 => ?_) (fun c_15 => ?_)
  · -- if_icmple taken
    refine lv_aload_n hx hb dX7_kindOf_22 rfl (lv_at hl 0 rfl) ?_
    refine va_get (D := G) (ci := 7) (v := .ref (ad 13)) (C := RX7) (T := TX7) (N := 33) hx hb hg hinX7 hown hK hP 0 ml_obj rfl 13 (by decide) (hg _ qF_X7_47) (fun _ h9 => h9) rfl dX7_kindOf_23 ?_
    refine lv_aload_n hx hb dX7_kindOf_26 rfl (lv_at hl 0 rfl) ?_
    refine va_get (D := G) (ci := 7) (v := .ref (ad 2)) (C := RX7) (T := TX7) (N := 33) hx hb hg hinX7 hown hK hP 0 ml_obj rfl 2 (by decide) (hg _ qF_X7_13) (fun _ h9 => h9) rfl dX7_kindOf_27 ?_
    refine lv_iload_n hx hb dX7_kindOf_30 rfl (lv_at hl 1 rfl) ?_
    refine va_iald hx hb hK hP 2 0 ml_zone rfl hp0 dX7_kindOf_31 ?_
    refine va_iald hx hb hK hP 13 0 ml_kinds rfl (minv_zone hI (vp_lt hp0)) dX7_kindOf_32 ?_
    exact W.iret (v := σ 13 (nx (σ 2 (nx a0)))) hx hb hr (fun t ht hW => ⟨_, rfl, by simp only [m_kindOf, if_pos c_15], ht⟩) (fun _ h => nomatch h) dX7_kindOf_33
  · -- if_icmple not taken
    refine lv_iconst (v := 0) hx hb dX7_kindOf_18 (by decide) ?_
    refine lv_goto (tgt := 33) hx hb dX7_kindOf_19 (by decide) ?_
    exact W.iret (v := 0) hx hb hr (fun t ht hW => ⟨_, rfl, by simp only [m_kindOf, if_neg c_15], ht⟩) (fun _ h => nomatch h) dX7_kindOf_33

set_option maxHeartbeats 4000000 in
set_option maxRecDepth 100000 in
theorem m_ReplenishRulesModel_aheadOf (l : Launch) (G : va_G) (cA : Nat → ClassId) (ad : Nat → Nat) (σ : St) (hI : MInv σ) (a0 : Int32) (hp0 : vp_in a0 16) : Met l yX7_aheadOf (wX7_aheadOf :: wG) ({ frames := 0, cells := 0, slots := 0, locals := 0 }) (va_Pc [.ref (ad 0), .int a0] (mmW G cA ad σ)) (vp_Si (fun r => r = m_aheadOf σ a0)) 0 0 (fun _ => False) := by
  refine Met.ofW (cc := cX7_aheadOf) (maxL := 2) (ret := (some .int)) (by decide) rfl ?_
  intro p e s m args below meth c s₁ B hml hv
  obtain ⟨rfl, hP, hK⟩ := hv
  have hx := B.exec
  have hb := B.bytes
  have hr := B.returns
  have hts := atoms_spec (ws := wX7_aheadOf :: wG) B.pre
  have hg : ∀ w ∈ wG, w.before _ s = true := fun w h => hts w (List.mem_cons_of_mem _ h)
  have hown : s.vm.findClass RX7 = some m.cls := findClass_of_methodNamed B.named
  have hlocks := B.notSynchronized
  have hl := lv_entry ([.ref (ad 0), .int a0]) (n := 2) (Nat.le_of_ble_eq_true rfl)
  rw [lg_entry_eq]
  generalize (lg_sl ([.ref (ad 0), .int a0]) ++ List.replicate (2 - (lg_sl ([.ref (ad 0), .int a0])).length) Slot.unset).toArray = ls at hl ⊢
  have hl : lv_has ls 2 [(0, .ref (ad 0)), (1, .int a0)] := hl
  refine lv_aload_n hx hb dX7_aheadOf_0 rfl (lv_at hl 0 rfl) ?_
  refine va_get (D := G) (ci := 7) (v := .int (σ 18 0)) (C := RX7) (T := TX7) (N := 33) hx hb hg hinX7 hown hK hP 0 ml_obj rfl 18 (by decide) (hg _ qF_X7_123) (fun _ h9 => h9) rfl dX7_aheadOf_1 ?_
  refine lv_aload_n hx hb dX7_aheadOf_4 rfl (lv_at hl 0 rfl) ?_
  refine va_get (D := G) (ci := 7) (v := .ref (ad 15)) (C := RX7) (T := TX7) (N := 33) hx hb hg hinX7 hown hK hP 0 ml_obj rfl 15 (by decide) (hg _ qF_X7_53) (fun _ h9 => h9) rfl dX7_aheadOf_5 ?_
  refine lv_aload_n hx hb dX7_aheadOf_8 rfl (lv_at hl 0 rfl) ?_
  refine va_get (D := G) (ci := 7) (v := .ref (ad 2)) (C := RX7) (T := TX7) (N := 33) hx hb hg hinX7 hown hK hP 0 ml_obj rfl 2 (by decide) (hg _ qF_X7_13) (fun _ h9 => h9) rfl dX7_aheadOf_9 ?_
  refine lv_iload_n hx hb dX7_aheadOf_12 rfl (lv_at hl 1 rfl) ?_
  refine va_iald hx hb hK hP 2 0 ml_zone rfl hp0 dX7_aheadOf_13 ?_
  refine va_iald hx hb hK hP 15 0 ml_untils rfl (minv_zone hI (vp_lt hp0)) dX7_aheadOf_14 ?_
  refine lv_icmp_le (tgt := 22) hx hb dX7_aheadOf_15 (by decide) (fun c_15 => ?_) (fun c_15 => ?_)
  · -- if_icmple taken
    refine lv_aload_n hx hb dX7_aheadOf_22 rfl (lv_at hl 0 rfl) ?_
    refine va_get (D := G) (ci := 7) (v := .ref (ad 14)) (C := RX7) (T := TX7) (N := 33) hx hb hg hinX7 hown hK hP 0 ml_obj rfl 14 (by decide) (hg _ qF_X7_50) (fun _ h9 => h9) rfl dX7_aheadOf_23 ?_
    refine lv_aload_n hx hb dX7_aheadOf_26 rfl (lv_at hl 0 rfl) ?_
    refine va_get (D := G) (ci := 7) (v := .ref (ad 2)) (C := RX7) (T := TX7) (N := 33) hx hb hg hinX7 hown hK hP 0 ml_obj rfl 2 (by decide) (hg _ qF_X7_13) (fun _ h9 => h9) rfl dX7_aheadOf_27 ?_
    refine lv_iload_n hx hb dX7_aheadOf_30 rfl (lv_at hl 1 rfl) ?_
    refine va_iald hx hb hK hP 2 0 ml_zone rfl hp0 dX7_aheadOf_31 ?_
    refine va_iald hx hb hK hP 14 0 ml_aheads rfl (minv_zone hI (vp_lt hp0)) dX7_aheadOf_32 ?_
    exact W.iret (v := σ 14 (nx (σ 2 (nx a0)))) hx hb hr (fun t ht hW => ⟨_, rfl, by simp only [m_aheadOf, if_pos c_15], ht⟩) (fun _ h => nomatch h) dX7_aheadOf_33
  · -- if_icmple not taken
    refine lv_iconst (v := 1) hx hb dX7_aheadOf_18 (by decide) ?_
    refine lv_goto (tgt := 33) hx hb dX7_aheadOf_19 (by decide) ?_
    exact W.iret (v := 1) hx hb hr (fun t ht hW => ⟨_, rfl, by simp only [m_aheadOf, if_neg c_15], ht⟩) (fun _ h => nomatch h) dX7_aheadOf_33

set_option maxHeartbeats 4000000 in
set_option maxRecDepth 100000 in
theorem m_ReplenishRulesModel_over (l : Launch) (a0 : Int64) (b0 : Int64) (hp0 : ¬ b0 = 0) : Met l yX7_over (wX7_over :: wG) ({ frames := 0, cells := 0, slots := 0, locals := 0 }) (va_Pc [.long a0, .long b0] (fun _ => True)) (vp_Sl (fun r => r = m_over a0 b0)) 0 0 (fun _ => False) := by
  refine Met.ofW (cc := cX7_over) (maxL := 4) (ret := (some .long)) (by decide) rfl ?_
  intro p e s m args below meth c s₁ B hml hv
  obtain ⟨rfl, -⟩ := hv
  have hx := B.exec
  have hb := B.bytes
  have hr := B.returns
  have hts := atoms_spec (ws := wX7_over :: wG) B.pre
  have hg : ∀ w ∈ wG, w.before _ s = true := fun w h => hts w (List.mem_cons_of_mem _ h)
  have hown : s.vm.findClass RX7 = some m.cls := findClass_of_methodNamed B.named
  have hlocks := B.notSynchronized
  have hl := lv_entry ([.long a0, .long b0]) (n := 4) (Nat.le_of_ble_eq_true rfl)
  rw [lg_entry_eq]
  generalize (lg_sl ([.long a0, .long b0]) ++ List.replicate (4 - (lg_sl ([.long a0, .long b0])).length) Slot.unset).toArray = ls at hl ⊢
  have hl : lv_has ls 4 [(0, .long a0), (2, .long b0)] := hl
  refine lv_lload_n hx hb dX7_over_0 rfl (lv_at hl 0 rfl) ?_
  refine lv_lload_n hx hb dX7_over_1 rfl (lv_at hl 1 rfl) ?_
  refine lv_ldiv hx hb dX7_over_2 hp0 ?_
  refine lv_lload_n hx hb dX7_over_3 rfl (lv_at hl 0 rfl) ?_
  refine lv_lload_n hx hb dX7_over_4 rfl (lv_at hl 1 rfl) ?_
  refine lv_lrem hx hb dX7_over_5 hp0 ?_
  refine lv_lconst (v := 0) hx hb dX7_over_6 (by decide) ?_
  refine W.lcmp hx hb dX7_over_7 ?_
  refine lv_if_le (tgt := 15) hx hb dX7_over_8 (by decide) (fun c_8 => ?_) (fun c_8 => ?_)
  · -- ifle taken
    refine lv_lconst (v := 0) hx hb dX7_over_15 (by decide) ?_
    refine lv_ladd hx hb dX7_over_16 ?_
    exact W.lret (v := (a0 / b0) + 0) hx hb hr (fun t ht hW => ⟨_, rfl, by simp only [m_over, if_pos c_8], ht⟩) (fun _ h => nomatch h) dX7_over_17
  · -- ifle not taken
    refine lv_lconst (v := 1) hx hb dX7_over_11 (by decide) ?_
    refine lv_goto (tgt := 16) hx hb dX7_over_12 (by decide) ?_
    refine lv_ladd hx hb dX7_over_16 ?_
    exact W.lret (v := (a0 / b0) + 1) hx hb hr (fun t ht hW => ⟨_, rfl, by simp only [m_over, if_neg c_8], ht⟩) (fun _ h => nomatch h) dX7_over_17

set_option maxHeartbeats 4000000 in
set_option maxRecDepth 100000 in
theorem m_ReplenishRulesModel_foresees (l : Launch) (G : va_G) (cA : Nat → ClassId) (ad : Nat → Nat) (σ : St) (hI : MInv σ) (a0 : Int32) (hp0 : vp_in a0 16) : Met l yX7_foresees (wX7_foresees :: wG) ({ frames := 1, cells := 0, slots := 0, locals := 25 }) (va_Pc [.ref (ad 0), .int a0] (mmW G cA ad σ)) (vp_Sl (fun r => r = m_foresees σ a0)) 0 0 (fun _ => False) := by
  refine Met.ofW (cc := cX7_foresees) (maxL := 8) (ret := (some .long)) (by decide) rfl ?_
  intro p e s m args below meth c s₁ B hml hv
  obtain ⟨rfl, hP, hK⟩ := hv
  have hx := B.exec
  have hb := B.bytes
  have hr := B.returns
  have hts := atoms_spec (ws := wX7_foresees :: wG) B.pre
  have hg : ∀ w ∈ wG, w.before _ s = true := fun w h => hts w (List.mem_cons_of_mem _ h)
  have hown : s.vm.findClass RX7 = some m.cls := findClass_of_methodNamed B.named
  have hlocks := B.notSynchronized
  have hl := lv_entry ([.ref (ad 0), .int a0]) (n := 8) (Nat.le_of_ble_eq_true rfl)
  rw [lg_entry_eq]
  generalize (lg_sl ([.ref (ad 0), .int a0]) ++ List.replicate (8 - (lg_sl ([.ref (ad 0), .int a0])).length) Slot.unset).toArray = ls at hl ⊢
  have hl : lv_has ls 8 [(0, .ref (ad 0)), (1, .int a0)] := hl
  refine lv_aload_n hx hb dX7_foresees_0 rfl (lv_at hl 0 rfl) ?_
  refine va_get (D := G) (ci := 7) (v := .int (σ 18 0)) (C := RX7) (T := TX7) (N := 33) hx hb hg hinX7 hown hK hP 0 ml_obj rfl 18 (by decide) (hg _ qF_X7_123) (fun _ h9 => h9) rfl dX7_foresees_1 ?_
  refine lv_bipush (v := 30) hx hb dX7_foresees_4 (by decide) ?_
  refine lv_idiv hx hb dX7_foresees_6 (by decide) ?_
  refine lv_bipush (v := 12) hx hb dX7_foresees_7 (by decide) ?_
  refine lv_irem hx hb dX7_foresees_9 (by decide) ?_
  refine lv_topi (fun y_10 ey_10 => ?_)
  obtain rfl : y_10 = m_month σ := ey_10.trans (rfl)
  refine lv_istore_n (lv' := [(2, .int (m_month σ)), (0, .ref (ad 0)), (1, .int a0)]) hx hb dX7_foresees_10 rfl hl (by decide) rfl (fun ls hl => ?_)
  refine lv_aload_n hx hb dX7_foresees_11 rfl (lv_at hl 1 rfl) ?_
  refine lv_bipush (v := 28) hx hb dX7_foresees_12 (by decide) ?_
  refine vp_callSi (W.runV (As := [.int 28]) (rest := []) ⟨hx, hb, hml, hown, hg⟩ (m_ReplenishRulesModel_openDays l G cA ad σ hI 28 (by decide)) (cwV 1 hg (gV qM_X7_129 qI_X7_openDays qS_X7_openDays qN_X7 kX7_openDays) rfl rfl rfl (by decide +kernel) ⟨Nat.le_of_ble_eq_true rfl, Nat.le_of_ble_eq_true rfl⟩) (mm_pv hK hP (va_recv hK hP (ci := 7) (q0 := 0) rfl ml_obj)) rfl rfl hl.1 rfl (lv_room (Nat.le_of_ble_eq_true rfl)) dX7_foresees_14 ⟨Nat.le_of_ble_eq_true rfl, Nat.le_of_ble_eq_true rfl⟩) (nm_e ?_)
  refine lv_istore_n (lv' := [(3, .int (m_openDays σ 28)), (2, .int (m_month σ)), (0, .ref (ad 0)), (1, .int a0)]) hx hb dX7_foresees_17 rfl hl (by decide) rfl (fun ls hl => ?_)
  refine lv_aload_n hx hb dX7_foresees_18 rfl (lv_at hl 2 rfl) ?_
  refine lv_iload_n hx hb dX7_foresees_19 rfl (lv_at hl 3 rfl) ?_
  refine vp_callSi (W.runV (As := [.int a0]) (rest := []) ⟨hx, hb, hml, hown, hg⟩ (m_ReplenishRulesModel_kindOf l G cA ad σ hI a0 hp0) (cwV 1 hg (gV qM_X7_136 qI_X7_kindOf qS_X7_kindOf qN_X7 kX7_kindOf) rfl rfl rfl (by decide +kernel) ⟨Nat.le_of_ble_eq_true rfl, Nat.le_of_ble_eq_true rfl⟩) (mm_pv hK hP (va_recv hK hP (ci := 7) (q0 := 0) rfl ml_obj)) rfl rfl hl.1 rfl (lv_room (Nat.le_of_ble_eq_true rfl)) dX7_foresees_20 ⟨Nat.le_of_ble_eq_true rfl, Nat.le_of_ble_eq_true rfl⟩) (nm_e ?_)
  refine lv_istore (lv' := [(4, .int (m_kindOf σ a0)), (3, .int (m_openDays σ 28)), (2, .int (m_month σ)), (0, .ref (ad 0)), (1, .int a0)]) hx hb dX7_foresees_23 hl (by decide) rfl (fun ls hl => ?_)
  refine lv_iload hx hb dX7_foresees_25 (lv_at hl 0 rfl) ?_
  refine lv_if_eq (tgt := 34) hx hb dX7_foresees_27 (by decide) (fun c_27 => ?_) (fun c_27 => ?_)
  · -- ifeq taken
    refine lv_lconst (v := 0) hx hb dX7_foresees_34 (by decide) ?_
    exact W.lret (v := 0) hx hb hr (fun t ht hW => ⟨_, rfl, by simp only [m_foresees, if_pos c_27], ht⟩) (fun _ h => nomatch h) dX7_foresees_35
  · -- ifeq not taken
    refine lv_iload_n hx hb dX7_foresees_30 rfl (lv_at hl 1 rfl) ?_
    refine lv_if_ne (tgt := 36) hx hb dX7_foresees_31 (by decide) (fun c_31 => ?_) (fun c_31 => ?_)
    · -- ifne taken
      refine lv_iload hx hb dX7_foresees_36 (lv_at hl 0 rfl) ?_
      refine lv_iconst (v := 1) hx hb dX7_foresees_38 (by decide) ?_
      refine lv_icmp_ne (tgt := 80) hx hb dX7_foresees_39 (by decide) (fun c_39 => ?_) (fun c_39 => ?_)
      · -- if_icmpne taken
        refine lv_lconst (v := 0) hx hb dX7_foresees_80 (by decide) ?_
        refine lv_lstore (lv' := [(5, .long 0), (4, .int (m_kindOf σ a0)), (3, .int (m_openDays σ 28)), (2, .int (m_month σ)), (0, .ref (ad 0)), (1, .int a0)]) hx hb dX7_foresees_81 hl (by decide) rfl (fun ls hl => ?_)
        refine lp_cut (J := 104) (nL := 8) (LV := [(5, .long 0), (4, .int (m_kindOf σ a0)), (3, .int (m_openDays σ 28)), (2, .int (m_month σ)), (0, .ref (ad 0)), (1, .int a0)]) (st := [.int (m_first σ)]) (fun ls hl => ?_) (fun hcut104 => ?_)
        · have hl : lv_has ls 8 [(5, .long 0), (4, .int (m_kindOf σ a0)), (3, .int (m_openDays σ 28)), (2, .int (m_month σ)), (0, .ref (ad 0)), (1, .int a0)] := hl
          refine lv_topi (fun y_104 ey_104 => ?_)
          obtain rfl : y_104 = nI (nx (m_first σ)) := ey_104.trans ((nI_nx (mfirst_pos (minv_today hI))).symm)
          refine lv_istore (lv' := [(7, .int (nI (nx (m_first σ)))), (5, .long 0), (4, .int (m_kindOf σ a0)), (3, .int (m_openDays σ 28)), (2, .int (m_month σ)), (0, .ref (ad 0)), (1, .int a0)]) hx hb dX7_foresees_104 hl (by decide) rfl (fun ls hl => ?_)
          refine lp_ro (f := m_fadeF σ a0) (t := nx (σ 18 0)) (nL := 8) (fun k a => [(7, .int (nI k)), (5, .long a), (0, .ref (ad 0)), (1, .int a0), (2, .int (m_month σ)), (3, .int (m_openDays σ 28)), (4, .int (m_kindOf σ a0))]) (nx (σ 18 0) - nx (m_first σ)) (nx (m_first σ)) 0 (Nat.add_sub_cancel' (mfirst_le (minv_today hI))) ?_ ?_ ls (lv_sub hl [0, 1, 5, 6, 4, 3, 2] rfl)
          · intro k a hk IH ls hl
            have hl : lv_has ls 8 [(7, .int (nI k)), (5, .long a), (0, .ref (ad 0)), (1, .int a0), (2, .int (m_month σ)), (3, .int (m_openDays σ 28)), (4, .int (m_kindOf σ a0))] := hl
            refine lv_iload hx hb dX7_foresees_106 (lv_at hl 0 rfl) ?_
            refine lv_aload_n hx hb dX7_foresees_108 rfl (lv_at hl 2 rfl) ?_
            refine va_get (D := G) (ci := 7) (v := .int (σ 18 0)) (C := RX7) (T := TX7) (N := 33) hx hb hg hinX7 hown hK hP 0 ml_obj rfl 18 (by decide) (hg _ qF_X7_123) (fun _ h9 => h9) rfl dX7_foresees_109 ?_
            refine lv_icmp_ge (tgt := 167) hx hb dX7_foresees_112 (by decide) (fun c_112 => ?_) (fun c_112 => ?_)
            · -- if_icmpge taken
              exact absurd c_112 (nx_nle (vp_pos (minv_today hI)) hk)
            · -- if_icmpge not taken
              refine lv_aload_n hx hb dX7_foresees_115 rfl (lv_at hl 2 rfl) ?_
              refine va_get (D := G) (ci := 7) (v := .ref (ad 11)) (C := RX7) (T := TX7) (N := 33) hx hb hg hinX7 hown hK hP 0 ml_obj rfl 11 (by decide) (hg _ qF_X7_41) (fun _ h9 => h9) rfl dX7_foresees_116 ?_
              refine lv_iload hx hb dX7_foresees_119 (lv_at hl 0 rfl) ?_
              refine va_zald hx hb hK hP 11 1 ml_closed rfl (mday_in (minv_today hI) hk) dX7_foresees_121 ?_
              refine lv_if_eq (tgt := 130) hx hb dX7_foresees_122 (by decide) (fun c_122 => ?_) (fun c_122 => ?_)
              · -- ifeq taken
                refine lv_ldc2 (v := 7) hx hb hown (hg _ qD_X7_146) dX7_foresees_130 ?_
                refine lv_lload hx hb dX7_foresees_133 (lv_at hl 1 rfl) ?_
                refine lv_lmul hx hb dX7_foresees_135 ?_
                refine lv_ldc2 (v := 1000) hx hb hown (hg _ qD_X7_148) dX7_foresees_136 ?_
                refine lv_aload_n hx hb dX7_foresees_139 rfl (lv_at hl 2 rfl) ?_
                refine va_get (D := G) (ci := 7) (v := .ref (ad 12)) (C := RX7) (T := TX7) (N := 33) hx hb hg hinX7 hown hK hP 0 ml_obj rfl 12 (by decide) (hg _ qF_X7_44) (fun _ h9 => h9) rfl dX7_foresees_140 ?_
                refine lv_sipush (v := 400) hx hb dX7_foresees_143 (by decide) ?_
                refine lv_iload_n hx hb dX7_foresees_146 rfl (lv_at hl 3 rfl) ?_
                refine lv_imul hx hb dX7_foresees_147 ?_
                refine lv_iload hx hb dX7_foresees_148 (lv_at hl 0 rfl) ?_
                refine lv_iadd hx hb dX7_foresees_150 ?_
                refine va_iald hx hb hK hP 12 0 ml_used rfl (mix_in hp0 (mday_in (minv_today hI) hk)) dX7_foresees_151 ?_
                refine lv_i2l (v := (σ 12 (nx ((400 * a0) + (nI k)))).toInt64) hx hb dX7_foresees_152 rfl ?_
                refine lv_lmul hx hb dX7_foresees_153 ?_
                refine lv_ladd hx hb dX7_foresees_154 ?_
                refine lv_ldc2 (v := 8) hx hb hown (hg _ qD_X7_150) dX7_foresees_155 ?_
                refine lv_ldiv hx hb dX7_foresees_158 (by decide) ?_
                refine lv_lstore (lv' := [(5, .long (((7 * a) + (1000 * ((σ 12 (nx ((400 * a0) + (nI k)))).toInt64))) / 8)), (7, .int (nI k)), (0, .ref (ad 0)), (1, .int a0), (2, .int (m_month σ)), (3, .int (m_openDays σ 28)), (4, .int (m_kindOf σ a0))]) hx hb dX7_foresees_159 hl (by decide) rfl (fun ls hl => ?_)
                refine lv_iinc (v := nI (k + 1)) (lv' := [(7, .int (nI (k + 1))), (5, .long (((7 * a) + (1000 * ((σ 12 (nx ((400 * a0) + (nI k)))).toInt64))) / 8)), (0, .ref (ad 0)), (1, .int a0), (2, .int (m_month σ)), (3, .int (m_openDays σ 28)), (4, .int (m_kindOf σ a0))]) hx hb dX7_foresees_161 hl (k := 1) rfl (nI_1 k) (by decide) rfl (fun ls hl => ?_)
                refine lv_goto (tgt := 106) hx hb dX7_foresees_164 (by decide) ?_
                refine IH ls ?_
                show lv_has ls 8 [(7, .int (nI (k + 1))), (5, .long ((m_fadeF σ a0) k a)), (0, .ref (ad 0)), (1, .int a0), (2, .int (m_month σ)), (3, .int (m_openDays σ 28)), (4, .int (m_kindOf σ a0))]
                rw [show (m_fadeF σ a0) k a = ((7 * a) + (1000 * ((σ 12 (nx ((400 * a0) + (nI k)))).toInt64))) / 8 from by simp only [m_fadeF, if_neg c_112, if_pos c_122]]
                exact lv_sub hl [0, 1, 2, 3, 4, 5, 6] rfl
              · -- ifeq not taken
                refine lv_lload hx hb dX7_foresees_125 (lv_at hl 1 rfl) ?_
                refine lv_goto (tgt := 159) hx hb dX7_foresees_127 (by decide) ?_
                refine lv_lstore (lv' := [(5, .long a), (7, .int (nI k)), (0, .ref (ad 0)), (1, .int a0), (2, .int (m_month σ)), (3, .int (m_openDays σ 28)), (4, .int (m_kindOf σ a0))]) hx hb dX7_foresees_159 hl (by decide) rfl (fun ls hl => ?_)
                refine lv_iinc (v := nI (k + 1)) (lv' := [(7, .int (nI (k + 1))), (5, .long a), (0, .ref (ad 0)), (1, .int a0), (2, .int (m_month σ)), (3, .int (m_openDays σ 28)), (4, .int (m_kindOf σ a0))]) hx hb dX7_foresees_161 hl (k := 1) rfl (nI_1 k) (by decide) rfl (fun ls hl => ?_)
                refine lv_goto (tgt := 106) hx hb dX7_foresees_164 (by decide) ?_
                refine IH ls ?_
                show lv_has ls 8 [(7, .int (nI (k + 1))), (5, .long ((m_fadeF σ a0) k a)), (0, .ref (ad 0)), (1, .int a0), (2, .int (m_month σ)), (3, .int (m_openDays σ 28)), (4, .int (m_kindOf σ a0))]
                rw [show (m_fadeF σ a0) k a = a from by simp only [m_fadeF, if_neg c_112, if_neg c_122]]
                exact lv_sub hl [0, 1, 2, 3, 4, 5, 6] rfl
          · intro ls hl
            have hl : lv_has ls 8 [(7, .int (nI (nx (σ 18 0)))), (5, .long (foldN (m_fadeF σ a0) (nx (σ 18 0) - nx (m_first σ)) (nx (m_first σ)) 0)), (0, .ref (ad 0)), (1, .int a0), (2, .int (m_month σ)), (3, .int (m_openDays σ 28)), (4, .int (m_kindOf σ a0))] := hl
            refine lv_iload hx hb dX7_foresees_106 (lv_at hl 0 rfl) ?_
            refine lv_aload_n hx hb dX7_foresees_108 rfl (lv_at hl 2 rfl) ?_
            refine va_get (D := G) (ci := 7) (v := .int (σ 18 0)) (C := RX7) (T := TX7) (N := 33) hx hb hg hinX7 hown hK hP 0 ml_obj rfl 18 (by decide) (hg _ qF_X7_123) (fun _ h9 => h9) rfl dX7_foresees_109 ?_
            refine lv_icmp_ge (tgt := 167) hx hb dX7_foresees_112 (by decide) (fun c_112 => ?_) (fun c_112 => ?_)
            · -- if_icmpge taken
              refine lv_lload hx hb dX7_foresees_167 (lv_at hl 1 rfl) ?_
              refine lv_aload_n hx hb dX7_foresees_169 rfl (lv_at hl 2 rfl) ?_
              refine lv_iload_n hx hb dX7_foresees_170 rfl (lv_at hl 3 rfl) ?_
              refine vp_callSi (W.runV (As := [.int a0]) (rest := [.long (foldN (m_fadeF σ a0) (nx (σ 18 0) - nx (m_first σ)) (nx (m_first σ)) 0)]) ⟨hx, hb, hml, hown, hg⟩ (m_ReplenishRulesModel_aheadOf l G cA ad σ hI a0 hp0) (cwV 1 hg (gV qM_X7_139 qI_X7_aheadOf qS_X7_aheadOf qN_X7 kX7_aheadOf) rfl rfl rfl (by decide +kernel) ⟨Nat.le_of_ble_eq_true rfl, Nat.le_of_ble_eq_true rfl⟩) (mm_pv hK hP (va_recv hK hP (ci := 7) (q0 := 0) rfl ml_obj)) rfl rfl hl.1 rfl (lv_room (Nat.le_of_ble_eq_true rfl)) dX7_foresees_171 ⟨Nat.le_of_ble_eq_true rfl, Nat.le_of_ble_eq_true rfl⟩) (nm_e ?_)
              refine lv_i2l (v := (m_aheadOf σ a0).toInt64) hx hb dX7_foresees_174 rfl ?_
              refine lv_lmul hx hb dX7_foresees_175 ?_
              refine lv_aload_n hx hb dX7_foresees_176 rfl (lv_at hl 2 rfl) ?_
              refine va_get (D := G) (ci := 7) (v := .ref (ad 16)) (C := RX7) (T := TX7) (N := 33) hx hb hg hinX7 hown hK hP 0 ml_obj rfl 16 (by decide) (hg _ qF_X7_56) (fun _ h9 => h9) rfl dX7_foresees_177 ?_
              refine lv_iload_n hx hb dX7_foresees_180 rfl (lv_at hl 4 rfl) ?_
              refine va_iald hx hb hK hP 16 0 ml_ups rfl (mmonth_in (minv_today hI)) dX7_foresees_181 ?_
              refine lv_i2l (v := (σ 16 (nx (m_month σ))).toInt64) hx hb dX7_foresees_182 rfl ?_
              refine lv_lmul hx hb dX7_foresees_183 ?_
              refine lv_ldc2 (v := 1000) hx hb hown (hg _ qD_X7_148) dX7_foresees_184 ?_
              refine lv_aload_n hx hb dX7_foresees_187 rfl (lv_at hl 2 rfl) ?_
              refine va_get (D := G) (ci := 7) (v := .ref (ad 17)) (C := RX7) (T := TX7) (N := 33) hx hb hg hinX7 hown hK hP 0 ml_obj rfl 17 (by decide) (hg _ qF_X7_59) (fun _ h9 => h9) rfl dX7_foresees_188 ?_
              refine lv_iload_n hx hb dX7_foresees_191 rfl (lv_at hl 4 rfl) ?_
              refine va_iald hx hb hK hP 17 0 ml_downs rfl (mmonth_in (minv_today hI)) dX7_foresees_192 ?_
              refine lv_i2l (v := (σ 17 (nx (m_month σ))).toInt64) hx hb dX7_foresees_193 rfl ?_
              refine lv_lmul hx hb dX7_foresees_194 ?_
              refine vp_callSl (W.runS (As := [.long (((foldN (m_fadeF σ a0) (nx (σ 18 0) - nx (m_first σ)) (nx (m_first σ)) 0) * ((m_aheadOf σ a0).toInt64)) * ((σ 16 (nx (m_month σ))).toInt64)), .long (1000 * ((σ 17 (nx (m_month σ))).toInt64))]) (rest := []) ⟨hx, hb, hml, hown, hg⟩ (m_ReplenishRulesModel_over l (((foldN (m_fadeF σ a0) (nx (σ 18 0) - nx (m_first σ)) (nx (m_first σ)) 0) * ((m_aheadOf σ a0).toInt64)) * ((σ 16 (nx (m_month σ))).toInt64)) (1000 * ((σ 17 (nx (m_month σ))).toInt64)) (over2_ne hI)) (cwS 2 hg (gS qM_X7_142 qT_X7_over qN_X7 kX7_over) rfl rfl rfl (by decide +kernel) ⟨Nat.le_of_ble_eq_true rfl, Nat.le_of_ble_eq_true rfl⟩) ⟨fun _ _ _ _ q => q, fun _ _ _ => ⟨rfl, trivial⟩⟩ rfl rfl hl.1 rfl (lv_room (Nat.le_of_ble_eq_true rfl)) dX7_foresees_195 ⟨Nat.le_of_ble_eq_true rfl, Nat.le_of_ble_eq_true rfl⟩) (nm_e ?_)
              exact W.lret (v := m_over (((foldN (m_fadeF σ a0) (nx (σ 18 0) - nx (m_first σ)) (nx (m_first σ)) 0) * ((m_aheadOf σ a0).toInt64)) * ((σ 16 (nx (m_month σ))).toInt64)) (1000 * ((σ 17 (nx (m_month σ))).toInt64))) hx hb hr (fun t ht hW => ⟨_, rfl, by simp only [m_foresees, if_neg c_27, if_neg c_31, if_neg c_39, if_pos c_112], ht⟩) (fun _ h => nomatch h) dX7_foresees_198
            · -- if_icmpge not taken
              exact absurd (nx_le (vp_pos (minv_today hI))) c_112
        · -- to the cut
          refine lv_aload_n hx hb dX7_foresees_83 rfl (lv_at hl 4 rfl) ?_
          refine va_get (D := G) (ci := 7) (v := .int (σ 18 0)) (C := RX7) (T := TX7) (N := 33) hx hb hg hinX7 hown hK hP 0 ml_obj rfl 18 (by decide) (hg _ qF_X7_123) (fun _ h9 => h9) rfl dX7_foresees_84 ?_
          refine lv_bipush (v := 28) hx hb dX7_foresees_87 (by decide) ?_
          refine lv_isub hx hb dX7_foresees_89 ?_
          refine lv_if_ge (tgt := 97) hx hb dX7_foresees_90 (by decide) (fun c_90 => ?_) (fun c_90 => ?_)
          · -- ifge taken
            refine lv_aload_n hx hb dX7_foresees_97 rfl (lv_at hl 4 rfl) ?_
            refine va_get (D := G) (ci := 7) (v := .int (σ 18 0)) (C := RX7) (T := TX7) (N := 33) hx hb hg hinX7 hown hK hP 0 ml_obj rfl 18 (by decide) (hg _ qF_X7_123) (fun _ h9 => h9) rfl dX7_foresees_98 ?_
            refine lv_bipush (v := 28) hx hb dX7_foresees_101 (by decide) ?_
            refine lv_isub hx hb dX7_foresees_103 ?_
            exact lp_topi (show m_first σ = (σ 18 0) - 28 from by simp only [m_first, if_pos c_90]) (hcut104 ls (lv_sub hl [0, 1, 2, 3, 4, 5] rfl))
          · -- ifge not taken
            refine lv_iconst (v := 0) hx hb dX7_foresees_93 (by decide) ?_
            refine lv_goto (tgt := 104) hx hb dX7_foresees_94 (by decide) ?_
            exact lp_topi (show m_first σ = 0 from by simp only [m_first, if_neg c_90]) (hcut104 ls (lv_sub hl [0, 1, 2, 3, 4, 5] rfl))
      · -- if_icmpne not taken
        refine lv_aload_n hx hb dX7_foresees_42 rfl (lv_at hl 3 rfl) ?_
        refine lv_iload_n hx hb dX7_foresees_43 rfl (lv_at hl 4 rfl) ?_
        refine lv_bipush (v := 28) hx hb dX7_foresees_44 (by decide) ?_
        refine lv_iconst (v := 1) hx hb dX7_foresees_46 (by decide) ?_
        refine vp_callSi (W.runV (As := [.int a0, .int 28, .int 1]) (rest := []) ⟨hx, hb, hml, hown, hg⟩ (m_ReplenishRulesModel_sum l G cA ad σ hI a0 28 1 hp0 (by decide)) (cwV 3 hg (gV qM_X7_132 qI_X7_sum qS_X7_sum qN_X7 kX7_sum) rfl rfl rfl (by decide +kernel) ⟨Nat.le_of_ble_eq_true rfl, Nat.le_of_ble_eq_true rfl⟩) (mm_pv hK hP (va_recv hK hP (ci := 7) (q0 := 0) rfl ml_obj)) rfl rfl hl.1 rfl (lv_room (Nat.le_of_ble_eq_true rfl)) dX7_foresees_47 ⟨Nat.le_of_ble_eq_true rfl, Nat.le_of_ble_eq_true rfl⟩) (nm_e ?_)
        refine lv_i2l (v := (m_sum σ a0 28 1).toInt64) hx hb dX7_foresees_50 rfl ?_
        refine lv_aload_n hx hb dX7_foresees_51 rfl (lv_at hl 3 rfl) ?_
        refine lv_iload_n hx hb dX7_foresees_52 rfl (lv_at hl 4 rfl) ?_
        refine vp_callSi (W.runV (As := [.int a0]) (rest := [.long ((m_sum σ a0 28 1).toInt64)]) ⟨hx, hb, hml, hown, hg⟩ (m_ReplenishRulesModel_aheadOf l G cA ad σ hI a0 hp0) (cwV 1 hg (gV qM_X7_139 qI_X7_aheadOf qS_X7_aheadOf qN_X7 kX7_aheadOf) rfl rfl rfl (by decide +kernel) ⟨Nat.le_of_ble_eq_true rfl, Nat.le_of_ble_eq_true rfl⟩) (mm_pv hK hP (va_recv hK hP (ci := 7) (q0 := 0) rfl ml_obj)) rfl rfl hl.1 rfl (lv_room (Nat.le_of_ble_eq_true rfl)) dX7_foresees_53 ⟨Nat.le_of_ble_eq_true rfl, Nat.le_of_ble_eq_true rfl⟩) (nm_e ?_)
        refine lv_i2l (v := (m_aheadOf σ a0).toInt64) hx hb dX7_foresees_56 rfl ?_
        refine lv_lmul hx hb dX7_foresees_57 ?_
        refine lv_aload_n hx hb dX7_foresees_58 rfl (lv_at hl 3 rfl) ?_
        refine va_get (D := G) (ci := 7) (v := .ref (ad 16)) (C := RX7) (T := TX7) (N := 33) hx hb hg hinX7 hown hK hP 0 ml_obj rfl 16 (by decide) (hg _ qF_X7_56) (fun _ h9 => h9) rfl dX7_foresees_59 ?_
        refine lv_iload_n hx hb dX7_foresees_62 rfl (lv_at hl 2 rfl) ?_
        refine va_iald hx hb hK hP 16 0 ml_ups rfl (mmonth_in (minv_today hI)) dX7_foresees_63 ?_
        refine lv_i2l (v := (σ 16 (nx (m_month σ))).toInt64) hx hb dX7_foresees_64 rfl ?_
        refine lv_lmul hx hb dX7_foresees_65 ?_
        refine lv_iload_n hx hb dX7_foresees_66 rfl (lv_at hl 1 rfl) ?_
        refine lv_i2l (v := (m_openDays σ 28).toInt64) hx hb dX7_foresees_67 rfl ?_
        refine lv_aload_n hx hb dX7_foresees_68 rfl (lv_at hl 3 rfl) ?_
        refine va_get (D := G) (ci := 7) (v := .ref (ad 17)) (C := RX7) (T := TX7) (N := 33) hx hb hg hinX7 hown hK hP 0 ml_obj rfl 17 (by decide) (hg _ qF_X7_59) (fun _ h9 => h9) rfl dX7_foresees_69 ?_
        refine lv_iload_n hx hb dX7_foresees_72 rfl (lv_at hl 2 rfl) ?_
        refine va_iald hx hb hK hP 17 0 ml_downs rfl (mmonth_in (minv_today hI)) dX7_foresees_73 ?_
        refine lv_i2l (v := (σ 17 (nx (m_month σ))).toInt64) hx hb dX7_foresees_74 rfl ?_
        refine lv_lmul hx hb dX7_foresees_75 ?_
        refine vp_callSl (W.runS (As := [.long ((((m_sum σ a0 28 1).toInt64) * ((m_aheadOf σ a0).toInt64)) * ((σ 16 (nx (m_month σ))).toInt64)), .long (((m_openDays σ 28).toInt64) * ((σ 17 (nx (m_month σ))).toInt64))]) (rest := []) ⟨hx, hb, hml, hown, hg⟩ (m_ReplenishRulesModel_over l ((((m_sum σ a0 28 1).toInt64) * ((m_aheadOf σ a0).toInt64)) * ((σ 16 (nx (m_month σ))).toInt64)) (((m_openDays σ 28).toInt64) * ((σ 17 (nx (m_month σ))).toInt64)) (over1_ne hI c_31)) (cwS 2 hg (gS qM_X7_142 qT_X7_over qN_X7 kX7_over) rfl rfl rfl (by decide +kernel) ⟨Nat.le_of_ble_eq_true rfl, Nat.le_of_ble_eq_true rfl⟩) ⟨fun _ _ _ _ q => q, fun _ _ _ => ⟨rfl, trivial⟩⟩ rfl rfl hl.1 rfl (lv_room (Nat.le_of_ble_eq_true rfl)) dX7_foresees_76 ⟨Nat.le_of_ble_eq_true rfl, Nat.le_of_ble_eq_true rfl⟩) (nm_e ?_)
        exact W.lret (v := m_over ((((m_sum σ a0 28 1).toInt64) * ((m_aheadOf σ a0).toInt64)) * ((σ 16 (nx (m_month σ))).toInt64)) (((m_openDays σ 28).toInt64) * ((σ 17 (nx (m_month σ))).toInt64))) hx hb hr (fun t ht hW => ⟨_, rfl, by simp only [m_foresees, if_neg c_27, if_neg c_31, if_pos c_39], ht⟩) (fun _ h => nomatch h) dX7_foresees_79
    · -- ifne not taken
      refine lv_lconst (v := 0) hx hb dX7_foresees_34 (by decide) ?_
      exact W.lret (v := 0) hx hb hr (fun t ht hW => ⟨_, rfl, by simp only [m_foresees, if_neg c_27, if_pos c_31], ht⟩) (fun _ h => nomatch h) dX7_foresees_35

set_option maxHeartbeats 4000000 in
set_option maxRecDepth 100000 in
theorem m_ReplenishRulesModel_wants (l : Launch) (G : va_G) (cA : Nat → ClassId) (ad : Nat → Nat) (σ : St) (hI : MInv σ) (a0 : Int32) (hp0 : vp_in a0 16) : Met l yX7_wants (wX7_wants :: wG) ({ frames := 2, cells := 0, slots := 0, locals := 52 }) (va_Pc [.ref (ad 0), .int a0] (mmW G cA ad σ)) (vp_Sl (fun r => r = m_wants σ a0)) 0 0 (fun _ => False) := by
  refine Met.ofW (cc := cX7_wants) (maxL := 8) (ret := (some .long)) (by decide) rfl ?_
  intro p e s m args below meth c s₁ B hml hv
  obtain ⟨rfl, hP, hK⟩ := hv
  have hx := B.exec
  have hb := B.bytes
  have hr := B.returns
  have hts := atoms_spec (ws := wX7_wants :: wG) B.pre
  have hg : ∀ w ∈ wG, w.before _ s = true := fun w h => hts w (List.mem_cons_of_mem _ h)
  have hown : s.vm.findClass RX7 = some m.cls := findClass_of_methodNamed B.named
  have hlocks := B.notSynchronized
  have hl := lv_entry ([.ref (ad 0), .int a0]) (n := 8) (Nat.le_of_ble_eq_true rfl)
  rw [lg_entry_eq]
  generalize (lg_sl ([.ref (ad 0), .int a0]) ++ List.replicate (8 - (lg_sl ([.ref (ad 0), .int a0])).length) Slot.unset).toArray = ls at hl ⊢
  have hl : lv_has ls 8 [(0, .ref (ad 0)), (1, .int a0)] := hl
  refine lv_lconst (v := 0) hx hb dX7_wants_0 (by decide) ?_
  refine lv_lstore_n (lv' := [(2, .long 0), (0, .ref (ad 0)), (1, .int a0)]) hx hb dX7_wants_1 rfl hl (by decide) rfl (fun ls hl => ?_)
  refine lv_iconst (v := 0) hx hb dX7_wants_2 (by decide) ?_
  refine lv_topi (fun y_3 ey_3 => ?_)
  obtain rfl : y_3 = nI 0 := ey_3.trans (nI_0.symm)
  refine lv_istore (lv' := [(4, .int (nI 0)), (2, .long 0), (0, .ref (ad 0)), (1, .int a0)]) hx hb dX7_wants_3 hl (by decide) rfl (fun ls hl => ?_)
  refine lp_ro (f := m_wantF σ a0) (t := nx (σ 19 0)) (nL := 8) (fun k a => [(4, .int (nI k)), (2, .long a), (0, .ref (ad 0)), (1, .int a0)]) (nx (σ 19 0)) 0 0 (Nat.zero_add _) ?_ ?_ ls (lv_sub hl [0, 1, 2, 3] rfl)
  · intro k a hk IH ls hl
    have hl : lv_has ls 8 [(4, .int (nI k)), (2, .long a), (0, .ref (ad 0)), (1, .int a0)] := hl
    refine lv_iload hx hb dX7_wants_5 (lv_at hl 0 rfl) ?_
    refine lv_aload_n hx hb dX7_wants_7 rfl (lv_at hl 2 rfl) ?_
    refine va_get (D := G) (ci := 7) (v := .int (σ 19 0)) (C := RX7) (T := TX7) (N := 33) hx hb hg hinX7 hown hK hP 0 ml_obj rfl 19 (by decide) (hg _ qF_X7_126) (fun _ h9 => h9) rfl dX7_wants_8 ?_
    refine lv_icmp_ge (tgt := 85) hx hb dX7_wants_11 (by decide) (fun c_11 => ?_) (fun c_11 => ?_)
    · -- if_icmpge taken
      exact absurd c_11 (nx_nle (minv_wc hI).1 hk)
    · -- if_icmpge not taken
      refine lp_cut (J := 57) (nL := 8) (LV := [(4, .int (nI k)), (2, .long a), (0, .ref (ad 0)), (1, .int a0)]) (st := [.int (m_wantB σ a0 k)]) (fun ls hl => ?_) (fun hcut57 => ?_)
      · have hl : lv_has ls 8 [(4, .int (nI k)), (2, .long a), (0, .ref (ad 0)), (1, .int a0)] := hl
        refine lv_istore (lv' := [(5, .int (m_wantB σ a0 k)), (4, .int (nI k)), (2, .long a), (0, .ref (ad 0)), (1, .int a0)]) hx hb dX7_wants_57 hl (by decide) rfl (fun ls hl => ?_)
        refine lv_lload_n hx hb dX7_wants_59 rfl (lv_at hl 2 rfl) ?_
        refine lv_iload hx hb dX7_wants_60 (lv_at hl 0 rfl) ?_
        refine lv_if_eq (tgt := 76) hx hb dX7_wants_62 (by decide) (fun c_62 => ?_) (fun c_62 => ?_)
        · -- ifeq taken
          refine lv_lconst (v := 0) hx hb dX7_wants_76 (by decide) ?_
          refine lv_ladd hx hb dX7_wants_77 ?_
          refine lv_lstore_n (lv' := [(2, .long (a + 0)), (5, .int (m_wantB σ a0 k)), (4, .int (nI k)), (0, .ref (ad 0)), (1, .int a0)]) hx hb dX7_wants_78 rfl hl (by decide) rfl (fun ls hl => ?_)
          refine lv_iinc (v := nI (k + 1)) (lv' := [(4, .int (nI (k + 1))), (2, .long (a + 0)), (5, .int (m_wantB σ a0 k)), (0, .ref (ad 0)), (1, .int a0)]) hx hb dX7_wants_79 hl (k := 2) rfl (nI_1 k) (by decide) rfl (fun ls hl => ?_)
          refine lv_goto (tgt := 5) hx hb dX7_wants_82 (by decide) ?_
          refine IH ls ?_
          show lv_has ls 8 [(4, .int (nI (k + 1))), (2, .long ((m_wantF σ a0) k a)), (0, .ref (ad 0)), (1, .int a0)]
          rw [show (m_wantF σ a0) k a = a + 0 from by simp only [m_wantF, if_neg c_11, if_pos c_62]]
          exact lv_sub hl [0, 1, 3, 4] rfl
        · -- ifeq not taken
          refine lv_aload_n hx hb dX7_wants_65 rfl (lv_at hl 3 rfl) ?_
          refine va_get (D := G) (ci := 7) (v := .ref (ad 19)) (C := RX7) (T := TX7) (N := 33) hx hb hg hinX7 hown hK hP 0 ml_obj rfl 21 (by decide) (hg _ qF_X7_65) (fun _ h9 => h9) rfl dX7_wants_66 ?_
          refine lv_iload hx hb dX7_wants_69 (lv_at hl 1 rfl) ?_
          refine va_iald hx hb hK hP 19 0 ml_waveMany rfl (vp_in_nI (Nat.lt_of_lt_of_le hk (minv_wc hI).2) (by decide)) dX7_wants_71 ?_
          refine lv_i2l (v := (σ 21 (nx (nI k))).toInt64) hx hb dX7_wants_72 rfl ?_
          refine lv_goto (tgt := 77) hx hb dX7_wants_73 (by decide) ?_
          refine lv_ladd hx hb dX7_wants_77 ?_
          refine lv_lstore_n (lv' := [(2, .long (a + ((σ 21 (nx (nI k))).toInt64))), (5, .int (m_wantB σ a0 k)), (4, .int (nI k)), (0, .ref (ad 0)), (1, .int a0)]) hx hb dX7_wants_78 rfl hl (by decide) rfl (fun ls hl => ?_)
          refine lv_iinc (v := nI (k + 1)) (lv' := [(4, .int (nI (k + 1))), (2, .long (a + ((σ 21 (nx (nI k))).toInt64))), (5, .int (m_wantB σ a0 k)), (0, .ref (ad 0)), (1, .int a0)]) hx hb dX7_wants_79 hl (k := 2) rfl (nI_1 k) (by decide) rfl (fun ls hl => ?_)
          refine lv_goto (tgt := 5) hx hb dX7_wants_82 (by decide) ?_
          refine IH ls ?_
          show lv_has ls 8 [(4, .int (nI (k + 1))), (2, .long ((m_wantF σ a0) k a)), (0, .ref (ad 0)), (1, .int a0)]
          rw [show (m_wantF σ a0) k a = a + ((σ 21 (nx (nI k))).toInt64) from by simp only [m_wantF, if_neg c_11, if_neg c_62]]
          exact lv_sub hl [0, 1, 3, 4] rfl
      · -- to the cut
        refine lv_aload_n hx hb dX7_wants_14 rfl (lv_at hl 2 rfl) ?_
        refine va_get (D := G) (ci := 7) (v := .ref (ad 18)) (C := RX7) (T := TX7) (N := 33) hx hb hg hinX7 hown hK hP 0 ml_obj rfl 20 (by decide) (hg _ qF_X7_62) (fun _ h9 => h9) rfl dX7_wants_15 ?_
        refine lv_iload hx hb dX7_wants_18 (lv_at hl 0 rfl) ?_
        refine va_iald hx hb hK hP 18 0 ml_wavePlace rfl (vp_in_nI (Nat.lt_of_lt_of_le hk (minv_wc hI).2) (by decide)) dX7_wants_20 ?_
        refine lv_iload_n hx hb dX7_wants_21 rfl (lv_at hl 3 rfl) ?_
        refine lv_icmp_ne (tgt := 56) hx hb dX7_wants_22 (by decide) (fun c_22 => ?_) (fun c_22 => ?_)
        · -- if_icmpne taken
          refine lv_iconst (v := 0) hx hb dX7_wants_56 (by decide) ?_
          exact lp_topi (show m_wantB σ a0 k = 0 from by simp only [m_wantB, if_neg c_22]) (hcut57 ls (lv_sub hl [0, 1, 2, 3] rfl))
        · -- if_icmpne not taken
          refine lv_aload_n hx hb dX7_wants_25 rfl (lv_at hl 2 rfl) ?_
          refine va_get (D := G) (ci := 7) (v := .ref (ad 20)) (C := RX7) (T := TX7) (N := 33) hx hb hg hinX7 hown hK hP 0 ml_obj rfl 22 (by decide) (hg _ qF_X7_68) (fun _ h9 => h9) rfl dX7_wants_26 ?_
          refine lv_iload hx hb dX7_wants_29 (lv_at hl 0 rfl) ?_
          refine va_iald hx hb hK hP 20 0 ml_waveDay rfl (vp_in_nI (Nat.lt_of_lt_of_le hk (minv_wc hI).2) (by decide)) dX7_wants_31 ?_
          refine lv_aload_n hx hb dX7_wants_32 rfl (lv_at hl 2 rfl) ?_
          refine va_get (D := G) (ci := 7) (v := .int (σ 18 0)) (C := RX7) (T := TX7) (N := 33) hx hb hg hinX7 hown hK hP 0 ml_obj rfl 18 (by decide) (hg _ qF_X7_123) (fun _ h9 => h9) rfl dX7_wants_33 ?_
          refine lv_aload_n hx hb dX7_wants_36 rfl (lv_at hl 2 rfl) ?_
          refine va_get (D := G) (ci := 7) (v := .int (σ 18 0)) (C := RX7) (T := TX7) (N := 33) hx hb hg hinX7 hown hK hP 0 ml_obj rfl 18 (by decide) (hg _ qF_X7_123) (fun _ h9 => h9) rfl dX7_wants_37 ?_
          refine lv_aload_n hx hb dX7_wants_40 rfl (lv_at hl 2 rfl) ?_
          refine lv_iload_n hx hb dX7_wants_41 rfl (lv_at hl 3 rfl) ?_
          refine vp_callSi (W.runV (As := [.int a0]) (rest := [.int (σ 18 0), .int (σ 18 0), .int (σ 22 (nx (nI k)))]) ⟨hx, hb, hml, hown, hg⟩ (m_ReplenishRulesModel_aheadOf l G cA ad σ hI a0 hp0) (cwV 1 hg (gV qM_X7_139 qI_X7_aheadOf qS_X7_aheadOf qN_X7 kX7_aheadOf) rfl rfl rfl (by decide +kernel) ⟨Nat.le_of_ble_eq_true rfl, Nat.le_of_ble_eq_true rfl⟩) (mm_pv hK hP (va_recv hK hP (ci := 7) (q0 := 0) rfl ml_obj)) rfl rfl hl.1 rfl (lv_room (Nat.le_of_ble_eq_true rfl)) dX7_wants_42 ⟨Nat.le_of_ble_eq_true rfl, Nat.le_of_ble_eq_true rfl⟩) (nm_e ?_)
          refine lv_iadd hx hb dX7_wants_45 ?_
          refine vp_callSi (W.runS (As := [.int (σ 22 (nx (nI k))), .int (σ 18 0), .int ((σ 18 0) + (m_aheadOf σ a0))]) (rest := []) ⟨hx, hb, hml, hown, hg⟩ (m_ReplenishRulesModel_in l (σ 22 (nx (nI k))) (σ 18 0) ((σ 18 0) + (m_aheadOf σ a0))) (cwS 3 hg (gS qM_X7_102 qT_X7_in qN_X7 kX7_in) rfl rfl rfl (by decide +kernel) ⟨Nat.le_of_ble_eq_true rfl, Nat.le_of_ble_eq_true rfl⟩) ⟨fun _ _ _ _ q => q, fun _ _ _ => ⟨rfl, trivial⟩⟩ rfl rfl hl.1 rfl (lv_room (Nat.le_of_ble_eq_true rfl)) dX7_wants_46 ⟨Nat.le_of_ble_eq_true rfl, Nat.le_of_ble_eq_true rfl⟩) (nm_e ?_)
          refine lv_if_eq (tgt := 56) hx hb dX7_wants_49 (by decide) (fun c_49 => ?_) (fun c_49 => ?_)
          · -- ifeq taken
            refine lv_iconst (v := 0) hx hb dX7_wants_56 (by decide) ?_
            exact lp_topi (show m_wantB σ a0 k = 0 from by simp only [m_wantB, if_pos c_22, if_pos c_49]) (hcut57 ls (lv_sub hl [0, 1, 2, 3] rfl))
          · -- ifeq not taken
            refine lv_iconst (v := 1) hx hb dX7_wants_52 (by decide) ?_
            refine lv_goto (tgt := 57) hx hb dX7_wants_53 (by decide) ?_
            exact lp_topi (show m_wantB σ a0 k = 1 from by simp only [m_wantB, if_pos c_22, if_neg c_49]) (hcut57 ls (lv_sub hl [0, 1, 2, 3] rfl))
  · intro ls hl
    have hl : lv_has ls 8 [(4, .int (nI (nx (σ 19 0)))), (2, .long (foldN (m_wantF σ a0) (nx (σ 19 0)) 0 0)), (0, .ref (ad 0)), (1, .int a0)] := hl
    refine lv_iload hx hb dX7_wants_5 (lv_at hl 0 rfl) ?_
    refine lv_aload_n hx hb dX7_wants_7 rfl (lv_at hl 2 rfl) ?_
    refine va_get (D := G) (ci := 7) (v := .int (σ 19 0)) (C := RX7) (T := TX7) (N := 33) hx hb hg hinX7 hown hK hP 0 ml_obj rfl 19 (by decide) (hg _ qF_X7_126) (fun _ h9 => h9) rfl dX7_wants_8 ?_
    refine lv_icmp_ge (tgt := 85) hx hb dX7_wants_11 (by decide) (fun c_11 => ?_) (fun c_11 => ?_)
    · -- if_icmpge taken
      refine lv_aload_n hx hb dX7_wants_85 rfl (lv_at hl 2 rfl) ?_
      refine lv_iload_n hx hb dX7_wants_86 rfl (lv_at hl 3 rfl) ?_
      refine vp_callSl (W.runV (As := [.int a0]) (rest := []) ⟨hx, hb, hml, hown, hg⟩ (m_ReplenishRulesModel_foresees l G cA ad σ hI a0 hp0) (cwV 1 hg (gV qM_X7_152 qI_X7_foresees qS_X7_foresees qN_X7 kX7_foresees) rfl rfl rfl (by decide +kernel) ⟨Nat.le_of_ble_eq_true rfl, Nat.le_of_ble_eq_true rfl⟩) (mm_pv hK hP (va_recv hK hP (ci := 7) (q0 := 0) rfl ml_obj)) rfl rfl hl.1 rfl (lv_room (Nat.le_of_ble_eq_true rfl)) dX7_wants_87 ⟨Nat.le_of_ble_eq_true rfl, Nat.le_of_ble_eq_true rfl⟩) (nm_e ?_)
      refine lv_lstore (lv' := [(4, .long (m_foresees σ a0)), (2, .long (foldN (m_wantF σ a0) (nx (σ 19 0)) 0 0)), (0, .ref (ad 0)), (1, .int a0)]) hx hb dX7_wants_90 hl (by decide) rfl (fun ls hl => ?_)
      refine lp_cut (J := 105) (nL := 8) (LV := [(4, .long (m_foresees σ a0)), (2, .long (foldN (m_wantF σ a0) (nx (σ 19 0)) 0 0)), (0, .ref (ad 0)), (1, .int a0)]) (st := [.long (m_best σ a0)]) (fun ls hl => ?_) (fun hcut105 => ?_)
      · have hl : lv_has ls 8 [(4, .long (m_foresees σ a0)), (2, .long (foldN (m_wantF σ a0) (nx (σ 19 0)) 0 0)), (0, .ref (ad 0)), (1, .int a0)] := hl
        refine lv_lstore (lv' := [(6, .long (m_best σ a0)), (4, .long (m_foresees σ a0)), (2, .long (foldN (m_wantF σ a0) (nx (σ 19 0)) 0 0)), (0, .ref (ad 0)), (1, .int a0)]) hx hb dX7_wants_105 hl (by decide) rfl (fun ls hl => ?_)
        refine lv_lload hx hb dX7_wants_107 (lv_at hl 0 rfl) ?_
        refine lv_aload_n hx hb dX7_wants_109 rfl (lv_at hl 3 rfl) ?_
        refine va_get (D := G) (ci := 7) (v := .ref (ad 8)) (C := RX7) (T := TX7) (N := 33) hx hb hg hinX7 hown hK hP 0 ml_obj rfl 8 (by decide) (hg _ qF_X7_32) (fun _ h9 => h9) rfl dX7_wants_110 ?_
        refine lv_iload_n hx hb dX7_wants_113 rfl (lv_at hl 4 rfl) ?_
        refine va_iald hx hb hK hP 8 0 ml_least rfl hp0 dX7_wants_114 ?_
        refine lv_i2l (v := (σ 8 (nx a0)).toInt64) hx hb dX7_wants_115 rfl ?_
        refine W.lcmp hx hb dX7_wants_116 ?_
        refine lv_if_le (tgt := 125) hx hb dX7_wants_117 (by decide) (fun c_117 => ?_) (fun c_117 => ?_)
        · -- ifle taken
          refine lv_aload_n hx hb dX7_wants_125 rfl (lv_at hl 3 rfl) ?_
          refine va_get (D := G) (ci := 7) (v := .ref (ad 8)) (C := RX7) (T := TX7) (N := 33) hx hb hg hinX7 hown hK hP 0 ml_obj rfl 8 (by decide) (hg _ qF_X7_32) (fun _ h9 => h9) rfl dX7_wants_126 ?_
          refine lv_iload_n hx hb dX7_wants_129 rfl (lv_at hl 4 rfl) ?_
          refine va_iald hx hb hK hP 8 0 ml_least rfl hp0 dX7_wants_130 ?_
          refine lv_i2l (v := (σ 8 (nx a0)).toInt64) hx hb dX7_wants_131 rfl ?_
          exact W.lret (v := (σ 8 (nx a0)).toInt64) hx hb hr (fun t ht hW => ⟨_, rfl, by simp only [m_wants, if_pos c_11, if_pos c_117], ht⟩) (fun _ h => nomatch h) dX7_wants_132
        · -- ifle not taken
          refine lv_lload hx hb dX7_wants_120 (lv_at hl 0 rfl) ?_
          refine lv_goto (tgt := 132) hx hb dX7_wants_122 (by decide) ?_
          exact W.lret (v := m_best σ a0) hx hb hr (fun t ht hW => ⟨_, rfl, by simp only [m_wants, if_pos c_11, if_neg c_117], ht⟩) (fun _ h => nomatch h) dX7_wants_132
      · -- to the cut
        refine lv_lload hx hb dX7_wants_92 (lv_at hl 0 rfl) ?_
        refine lv_lload_n hx hb dX7_wants_94 rfl (lv_at hl 1 rfl) ?_
        refine W.lcmp hx hb dX7_wants_95 ?_
        refine lv_if_le (tgt := 104) hx hb dX7_wants_96 (by decide) (fun c_96 => ?_) (fun c_96 => ?_)
        · -- ifle taken
          refine lv_lload_n hx hb dX7_wants_104 rfl (lv_at hl 1 rfl) ?_
          exact lp_topl (show m_best σ a0 = foldN (m_wantF σ a0) (nx (σ 19 0)) 0 0 from by simp only [m_best, if_pos c_96]) (hcut105 ls (lv_sub hl [0, 1, 2, 3] rfl))
        · -- ifle not taken
          refine lv_lload hx hb dX7_wants_99 (lv_at hl 0 rfl) ?_
          refine lv_goto (tgt := 105) hx hb dX7_wants_101 (by decide) ?_
          exact lp_topl (show m_best σ a0 = m_foresees σ a0 from by simp only [m_best, if_neg c_96]) (hcut105 ls (lv_sub hl [0, 1, 2, 3] rfl))
    · -- if_icmpge not taken
      exact absurd (nx_le (minv_wc hI).1) c_11

set_option maxHeartbeats 4000000 in
set_option maxRecDepth 100000 in
theorem m_ReplenishRulesModel_asks (l : Launch) (G : va_G) (cA : Nat → ClassId) (ad : Nat → Nat) (σ : St) (hJ : mm_inj ad) (a0 : Int32) : Met l yX7_asks (wX7_asks :: wG) ({ frames := 2, cells := 0, slots := 0, locals := 42 }) (va_Pc [.ref (ad 0), .int a0] (mmW G cA ad σ)) (va_Qi (fun r σ' => r = m_asksR σ a0 ∧ σ' = m_asksS σ a0) (mmW G cA ad) (mmA ad)) 0 0 (mmA ad) := by
  refine Met.ofW (cc := cX7_asks) (maxL := 2) (ret := (some .boolean)) (by decide) rfl ?_
  intro p e s m args below meth c s₁ B hml hv
  obtain ⟨rfl, hP, hK⟩ := hv
  have hx := B.exec
  have hb := B.bytes
  have hr := B.returns
  have hts := atoms_spec (ws := wX7_asks :: wG) B.pre
  have hg : ∀ w ∈ wG, w.before _ s = true := fun w h => hts w (List.mem_cons_of_mem _ h)
  have hown : s.vm.findClass RX7 = some m.cls := findClass_of_methodNamed B.named
  have hlocks := B.notSynchronized
  have hS : va_S (mmA ad) s.heap s.heap [] := va_S.rf
  have hl := lv_entry ([.ref (ad 0), .int a0]) (n := 2) (Nat.le_of_ble_eq_true rfl)
  rw [lg_entry_eq]
  generalize (lg_sl ([.ref (ad 0), .int a0]) ++ List.replicate (2 - (lg_sl ([.ref (ad 0), .int a0])).length) Slot.unset).toArray = ls at hl ⊢
  have hl : lv_has ls 2 [(0, .ref (ad 0)), (1, .int a0)] := hl
  refine lp_cut (J := 26) (nL := 2) (LV := [(0, .ref (ad 0)), (1, .int a0)]) (st := [.int (m_asksT σ a0), .ref (ad 0)]) (fun ls hl => ?_) (fun hcut26 => ?_)
  · have hl : lv_has ls 2 [(0, .ref (ad 0)), (1, .int a0)] := hl
    refine pp_put (D := G) (ci := 7) (v := .int (m_asksT σ a0)) (ty := .int) (C := RX7) (T := TX7) (N := 33) hx hb hg hinX7 tyX7 tyX7_ok nmX7 hown hK hP (mm_D hJ) hS 0 ml_obj rfl 0 (by decide) (hg _ qF_X7_98) (fun _ h9 => h9) rfl (by decide +kernel) rfl rfl (Nat.le_of_ble_eq_true rfl) (ms_thrown) dX7_asks_26 (fun H locs hP hS => ?_)
    obtain ⟨σ1, eσ1⟩ : ∃ z, z = up σ 0 0 (m_asksT σ a0) := ⟨_, rfl⟩
    rw [← eσ1] at hP
    refine lv_aload_n hx hb dX7_asks_29 rfl (lv_at hl 0 rfl) ?_
    refine va_get (D := G) (ci := 7) (v := .int (σ1 0 0)) (C := RX7) (T := TX7) (N := 33) hx hb hg hinX7 hown hK hP 0 ml_obj rfl 0 (by decide) (hg _ qF_X7_98) (fun _ h9 => h9) rfl dX7_asks_30 ?_
    refine lv_if_ne (tgt := 40) hx hb dX7_asks_33 (by decide) (fun c_33 => ?_) (fun c_33 => ?_)
    · -- ifne taken
      refine lv_iconst (v := 0) hx hb dX7_asks_40 (by decide) ?_
      exact W.zret (v := 0) (ty := .boolean) hx hb hr (by decide) (fun t ht hW => ⟨⟨_, σ1, rfl, ⟨by subst eσ1; simp only [m_asksR, if_neg c_33], eσ1⟩, by rw [ht]; exact hP, va_K.moved hW.alike hK⟩, hS.F ht⟩) hS.2.2 dX7_asks_41
    · -- ifne not taken
      refine lv_iconst (v := 1) hx hb dX7_asks_36 (by decide) ?_
      refine lv_goto (tgt := 41) hx hb dX7_asks_37 (by decide) ?_
      exact W.zret (v := 1) (ty := .boolean) hx hb hr (by decide) (fun t ht hW => ⟨⟨_, σ1, rfl, ⟨by subst eσ1; simp only [m_asksR, if_pos c_33], eσ1⟩, by rw [ht]; exact hP, va_K.moved hW.alike hK⟩, hS.F ht⟩) hS.2.2 dX7_asks_41
  · -- to the cut
    refine lv_aload_n hx hb dX7_asks_0 rfl (lv_at hl 0 rfl) ?_
    refine lv_iload_n hx hb dX7_asks_1 rfl (lv_at hl 1 rfl) ?_
    refine vp_callSi (W.runS (As := [.int a0]) (rest := [.ref (ad 0)]) ⟨hx, hb, hml, hown, hg⟩ (m_ReplenishRulesModel_isPlace l a0) (cwS 1 hg (gS qM_X7_106 qT_X7_isPlace qN_X7 kX7_isPlace) rfl rfl rfl (by decide +kernel) ⟨Nat.le_of_ble_eq_true rfl, Nat.le_of_ble_eq_true rfl⟩) ⟨fun _ _ _ _ q => q, fun _ _ _ => ⟨rfl, trivial⟩⟩ rfl rfl hl.1 rfl (lv_room (Nat.le_of_ble_eq_true rfl)) dX7_asks_2 ⟨Nat.le_of_ble_eq_true rfl, Nat.le_of_ble_eq_true rfl⟩) (nm_e ?_)
    refine lv_if_ne (tgt := 12) hx hb dX7_asks_5 (by decide) (fun c_5 => ?_) (fun c_5 => ?_)
    · -- ifne taken
      refine lv_aload_n hx hb dX7_asks_12 rfl (lv_at hl 0 rfl) ?_
      refine va_get (D := G) (ci := 7) (v := .ref (ad 6)) (C := RX7) (T := TX7) (N := 33) hx hb hg hinX7 hown hK hP 0 ml_obj rfl 6 (by decide) (hg _ qF_X7_25) (fun _ h9 => h9) rfl dX7_asks_13 ?_
      refine lv_iload_n hx hb dX7_asks_16 rfl (lv_at hl 1 rfl) ?_
      refine va_zald hx hb hK hP 6 1 ml_isFace rfl (isP c_5) dX7_asks_17 ?_
      refine lv_if_ne (tgt := 25) hx hb dX7_asks_18 (by decide) (fun c_18 => ?_) (fun c_18 => ?_)
      · -- ifne taken
        refine lv_iconst (v := 0) hx hb dX7_asks_25 (by decide) ?_
        exact lp_topi (show m_asksT σ a0 = 0 from by simp only [m_asksT, if_neg c_5, if_neg c_18]) (hcut26 ls (lv_sub hl [0, 1] rfl))
      · -- ifne not taken
        refine lv_iconst (v := 2) hx hb dX7_asks_21 (by decide) ?_
        refine lv_goto (tgt := 26) hx hb dX7_asks_22 (by decide) ?_
        exact lp_topi (show m_asksT σ a0 = 2 from by simp only [m_asksT, if_neg c_5, if_pos c_18]) (hcut26 ls (lv_sub hl [0, 1] rfl))
    · -- ifne not taken
      refine lv_iconst (v := 1) hx hb dX7_asks_8 (by decide) ?_
      refine lv_goto (tgt := 26) hx hb dX7_asks_9 (by decide) ?_
      exact lp_topi (show m_asksT σ a0 = 1 from by simp only [m_asksT, if_pos c_5]) (hcut26 ls (lv_sub hl [0, 1] rfl))

set_option maxHeartbeats 4000000 in
set_option maxRecDepth 100000 in
theorem m_ReplenishRulesModel_forecast (l : Launch) (G : va_G) (cA : Nat → ClassId) (ad : Nat → Nat) (σ : St) (hJ : mm_inj ad) (hI : MInv σ) (a0 : Int32) : Met l yX7_forecast (wX7_forecast :: wG) ({ frames := 3, cells := 0, slots := 0, locals := 63 }) (va_Pc [.ref (ad 0), .int a0] (mmW G cA ad σ)) (va_Ql (fun r σ' => r = m_forecastR σ a0 ∧ σ' = m_asksS σ a0) (mmW G cA ad) (mmA ad)) 0 0 (mmA ad) := by
  refine Met.ofW (cc := cX7_forecast) (maxL := 2) (ret := (some .long)) (by decide) rfl ?_
  intro p e s m args below meth c s₁ B hml hv
  obtain ⟨rfl, hP, hK⟩ := hv
  have hx := B.exec
  have hb := B.bytes
  have hr := B.returns
  have hts := atoms_spec (ws := wX7_forecast :: wG) B.pre
  have hg : ∀ w ∈ wG, w.before _ s = true := fun w h => hts w (List.mem_cons_of_mem _ h)
  have hown : s.vm.findClass RX7 = some m.cls := findClass_of_methodNamed B.named
  have hlocks := B.notSynchronized
  have hS : va_S (mmA ad) s.heap s.heap [] := va_S.rf
  have hl := lv_entry ([.ref (ad 0), .int a0]) (n := 2) (Nat.le_of_ble_eq_true rfl)
  rw [lg_entry_eq]
  generalize (lg_sl ([.ref (ad 0), .int a0]) ++ List.replicate (2 - (lg_sl ([.ref (ad 0), .int a0])).length) Slot.unset).toArray = ls at hl ⊢
  have hl : lv_has ls 2 [(0, .ref (ad 0)), (1, .int a0)] := hl
  refine lv_aload_n hx hb dX7_forecast_0 rfl (lv_at hl 0 rfl) ?_
  refine lv_iload_n hx hb dX7_forecast_1 rfl (lv_at hl 1 rfl) ?_
  refine va_calli (va_runV (As := [.int a0]) (rest := []) ⟨hx, hb, hml, hown, hg⟩ (m_ReplenishRulesModel_asks l G cA ad σ hJ a0) (cwV 1 hg (gV qM_X7_156 qI_X7_asks qS_X7_asks qN_X7 kX7_asks) rfl rfl rfl (by decide +kernel) ⟨Nat.le_of_ble_eq_true rfl, Nat.le_of_ble_eq_true rfl⟩) (mm_pv hK hP (va_recv hK hP (ci := 7) (q0 := 0) rfl ml_obj)) rfl rfl hl.1 rfl (lv_room (Nat.le_of_ble_eq_true rfl)) dX7_forecast_2 ⟨Nat.le_of_ble_eq_true rfl, Nat.le_of_ble_eq_true rfl⟩) hS (fun q _ h => h) (fun q h => h) (fun r9 σ1 t H locs ht hvm hp9 hB hz9 hk9 hS => ?_)
  obtain ⟨rfl, eσ1⟩ := hp9
  have hP := hB.1
  rw [ht] at hP
  have hIσ1 : MInv σ1 := by rw [eσ1]; exact minv_up (by decide) hI
  refine lv_if_eq (tgt := 16) hx hb dX7_forecast_5 (by decide) (fun c_5 => ?_) (fun c_5 => ?_)
  · -- ifeq taken
    refine lv_lconst (v := 0) hx hb dX7_forecast_16 (by decide) ?_
    exact W.lret (v := 0) hx hb hr (fun t ht hW => ⟨⟨_, σ1, rfl, ⟨by subst eσ1; simp only [m_forecastR, if_pos c_5], eσ1⟩, by rw [ht]; exact hP, va_K.moved hW.alike hK⟩, hS.F ht⟩) hS.2.2 dX7_forecast_17
  · -- ifeq not taken
    refine lv_aload_n hx hb dX7_forecast_8 rfl (lv_at hl 0 rfl) ?_
    refine lv_iload_n hx hb dX7_forecast_9 rfl (lv_at hl 1 rfl) ?_
    refine vp_callSl (W.runV (As := [.int a0]) (rest := []) ⟨hx, hb, hml, hown, hg⟩ (m_ReplenishRulesModel_foresees l G cA ad σ1 hIσ1 a0 (asks_in c_5)) (cwV 1 hg (gV qM_X7_152 qI_X7_foresees qS_X7_foresees qN_X7 kX7_foresees) rfl rfl rfl (by decide +kernel) ⟨Nat.le_of_ble_eq_true rfl, Nat.le_of_ble_eq_true rfl⟩) (mm_pv hK hP (va_recv hK hP (ci := 7) (q0 := 0) rfl ml_obj)) rfl rfl hl.1 rfl (lv_room (Nat.le_of_ble_eq_true rfl)) dX7_forecast_10 ⟨Nat.le_of_ble_eq_true rfl, Nat.le_of_ble_eq_true rfl⟩) (nm_e ?_)
    refine lv_goto (tgt := 17) hx hb dX7_forecast_13 (by decide) ?_
    exact W.lret (v := m_foresees σ1 a0) hx hb hr (fun t ht hW => ⟨⟨_, σ1, rfl, ⟨by subst eσ1; simp only [m_forecastR, if_neg c_5], eσ1⟩, by rw [ht]; exact hP, va_K.moved hW.alike hK⟩, hS.F ht⟩) hS.2.2 dX7_forecast_17

set_option maxHeartbeats 4000000 in
set_option maxRecDepth 100000 in
theorem m_ReplenishRulesModel_limit (l : Launch) (G : va_G) (cA : Nat → ClassId) (ad : Nat → Nat) (σ : St) (hI : MInv σ) (a0 : Int32) (hp0 : vp_in a0 16) : Met l yX7_limit (wX7_limit :: wG) ({ frames := 3, cells := 0, slots := 0, locals := 79 }) (va_Pc [.ref (ad 0), .int a0] (mmW G cA ad σ)) (vp_Si (fun r => r = m_limit σ a0)) 0 0 (fun _ => False) := by
  refine Met.ofW (cc := cX7_limit) (maxL := 4) (ret := (some .int)) (by decide) rfl ?_
  intro p e s m args below meth c s₁ B hml hv
  obtain ⟨rfl, hP, hK⟩ := hv
  have hx := B.exec
  have hb := B.bytes
  have hr := B.returns
  have hts := atoms_spec (ws := wX7_limit :: wG) B.pre
  have hg : ∀ w ∈ wG, w.before _ s = true := fun w h => hts w (List.mem_cons_of_mem _ h)
  have hown : s.vm.findClass RX7 = some m.cls := findClass_of_methodNamed B.named
  have hlocks := B.notSynchronized
  have hl := lv_entry ([.ref (ad 0), .int a0]) (n := 4) (Nat.le_of_ble_eq_true rfl)
  rw [lg_entry_eq]
  generalize (lg_sl ([.ref (ad 0), .int a0]) ++ List.replicate (4 - (lg_sl ([.ref (ad 0), .int a0])).length) Slot.unset).toArray = ls at hl ⊢
  have hl : lv_has ls 4 [(0, .ref (ad 0)), (1, .int a0)] := hl
  refine lv_aload_n hx hb dX7_limit_0 rfl (lv_at hl 0 rfl) ?_
  refine lv_iload_n hx hb dX7_limit_1 rfl (lv_at hl 1 rfl) ?_
  refine vp_callSl (W.runV (As := [.int a0]) (rest := []) ⟨hx, hb, hml, hown, hg⟩ (m_ReplenishRulesModel_wants l G cA ad σ hI a0 hp0) (cwV 1 hg (gV qM_X7_159 qI_X7_wants qS_X7_wants qN_X7 kX7_wants) rfl rfl rfl (by decide +kernel) ⟨Nat.le_of_ble_eq_true rfl, Nat.le_of_ble_eq_true rfl⟩) (mm_pv hK hP (va_recv hK hP (ci := 7) (q0 := 0) rfl ml_obj)) rfl rfl hl.1 rfl (lv_room (Nat.le_of_ble_eq_true rfl)) dX7_limit_2 ⟨Nat.le_of_ble_eq_true rfl, Nat.le_of_ble_eq_true rfl⟩) (nm_e ?_)
  refine lv_lstore_n (lv' := [(2, .long (m_wants σ a0)), (0, .ref (ad 0)), (1, .int a0)]) hx hb dX7_limit_5 rfl hl (by decide) rfl (fun ls hl => ?_)
  refine lv_lload_n hx hb dX7_limit_6 rfl (lv_at hl 0 rfl) ?_
  refine lv_aload_n hx hb dX7_limit_7 rfl (lv_at hl 1 rfl) ?_
  refine va_get (D := G) (ci := 7) (v := .ref (ad 1)) (C := RX7) (T := TX7) (N := 33) hx hb hg hinX7 hown hK hP 0 ml_obj rfl 1 (by decide) (hg _ qF_X7_7) (fun _ h9 => h9) rfl dX7_limit_8 ?_
  refine lv_iload_n hx hb dX7_limit_11 rfl (lv_at hl 2 rfl) ?_
  refine va_iald hx hb hK hP 1 0 ml_room rfl hp0 dX7_limit_12 ?_
  refine lv_i2l (v := (σ 1 (nx a0)).toInt64) hx hb dX7_limit_13 rfl ?_
  refine W.lcmp hx hb dX7_limit_14 ?_
  refine lv_if_le (tgt := 27) hx hb dX7_limit_15 (by decide) (fun c_15 => ?_) (fun c_15 => ?_)
  · -- ifle taken
    refine lv_lload_n hx hb dX7_limit_27 rfl (lv_at hl 0 rfl) ?_
    refine lv_l2i (v := (m_wants σ a0).toInt32) hx hb dX7_limit_28 rfl ?_
    exact W.iret (v := (m_wants σ a0).toInt32) hx hb hr (fun t ht hW => ⟨_, rfl, by simp only [m_limit, if_pos c_15], ht⟩) (fun _ h => nomatch h) dX7_limit_29
  · -- ifle not taken
    refine lv_aload_n hx hb dX7_limit_18 rfl (lv_at hl 1 rfl) ?_
    refine va_get (D := G) (ci := 7) (v := .ref (ad 1)) (C := RX7) (T := TX7) (N := 33) hx hb hg hinX7 hown hK hP 0 ml_obj rfl 1 (by decide) (hg _ qF_X7_7) (fun _ h9 => h9) rfl dX7_limit_19 ?_
    refine lv_iload_n hx hb dX7_limit_22 rfl (lv_at hl 2 rfl) ?_
    refine va_iald hx hb hK hP 1 0 ml_room rfl hp0 dX7_limit_23 ?_
    refine lv_goto (tgt := 29) hx hb dX7_limit_24 (by decide) ?_
    exact W.iret (v := σ 1 (nx a0)) hx hb hr (fun t ht hW => ⟨_, rfl, by simp only [m_limit, if_neg c_15], ht⟩) (fun _ h => nomatch h) dX7_limit_29

set_option maxHeartbeats 4000000 in
set_option maxRecDepth 100000 in
theorem m_ReplenishRulesModel_threshold (l : Launch) (G : va_G) (cA : Nat → ClassId) (ad : Nat → Nat) (σ : St) (hJ : mm_inj ad) (hI : MInv σ) (a0 : Int32) : Met l yX7_threshold (wX7_threshold :: wG) ({ frames := 4, cells := 0, slots := 0, locals := 102 }) (va_Pc [.ref (ad 0), .int a0] (mmW G cA ad σ)) (va_Qi (fun r σ' => r = m_thresholdR σ a0 ∧ σ' = m_asksS σ a0) (mmW G cA ad) (mmA ad)) 0 0 (mmA ad) := by
  refine Met.ofW (cc := cX7_threshold) (maxL := 2) (ret := (some .int)) (by decide) rfl ?_
  intro p e s m args below meth c s₁ B hml hv
  obtain ⟨rfl, hP, hK⟩ := hv
  have hx := B.exec
  have hb := B.bytes
  have hr := B.returns
  have hts := atoms_spec (ws := wX7_threshold :: wG) B.pre
  have hg : ∀ w ∈ wG, w.before _ s = true := fun w h => hts w (List.mem_cons_of_mem _ h)
  have hown : s.vm.findClass RX7 = some m.cls := findClass_of_methodNamed B.named
  have hlocks := B.notSynchronized
  have hS : va_S (mmA ad) s.heap s.heap [] := va_S.rf
  have hl := lv_entry ([.ref (ad 0), .int a0]) (n := 2) (Nat.le_of_ble_eq_true rfl)
  rw [lg_entry_eq]
  generalize (lg_sl ([.ref (ad 0), .int a0]) ++ List.replicate (2 - (lg_sl ([.ref (ad 0), .int a0])).length) Slot.unset).toArray = ls at hl ⊢
  have hl : lv_has ls 2 [(0, .ref (ad 0)), (1, .int a0)] := hl
  refine lv_aload_n hx hb dX7_threshold_0 rfl (lv_at hl 0 rfl) ?_
  refine lv_iload_n hx hb dX7_threshold_1 rfl (lv_at hl 1 rfl) ?_
  refine va_calli (va_runV (As := [.int a0]) (rest := []) ⟨hx, hb, hml, hown, hg⟩ (m_ReplenishRulesModel_asks l G cA ad σ hJ a0) (cwV 1 hg (gV qM_X7_156 qI_X7_asks qS_X7_asks qN_X7 kX7_asks) rfl rfl rfl (by decide +kernel) ⟨Nat.le_of_ble_eq_true rfl, Nat.le_of_ble_eq_true rfl⟩) (mm_pv hK hP (va_recv hK hP (ci := 7) (q0 := 0) rfl ml_obj)) rfl rfl hl.1 rfl (lv_room (Nat.le_of_ble_eq_true rfl)) dX7_threshold_2 ⟨Nat.le_of_ble_eq_true rfl, Nat.le_of_ble_eq_true rfl⟩) hS (fun q _ h => h) (fun q h => h) (fun r9 σ1 t H locs ht hvm hp9 hB hz9 hk9 hS => ?_)
  obtain ⟨rfl, eσ1⟩ := hp9
  have hP := hB.1
  rw [ht] at hP
  have hIσ1 : MInv σ1 := by rw [eσ1]; exact minv_up (by decide) hI
  refine lv_if_eq (tgt := 16) hx hb dX7_threshold_5 (by decide) (fun c_5 => ?_) (fun c_5 => ?_)
  · -- ifeq taken
    refine lv_iconst (v := 0) hx hb dX7_threshold_16 (by decide) ?_
    exact W.iret (v := 0) hx hb hr (fun t ht hW => ⟨⟨_, σ1, rfl, ⟨by subst eσ1; simp only [m_thresholdR, if_pos c_5], eσ1⟩, by rw [ht]; exact hP, va_K.moved hW.alike hK⟩, hS.F ht⟩) hS.2.2 dX7_threshold_17
  · -- ifeq not taken
    refine lv_aload_n hx hb dX7_threshold_8 rfl (lv_at hl 0 rfl) ?_
    refine lv_iload_n hx hb dX7_threshold_9 rfl (lv_at hl 1 rfl) ?_
    refine vp_callSi (W.runV (As := [.int a0]) (rest := []) ⟨hx, hb, hml, hown, hg⟩ (m_ReplenishRulesModel_limit l G cA ad σ1 hIσ1 a0 (asks_in c_5)) (cwV 1 hg (gV qM_X7_162 qI_X7_limit qS_X7_limit qN_X7 kX7_limit) rfl rfl rfl (by decide +kernel) ⟨Nat.le_of_ble_eq_true rfl, Nat.le_of_ble_eq_true rfl⟩) (mm_pv hK hP (va_recv hK hP (ci := 7) (q0 := 0) rfl ml_obj)) rfl rfl hl.1 rfl (lv_room (Nat.le_of_ble_eq_true rfl)) dX7_threshold_10 ⟨Nat.le_of_ble_eq_true rfl, Nat.le_of_ble_eq_true rfl⟩) (nm_e ?_)
    refine lv_goto (tgt := 17) hx hb dX7_threshold_13 (by decide) ?_
    exact W.iret (v := m_limit σ1 a0) hx hb hr (fun t ht hW => ⟨⟨_, σ1, rfl, ⟨by subst eσ1; simp only [m_thresholdR, if_neg c_5], eσ1⟩, by rw [ht]; exact hP, va_K.moved hW.alike hK⟩, hS.F ht⟩) hS.2.2 dX7_threshold_17

set_option maxHeartbeats 4000000 in
set_option maxRecDepth 100000 in
theorem m_ReplenishRulesModel_above (l : Launch) (G : va_G) (cA : Nat → ClassId) (ad : Nat → Nat) (σ : St) (hJ : mm_inj ad) (hI : MInv σ) (a0 : Int32) : Met l yX7_above (wX7_above :: wG) ({ frames := 3, cells := 0, slots := 0, locals := 79 }) (va_Pc [.ref (ad 0), .int a0] (mmW G cA ad σ)) (va_Qi (fun r σ' => r = m_aboveR σ a0 ∧ σ' = m_asksS σ a0) (mmW G cA ad) (mmA ad)) 0 0 (mmA ad) := by
  refine Met.ofW (cc := cX7_above) (maxL := 2) (ret := (some .boolean)) (by decide) rfl ?_
  intro p e s m args below meth c s₁ B hml hv
  obtain ⟨rfl, hP, hK⟩ := hv
  have hx := B.exec
  have hb := B.bytes
  have hr := B.returns
  have hts := atoms_spec (ws := wX7_above :: wG) B.pre
  have hg : ∀ w ∈ wG, w.before _ s = true := fun w h => hts w (List.mem_cons_of_mem _ h)
  have hown : s.vm.findClass RX7 = some m.cls := findClass_of_methodNamed B.named
  have hlocks := B.notSynchronized
  have hS : va_S (mmA ad) s.heap s.heap [] := va_S.rf
  have hl := lv_entry ([.ref (ad 0), .int a0]) (n := 2) (Nat.le_of_ble_eq_true rfl)
  rw [lg_entry_eq]
  generalize (lg_sl ([.ref (ad 0), .int a0]) ++ List.replicate (2 - (lg_sl ([.ref (ad 0), .int a0])).length) Slot.unset).toArray = ls at hl ⊢
  have hl : lv_has ls 2 [(0, .ref (ad 0)), (1, .int a0)] := hl
  refine lv_aload_n hx hb dX7_above_0 rfl (lv_at hl 0 rfl) ?_
  refine lv_iload_n hx hb dX7_above_1 rfl (lv_at hl 1 rfl) ?_
  refine va_calli (va_runV (As := [.int a0]) (rest := []) ⟨hx, hb, hml, hown, hg⟩ (m_ReplenishRulesModel_asks l G cA ad σ hJ a0) (cwV 1 hg (gV qM_X7_156 qI_X7_asks qS_X7_asks qN_X7 kX7_asks) rfl rfl rfl (by decide +kernel) ⟨Nat.le_of_ble_eq_true rfl, Nat.le_of_ble_eq_true rfl⟩) (mm_pv hK hP (va_recv hK hP (ci := 7) (q0 := 0) rfl ml_obj)) rfl rfl hl.1 rfl (lv_room (Nat.le_of_ble_eq_true rfl)) dX7_above_2 ⟨Nat.le_of_ble_eq_true rfl, Nat.le_of_ble_eq_true rfl⟩) hS (fun q _ h => h) (fun q h => h) (fun r9 σ1 t H locs ht hvm hp9 hB hz9 hk9 hS => ?_)
  obtain ⟨rfl, eσ1⟩ := hp9
  have hP := hB.1
  rw [ht] at hP
  have hIσ1 : MInv σ1 := by rw [eσ1]; exact minv_up (by decide) hI
  refine lv_if_eq (tgt := 28) hx hb dX7_above_5 (by decide) (fun c_5 => ?_) (fun c_5 => ?_)
  · -- ifeq taken
    refine lv_iconst (v := 0) hx hb dX7_above_28 (by decide) ?_
    exact W.zret (v := 0) (ty := .boolean) hx hb hr (by decide) (fun t ht hW => ⟨⟨_, σ1, rfl, ⟨by subst eσ1; simp only [m_aboveR, if_pos c_5], eσ1⟩, by rw [ht]; exact hP, va_K.moved hW.alike hK⟩, hS.F ht⟩) hS.2.2 dX7_above_29
  · -- ifeq not taken
    refine lv_aload_n hx hb dX7_above_8 rfl (lv_at hl 0 rfl) ?_
    refine lv_iload_n hx hb dX7_above_9 rfl (lv_at hl 1 rfl) ?_
    refine vp_callSl (W.runV (As := [.int a0]) (rest := []) ⟨hx, hb, hml, hown, hg⟩ (m_ReplenishRulesModel_wants l G cA ad σ1 hIσ1 a0 (asks_in c_5)) (cwV 1 hg (gV qM_X7_159 qI_X7_wants qS_X7_wants qN_X7 kX7_wants) rfl rfl rfl (by decide +kernel) ⟨Nat.le_of_ble_eq_true rfl, Nat.le_of_ble_eq_true rfl⟩) (mm_pv hK hP (va_recv hK hP (ci := 7) (q0 := 0) rfl ml_obj)) rfl rfl hl.1 rfl (lv_room (Nat.le_of_ble_eq_true rfl)) dX7_above_10 ⟨Nat.le_of_ble_eq_true rfl, Nat.le_of_ble_eq_true rfl⟩) (nm_e ?_)
    refine lv_aload_n hx hb dX7_above_13 rfl (lv_at hl 0 rfl) ?_
    refine va_get (D := G) (ci := 7) (v := .ref (ad 1)) (C := RX7) (T := TX7) (N := 33) hx hb hg hinX7 hown hK hP 0 ml_obj rfl 1 (by decide) (hg _ qF_X7_7) (fun _ h9 => h9) rfl dX7_above_14 ?_
    refine lv_iload_n hx hb dX7_above_17 rfl (lv_at hl 1 rfl) ?_
    refine va_iald hx hb hK hP 1 0 ml_room rfl (asks_in c_5) dX7_above_18 ?_
    refine lv_i2l (v := (σ1 1 (nx a0)).toInt64) hx hb dX7_above_19 rfl ?_
    refine W.lcmp hx hb dX7_above_20 ?_
    refine lv_if_le (tgt := 28) hx hb dX7_above_21 (by decide) (fun c_21 => ?_) (fun c_21 => ?_)
    · -- ifle taken
      refine lv_iconst (v := 0) hx hb dX7_above_28 (by decide) ?_
      exact W.zret (v := 0) (ty := .boolean) hx hb hr (by decide) (fun t ht hW => ⟨⟨_, σ1, rfl, ⟨by subst eσ1; simp only [m_aboveR, if_neg c_5, if_pos c_21], eσ1⟩, by rw [ht]; exact hP, va_K.moved hW.alike hK⟩, hS.F ht⟩) hS.2.2 dX7_above_29
    · -- ifle not taken
      refine lv_iconst (v := 1) hx hb dX7_above_24 (by decide) ?_
      refine lv_goto (tgt := 29) hx hb dX7_above_25 (by decide) ?_
      exact W.zret (v := 1) (ty := .boolean) hx hb hr (by decide) (fun t ht hW => ⟨⟨_, σ1, rfl, ⟨by subst eσ1; simp only [m_aboveR, if_neg c_5, if_neg c_21], eσ1⟩, by rw [ht]; exact hP, va_K.moved hW.alike hK⟩, hS.F ht⟩) hS.2.2 dX7_above_29

set_option maxHeartbeats 4000000 in
set_option maxRecDepth 100000 in
theorem m_ReplenishRulesModel_missing (l : Launch) (G : va_G) (cA : Nat → ClassId) (ad : Nat → Nat) (σ : St) (hI : MInv σ) (a0 : Int32) (hp0 : vp_in a0 16) : Met l yX7_missing (wX7_missing :: wG) ({ frames := 4, cells := 0, slots := 0, locals := 102 }) (va_Pc [.ref (ad 0), .int a0] (mmW G cA ad σ)) (vp_Si (fun r => r = m_missing σ a0)) 0 0 (fun _ => False) := by
  refine Met.ofW (cc := cX7_missing) (maxL := 8) (ret := (some .int)) (by decide) rfl ?_
  intro p e s m args below meth c s₁ B hml hv
  obtain ⟨rfl, hP, hK⟩ := hv
  have hx := B.exec
  have hb := B.bytes
  have hr := B.returns
  have hts := atoms_spec (ws := wX7_missing :: wG) B.pre
  have hg : ∀ w ∈ wG, w.before _ s = true := fun w h => hts w (List.mem_cons_of_mem _ h)
  have hown : s.vm.findClass RX7 = some m.cls := findClass_of_methodNamed B.named
  have hlocks := B.notSynchronized
  have hl := lv_entry ([.ref (ad 0), .int a0]) (n := 8) (Nat.le_of_ble_eq_true rfl)
  rw [lg_entry_eq]
  generalize (lg_sl ([.ref (ad 0), .int a0]) ++ List.replicate (8 - (lg_sl ([.ref (ad 0), .int a0])).length) Slot.unset).toArray = ls at hl ⊢
  have hl : lv_has ls 8 [(0, .ref (ad 0)), (1, .int a0)] := hl
  refine lv_aload_n hx hb dX7_missing_0 rfl (lv_at hl 0 rfl) ?_
  refine lv_iload_n hx hb dX7_missing_1 rfl (lv_at hl 1 rfl) ?_
  refine vp_callSi (W.runV (As := [.int a0]) (rest := []) ⟨hx, hb, hml, hown, hg⟩ (m_ReplenishRulesModel_limit l G cA ad σ hI a0 hp0) (cwV 1 hg (gV qM_X7_162 qI_X7_limit qS_X7_limit qN_X7 kX7_limit) rfl rfl rfl (by decide +kernel) ⟨Nat.le_of_ble_eq_true rfl, Nat.le_of_ble_eq_true rfl⟩) (mm_pv hK hP (va_recv hK hP (ci := 7) (q0 := 0) rfl ml_obj)) rfl rfl hl.1 rfl (lv_room (Nat.le_of_ble_eq_true rfl)) dX7_missing_2 ⟨Nat.le_of_ble_eq_true rfl, Nat.le_of_ble_eq_true rfl⟩) (nm_e ?_)
  refine lv_istore_n (lv' := [(2, .int (m_limit σ a0)), (0, .ref (ad 0)), (1, .int a0)]) hx hb dX7_missing_5 rfl hl (by decide) rfl (fun ls hl => ?_)
  refine lv_aload_n hx hb dX7_missing_6 rfl (lv_at hl 1 rfl) ?_
  refine va_get (D := G) (ci := 7) (v := .ref (ad 6)) (C := RX7) (T := TX7) (N := 33) hx hb hg hinX7 hown hK hP 0 ml_obj rfl 6 (by decide) (hg _ qF_X7_25) (fun _ h9 => h9) rfl dX7_missing_7 ?_
  refine lv_iload_n hx hb dX7_missing_10 rfl (lv_at hl 2 rfl) ?_
  refine va_zald hx hb hK hP 6 1 ml_isFace rfl hp0 dX7_missing_11 ?_
  refine lv_if_eq (tgt := 25) hx hb dX7_missing_12 (by decide) (fun c_12 => ?_) (fun c_12 => ?_)
  · -- ifeq taken
    refine lv_iconst (v := 0) hx hb dX7_missing_25 (by decide) ?_
    exact W.iret (v := 0) hx hb hr (fun t ht hW => ⟨_, rfl, by simp only [m_missing, if_pos c_12], ht⟩) (fun _ h => nomatch h) dX7_missing_26
  · -- ifeq not taken
    refine lv_aload_n hx hb dX7_missing_15 rfl (lv_at hl 1 rfl) ?_
    refine va_get (D := G) (ci := 7) (v := .ref (ad 3)) (C := RX7) (T := TX7) (N := 33) hx hb hg hinX7 hown hK hP 0 ml_obj rfl 3 (by decide) (hg _ qF_X7_16) (fun _ h9 => h9) rfl dX7_missing_16 ?_
    refine lv_iload_n hx hb dX7_missing_19 rfl (lv_at hl 2 rfl) ?_
    refine va_iald hx hb hK hP 3 0 ml_pieces rfl hp0 dX7_missing_20 ?_
    refine lv_iload_n hx hb dX7_missing_21 rfl (lv_at hl 0 rfl) ?_
    refine lv_icmp_lt (tgt := 27) hx hb dX7_missing_22 (by decide) (fun c_22 => ?_) (fun c_22 => ?_)
    · -- if_icmplt taken
      refine lp_cut (J := 47) (nL := 8) (LV := [(2, .int (m_limit σ a0)), (0, .ref (ad 0)), (1, .int a0)]) (st := [.int (m_tgt1 σ a0)]) (fun ls hl => ?_) (fun hcut47 => ?_)
      · have hl : lv_has ls 8 [(2, .int (m_limit σ a0)), (0, .ref (ad 0)), (1, .int a0)] := hl
        refine lv_istore_n (lv' := [(3, .int (m_tgt1 σ a0)), (2, .int (m_limit σ a0)), (0, .ref (ad 0)), (1, .int a0)]) hx hb dX7_missing_47 rfl hl (by decide) rfl (fun ls hl => ?_)
        refine lp_cut (J := 68) (nL := 8) (LV := [(3, .int (m_tgt1 σ a0)), (2, .int (m_limit σ a0)), (0, .ref (ad 0)), (1, .int a0)]) (st := [.int (m_tgt2 σ a0)]) (fun ls hl => ?_) (fun hcut68 => ?_)
        · have hl : lv_has ls 8 [(3, .int (m_tgt1 σ a0)), (2, .int (m_limit σ a0)), (0, .ref (ad 0)), (1, .int a0)] := hl
          refine lv_istore_n (lv' := [(3, .int (m_tgt2 σ a0)), (2, .int (m_limit σ a0)), (0, .ref (ad 0)), (1, .int a0)]) hx hb dX7_missing_68 rfl hl (by decide) rfl (fun ls hl => ?_)
          refine lv_aload_n hx hb dX7_missing_69 rfl (lv_at hl 2 rfl) ?_
          refine va_get (D := G) (ci := 7) (v := .ref (ad 10)) (C := RX7) (T := TX7) (N := 33) hx hb hg hinX7 hown hK hP 0 ml_obj rfl 10 (by decide) (hg _ qF_X7_38) (fun _ h9 => h9) rfl dX7_missing_70 ?_
          refine lv_aload_n hx hb dX7_missing_73 rfl (lv_at hl 2 rfl) ?_
          refine va_get (D := G) (ci := 7) (v := .ref (ad 7)) (C := RX7) (T := TX7) (N := 33) hx hb hg hinX7 hown hK hP 0 ml_obj rfl 7 (by decide) (hg _ qF_X7_29) (fun _ h9 => h9) rfl dX7_missing_74 ?_
          refine lv_iload_n hx hb dX7_missing_77 rfl (lv_at hl 3 rfl) ?_
          refine va_iald hx hb hK hP 7 0 ml_faceGood rfl hp0 dX7_missing_78 ?_
          refine va_iald hx hb hK hP 10 0 ml_caseOf rfl (minv_good hI (vp_lt hp0)) dX7_missing_79 ?_
          refine lv_topi (fun y_80 ey_80 => ?_)
          obtain rfl : y_80 = m_case σ a0 := ey_80.trans (rfl)
          refine lv_istore (lv' := [(4, .int (m_case σ a0)), (3, .int (m_tgt2 σ a0)), (2, .int (m_limit σ a0)), (0, .ref (ad 0)), (1, .int a0)]) hx hb dX7_missing_80 hl (by decide) rfl (fun ls hl => ?_)
          refine lv_iload_n hx hb dX7_missing_82 rfl (lv_at hl 1 rfl) ?_
          refine lv_aload_n hx hb dX7_missing_83 rfl (lv_at hl 3 rfl) ?_
          refine va_get (D := G) (ci := 7) (v := .ref (ad 3)) (C := RX7) (T := TX7) (N := 33) hx hb hg hinX7 hown hK hP 0 ml_obj rfl 3 (by decide) (hg _ qF_X7_16) (fun _ h9 => h9) rfl dX7_missing_84 ?_
          refine lv_iload_n hx hb dX7_missing_87 rfl (lv_at hl 4 rfl) ?_
          refine va_iald hx hb hK hP 3 0 ml_pieces rfl hp0 dX7_missing_88 ?_
          refine lv_isub hx hb dX7_missing_89 ?_
          refine lv_topi (fun y_90 ey_90 => ?_)
          obtain rfl : y_90 = m_mn σ a0 := ey_90.trans (rfl)
          refine lv_istore (lv' := [(5, .int (m_mn σ a0)), (4, .int (m_case σ a0)), (3, .int (m_tgt2 σ a0)), (2, .int (m_limit σ a0)), (0, .ref (ad 0)), (1, .int a0)]) hx hb dX7_missing_90 hl (by decide) rfl (fun ls hl => ?_)
          refine lv_iload hx hb dX7_missing_92 (lv_at hl 0 rfl) ?_
          refine lv_iload hx hb dX7_missing_94 (lv_at hl 1 rfl) ?_
          refine lv_idiv hx hb dX7_missing_96 (minv_case hI (vp_lt hp0)) ?_
          refine lv_istore (lv' := [(6, .int ((m_mn σ a0) / (m_case σ a0))), (5, .int (m_mn σ a0)), (4, .int (m_case σ a0)), (3, .int (m_tgt2 σ a0)), (2, .int (m_limit σ a0)), (0, .ref (ad 0)), (1, .int a0)]) hx hb dX7_missing_97 hl (by decide) rfl (fun ls hl => ?_)
          refine lp_cut (J := 135) (nL := 8) (LV := [(6, .int ((m_mn σ a0) / (m_case σ a0))), (5, .int (m_mn σ a0)), (4, .int (m_case σ a0)), (3, .int (m_tgt2 σ a0)), (2, .int (m_limit σ a0)), (0, .ref (ad 0)), (1, .int a0)]) (st := [.int (m_more σ a0)]) (fun ls hl => ?_) (fun hcut135 => ?_)
          · have hl : lv_has ls 8 [(6, .int ((m_mn σ a0) / (m_case σ a0))), (5, .int (m_mn σ a0)), (4, .int (m_case σ a0)), (3, .int (m_tgt2 σ a0)), (2, .int (m_limit σ a0)), (0, .ref (ad 0)), (1, .int a0)] := hl
            refine lv_istore (lv' := [(7, .int (m_more σ a0)), (6, .int ((m_mn σ a0) / (m_case σ a0))), (5, .int (m_mn σ a0)), (4, .int (m_case σ a0)), (3, .int (m_tgt2 σ a0)), (2, .int (m_limit σ a0)), (0, .ref (ad 0)), (1, .int a0)]) hx hb dX7_missing_135 hl (by decide) rfl (fun ls hl => ?_)
            refine lv_iload hx hb dX7_missing_137 (lv_at hl 0 rfl) ?_
            refine lv_if_eq (tgt := 149) hx hb dX7_missing_139 (by decide) (fun c_139 => ?_) (fun c_139 => ?_)
            · -- ifeq taken
              refine lv_iload hx hb dX7_missing_149 (lv_at hl 1 rfl) ?_
              refine lv_iload hx hb dX7_missing_151 (lv_at hl 3 rfl) ?_
              refine lv_imul hx hb dX7_missing_153 ?_
              exact W.iret (v := ((m_mn σ a0) / (m_case σ a0)) * (m_case σ a0)) hx hb hr (fun t ht hW => ⟨_, rfl, by simp only [m_missing, if_neg c_12, if_pos c_22, if_pos c_139], ht⟩) (fun _ h => nomatch h) dX7_missing_154
            · -- ifeq not taken
              refine lv_iload hx hb dX7_missing_142 (lv_at hl 1 rfl) ?_
              refine lv_iconst (v := 1) hx hb dX7_missing_144 (by decide) ?_
              refine lv_iadd hx hb dX7_missing_145 ?_
              refine lv_goto (tgt := 151) hx hb dX7_missing_146 (by decide) ?_
              refine lv_iload hx hb dX7_missing_151 (lv_at hl 3 rfl) ?_
              refine lv_imul hx hb dX7_missing_153 ?_
              exact W.iret (v := (((m_mn σ a0) / (m_case σ a0)) + 1) * (m_case σ a0)) hx hb hr (fun t ht hW => ⟨_, rfl, by simp only [m_missing, if_neg c_12, if_pos c_22, if_neg c_139], ht⟩) (fun _ h => nomatch h) dX7_missing_154
          · -- to the cut
            refine lv_iload hx hb dX7_missing_99 (lv_at hl 1 rfl) ?_
            refine lv_iload hx hb dX7_missing_101 (lv_at hl 2 rfl) ?_
            refine lv_irem hx hb dX7_missing_103 (minv_case hI (vp_lt hp0)) ?_
            refine lv_if_le (tgt := 134) hx hb dX7_missing_104 (by decide) (fun c_104 => ?_) (fun c_104 => ?_)
            · -- ifle taken
              refine lv_iconst (v := 0) hx hb dX7_missing_134 (by decide) ?_
              exact lp_topi (show m_more σ a0 = 0 from by simp only [m_more, if_pos c_104]) (hcut135 ls (lv_sub hl [0, 1, 2, 3, 4, 5, 6] rfl))
            · -- ifle not taken
              refine lv_aload_n hx hb dX7_missing_107 rfl (lv_at hl 5 rfl) ?_
              refine va_get (D := G) (ci := 7) (v := .ref (ad 3)) (C := RX7) (T := TX7) (N := 33) hx hb hg hinX7 hown hK hP 0 ml_obj rfl 3 (by decide) (hg _ qF_X7_16) (fun _ h9 => h9) rfl dX7_missing_108 ?_
              refine lv_iload_n hx hb dX7_missing_111 rfl (lv_at hl 6 rfl) ?_
              refine va_iald hx hb hK hP 3 0 ml_pieces rfl hp0 dX7_missing_112 ?_
              refine lv_iload hx hb dX7_missing_113 (lv_at hl 0 rfl) ?_
              refine lv_iconst (v := 1) hx hb dX7_missing_115 (by decide) ?_
              refine lv_iadd hx hb dX7_missing_116 ?_
              refine lv_iload hx hb dX7_missing_117 (lv_at hl 2 rfl) ?_
              refine lv_imul hx hb dX7_missing_119 ?_
              refine lv_iadd hx hb dX7_missing_120 ?_
              refine lv_aload_n hx hb dX7_missing_121 rfl (lv_at hl 5 rfl) ?_
              refine va_get (D := G) (ci := 7) (v := .ref (ad 1)) (C := RX7) (T := TX7) (N := 33) hx hb hg hinX7 hown hK hP 0 ml_obj rfl 1 (by decide) (hg _ qF_X7_7) (fun _ h9 => h9) rfl dX7_missing_122 ?_
              refine lv_iload_n hx hb dX7_missing_125 rfl (lv_at hl 6 rfl) ?_
              refine va_iald hx hb hK hP 1 0 ml_room rfl hp0 dX7_missing_126 ?_
              refine lv_icmp_gt (tgt := 134) hx hb dX7_missing_127 (by decide) (fun c_127 => ?_) (fun c_127 => ?_)
              · -- if_icmpgt taken
                refine lv_iconst (v := 0) hx hb dX7_missing_134 (by decide) ?_
                exact lp_topi (show m_more σ a0 = 0 from by simp only [m_more, if_neg c_104, if_pos c_127]) (hcut135 ls (lv_sub hl [0, 1, 2, 3, 4, 5, 6] rfl))
              · -- if_icmpgt not taken
                refine lv_iconst (v := 1) hx hb dX7_missing_130 (by decide) ?_
                refine lv_goto (tgt := 135) hx hb dX7_missing_131 (by decide) ?_
                exact lp_topi (show m_more σ a0 = 1 from by simp only [m_more, if_neg c_104, if_neg c_127]) (hcut135 ls (lv_sub hl [0, 1, 2, 3, 4, 5, 6] rfl))
        · -- to the cut
          refine lv_iload_n hx hb dX7_missing_48 rfl (lv_at hl 0 rfl) ?_
          refine lv_aload_n hx hb dX7_missing_49 rfl (lv_at hl 2 rfl) ?_
          refine va_get (D := G) (ci := 7) (v := .ref (ad 1)) (C := RX7) (T := TX7) (N := 33) hx hb hg hinX7 hown hK hP 0 ml_obj rfl 1 (by decide) (hg _ qF_X7_7) (fun _ h9 => h9) rfl dX7_missing_50 ?_
          refine lv_iload_n hx hb dX7_missing_53 rfl (lv_at hl 3 rfl) ?_
          refine va_iald hx hb hK hP 1 0 ml_room rfl hp0 dX7_missing_54 ?_
          refine lv_icmp_le (tgt := 67) hx hb dX7_missing_55 (by decide) (fun c_55 => ?_) (fun c_55 => ?_)
          · -- if_icmple taken
            refine lv_iload_n hx hb dX7_missing_67 rfl (lv_at hl 0 rfl) ?_
            exact lp_topi (show m_tgt2 σ a0 = m_tgt1 σ a0 from by simp only [m_tgt2, if_pos c_55]) (hcut68 ls (lv_sub hl [0, 1, 2, 3] rfl))
          · -- if_icmple not taken
            refine lv_aload_n hx hb dX7_missing_58 rfl (lv_at hl 2 rfl) ?_
            refine va_get (D := G) (ci := 7) (v := .ref (ad 1)) (C := RX7) (T := TX7) (N := 33) hx hb hg hinX7 hown hK hP 0 ml_obj rfl 1 (by decide) (hg _ qF_X7_7) (fun _ h9 => h9) rfl dX7_missing_59 ?_
            refine lv_iload_n hx hb dX7_missing_62 rfl (lv_at hl 3 rfl) ?_
            refine va_iald hx hb hK hP 1 0 ml_room rfl hp0 dX7_missing_63 ?_
            refine lv_goto (tgt := 68) hx hb dX7_missing_64 (by decide) ?_
            exact lp_topi (show m_tgt2 σ a0 = σ 1 (nx a0) from by simp only [m_tgt2, if_neg c_55]) (hcut68 ls (lv_sub hl [0, 1, 2, 3] rfl))
      · -- to the cut
        refine lv_aload_n hx hb dX7_missing_27 rfl (lv_at hl 1 rfl) ?_
        refine va_get (D := G) (ci := 7) (v := .ref (ad 9)) (C := RX7) (T := TX7) (N := 33) hx hb hg hinX7 hown hK hP 0 ml_obj rfl 9 (by decide) (hg _ qF_X7_35) (fun _ h9 => h9) rfl dX7_missing_28 ?_
        refine lv_iload_n hx hb dX7_missing_31 rfl (lv_at hl 2 rfl) ?_
        refine va_iald hx hb hK hP 9 0 ml_most rfl hp0 dX7_missing_32 ?_
        refine lv_iload_n hx hb dX7_missing_33 rfl (lv_at hl 0 rfl) ?_
        refine lv_icmp_le (tgt := 46) hx hb dX7_missing_34 (by decide) (fun c_34 => ?_) (fun c_34 => ?_)
        · -- if_icmple taken
          refine lv_iload_n hx hb dX7_missing_46 rfl (lv_at hl 0 rfl) ?_
          exact lp_topi (show m_tgt1 σ a0 = m_limit σ a0 from by simp only [m_tgt1, if_pos c_34]) (hcut47 ls (lv_sub hl [0, 1, 2] rfl))
        · -- if_icmple not taken
          refine lv_aload_n hx hb dX7_missing_37 rfl (lv_at hl 1 rfl) ?_
          refine va_get (D := G) (ci := 7) (v := .ref (ad 9)) (C := RX7) (T := TX7) (N := 33) hx hb hg hinX7 hown hK hP 0 ml_obj rfl 9 (by decide) (hg _ qF_X7_35) (fun _ h9 => h9) rfl dX7_missing_38 ?_
          refine lv_iload_n hx hb dX7_missing_41 rfl (lv_at hl 2 rfl) ?_
          refine va_iald hx hb hK hP 9 0 ml_most rfl hp0 dX7_missing_42 ?_
          refine lv_goto (tgt := 47) hx hb dX7_missing_43 (by decide) ?_
          exact lp_topi (show m_tgt1 σ a0 = σ 9 (nx a0) from by simp only [m_tgt1, if_neg c_34]) (hcut47 ls (lv_sub hl [0, 1, 2] rfl))
    · -- if_icmplt not taken
      refine lv_iconst (v := 0) hx hb dX7_missing_25 (by decide) ?_
      exact W.iret (v := 0) hx hb hr (fun t ht hW => ⟨_, rfl, by simp only [m_missing, if_neg c_12, if_neg c_22], ht⟩) (fun _ h => nomatch h) dX7_missing_26

set_option maxHeartbeats 4000000 in
set_option maxRecDepth 100000 in
theorem m_ReplenishRulesModel_needTime (l : Launch) (G : va_G) (cA : Nat → ClassId) (ad : Nat → Nat) (σ : St) (hI : MInv σ) (a0 : Int32) (hp0 : vp_in a0 16) : Met l yX7_needTime (wX7_needTime :: wG) ({ frames := 1, cells := 0, slots := 0, locals := 25 }) (va_Pc [.ref (ad 0), .int a0] (mmW G cA ad σ)) (vp_Si (fun r => r = m_needTime σ a0)) 0 0 (fun _ => False) := by
  refine Met.ofW (cc := cX7_needTime) (maxL := 3) (ret := (some .int)) (by decide) rfl ?_
  intro p e s m args below meth c s₁ B hml hv
  obtain ⟨rfl, hP, hK⟩ := hv
  have hx := B.exec
  have hb := B.bytes
  have hr := B.returns
  have hts := atoms_spec (ws := wX7_needTime :: wG) B.pre
  have hg : ∀ w ∈ wG, w.before _ s = true := fun w h => hts w (List.mem_cons_of_mem _ h)
  have hown : s.vm.findClass RX7 = some m.cls := findClass_of_methodNamed B.named
  have hlocks := B.notSynchronized
  have hl := lv_entry ([.ref (ad 0), .int a0]) (n := 3) (Nat.le_of_ble_eq_true rfl)
  rw [lg_entry_eq]
  generalize (lg_sl ([.ref (ad 0), .int a0]) ++ List.replicate (3 - (lg_sl ([.ref (ad 0), .int a0])).length) Slot.unset).toArray = ls at hl ⊢
  have hl : lv_has ls 3 [(0, .ref (ad 0)), (1, .int a0)] := hl
  refine lv_aload_n hx hb dX7_needTime_0 rfl (lv_at hl 0 rfl) ?_
  refine lv_iload_n hx hb dX7_needTime_1 rfl (lv_at hl 1 rfl) ?_
  refine lv_bipush (v := 28) hx hb dX7_needTime_2 (by decide) ?_
  refine lv_iconst (v := 1) hx hb dX7_needTime_4 (by decide) ?_
  refine vp_callSi (W.runV (As := [.int a0, .int 28, .int 1]) (rest := []) ⟨hx, hb, hml, hown, hg⟩ (m_ReplenishRulesModel_sum l G cA ad σ hI a0 28 1 hp0 (by decide)) (cwV 3 hg (gV qM_X7_132 qI_X7_sum qS_X7_sum qN_X7 kX7_sum) rfl rfl rfl (by decide +kernel) ⟨Nat.le_of_ble_eq_true rfl, Nat.le_of_ble_eq_true rfl⟩) (mm_pv hK hP (va_recv hK hP (ci := 7) (q0 := 0) rfl ml_obj)) rfl rfl hl.1 rfl (lv_room (Nat.le_of_ble_eq_true rfl)) dX7_needTime_5 ⟨Nat.le_of_ble_eq_true rfl, Nat.le_of_ble_eq_true rfl⟩) (nm_e ?_)
  refine lv_istore_n (lv' := [(2, .int (m_sum σ a0 28 1)), (0, .ref (ad 0)), (1, .int a0)]) hx hb dX7_needTime_8 rfl hl (by decide) rfl (fun ls hl => ?_)
  refine lv_iload_n hx hb dX7_needTime_9 rfl (lv_at hl 0 rfl) ?_
  refine lv_if_ne (tgt := 19) hx hb dX7_needTime_10 (by decide) (fun c_10 => ?_) (fun c_10 => ?_)
  · -- ifne taken
    refine lv_aload_n hx hb dX7_needTime_19 rfl (lv_at hl 1 rfl) ?_
    refine va_get (D := G) (ci := 7) (v := .ref (ad 3)) (C := RX7) (T := TX7) (N := 33) hx hb hg hinX7 hown hK hP 0 ml_obj rfl 3 (by decide) (hg _ qF_X7_16) (fun _ h9 => h9) rfl dX7_needTime_20 ?_
    refine lv_iload_n hx hb dX7_needTime_23 rfl (lv_at hl 2 rfl) ?_
    refine va_iald hx hb hK hP 3 0 ml_pieces rfl hp0 dX7_needTime_24 ?_
    refine lv_i2l (v := (σ 3 (nx a0)).toInt64) hx hb dX7_needTime_25 rfl ?_
    refine lv_aload_n hx hb dX7_needTime_26 rfl (lv_at hl 1 rfl) ?_
    refine lv_bipush (v := 28) hx hb dX7_needTime_27 (by decide) ?_
    refine vp_callSi (W.runV (As := [.int 28]) (rest := [.long ((σ 3 (nx a0)).toInt64)]) ⟨hx, hb, hml, hown, hg⟩ (m_ReplenishRulesModel_openDays l G cA ad σ hI 28 (by decide)) (cwV 1 hg (gV qM_X7_129 qI_X7_openDays qS_X7_openDays qN_X7 kX7_openDays) rfl rfl rfl (by decide +kernel) ⟨Nat.le_of_ble_eq_true rfl, Nat.le_of_ble_eq_true rfl⟩) (mm_pv hK hP (va_recv hK hP (ci := 7) (q0 := 0) rfl ml_obj)) rfl rfl hl.1 rfl (lv_room (Nat.le_of_ble_eq_true rfl)) dX7_needTime_29 ⟨Nat.le_of_ble_eq_true rfl, Nat.le_of_ble_eq_true rfl⟩) (nm_e ?_)
    refine lv_i2l (v := (m_openDays σ 28).toInt64) hx hb dX7_needTime_32 rfl ?_
    refine lv_lmul hx hb dX7_needTime_33 ?_
    refine lv_iload_n hx hb dX7_needTime_34 rfl (lv_at hl 0 rfl) ?_
    refine lv_i2l (v := (m_sum σ a0 28 1).toInt64) hx hb dX7_needTime_35 rfl ?_
    refine lv_ldiv hx hb dX7_needTime_36 (toInt64_ne c_10) ?_
    refine lv_l2i (v := ((((σ 3 (nx a0)).toInt64) * ((m_openDays σ 28).toInt64)) / ((m_sum σ a0 28 1).toInt64)).toInt32) hx hb dX7_needTime_37 rfl ?_
    exact W.iret (v := ((((σ 3 (nx a0)).toInt64) * ((m_openDays σ 28).toInt64)) / ((m_sum σ a0 28 1).toInt64)).toInt32) hx hb hr (fun t ht hW => ⟨_, rfl, by simp only [m_needTime, if_neg c_10], ht⟩) (fun _ h => nomatch h) dX7_needTime_38
  · -- ifne not taken
    refine lv_sipush (v := 9999) hx hb dX7_needTime_13 (by decide) ?_
    refine lv_goto (tgt := 38) hx hb dX7_needTime_16 (by decide) ?_
    exact W.iret (v := 9999) hx hb hr (fun t ht hW => ⟨_, rfl, by simp only [m_needTime, if_pos c_10], ht⟩) (fun _ h => nomatch h) dX7_needTime_38

set_option maxHeartbeats 4000000 in
set_option maxRecDepth 100000 in
theorem m_ReplenishRulesModel_left (l : Launch) (G : va_G) (cA : Nat → ClassId) (ad : Nat → Nat) (σ : St) (a0 : Int32) (hp0 : vp_in a0 16) : Met l yX7_left (wX7_left :: wG) ({ frames := 1, cells := 0, slots := 0, locals := 21 }) (va_Pc [.ref (ad 0), .int a0] (mmW G cA ad σ)) (vp_Si (fun r => r = m_left σ a0)) 0 0 (fun _ => False) := by
  refine Met.ofW (cc := cX7_left) (maxL := 2) (ret := (some .int)) (by decide) rfl ?_
  intro p e s m args below meth c s₁ B hml hv
  obtain ⟨rfl, hP, hK⟩ := hv
  have hx := B.exec
  have hb := B.bytes
  have hr := B.returns
  have hts := atoms_spec (ws := wX7_left :: wG) B.pre
  have hg : ∀ w ∈ wG, w.before _ s = true := fun w h => hts w (List.mem_cons_of_mem _ h)
  have hown : s.vm.findClass RX7 = some m.cls := findClass_of_methodNamed B.named
  have hlocks := B.notSynchronized
  have hl := lv_entry ([.ref (ad 0), .int a0]) (n := 2) (Nat.le_of_ble_eq_true rfl)
  rw [lg_entry_eq]
  generalize (lg_sl ([.ref (ad 0), .int a0]) ++ List.replicate (2 - (lg_sl ([.ref (ad 0), .int a0])).length) Slot.unset).toArray = ls at hl ⊢
  have hl : lv_has ls 2 [(0, .ref (ad 0)), (1, .int a0)] := hl
  refine lv_aload_n hx hb dX7_left_0 rfl (lv_at hl 0 rfl) ?_
  refine lv_iload_n hx hb dX7_left_1 rfl (lv_at hl 1 rfl) ?_
  refine vp_callSi (W.runV (As := [.int a0]) (rest := []) ⟨hx, hb, hml, hown, hg⟩ (m_ReplenishRulesModel_free l G cA ad σ a0 hp0) (cwV 1 hg (gV qM_X7_115 qI_X7_free qS_X7_free qN_X7 kX7_free) rfl rfl rfl (by decide +kernel) ⟨Nat.le_of_ble_eq_true rfl, Nat.le_of_ble_eq_true rfl⟩) (mm_pv hK hP (va_recv hK hP (ci := 7) (q0 := 0) rfl ml_obj)) rfl rfl hl.1 rfl (lv_room (Nat.le_of_ble_eq_true rfl)) dX7_left_2 ⟨Nat.le_of_ble_eq_true rfl, Nat.le_of_ble_eq_true rfl⟩) (nm_e ?_)
  refine lv_aload_n hx hb dX7_left_5 rfl (lv_at hl 0 rfl) ?_
  refine va_get (D := G) (ci := 7) (v := .ref (ad 28)) (C := RX7) (T := TX7) (N := 33) hx hb hg hinX7 hown hK hP 0 ml_obj rfl 31 (by decide) (hg _ qF_X7_92) (fun _ h9 => h9) rfl dX7_left_6 ?_
  refine lv_iload_n hx hb dX7_left_9 rfl (lv_at hl 1 rfl) ?_
  refine va_iald hx hb hK hP 28 0 ml_planned rfl hp0 dX7_left_10 ?_
  refine lv_isub hx hb dX7_left_11 ?_
  exact W.iret (v := (m_free σ a0) - (σ 31 (nx a0))) hx hb hr (fun t ht hW => ⟨_, rfl, rfl, ht⟩) (fun _ h => nomatch h) dX7_left_12
