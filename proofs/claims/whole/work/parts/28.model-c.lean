set_option maxHeartbeats 4000000 in
set_option maxRecDepth 100000 in
theorem m_ReplenishRulesModel_next (l : Launch) (G : va_G) (cA : Nat → ClassId) (ad : Nat → Nat) (σ : St) (hI : MInv σ) : Met l yX7_next (wX7_next :: wG) ({ frames := 5, cells := 0, slots := 0, locals := 129 }) (va_Pc [.ref (ad 0)] (mmW G cA ad σ)) (vp_Si (fun r => r = m_next σ)) 0 0 (fun _ => False) := by
  refine Met.ofW (cc := cX7_next) (maxL := 4) (ret := (some .int)) (by decide) rfl ?_
  intro p e s m args below meth c s₁ B hml hv
  obtain ⟨rfl, hP, hK⟩ := hv
  have hx := B.exec
  have hb := B.bytes
  have hr := B.returns
  have hts := atoms_spec (ws := wX7_next :: wG) B.pre
  have hg : ∀ w ∈ wG, w.before _ s = true := fun w h => hts w (List.mem_cons_of_mem _ h)
  have hown : s.vm.findClass RX7 = some m.cls := findClass_of_methodNamed B.named
  have hlocks := B.notSynchronized
  have hl := lv_entry ([.ref (ad 0)]) (n := 4) (Nat.le_of_ble_eq_true rfl)
  rw [lg_entry_eq]
  generalize (lg_sl ([.ref (ad 0)]) ++ List.replicate (4 - (lg_sl ([.ref (ad 0)])).length) Slot.unset).toArray = ls at hl ⊢
  have hl : lv_has ls 4 [(0, .ref (ad 0))] := hl
  refine lv_iconst (v := (-1)) hx hb dX7_next_0 (by decide) ?_
  refine lv_istore_n (lv' := [(1, .int (-1)), (0, .ref (ad 0))]) hx hb dX7_next_1 rfl hl (by decide) rfl (fun ls hl => ?_)
  refine lv_iconst (v := 0) hx hb dX7_next_2 (by decide) ?_
  refine lv_topi (fun y_3 ey_3 => ?_)
  obtain rfl : y_3 = nI 0 := ey_3.trans (nI_0.symm)
  refine lv_istore_n (lv' := [(2, .int (nI 0)), (1, .int (-1)), (0, .ref (ad 0))]) hx hb dX7_next_3 rfl hl (by decide) rfl (fun ls hl => ?_)
  refine lp_ri (f := m_nextF σ) (t := 16) (nL := 4) (fun _ b => b = -1 ∨ vp_in b 16) (fun k a => [(2, .int (nI k)), (1, .int a), (0, .ref (ad 0))]) 16 0 (-1) (by decide) ?_ ?_ (Or.inl rfl) ls (lv_sub hl [0, 1, 2] rfl)
  · intro k a hk hIa IH ls hl
    have hl : lv_has ls 4 [(2, .int (nI k)), (1, .int a), (0, .ref (ad 0))] := hl
    refine lv_iload_n hx hb dX7_next_4 rfl (lv_at hl 0 rfl) ?_
    refine lv_bipush (v := 16) hx hb dX7_next_5 (by decide) ?_
    refine lv_icmp_ge (tgt := 76) hx hb dX7_next_7 (by decide) (fun c_7 => ?_) (fun c_7 => ?_)
    · -- if_icmpge taken
      exact absurd c_7 (nI_ge hk (by decide))
    · -- if_icmpge not taken
      refine lp_cut (J := 41) (nL := 4) (LV := [(2, .int (nI k)), (1, .int a), (0, .ref (ad 0))]) (st := [.int (m_nextB σ k)]) (fun ls hl => ?_) (fun hcut41 => ?_)
      · have hl : lv_has ls 4 [(2, .int (nI k)), (1, .int a), (0, .ref (ad 0))] := hl
        refine lv_istore_n (lv' := [(3, .int (m_nextB σ k)), (2, .int (nI k)), (1, .int a), (0, .ref (ad 0))]) hx hb dX7_next_41 rfl hl (by decide) rfl (fun ls hl => ?_)
        refine lv_iload_n hx hb dX7_next_42 rfl (lv_at hl 0 rfl) ?_
        refine lv_if_eq (tgt := 68) hx hb dX7_next_43 (by decide) (fun c_43 => ?_) (fun c_43 => ?_)
        · -- ifeq taken
          refine lv_iload_n hx hb dX7_next_68 rfl (lv_at hl 2 rfl) ?_
          refine lv_istore_n (lv' := [(1, .int a), (3, .int (m_nextB σ k)), (2, .int (nI k)), (0, .ref (ad 0))]) hx hb dX7_next_69 rfl hl (by decide) rfl (fun ls hl => ?_)
          refine lv_iinc (v := nI (k + 1)) (lv' := [(2, .int (nI (k + 1))), (1, .int a), (3, .int (m_nextB σ k)), (0, .ref (ad 0))]) hx hb dX7_next_70 hl (k := 2) rfl (nI_1 k) (by decide) rfl (fun ls hl => ?_)
          refine lv_goto (tgt := 4) hx hb dX7_next_73 (by decide) ?_
          refine IH ls (nextF_in hk hIa) ?_
          show lv_has ls 4 [(2, .int (nI (k + 1))), (1, .int ((m_nextF σ) k a)), (0, .ref (ad 0))]
          rw [show (m_nextF σ) k a = a from by simp only [m_nextF, if_neg c_7, if_pos c_43]]
          exact lv_sub hl [0, 1, 3] rfl
        · -- ifeq not taken
          refine lv_iload_n hx hb dX7_next_46 rfl (lv_at hl 2 rfl) ?_
          refine lv_iconst (v := (-1)) hx hb dX7_next_47 (by decide) ?_
          refine lv_icmp_eq (tgt := 64) hx hb dX7_next_48 (by decide) (fun c_48 => ?_) (fun c_48 => ?_)
          · -- if_icmpeq taken
            refine lv_iload_n hx hb dX7_next_64 rfl (lv_at hl 1 rfl) ?_
            refine lv_goto (tgt := 69) hx hb dX7_next_65 (by decide) ?_
            refine lv_istore_n (lv' := [(1, .int (nI k)), (3, .int (m_nextB σ k)), (2, .int (nI k)), (0, .ref (ad 0))]) hx hb dX7_next_69 rfl hl (by decide) rfl (fun ls hl => ?_)
            refine lv_iinc (v := nI (k + 1)) (lv' := [(2, .int (nI (k + 1))), (1, .int (nI k)), (3, .int (m_nextB σ k)), (0, .ref (ad 0))]) hx hb dX7_next_70 hl (k := 2) rfl (nI_1 k) (by decide) rfl (fun ls hl => ?_)
            refine lv_goto (tgt := 4) hx hb dX7_next_73 (by decide) ?_
            refine IH ls (nextF_in hk hIa) ?_
            show lv_has ls 4 [(2, .int (nI (k + 1))), (1, .int ((m_nextF σ) k a)), (0, .ref (ad 0))]
            rw [show (m_nextF σ) k a = nI k from by simp only [m_nextF, if_neg c_7, if_neg c_43, if_pos c_48]]
            exact lv_sub hl [0, 1, 3] rfl
          · -- if_icmpeq not taken
            refine lv_aload_n hx hb dX7_next_51 rfl (lv_at hl 3 rfl) ?_
            refine lv_iload_n hx hb dX7_next_52 rfl (lv_at hl 1 rfl) ?_
            refine vp_callSi (W.runV (As := [.int (nI k)]) (rest := []) ⟨hx, hb, hml, hown, hg⟩ (m_ReplenishRulesModel_needTime l G cA ad σ hI (nI k) (nI_in16 hk)) (cwV 1 hg (gV qM_X7_168 qI_X7_needTime qS_X7_needTime qN_X7 kX7_needTime) rfl rfl rfl (by decide +kernel) ⟨Nat.le_of_ble_eq_true rfl, Nat.le_of_ble_eq_true rfl⟩) (mm_pv hK hP (va_recv hK hP (ci := 7) (q0 := 0) rfl ml_obj)) rfl rfl hl.1 rfl (lv_room (Nat.le_of_ble_eq_true rfl)) dX7_next_53 ⟨Nat.le_of_ble_eq_true rfl, Nat.le_of_ble_eq_true rfl⟩) (nm_e ?_)
            refine lv_aload_n hx hb dX7_next_56 rfl (lv_at hl 3 rfl) ?_
            refine lv_iload_n hx hb dX7_next_57 rfl (lv_at hl 2 rfl) ?_
            refine vp_callSi (W.runV (As := [.int a]) (rest := [.int (m_needTime σ (nI k))]) ⟨hx, hb, hml, hown, hg⟩ (m_ReplenishRulesModel_needTime l G cA ad σ hI a (hIa.resolve_left c_48)) (cwV 1 hg (gV qM_X7_168 qI_X7_needTime qS_X7_needTime qN_X7 kX7_needTime) rfl rfl rfl (by decide +kernel) ⟨Nat.le_of_ble_eq_true rfl, Nat.le_of_ble_eq_true rfl⟩) (mm_pv hK hP (va_recv hK hP (ci := 7) (q0 := 0) rfl ml_obj)) rfl rfl hl.1 rfl (lv_room (Nat.le_of_ble_eq_true rfl)) dX7_next_58 ⟨Nat.le_of_ble_eq_true rfl, Nat.le_of_ble_eq_true rfl⟩) (nm_e ?_)
            refine lv_icmp_ge (tgt := 68) hx hb dX7_next_61 (by decide) (fun c_61 => ?_) (fun c_61 => ?_)
            · -- if_icmpge taken
              refine lv_iload_n hx hb dX7_next_68 rfl (lv_at hl 2 rfl) ?_
              refine lv_istore_n (lv' := [(1, .int a), (3, .int (m_nextB σ k)), (2, .int (nI k)), (0, .ref (ad 0))]) hx hb dX7_next_69 rfl hl (by decide) rfl (fun ls hl => ?_)
              refine lv_iinc (v := nI (k + 1)) (lv' := [(2, .int (nI (k + 1))), (1, .int a), (3, .int (m_nextB σ k)), (0, .ref (ad 0))]) hx hb dX7_next_70 hl (k := 2) rfl (nI_1 k) (by decide) rfl (fun ls hl => ?_)
              refine lv_goto (tgt := 4) hx hb dX7_next_73 (by decide) ?_
              refine IH ls (nextF_in hk hIa) ?_
              show lv_has ls 4 [(2, .int (nI (k + 1))), (1, .int ((m_nextF σ) k a)), (0, .ref (ad 0))]
              rw [show (m_nextF σ) k a = a from by simp only [m_nextF, if_neg c_7, if_neg c_43, if_neg c_48, if_pos c_61]]
              exact lv_sub hl [0, 1, 3] rfl
            · -- if_icmpge not taken
              refine lv_iload_n hx hb dX7_next_64 rfl (lv_at hl 1 rfl) ?_
              refine lv_goto (tgt := 69) hx hb dX7_next_65 (by decide) ?_
              refine lv_istore_n (lv' := [(1, .int (nI k)), (3, .int (m_nextB σ k)), (2, .int (nI k)), (0, .ref (ad 0))]) hx hb dX7_next_69 rfl hl (by decide) rfl (fun ls hl => ?_)
              refine lv_iinc (v := nI (k + 1)) (lv' := [(2, .int (nI (k + 1))), (1, .int (nI k)), (3, .int (m_nextB σ k)), (0, .ref (ad 0))]) hx hb dX7_next_70 hl (k := 2) rfl (nI_1 k) (by decide) rfl (fun ls hl => ?_)
              refine lv_goto (tgt := 4) hx hb dX7_next_73 (by decide) ?_
              refine IH ls (nextF_in hk hIa) ?_
              show lv_has ls 4 [(2, .int (nI (k + 1))), (1, .int ((m_nextF σ) k a)), (0, .ref (ad 0))]
              rw [show (m_nextF σ) k a = nI k from by simp only [m_nextF, if_neg c_7, if_neg c_43, if_neg c_48, if_neg c_61]]
              exact lv_sub hl [0, 1, 3] rfl
      · -- to the cut
        refine lv_aload_n hx hb dX7_next_10 rfl (lv_at hl 2 rfl) ?_
        refine va_get (D := G) (ci := 7) (v := .ref (ad 6)) (C := RX7) (T := TX7) (N := 33) hx hb hg hinX7 hown hK hP 0 ml_obj rfl 6 (by decide) (hg _ qF_X7_25) (fun _ h9 => h9) rfl dX7_next_11 ?_
        refine lv_iload_n hx hb dX7_next_14 rfl (lv_at hl 0 rfl) ?_
        refine va_zald hx hb hK hP 6 1 ml_isFace rfl (nI_in16 hk) dX7_next_15 ?_
        refine lv_if_eq (tgt := 40) hx hb dX7_next_16 (by decide) (fun c_16 => ?_) (fun c_16 => ?_)
        · -- ifeq taken
          refine lv_iconst (v := 0) hx hb dX7_next_40 (by decide) ?_
          exact lp_topi (show m_nextB σ k = 0 from by simp only [m_nextB, if_pos c_16]) (hcut41 ls (lv_sub hl [0, 1, 2] rfl))
        · -- ifeq not taken
          refine lv_aload_n hx hb dX7_next_19 rfl (lv_at hl 2 rfl) ?_
          refine va_get (D := G) (ci := 7) (v := .ref (ad 29)) (C := RX7) (T := TX7) (N := 33) hx hb hg hinX7 hown hK hP 0 ml_obj rfl 32 (by decide) (hg _ qF_X7_95) (fun _ h9 => h9) rfl dX7_next_20 ?_
          refine lv_iload_n hx hb dX7_next_23 rfl (lv_at hl 0 rfl) ?_
          refine va_zald hx hb hK hP 29 1 ml_gone rfl (nI_in16 hk) dX7_next_24 ?_
          refine lv_if_ne (tgt := 40) hx hb dX7_next_25 (by decide) (fun c_25 => ?_) (fun c_25 => ?_)
          · -- ifne taken
            refine lv_iconst (v := 0) hx hb dX7_next_40 (by decide) ?_
            exact lp_topi (show m_nextB σ k = 0 from by simp only [m_nextB, if_neg c_16, if_neg c_25]) (hcut41 ls (lv_sub hl [0, 1, 2] rfl))
          · -- ifne not taken
            refine lv_aload_n hx hb dX7_next_28 rfl (lv_at hl 2 rfl) ?_
            refine lv_iload_n hx hb dX7_next_29 rfl (lv_at hl 0 rfl) ?_
            refine vp_callSi (W.runV (As := [.int (nI k)]) (rest := []) ⟨hx, hb, hml, hown, hg⟩ (m_ReplenishRulesModel_missing l G cA ad σ hI (nI k) (nI_in16 hk)) (cwV 1 hg (gV qM_X7_165 qI_X7_missing qS_X7_missing qN_X7 kX7_missing) rfl rfl rfl (by decide +kernel) ⟨Nat.le_of_ble_eq_true rfl, Nat.le_of_ble_eq_true rfl⟩) (mm_pv hK hP (va_recv hK hP (ci := 7) (q0 := 0) rfl ml_obj)) rfl rfl hl.1 rfl (lv_room (Nat.le_of_ble_eq_true rfl)) dX7_next_30 ⟨Nat.le_of_ble_eq_true rfl, Nat.le_of_ble_eq_true rfl⟩) (nm_e ?_)
            refine lv_if_le (tgt := 40) hx hb dX7_next_33 (by decide) (fun c_33 => ?_) (fun c_33 => ?_)
            · -- ifle taken
              refine lv_iconst (v := 0) hx hb dX7_next_40 (by decide) ?_
              exact lp_topi (show m_nextB σ k = 0 from by simp only [m_nextB, if_neg c_16, if_pos c_25, if_pos c_33]) (hcut41 ls (lv_sub hl [0, 1, 2] rfl))
            · -- ifle not taken
              refine lv_iconst (v := 1) hx hb dX7_next_36 (by decide) ?_
              refine lv_goto (tgt := 41) hx hb dX7_next_37 (by decide) ?_
              exact lp_topi (show m_nextB σ k = 1 from by simp only [m_nextB, if_neg c_16, if_pos c_25, if_neg c_33]) (hcut41 ls (lv_sub hl [0, 1, 2] rfl))
  · intro hIa ls hl
    have hl : lv_has ls 4 [(2, .int (nI 16)), (1, .int (foldN (m_nextF σ) 16 0 (-1))), (0, .ref (ad 0))] := hl
    refine lv_iload_n hx hb dX7_next_4 rfl (lv_at hl 0 rfl) ?_
    refine lv_bipush (v := 16) hx hb dX7_next_5 (by decide) ?_
    refine lv_icmp_ge (tgt := 76) hx hb dX7_next_7 (by decide) (fun c_7 => ?_) (fun c_7 => ?_)
    · -- if_icmpge taken
      refine lv_iload_n hx hb dX7_next_76 rfl (lv_at hl 1 rfl) ?_
      exact W.iret (v := foldN (m_nextF σ) 16 0 (-1)) hx hb hr (fun t ht hW => ⟨_, rfl, rfl, ht⟩) (fun _ h => nomatch h) dX7_next_77
    · -- if_icmpge not taken
      exact absurd (Int32.le_refl _) c_7

set_option maxHeartbeats 4000000 in
set_option maxRecDepth 100000 in
theorem m_ReplenishRulesModel_reserve (l : Launch) (G : va_G) (cA : Nat → ClassId) (ad : Nat → Nat) (σ : St) (a0 : Int32) (hp0 : vp_in a0 16) : Met l yX7_reserve (wX7_reserve :: wG) ({ frames := 2, cells := 0, slots := 0, locals := 42 }) (va_Pc [.ref (ad 0), .int a0] (mmW G cA ad σ)) (vp_Si (fun r => r = m_reserve σ a0)) 0 0 (fun _ => False) := by
  refine Met.ofW (cc := cX7_reserve) (maxL := 6) (ret := (some .int)) (by decide) rfl ?_
  intro p e s m args below meth c s₁ B hml hv
  obtain ⟨rfl, hP, hK⟩ := hv
  have hx := B.exec
  have hb := B.bytes
  have hr := B.returns
  have hts := atoms_spec (ws := wX7_reserve :: wG) B.pre
  have hg : ∀ w ∈ wG, w.before _ s = true := fun w h => hts w (List.mem_cons_of_mem _ h)
  have hown : s.vm.findClass RX7 = some m.cls := findClass_of_methodNamed B.named
  have hlocks := B.notSynchronized
  have hl := lv_entry ([.ref (ad 0), .int a0]) (n := 6) (Nat.le_of_ble_eq_true rfl)
  rw [lg_entry_eq]
  generalize (lg_sl ([.ref (ad 0), .int a0]) ++ List.replicate (6 - (lg_sl ([.ref (ad 0), .int a0])).length) Slot.unset).toArray = ls at hl ⊢
  have hl : lv_has ls 6 [(0, .ref (ad 0)), (1, .int a0)] := hl
  refine lv_iconst (v := (-1)) hx hb dX7_reserve_0 (by decide) ?_
  refine lv_istore_n (lv' := [(2, .int (-1)), (0, .ref (ad 0)), (1, .int a0)]) hx hb dX7_reserve_1 rfl hl (by decide) rfl (fun ls hl => ?_)
  refine lv_iconst (v := (-1)) hx hb dX7_reserve_2 (by decide) ?_
  refine lv_istore_n (lv' := [(3, .int (-1)), (2, .int (-1)), (0, .ref (ad 0)), (1, .int a0)]) hx hb dX7_reserve_3 rfl hl (by decide) rfl (fun ls hl => ?_)
  refine lv_bipush (v := 15) hx hb dX7_reserve_4 (by decide) ?_
  refine lv_topi (fun y_6 ey_6 => ?_)
  obtain rfl : y_6 = m_r 0 := ey_6.trans (m_r_0.symm)
  refine lv_istore (lv' := [(4, .int (m_r 0)), (3, .int (-1)), (2, .int (-1)), (0, .ref (ad 0)), (1, .int a0)]) hx hb dX7_reserve_6 hl (by decide) rfl (fun ls hl => ?_)
  refine lp_ro (f := m_resF σ a0) (t := 16) (nL := 6) (fun k a => [(4, .int (m_r k)), (2, .int a.1), (3, .int a.2), (0, .ref (ad 0)), (1, .int a0)]) 16 0 (-1, -1) (by decide) ?_ ?_ ls (lv_sub hl [0, 2, 1, 3, 4] rfl)
  · intro k a hk IH ls hl
    have hl : lv_has ls 6 [(4, .int (m_r k)), (2, .int a.1), (3, .int a.2), (0, .ref (ad 0)), (1, .int a0)] := hl
    refine lv_iload hx hb dX7_reserve_8 (lv_at hl 0 rfl) ?_
    refine lv_if_lt (tgt := 101) hx hb dX7_reserve_10 (by decide) (fun c_10 => ?_) (fun c_10 => ?_)
    · -- iflt taken
      exact absurd c_10 (vp_pos (m_r_in hk))
    · -- iflt not taken
      refine lp_cut (J := 53) (nL := 6) (LV := [(4, .int (m_r k)), (2, .int a.1), (3, .int a.2), (0, .ref (ad 0)), (1, .int a0)]) (st := [.int (m_resB σ a0 k)]) (fun ls hl => ?_) (fun hcut53 => ?_)
      · have hl : lv_has ls 6 [(4, .int (m_r k)), (2, .int a.1), (3, .int a.2), (0, .ref (ad 0)), (1, .int a0)] := hl
        refine lv_istore (lv' := [(5, .int (m_resB σ a0 k)), (4, .int (m_r k)), (2, .int a.1), (3, .int a.2), (0, .ref (ad 0)), (1, .int a0)]) hx hb dX7_reserve_53 hl (by decide) rfl (fun ls hl => ?_)
        refine lv_iload hx hb dX7_reserve_55 (lv_at hl 0 rfl) ?_
        refine lv_if_eq (tgt := 81) hx hb dX7_reserve_57 (by decide) (fun c_57 => ?_) (fun c_57 => ?_)
        · -- ifeq taken
          refine lv_iload_n hx hb dX7_reserve_81 rfl (lv_at hl 2 rfl) ?_
          refine lv_istore_n (lv' := [(2, .int a.1), (5, .int (m_resB σ a0 k)), (4, .int (m_r k)), (3, .int a.2), (0, .ref (ad 0)), (1, .int a0)]) hx hb dX7_reserve_82 rfl hl (by decide) rfl (fun ls hl => ?_)
          refine lv_iload hx hb dX7_reserve_83 (lv_at hl 1 rfl) ?_
          refine lv_if_eq (tgt := 93) hx hb dX7_reserve_85 (by decide) (fun c_85 => ?_) (fun c_85 => ?_)
          · -- ifeq taken
            refine lv_iload_n hx hb dX7_reserve_93 rfl (lv_at hl 3 rfl) ?_
            refine lv_istore_n (lv' := [(3, .int a.2), (2, .int a.1), (5, .int (m_resB σ a0 k)), (4, .int (m_r k)), (0, .ref (ad 0)), (1, .int a0)]) hx hb dX7_reserve_94 rfl hl (by decide) rfl (fun ls hl => ?_)
            refine lv_iinc (v := m_r (k + 1)) (lv' := [(4, .int (m_r (k + 1))), (3, .int a.2), (2, .int a.1), (5, .int (m_resB σ a0 k)), (0, .ref (ad 0)), (1, .int a0)]) hx hb dX7_reserve_95 hl (k := 3) rfl m_r_1 (by decide) rfl (fun ls hl => ?_)
            refine lv_goto (tgt := 8) hx hb dX7_reserve_98 (by decide) ?_
            refine IH ls ?_
            show lv_has ls 6 [(4, .int (m_r (k + 1))), (2, .int (m_resN σ a0 k a.1)), (3, .int (m_resE σ a0 k a.2)), (0, .ref (ad 0)), (1, .int a0)]
            rw [show m_resN σ a0 k a.1 = a.1 from by simp only [m_resN, if_pos c_57], show m_resE σ a0 k a.2 = a.2 from by simp only [m_resE, if_pos c_85]]
            exact lv_sub hl [0, 2, 1, 4, 5] rfl
          · -- ifeq not taken
            refine lv_iload hx hb dX7_reserve_88 (lv_at hl 2 rfl) ?_
            refine lv_goto (tgt := 94) hx hb dX7_reserve_90 (by decide) ?_
            refine lv_istore_n (lv' := [(3, .int (m_r k)), (2, .int a.1), (5, .int (m_resB σ a0 k)), (4, .int (m_r k)), (0, .ref (ad 0)), (1, .int a0)]) hx hb dX7_reserve_94 rfl hl (by decide) rfl (fun ls hl => ?_)
            refine lv_iinc (v := m_r (k + 1)) (lv' := [(4, .int (m_r (k + 1))), (3, .int (m_r k)), (2, .int a.1), (5, .int (m_resB σ a0 k)), (0, .ref (ad 0)), (1, .int a0)]) hx hb dX7_reserve_95 hl (k := 3) rfl m_r_1 (by decide) rfl (fun ls hl => ?_)
            refine lv_goto (tgt := 8) hx hb dX7_reserve_98 (by decide) ?_
            refine IH ls ?_
            show lv_has ls 6 [(4, .int (m_r (k + 1))), (2, .int (m_resN σ a0 k a.1)), (3, .int (m_resE σ a0 k a.2)), (0, .ref (ad 0)), (1, .int a0)]
            rw [show m_resN σ a0 k a.1 = a.1 from by simp only [m_resN, if_pos c_57], show m_resE σ a0 k a.2 = m_r k from by simp only [m_resE, if_neg c_85]]
            exact lv_sub hl [0, 2, 1, 4, 5] rfl
        · -- ifeq not taken
          refine lv_aload_n hx hb dX7_reserve_60 rfl (lv_at hl 4 rfl) ?_
          refine va_get (D := G) (ci := 7) (v := .ref (ad 2)) (C := RX7) (T := TX7) (N := 33) hx hb hg hinX7 hown hK hP 0 ml_obj rfl 2 (by decide) (hg _ qF_X7_13) (fun _ h9 => h9) rfl dX7_reserve_61 ?_
          refine lv_iload hx hb dX7_reserve_64 (lv_at hl 1 rfl) ?_
          refine va_iald hx hb hK hP 2 0 ml_zone rfl (m_r_in hk) dX7_reserve_66 ?_
          refine lv_aload_n hx hb dX7_reserve_67 rfl (lv_at hl 4 rfl) ?_
          refine va_get (D := G) (ci := 7) (v := .ref (ad 2)) (C := RX7) (T := TX7) (N := 33) hx hb hg hinX7 hown hK hP 0 ml_obj rfl 2 (by decide) (hg _ qF_X7_13) (fun _ h9 => h9) rfl dX7_reserve_68 ?_
          refine lv_iload_n hx hb dX7_reserve_71 rfl (lv_at hl 5 rfl) ?_
          refine va_iald hx hb hK hP 2 0 ml_zone rfl hp0 dX7_reserve_72 ?_
          refine lv_icmp_ne (tgt := 81) hx hb dX7_reserve_73 (by decide) (fun c_73 => ?_) (fun c_73 => ?_)
          · -- if_icmpne taken
            refine lv_iload_n hx hb dX7_reserve_81 rfl (lv_at hl 2 rfl) ?_
            refine lv_istore_n (lv' := [(2, .int a.1), (5, .int (m_resB σ a0 k)), (4, .int (m_r k)), (3, .int a.2), (0, .ref (ad 0)), (1, .int a0)]) hx hb dX7_reserve_82 rfl hl (by decide) rfl (fun ls hl => ?_)
            refine lv_iload hx hb dX7_reserve_83 (lv_at hl 1 rfl) ?_
            refine lv_if_eq (tgt := 93) hx hb dX7_reserve_85 (by decide) (fun c_85 => ?_) (fun c_85 => ?_)
            · -- ifeq taken
              refine lv_iload_n hx hb dX7_reserve_93 rfl (lv_at hl 3 rfl) ?_
              refine lv_istore_n (lv' := [(3, .int a.2), (2, .int a.1), (5, .int (m_resB σ a0 k)), (4, .int (m_r k)), (0, .ref (ad 0)), (1, .int a0)]) hx hb dX7_reserve_94 rfl hl (by decide) rfl (fun ls hl => ?_)
              refine lv_iinc (v := m_r (k + 1)) (lv' := [(4, .int (m_r (k + 1))), (3, .int a.2), (2, .int a.1), (5, .int (m_resB σ a0 k)), (0, .ref (ad 0)), (1, .int a0)]) hx hb dX7_reserve_95 hl (k := 3) rfl m_r_1 (by decide) rfl (fun ls hl => ?_)
              refine lv_goto (tgt := 8) hx hb dX7_reserve_98 (by decide) ?_
              refine IH ls ?_
              show lv_has ls 6 [(4, .int (m_r (k + 1))), (2, .int (m_resN σ a0 k a.1)), (3, .int (m_resE σ a0 k a.2)), (0, .ref (ad 0)), (1, .int a0)]
              rw [show m_resN σ a0 k a.1 = a.1 from by simp only [m_resN, if_neg c_57, if_neg c_73], show m_resE σ a0 k a.2 = a.2 from by simp only [m_resE, if_pos c_85]]
              exact lv_sub hl [0, 2, 1, 4, 5] rfl
            · -- ifeq not taken
              refine lv_iload hx hb dX7_reserve_88 (lv_at hl 2 rfl) ?_
              refine lv_goto (tgt := 94) hx hb dX7_reserve_90 (by decide) ?_
              refine lv_istore_n (lv' := [(3, .int (m_r k)), (2, .int a.1), (5, .int (m_resB σ a0 k)), (4, .int (m_r k)), (0, .ref (ad 0)), (1, .int a0)]) hx hb dX7_reserve_94 rfl hl (by decide) rfl (fun ls hl => ?_)
              refine lv_iinc (v := m_r (k + 1)) (lv' := [(4, .int (m_r (k + 1))), (3, .int (m_r k)), (2, .int a.1), (5, .int (m_resB σ a0 k)), (0, .ref (ad 0)), (1, .int a0)]) hx hb dX7_reserve_95 hl (k := 3) rfl m_r_1 (by decide) rfl (fun ls hl => ?_)
              refine lv_goto (tgt := 8) hx hb dX7_reserve_98 (by decide) ?_
              refine IH ls ?_
              show lv_has ls 6 [(4, .int (m_r (k + 1))), (2, .int (m_resN σ a0 k a.1)), (3, .int (m_resE σ a0 k a.2)), (0, .ref (ad 0)), (1, .int a0)]
              rw [show m_resN σ a0 k a.1 = a.1 from by simp only [m_resN, if_neg c_57, if_neg c_73], show m_resE σ a0 k a.2 = m_r k from by simp only [m_resE, if_neg c_85]]
              exact lv_sub hl [0, 2, 1, 4, 5] rfl
          · -- if_icmpne not taken
            refine lv_iload hx hb dX7_reserve_76 (lv_at hl 1 rfl) ?_
            refine lv_goto (tgt := 82) hx hb dX7_reserve_78 (by decide) ?_
            refine lv_istore_n (lv' := [(2, .int (m_r k)), (5, .int (m_resB σ a0 k)), (4, .int (m_r k)), (3, .int a.2), (0, .ref (ad 0)), (1, .int a0)]) hx hb dX7_reserve_82 rfl hl (by decide) rfl (fun ls hl => ?_)
            refine lv_iload hx hb dX7_reserve_83 (lv_at hl 1 rfl) ?_
            refine lv_if_eq (tgt := 93) hx hb dX7_reserve_85 (by decide) (fun c_85 => ?_) (fun c_85 => ?_)
            · -- ifeq taken
              refine lv_iload_n hx hb dX7_reserve_93 rfl (lv_at hl 3 rfl) ?_
              refine lv_istore_n (lv' := [(3, .int a.2), (2, .int (m_r k)), (5, .int (m_resB σ a0 k)), (4, .int (m_r k)), (0, .ref (ad 0)), (1, .int a0)]) hx hb dX7_reserve_94 rfl hl (by decide) rfl (fun ls hl => ?_)
              refine lv_iinc (v := m_r (k + 1)) (lv' := [(4, .int (m_r (k + 1))), (3, .int a.2), (2, .int (m_r k)), (5, .int (m_resB σ a0 k)), (0, .ref (ad 0)), (1, .int a0)]) hx hb dX7_reserve_95 hl (k := 3) rfl m_r_1 (by decide) rfl (fun ls hl => ?_)
              refine lv_goto (tgt := 8) hx hb dX7_reserve_98 (by decide) ?_
              refine IH ls ?_
              show lv_has ls 6 [(4, .int (m_r (k + 1))), (2, .int (m_resN σ a0 k a.1)), (3, .int (m_resE σ a0 k a.2)), (0, .ref (ad 0)), (1, .int a0)]
              rw [show m_resN σ a0 k a.1 = m_r k from by simp only [m_resN, if_neg c_57, if_pos c_73], show m_resE σ a0 k a.2 = a.2 from by simp only [m_resE, if_pos c_85]]
              exact lv_sub hl [0, 2, 1, 4, 5] rfl
            · -- ifeq not taken
              refine lv_iload hx hb dX7_reserve_88 (lv_at hl 2 rfl) ?_
              refine lv_goto (tgt := 94) hx hb dX7_reserve_90 (by decide) ?_
              refine lv_istore_n (lv' := [(3, .int (m_r k)), (2, .int (m_r k)), (5, .int (m_resB σ a0 k)), (4, .int (m_r k)), (0, .ref (ad 0)), (1, .int a0)]) hx hb dX7_reserve_94 rfl hl (by decide) rfl (fun ls hl => ?_)
              refine lv_iinc (v := m_r (k + 1)) (lv' := [(4, .int (m_r (k + 1))), (3, .int (m_r k)), (2, .int (m_r k)), (5, .int (m_resB σ a0 k)), (0, .ref (ad 0)), (1, .int a0)]) hx hb dX7_reserve_95 hl (k := 3) rfl m_r_1 (by decide) rfl (fun ls hl => ?_)
              refine lv_goto (tgt := 8) hx hb dX7_reserve_98 (by decide) ?_
              refine IH ls ?_
              show lv_has ls 6 [(4, .int (m_r (k + 1))), (2, .int (m_resN σ a0 k a.1)), (3, .int (m_resE σ a0 k a.2)), (0, .ref (ad 0)), (1, .int a0)]
              rw [show m_resN σ a0 k a.1 = m_r k from by simp only [m_resN, if_neg c_57, if_pos c_73], show m_resE σ a0 k a.2 = m_r k from by simp only [m_resE, if_neg c_85]]
              exact lv_sub hl [0, 2, 1, 4, 5] rfl
      · -- to the cut
        refine lv_aload_n hx hb dX7_reserve_13 rfl (lv_at hl 3 rfl) ?_
        refine va_get (D := G) (ci := 7) (v := .ref (ad 6)) (C := RX7) (T := TX7) (N := 33) hx hb hg hinX7 hown hK hP 0 ml_obj rfl 6 (by decide) (hg _ qF_X7_25) (fun _ h9 => h9) rfl dX7_reserve_14 ?_
        refine lv_iload hx hb dX7_reserve_17 (lv_at hl 0 rfl) ?_
        refine va_zald hx hb hK hP 6 1 ml_isFace rfl (m_r_in hk) dX7_reserve_19 ?_
        refine lv_if_ne (tgt := 52) hx hb dX7_reserve_20 (by decide) (fun c_20 => ?_) (fun c_20 => ?_)
        · -- ifne taken
          refine lv_iconst (v := 0) hx hb dX7_reserve_52 (by decide) ?_
          exact lp_topi (show m_resB σ a0 k = 0 from by simp only [m_resB, if_neg c_20]) (hcut53 ls (lv_sub hl [0, 1, 2, 3, 4] rfl))
        · -- ifne not taken
          refine lv_aload_n hx hb dX7_reserve_23 rfl (lv_at hl 3 rfl) ?_
          refine va_get (D := G) (ci := 7) (v := .ref (ad 4)) (C := RX7) (T := TX7) (N := 33) hx hb hg hinX7 hown hK hP 0 ml_obj rfl 4 (by decide) (hg _ qF_X7_19) (fun _ h9 => h9) rfl dX7_reserve_24 ?_
          refine lv_iload hx hb dX7_reserve_27 (lv_at hl 0 rfl) ?_
          refine va_iald hx hb hK hP 4 0 ml_good rfl (m_r_in hk) dX7_reserve_29 ?_
          refine lv_aload_n hx hb dX7_reserve_30 rfl (lv_at hl 3 rfl) ?_
          refine va_get (D := G) (ci := 7) (v := .ref (ad 7)) (C := RX7) (T := TX7) (N := 33) hx hb hg hinX7 hown hK hP 0 ml_obj rfl 7 (by decide) (hg _ qF_X7_29) (fun _ h9 => h9) rfl dX7_reserve_31 ?_
          refine lv_iload_n hx hb dX7_reserve_34 rfl (lv_at hl 4 rfl) ?_
          refine va_iald hx hb hK hP 7 0 ml_faceGood rfl hp0 dX7_reserve_35 ?_
          refine lv_icmp_ne (tgt := 52) hx hb dX7_reserve_36 (by decide) (fun c_36 => ?_) (fun c_36 => ?_)
          · -- if_icmpne taken
            refine lv_iconst (v := 0) hx hb dX7_reserve_52 (by decide) ?_
            exact lp_topi (show m_resB σ a0 k = 0 from by simp only [m_resB, if_pos c_20, if_neg c_36]) (hcut53 ls (lv_sub hl [0, 1, 2, 3, 4] rfl))
          · -- if_icmpne not taken
            refine lv_aload_n hx hb dX7_reserve_39 rfl (lv_at hl 3 rfl) ?_
            refine lv_iload hx hb dX7_reserve_40 (lv_at hl 0 rfl) ?_
            refine vp_callSi (W.runV (As := [.int (m_r k)]) (rest := []) ⟨hx, hb, hml, hown, hg⟩ (m_ReplenishRulesModel_left l G cA ad σ (m_r k) (m_r_in hk)) (cwV 1 hg (gV qM_X7_171 qI_X7_left qS_X7_left qN_X7 kX7_left) rfl rfl rfl (by decide +kernel) ⟨Nat.le_of_ble_eq_true rfl, Nat.le_of_ble_eq_true rfl⟩) (mm_pv hK hP (va_recv hK hP (ci := 7) (q0 := 0) rfl ml_obj)) rfl rfl hl.1 rfl (lv_room (Nat.le_of_ble_eq_true rfl)) dX7_reserve_42 ⟨Nat.le_of_ble_eq_true rfl, Nat.le_of_ble_eq_true rfl⟩) (nm_e ?_)
            refine lv_if_le (tgt := 52) hx hb dX7_reserve_45 (by decide) (fun c_45 => ?_) (fun c_45 => ?_)
            · -- ifle taken
              refine lv_iconst (v := 0) hx hb dX7_reserve_52 (by decide) ?_
              exact lp_topi (show m_resB σ a0 k = 0 from by simp only [m_resB, if_pos c_20, if_pos c_36, if_pos c_45]) (hcut53 ls (lv_sub hl [0, 1, 2, 3, 4] rfl))
            · -- ifle not taken
              refine lv_iconst (v := 1) hx hb dX7_reserve_48 (by decide) ?_
              refine lv_goto (tgt := 53) hx hb dX7_reserve_49 (by decide) ?_
              exact lp_topi (show m_resB σ a0 k = 1 from by simp only [m_resB, if_pos c_20, if_pos c_36, if_neg c_45]) (hcut53 ls (lv_sub hl [0, 1, 2, 3, 4] rfl))
  · intro ls hl
    have hl : lv_has ls 6 [(4, .int (m_r 16)), (2, .int ((m_resP σ a0).1)), (3, .int ((m_resP σ a0).2)), (0, .ref (ad 0)), (1, .int a0)] := hl
    refine lv_iload hx hb dX7_reserve_8 (lv_at hl 0 rfl) ?_
    refine lv_if_lt (tgt := 101) hx hb dX7_reserve_10 (by decide) (fun c_10 => ?_) (fun c_10 => ?_)
    · -- iflt taken
      refine lv_iload_n hx hb dX7_reserve_101 rfl (lv_at hl 1 rfl) ?_
      refine lv_iconst (v := (-1)) hx hb dX7_reserve_102 (by decide) ?_
      refine lv_icmp_eq (tgt := 110) hx hb dX7_reserve_103 (by decide) (fun c_103 => ?_) (fun c_103 => ?_)
      · -- if_icmpeq taken
        refine lv_iload_n hx hb dX7_reserve_110 rfl (lv_at hl 2 rfl) ?_
        exact W.iret (v := (m_resP σ a0).2) hx hb hr (fun t ht hW => ⟨_, rfl, by simp only [m_reserve, if_pos c_10, if_pos c_103], ht⟩) (fun _ h => nomatch h) dX7_reserve_111
      · -- if_icmpeq not taken
        refine lv_iload_n hx hb dX7_reserve_106 rfl (lv_at hl 1 rfl) ?_
        refine lv_goto (tgt := 111) hx hb dX7_reserve_107 (by decide) ?_
        exact W.iret (v := (m_resP σ a0).1) hx hb hr (fun t ht hW => ⟨_, rfl, by simp only [m_reserve, if_pos c_10, if_neg c_103], ht⟩) (fun _ h => nomatch h) dX7_reserve_111
    · -- iflt not taken
      exact absurd (by decide : m_r 16 < 0) c_10

set_option maxHeartbeats 4000000 in
set_option maxRecDepth 100000 in
theorem m_ReplenishRulesModel_plan (l : Launch) (G : va_G) (cA : Nat → ClassId) (ad : Nat → Nat) (σ : St) (hJ : mm_inj ad) (hI : MInv σ) (a0 : Int32) (b0 : Int32) (c0 : Int32) (hp0 : vp_in a0 16) (hp1 : vp_in b0 16) (hp2 : σ 23 0 < 30) : Met l yX7_plan (wX7_plan :: wG) ({ frames := 2, cells := 0, slots := 0, locals := 47 }) (va_Pc [.ref (ad 0), .int a0, .int b0, .int c0] (mmW G cA ad σ)) (va_Qv (fun σ' => σ' = m_plan σ a0 b0 c0) (mmW G cA ad) (mmA ad)) 0 0 (mmA ad) := by
  refine Met.ofW (cc := cX7_plan) (maxL := 7) (ret := none) (by decide) rfl ?_
  intro p e s m args below meth c s₁ B hml hv
  obtain ⟨rfl, hP, hK⟩ := hv
  have hx := B.exec
  have hb := B.bytes
  have hr := B.returns
  have hts := atoms_spec (ws := wX7_plan :: wG) B.pre
  have hg : ∀ w ∈ wG, w.before _ s = true := fun w h => hts w (List.mem_cons_of_mem _ h)
  have hown : s.vm.findClass RX7 = some m.cls := findClass_of_methodNamed B.named
  have hlocks := B.notSynchronized
  have hS : va_S (mmA ad) s.heap s.heap [] := va_S.rf
  have hl := lv_entry ([.ref (ad 0), .int a0, .int b0, .int c0]) (n := 7) (Nat.le_of_ble_eq_true rfl)
  rw [lg_entry_eq]
  generalize (lg_sl ([.ref (ad 0), .int a0, .int b0, .int c0]) ++ List.replicate (7 - (lg_sl ([.ref (ad 0), .int a0, .int b0, .int c0])).length) Slot.unset).toArray = ls at hl ⊢
  have hl : lv_has ls 7 [(0, .ref (ad 0)), (1, .int a0), (2, .int b0), (3, .int c0)] := hl
  refine lv_aload_n hx hb dX7_plan_0 rfl (lv_at hl 0 rfl) ?_
  refine va_get (D := G) (ci := 7) (v := .ref (ad 28)) (C := RX7) (T := TX7) (N := 33) hx hb hg hinX7 hown hK hP 0 ml_obj rfl 31 (by decide) (hg _ qF_X7_92) (fun _ h9 => h9) rfl dX7_plan_1 ?_
  refine lv_iload_n hx hb dX7_plan_4 rfl (lv_at hl 1 rfl) ?_
  refine lv_dup2_11 hx hb dX7_plan_5 rfl rfl ?_
  refine va_iald hx hb hK hP 28 0 ml_planned rfl hp0 dX7_plan_6 ?_
  refine lv_iload_n hx hb dX7_plan_7 rfl (lv_at hl 3 rfl) ?_
  refine lv_iadd hx hb dX7_plan_8 ?_
  refine pp_iast (x := ((σ 31 (nx a0)) + c0)) hx hb hK hP (mm_D hJ) hS 28 0 ml_planned rfl hp0 (ms_planned) dX7_plan_9 (fun H locs hP hS => ?_)
  obtain ⟨σ1, eσ1⟩ : ∃ z, z = up σ 31 (nx a0) ((σ 31 (nx a0)) + c0) := ⟨_, rfl⟩
  rw [← eσ1] at hP
  have hIσ1 : MInv σ1 := by rw [eσ1]; exact minv_up (by decide) hI
  have hmσ1 : σ1 23 0 < 30 := by rw [eσ1, up_row (by decide)]; exact hp2
  refine lv_aload_n hx hb dX7_plan_10 rfl (lv_at hl 0 rfl) ?_
  refine va_get (D := G) (ci := 7) (v := .ref (ad 21)) (C := RX7) (T := TX7) (N := 33) hx hb hg hinX7 hown hK hP 0 ml_obj rfl 24 (by decide) (hg _ qF_X7_71) (fun _ h9 => h9) rfl dX7_plan_11 ?_
  refine lv_aload_n hx hb dX7_plan_14 rfl (lv_at hl 0 rfl) ?_
  refine va_get (D := G) (ci := 7) (v := .int (σ1 23 0)) (C := RX7) (T := TX7) (N := 33) hx hb hg hinX7 hown hK hP 0 ml_obj rfl 23 (by decide) (hg _ qF_X7_174) (fun _ h9 => h9) rfl dX7_plan_15 ?_
  refine lv_iload_n hx hb dX7_plan_18 rfl (lv_at hl 1 rfl) ?_
  refine pp_iast (x := a0) hx hb hK hP (mm_D hJ) hS 21 0 ml_from rfl (lt30_in (minv_mc hIσ1).1 hmσ1) (ms_from) dX7_plan_19 (fun H locs hP hS => ?_)
  obtain ⟨σ2, eσ2⟩ : ∃ z, z = up σ1 24 (nx (σ1 23 0)) a0 := ⟨_, rfl⟩
  rw [← eσ2] at hP
  have hIσ2 : MInv σ2 := by rw [eσ2]; exact minv_24 hIσ1 hp0
  have hmσ2 : σ2 23 0 < 30 := by rw [eσ2, up_row (by decide)]; exact hmσ1
  refine lv_aload_n hx hb dX7_plan_20 rfl (lv_at hl 0 rfl) ?_
  refine va_get (D := G) (ci := 7) (v := .ref (ad 22)) (C := RX7) (T := TX7) (N := 33) hx hb hg hinX7 hown hK hP 0 ml_obj rfl 25 (by decide) (hg _ qF_X7_74) (fun _ h9 => h9) rfl dX7_plan_21 ?_
  refine lv_aload_n hx hb dX7_plan_24 rfl (lv_at hl 0 rfl) ?_
  refine va_get (D := G) (ci := 7) (v := .int (σ2 23 0)) (C := RX7) (T := TX7) (N := 33) hx hb hg hinX7 hown hK hP 0 ml_obj rfl 23 (by decide) (hg _ qF_X7_174) (fun _ h9 => h9) rfl dX7_plan_25 ?_
  refine lv_iload_n hx hb dX7_plan_28 rfl (lv_at hl 2 rfl) ?_
  refine pp_iast (x := b0) hx hb hK hP (mm_D hJ) hS 22 0 ml_to rfl (lt30_in (minv_mc hIσ2).1 hmσ2) (ms_to) dX7_plan_29 (fun H locs hP hS => ?_)
  obtain ⟨σ3, eσ3⟩ : ∃ z, z = up σ2 25 (nx (σ2 23 0)) b0 := ⟨_, rfl⟩
  rw [← eσ3] at hP
  have hIσ3 : MInv σ3 := by rw [eσ3]; exact minv_25 hIσ2 hp1
  have hmσ3 : σ3 23 0 < 30 := by rw [eσ3, up_row (by decide)]; exact hmσ2
  refine lv_aload_n hx hb dX7_plan_30 rfl (lv_at hl 0 rfl) ?_
  refine va_get (D := G) (ci := 7) (v := .ref (ad 23)) (C := RX7) (T := TX7) (N := 33) hx hb hg hinX7 hown hK hP 0 ml_obj rfl 26 (by decide) (hg _ qF_X7_77) (fun _ h9 => h9) rfl dX7_plan_31 ?_
  refine lv_aload_n hx hb dX7_plan_34 rfl (lv_at hl 0 rfl) ?_
  refine va_get (D := G) (ci := 7) (v := .int (σ3 23 0)) (C := RX7) (T := TX7) (N := 33) hx hb hg hinX7 hown hK hP 0 ml_obj rfl 23 (by decide) (hg _ qF_X7_174) (fun _ h9 => h9) rfl dX7_plan_35 ?_
  refine lv_iload_n hx hb dX7_plan_38 rfl (lv_at hl 3 rfl) ?_
  refine pp_iast (x := c0) hx hb hK hP (mm_D hJ) hS 23 0 ml_many rfl (lt30_in (minv_mc hIσ3).1 hmσ3) (ms_many) dX7_plan_39 (fun H locs hP hS => ?_)
  obtain ⟨σ4, eσ4⟩ : ∃ z, z = up σ3 26 (nx (σ3 23 0)) c0 := ⟨_, rfl⟩
  rw [← eσ4] at hP
  have hIσ4 : MInv σ4 := by rw [eσ4]; exact minv_up (by decide) hIσ3
  have hmσ4 : σ4 23 0 < 30 := by rw [eσ4, up_row (by decide)]; exact hmσ3
  refine lv_aload_n hx hb dX7_plan_40 rfl (lv_at hl 0 rfl) ?_
  refine va_get (D := G) (ci := 7) (v := .ref (ad 24)) (C := RX7) (T := TX7) (N := 33) hx hb hg hinX7 hown hK hP 0 ml_obj rfl 27 (by decide) (hg _ qF_X7_80) (fun _ h9 => h9) rfl dX7_plan_41 ?_
  refine lv_aload_n hx hb dX7_plan_44 rfl (lv_at hl 0 rfl) ?_
  refine va_get (D := G) (ci := 7) (v := .int (σ4 23 0)) (C := RX7) (T := TX7) (N := 33) hx hb hg hinX7 hown hK hP 0 ml_obj rfl 23 (by decide) (hg _ qF_X7_174) (fun _ h9 => h9) rfl dX7_plan_45 ?_
  refine lv_aload_n hx hb dX7_plan_48 rfl (lv_at hl 0 rfl) ?_
  refine lv_iload_n hx hb dX7_plan_49 rfl (lv_at hl 2 rfl) ?_
  refine vp_callSi (W.runV (As := [.int b0]) (rest := [.int (σ4 23 0), .ref (ad 24)]) ⟨hx, hb, hml, hown, hg⟩ (m_ReplenishRulesModel_needTime l G cA ad σ4 hIσ4 b0 hp1) (cwV 1 hg (gV qM_X7_168 qI_X7_needTime qS_X7_needTime qN_X7 kX7_needTime) rfl rfl rfl (by decide +kernel) ⟨Nat.le_of_ble_eq_true rfl, Nat.le_of_ble_eq_true rfl⟩) (mm_pv hK hP (va_recv hK hP (ci := 7) (q0 := 0) rfl ml_obj)) rfl rfl hl.1 rfl (lv_room (Nat.le_of_ble_eq_true rfl)) dX7_plan_50 ⟨Nat.le_of_ble_eq_true rfl, Nat.le_of_ble_eq_true rfl⟩) (nm_e ?_)
  refine pp_iast (x := (m_needTime σ4 b0)) hx hb hK hP (mm_D hJ) hS 24 0 ml_needs rfl (lt30_in (minv_mc hIσ4).1 hmσ4) (ms_needs) dX7_plan_53 (fun H locs hP hS => ?_)
  obtain ⟨σ5, eσ5⟩ : ∃ z, z = up σ4 27 (nx (σ4 23 0)) (m_needTime σ4 b0) := ⟨_, rfl⟩
  rw [← eσ5] at hP
  have hIσ5 : MInv σ5 := by rw [eσ5]; exact minv_up (by decide) hIσ4
  have hmσ5 : σ5 23 0 < 30 := by rw [eσ5, up_row (by decide)]; exact hmσ4
  refine lv_aload_n hx hb dX7_plan_54 rfl (lv_at hl 0 rfl) ?_
  refine va_get (D := G) (ci := 7) (v := .ref (ad 26)) (C := RX7) (T := TX7) (N := 33) hx hb hg hinX7 hown hK hP 0 ml_obj rfl 29 (by decide) (hg _ qF_X7_86) (fun _ h9 => h9) rfl dX7_plan_55 ?_
  refine lv_aload_n hx hb dX7_plan_58 rfl (lv_at hl 0 rfl) ?_
  refine va_get (D := G) (ci := 7) (v := .int (σ5 23 0)) (C := RX7) (T := TX7) (N := 33) hx hb hg hinX7 hown hK hP 0 ml_obj rfl 23 (by decide) (hg _ qF_X7_174) (fun _ h9 => h9) rfl dX7_plan_59 ?_
  refine lp_cut (J := 75) (nL := 7) (LV := [(0, .ref (ad 0)), (1, .int a0), (2, .int b0), (3, .int c0)]) (st := [.int (if m_left σ5 a0 = 0 then (1 : Int32) else 0), .int (σ5 23 0), .ref (ad 26)]) (fun ls hl => ?_) (fun hcut75 => ?_)
  · have hl : lv_has ls 7 [(0, .ref (ad 0)), (1, .int a0), (2, .int b0), (3, .int c0)] := hl
    refine pp_zast (x := (if m_left σ5 a0 = 0 then (1 : Int32) else 0)) hx hb hK hP (mm_D hJ) hS 26 1 ml_isLast rfl nar_ite (lt30_in (minv_mc hIσ5).1 hmσ5) (ms_isLast) dX7_plan_75 (fun H locs hP hS => ?_)
    obtain ⟨σ6, eσ6⟩ : ∃ z, z = up σ5 29 (nx (σ5 23 0)) (if m_left σ5 a0 = 0 then (1 : Int32) else 0) := ⟨_, rfl⟩
    rw [← eσ6] at hP
    have hIσ6 : MInv σ6 := by rw [eσ6]; exact minv_up (by decide) hIσ5
    have hmσ6 : σ6 23 0 < 30 := by rw [eσ6, up_row (by decide)]; exact hmσ5
    refine lv_aload_n hx hb dX7_plan_76 rfl (lv_at hl 0 rfl) ?_
    refine va_get (D := G) (ci := 7) (v := .ref (ad 27)) (C := RX7) (T := TX7) (N := 33) hx hb hg hinX7 hown hK hP 0 ml_obj rfl 30 (by decide) (hg _ qF_X7_89) (fun _ h9 => h9) rfl dX7_plan_77 ?_
    refine lv_aload_n hx hb dX7_plan_80 rfl (lv_at hl 0 rfl) ?_
    refine va_get (D := G) (ci := 7) (v := .int (σ6 23 0)) (C := RX7) (T := TX7) (N := 33) hx hb hg hinX7 hown hK hP 0 ml_obj rfl 23 (by decide) (hg _ qF_X7_174) (fun _ h9 => h9) rfl dX7_plan_81 ?_
    refine lv_iconst (v := 0) hx hb dX7_plan_84 (by decide) ?_
    refine pp_zast (x := 0) hx hb hK hP (mm_D hJ) hS 27 1 ml_isDone rfl (by decide) (lt30_in (minv_mc hIσ6).1 hmσ6) (ms_isDone) dX7_plan_85 (fun H locs hP hS => ?_)
    obtain ⟨σ7, eσ7⟩ : ∃ z, z = up σ6 30 (nx (σ6 23 0)) 0 := ⟨_, rfl⟩
    rw [← eσ7] at hP
    have hIσ7 : MInv σ7 := by rw [eσ7]; exact minv_up (by decide) hIσ6
    have hmσ7 : σ7 23 0 < 30 := by rw [eσ7, up_row (by decide)]; exact hmσ6
    refine lp_cut (J := 108) (nL := 7) (LV := [(0, .ref (ad 0)), (1, .int a0), (2, .int b0), (3, .int c0)]) (st := [.int (m_trip σ7)]) (fun ls hl => ?_) (fun hcut108 => ?_)
    · have hl : lv_has ls 7 [(0, .ref (ad 0)), (1, .int a0), (2, .int b0), (3, .int c0)] := hl
      refine lv_istore (lv' := [(4, .int (m_trip σ7)), (0, .ref (ad 0)), (1, .int a0), (2, .int b0), (3, .int c0)]) hx hb dX7_plan_108 hl (by decide) rfl (fun ls hl => ?_)
      refine lv_iconst (v := 0) hx hb dX7_plan_110 (by decide) ?_
      refine lv_istore (lv' := [(5, .int 0), (4, .int (m_trip σ7)), (0, .ref (ad 0)), (1, .int a0), (2, .int b0), (3, .int c0)]) hx hb dX7_plan_111 hl (by decide) rfl (fun ls hl => ?_)
      refine lv_iconst (v := 0) hx hb dX7_plan_113 (by decide) ?_
      refine lv_topi (fun y_114 ey_114 => ?_)
      obtain rfl : y_114 = nI 0 := ey_114.trans (nI_0.symm)
      refine lv_istore (lv' := [(6, .int (nI 0)), (5, .int 0), (4, .int (m_trip σ7)), (0, .ref (ad 0)), (1, .int a0), (2, .int b0), (3, .int c0)]) hx hb dX7_plan_114 hl (by decide) rfl (fun ls hl => ?_)
      refine lp_ro (f := m_sizeF σ7 (m_trip σ7)) (t := nx (σ7 23 0)) (nL := 7) (fun k a => [(6, .int (nI k)), (5, .int a), (0, .ref (ad 0)), (1, .int a0), (2, .int b0), (3, .int c0), (4, .int (m_trip σ7))]) (nx (σ7 23 0)) 0 0 (Nat.zero_add _) ?_ ?_ ls (lv_sub hl [0, 1, 3, 4, 5, 6, 2] rfl)
      · intro k a hk IH ls hl
        have hl : lv_has ls 7 [(6, .int (nI k)), (5, .int a), (0, .ref (ad 0)), (1, .int a0), (2, .int b0), (3, .int c0), (4, .int (m_trip σ7))] := hl
        refine lv_iload hx hb dX7_plan_116 (lv_at hl 0 rfl) ?_
        refine lv_aload_n hx hb dX7_plan_118 rfl (lv_at hl 2 rfl) ?_
        refine va_get (D := G) (ci := 7) (v := .int (σ7 23 0)) (C := RX7) (T := TX7) (N := 33) hx hb hg hinX7 hown hK hP 0 ml_obj rfl 23 (by decide) (hg _ qF_X7_174) (fun _ h9 => h9) rfl dX7_plan_119 ?_
        refine lv_icmp_ge (tgt := 153) hx hb dX7_plan_122 (by decide) (fun c_122 => ?_) (fun c_122 => ?_)
        · -- if_icmpge taken
          exact absurd c_122 (nx_nle (minv_mc hIσ7).1 hk)
        · -- if_icmpge not taken
          refine lv_iload hx hb dX7_plan_125 (lv_at hl 1 rfl) ?_
          refine lv_aload_n hx hb dX7_plan_127 rfl (lv_at hl 2 rfl) ?_
          refine va_get (D := G) (ci := 7) (v := .ref (ad 25)) (C := RX7) (T := TX7) (N := 33) hx hb hg hinX7 hown hK hP 0 ml_obj rfl 28 (by decide) (hg _ qF_X7_83) (fun _ h9 => h9) rfl dX7_plan_128 ?_
          refine lv_iload hx hb dX7_plan_131 (lv_at hl 0 rfl) ?_
          refine va_iald hx hb hK hP 25 0 ml_trips rfl (vp_in_nI (Nat.lt_of_lt_of_le hk (minv_mc hIσ7).2) (by decide)) dX7_plan_133 ?_
          refine lv_iload hx hb dX7_plan_134 (lv_at hl 6 rfl) ?_
          refine lv_icmp_ne (tgt := 143) hx hb dX7_plan_136 (by decide) (fun c_136 => ?_) (fun c_136 => ?_)
          · -- if_icmpne taken
            refine lv_iconst (v := 0) hx hb dX7_plan_143 (by decide) ?_
            refine lv_iadd hx hb dX7_plan_144 ?_
            refine lv_istore (lv' := [(5, .int (a + 0)), (6, .int (nI k)), (0, .ref (ad 0)), (1, .int a0), (2, .int b0), (3, .int c0), (4, .int (m_trip σ7))]) hx hb dX7_plan_145 hl (by decide) rfl (fun ls hl => ?_)
            refine lv_iinc (v := nI (k + 1)) (lv' := [(6, .int (nI (k + 1))), (5, .int (a + 0)), (0, .ref (ad 0)), (1, .int a0), (2, .int b0), (3, .int c0), (4, .int (m_trip σ7))]) hx hb dX7_plan_147 hl (k := 1) rfl (nI_1 k) (by decide) rfl (fun ls hl => ?_)
            refine lv_goto (tgt := 116) hx hb dX7_plan_150 (by decide) ?_
            refine IH ls ?_
            show lv_has ls 7 [(6, .int (nI (k + 1))), (5, .int ((m_sizeF σ7 (m_trip σ7)) k a)), (0, .ref (ad 0)), (1, .int a0), (2, .int b0), (3, .int c0), (4, .int (m_trip σ7))]
            rw [show (m_sizeF σ7 (m_trip σ7)) k a = a + 0 from by simp only [m_sizeF, if_neg c_122, if_neg c_136]]
            exact lv_sub hl [0, 1, 2, 3, 4, 5, 6] rfl
          · -- if_icmpne not taken
            refine lv_iconst (v := 1) hx hb dX7_plan_139 (by decide) ?_
            refine lv_goto (tgt := 144) hx hb dX7_plan_140 (by decide) ?_
            refine lv_iadd hx hb dX7_plan_144 ?_
            refine lv_istore (lv' := [(5, .int (a + 1)), (6, .int (nI k)), (0, .ref (ad 0)), (1, .int a0), (2, .int b0), (3, .int c0), (4, .int (m_trip σ7))]) hx hb dX7_plan_145 hl (by decide) rfl (fun ls hl => ?_)
            refine lv_iinc (v := nI (k + 1)) (lv' := [(6, .int (nI (k + 1))), (5, .int (a + 1)), (0, .ref (ad 0)), (1, .int a0), (2, .int b0), (3, .int c0), (4, .int (m_trip σ7))]) hx hb dX7_plan_147 hl (k := 1) rfl (nI_1 k) (by decide) rfl (fun ls hl => ?_)
            refine lv_goto (tgt := 116) hx hb dX7_plan_150 (by decide) ?_
            refine IH ls ?_
            show lv_has ls 7 [(6, .int (nI (k + 1))), (5, .int ((m_sizeF σ7 (m_trip σ7)) k a)), (0, .ref (ad 0)), (1, .int a0), (2, .int b0), (3, .int c0), (4, .int (m_trip σ7))]
            rw [show (m_sizeF σ7 (m_trip σ7)) k a = a + 1 from by simp only [m_sizeF, if_neg c_122, if_pos c_136]]
            exact lv_sub hl [0, 1, 2, 3, 4, 5, 6] rfl
      · intro ls hl
        have hl : lv_has ls 7 [(6, .int (nI (nx (σ7 23 0)))), (5, .int (foldN (m_sizeF σ7 (m_trip σ7)) (nx (σ7 23 0)) 0 0)), (0, .ref (ad 0)), (1, .int a0), (2, .int b0), (3, .int c0), (4, .int (m_trip σ7))] := hl
        refine lv_iload hx hb dX7_plan_116 (lv_at hl 0 rfl) ?_
        refine lv_aload_n hx hb dX7_plan_118 rfl (lv_at hl 2 rfl) ?_
        refine va_get (D := G) (ci := 7) (v := .int (σ7 23 0)) (C := RX7) (T := TX7) (N := 33) hx hb hg hinX7 hown hK hP 0 ml_obj rfl 23 (by decide) (hg _ qF_X7_174) (fun _ h9 => h9) rfl dX7_plan_119 ?_
        refine lv_icmp_ge (tgt := 153) hx hb dX7_plan_122 (by decide) (fun c_122 => ?_) (fun c_122 => ?_)
        · -- if_icmpge taken
          refine lp_cut (J := 196) (nL := 7) (LV := [(6, .int (nI (nx (σ7 23 0)))), (5, .int (foldN (m_sizeF σ7 (m_trip σ7)) (nx (σ7 23 0)) 0 0)), (0, .ref (ad 0)), (1, .int a0), (2, .int b0), (3, .int c0), (4, .int (m_trip σ7))]) (st := [.int (m_joins σ7 a0)]) (fun ls hl => ?_) (fun hcut196 => ?_)
          · have hl : lv_has ls 7 [(6, .int (nI (nx (σ7 23 0)))), (5, .int (foldN (m_sizeF σ7 (m_trip σ7)) (nx (σ7 23 0)) 0 0)), (0, .ref (ad 0)), (1, .int a0), (2, .int b0), (3, .int c0), (4, .int (m_trip σ7))] := hl
            refine lv_istore (lv' := [(6, .int (m_joins σ7 a0)), (5, .int (foldN (m_sizeF σ7 (m_trip σ7)) (nx (σ7 23 0)) 0 0)), (0, .ref (ad 0)), (1, .int a0), (2, .int b0), (3, .int c0), (4, .int (m_trip σ7))]) hx hb dX7_plan_196 hl (by decide) rfl (fun ls hl => ?_)
            refine lv_aload_n hx hb dX7_plan_198 rfl (lv_at hl 2 rfl) ?_
            refine va_get (D := G) (ci := 7) (v := .ref (ad 25)) (C := RX7) (T := TX7) (N := 33) hx hb hg hinX7 hown hK hP 0 ml_obj rfl 28 (by decide) (hg _ qF_X7_83) (fun _ h9 => h9) rfl dX7_plan_199 ?_
            refine lv_aload_n hx hb dX7_plan_202 rfl (lv_at hl 2 rfl) ?_
            refine va_get (D := G) (ci := 7) (v := .int (σ7 23 0)) (C := RX7) (T := TX7) (N := 33) hx hb hg hinX7 hown hK hP 0 ml_obj rfl 23 (by decide) (hg _ qF_X7_174) (fun _ h9 => h9) rfl dX7_plan_203 ?_
            refine lv_iload hx hb dX7_plan_206 (lv_at hl 0 rfl) ?_
            refine lv_if_eq (tgt := 216) hx hb dX7_plan_208 (by decide) (fun c_208 => ?_) (fun c_208 => ?_)
            · -- ifeq taken
              refine lv_iload hx hb dX7_plan_216 (lv_at hl 6 rfl) ?_
              refine lv_iconst (v := 1) hx hb dX7_plan_218 (by decide) ?_
              refine lv_iadd hx hb dX7_plan_219 ?_
              refine pp_iast (x := ((m_trip σ7) + 1)) hx hb hK hP (mm_D hJ) hS 25 0 ml_trips rfl (lt30_in (minv_mc hIσ7).1 hmσ7) (ms_trips) dX7_plan_220 (fun H locs hP hS => ?_)
              obtain ⟨σ8, eσ8⟩ : ∃ z, z = up σ7 28 (nx (σ7 23 0)) ((m_trip σ7) + 1) := ⟨_, rfl⟩
              rw [← eσ8] at hP
              have hIσ8 : MInv σ8 := by rw [eσ8]; exact minv_up (by decide) hIσ7
              have hmσ8 : σ8 23 0 < 30 := by rw [eσ8, up_row (by decide)]; exact hmσ7
              refine lv_aload_n hx hb dX7_plan_221 rfl (lv_at hl 2 rfl) ?_
              refine lv_dup hx hb dX7_plan_222 rfl ?_
              refine va_get (D := G) (ci := 7) (v := .int (σ8 23 0)) (C := RX7) (T := TX7) (N := 33) hx hb hg hinX7 hown hK hP 0 ml_obj rfl 23 (by decide) (hg _ qF_X7_174) (fun _ h9 => h9) rfl dX7_plan_223 ?_
              refine lv_iconst (v := 1) hx hb dX7_plan_226 (by decide) ?_
              refine lv_iadd hx hb dX7_plan_227 ?_
              refine pp_put (D := G) (ci := 7) (v := .int ((σ8 23 0) + 1)) (ty := .int) (C := RX7) (T := TX7) (N := 33) hx hb hg hinX7 tyX7 tyX7_ok nmX7 hown hK hP (mm_D hJ) hS 0 ml_obj rfl 23 (by decide) (hg _ qF_X7_174) (fun _ h9 => h9) rfl (by decide +kernel) rfl rfl (Nat.le_of_ble_eq_true rfl) (ms_moves) dX7_plan_228 (fun H locs hP hS => ?_)
              obtain ⟨σ9, eσ9⟩ : ∃ z, z = up σ8 23 0 ((σ8 23 0) + 1) := ⟨_, rfl⟩
              rw [← eσ9] at hP
              have e7 : σ7 = m_p7 σ a0 b0 c0 := by rw [eσ7, eσ6, eσ5, eσ4, eσ3, eσ2, eσ1]; rfl
              have e8 : m_p8 σ7 a0 = σ8 := by unfold m_p8; rw [if_pos c_208, eσ8]
              have e9 : σ9 = m_plan σ a0 b0 c0 := by rw [eσ9, ← e8, e7]; rfl
              exact W.vret hx hb hr (fun t ht hW => ⟨⟨σ9, rfl, e9, by rw [ht]; exact hP, va_K.moved hW.alike hK⟩, hS.F ht⟩) hS.2.2 dX7_plan_231
            · -- ifeq not taken
              refine lv_iload hx hb dX7_plan_211 (lv_at hl 6 rfl) ?_
              refine lv_goto (tgt := 220) hx hb dX7_plan_213 (by decide) ?_
              refine pp_iast (x := (m_trip σ7)) hx hb hK hP (mm_D hJ) hS 25 0 ml_trips rfl (lt30_in (minv_mc hIσ7).1 hmσ7) (ms_trips) dX7_plan_220 (fun H locs hP hS => ?_)
              obtain ⟨σ8, eσ8⟩ : ∃ z, z = up σ7 28 (nx (σ7 23 0)) (m_trip σ7) := ⟨_, rfl⟩
              rw [← eσ8] at hP
              have hIσ8 : MInv σ8 := by rw [eσ8]; exact minv_up (by decide) hIσ7
              have hmσ8 : σ8 23 0 < 30 := by rw [eσ8, up_row (by decide)]; exact hmσ7
              refine lv_aload_n hx hb dX7_plan_221 rfl (lv_at hl 2 rfl) ?_
              refine lv_dup hx hb dX7_plan_222 rfl ?_
              refine va_get (D := G) (ci := 7) (v := .int (σ8 23 0)) (C := RX7) (T := TX7) (N := 33) hx hb hg hinX7 hown hK hP 0 ml_obj rfl 23 (by decide) (hg _ qF_X7_174) (fun _ h9 => h9) rfl dX7_plan_223 ?_
              refine lv_iconst (v := 1) hx hb dX7_plan_226 (by decide) ?_
              refine lv_iadd hx hb dX7_plan_227 ?_
              refine pp_put (D := G) (ci := 7) (v := .int ((σ8 23 0) + 1)) (ty := .int) (C := RX7) (T := TX7) (N := 33) hx hb hg hinX7 tyX7 tyX7_ok nmX7 hown hK hP (mm_D hJ) hS 0 ml_obj rfl 23 (by decide) (hg _ qF_X7_174) (fun _ h9 => h9) rfl (by decide +kernel) rfl rfl (Nat.le_of_ble_eq_true rfl) (ms_moves) dX7_plan_228 (fun H locs hP hS => ?_)
              obtain ⟨σ9, eσ9⟩ : ∃ z, z = up σ8 23 0 ((σ8 23 0) + 1) := ⟨_, rfl⟩
              rw [← eσ9] at hP
              have e7 : σ7 = m_p7 σ a0 b0 c0 := by rw [eσ7, eσ6, eσ5, eσ4, eσ3, eσ2, eσ1]; rfl
              have e8 : m_p8 σ7 a0 = σ8 := by unfold m_p8; rw [if_neg c_208, eσ8]
              have e9 : σ9 = m_plan σ a0 b0 c0 := by rw [eσ9, ← e8, e7]; rfl
              exact W.vret hx hb hr (fun t ht hW => ⟨⟨σ9, rfl, e9, by rw [ht]; exact hP, va_K.moved hW.alike hK⟩, hS.F ht⟩) hS.2.2 dX7_plan_231
          · -- to the cut
            refine lv_aload_n hx hb dX7_plan_153 rfl (lv_at hl 2 rfl) ?_
            refine va_get (D := G) (ci := 7) (v := .int (σ7 23 0)) (C := RX7) (T := TX7) (N := 33) hx hb hg hinX7 hown hK hP 0 ml_obj rfl 23 (by decide) (hg _ qF_X7_174) (fun _ h9 => h9) rfl dX7_plan_154 ?_
            refine lv_if_eq (tgt := 191) hx hb dX7_plan_157 (by decide) (fun c_157 => ?_) (fun c_157 => ?_)
            · -- ifeq taken
              refine lv_iconst (v := 1) hx hb dX7_plan_191 (by decide) ?_
              refine lv_goto (tgt := 196) hx hb dX7_plan_192 (by decide) ?_
              exact lp_topi (show m_joins σ7 a0 = 1 from by simp only [m_joins, if_pos c_157]) (hcut196 ls (lv_sub hl [0, 1, 2, 3, 4, 5, 6] rfl))
            · -- ifeq not taken
              refine lv_aload_n hx hb dX7_plan_160 rfl (lv_at hl 2 rfl) ?_
              refine va_get (D := G) (ci := 7) (v := .ref (ad 2)) (C := RX7) (T := TX7) (N := 33) hx hb hg hinX7 hown hK hP 0 ml_obj rfl 2 (by decide) (hg _ qF_X7_13) (fun _ h9 => h9) rfl dX7_plan_161 ?_
              refine lv_aload_n hx hb dX7_plan_164 rfl (lv_at hl 2 rfl) ?_
              refine va_get (D := G) (ci := 7) (v := .ref (ad 21)) (C := RX7) (T := TX7) (N := 33) hx hb hg hinX7 hown hK hP 0 ml_obj rfl 24 (by decide) (hg _ qF_X7_71) (fun _ h9 => h9) rfl dX7_plan_165 ?_
              refine lv_aload_n hx hb dX7_plan_168 rfl (lv_at hl 2 rfl) ?_
              refine va_get (D := G) (ci := 7) (v := .int (σ7 23 0)) (C := RX7) (T := TX7) (N := 33) hx hb hg hinX7 hown hK hP 0 ml_obj rfl 23 (by decide) (hg _ qF_X7_174) (fun _ h9 => h9) rfl dX7_plan_169 ?_
              refine lv_iconst (v := 1) hx hb dX7_plan_172 (by decide) ?_
              refine lv_isub hx hb dX7_plan_173 ?_
              refine va_iald hx hb hK hP 21 0 ml_from rfl (mv1_in hIσ7 c_157) dX7_plan_174 ?_
              refine va_iald hx hb hK hP 2 0 ml_zone rfl (minv_mv hIσ7 (vp_lt (mv1_in hIσ7 c_157))).1 dX7_plan_175 ?_
              refine lv_aload_n hx hb dX7_plan_176 rfl (lv_at hl 2 rfl) ?_
              refine va_get (D := G) (ci := 7) (v := .ref (ad 2)) (C := RX7) (T := TX7) (N := 33) hx hb hg hinX7 hown hK hP 0 ml_obj rfl 2 (by decide) (hg _ qF_X7_13) (fun _ h9 => h9) rfl dX7_plan_177 ?_
              refine lv_iload_n hx hb dX7_plan_180 rfl (lv_at hl 3 rfl) ?_
              refine va_iald hx hb hK hP 2 0 ml_zone rfl hp0 dX7_plan_181 ?_
              refine lv_icmp_ne (tgt := 195) hx hb dX7_plan_182 (by decide) (fun c_182 => ?_) (fun c_182 => ?_)
              · -- if_icmpne taken
                refine lv_iconst (v := 0) hx hb dX7_plan_195 (by decide) ?_
                exact lp_topi (show m_joins σ7 a0 = 0 from by simp only [m_joins, if_neg c_157, if_neg c_182]) (hcut196 ls (lv_sub hl [0, 1, 2, 3, 4, 5, 6] rfl))
              · -- if_icmpne not taken
                refine lv_iload hx hb dX7_plan_185 (lv_at hl 1 rfl) ?_
                refine lv_iconst (v := 3) hx hb dX7_plan_187 (by decide) ?_
                refine lv_icmp_ge (tgt := 195) hx hb dX7_plan_188 (by decide) (fun c_188 => ?_) (fun c_188 => ?_)
                · -- if_icmpge taken
                  refine lv_iconst (v := 0) hx hb dX7_plan_195 (by decide) ?_
                  exact lp_topi (show m_joins σ7 a0 = 0 from by simp only [m_joins, if_neg c_157, if_pos c_182, if_pos c_188]) (hcut196 ls (lv_sub hl [0, 1, 2, 3, 4, 5, 6] rfl))
                · -- if_icmpge not taken
                  refine lv_iconst (v := 1) hx hb dX7_plan_191 (by decide) ?_
                  refine lv_goto (tgt := 196) hx hb dX7_plan_192 (by decide) ?_
                  exact lp_topi (show m_joins σ7 a0 = 1 from by simp only [m_joins, if_neg c_157, if_pos c_182, if_neg c_188]) (hcut196 ls (lv_sub hl [0, 1, 2, 3, 4, 5, 6] rfl))
        · -- if_icmpge not taken
          exact absurd (nx_le (minv_mc hIσ7).1) c_122
    · -- to the cut
      refine lv_aload_n hx hb dX7_plan_86 rfl (lv_at hl 0 rfl) ?_
      refine va_get (D := G) (ci := 7) (v := .int (σ7 23 0)) (C := RX7) (T := TX7) (N := 33) hx hb hg hinX7 hown hK hP 0 ml_obj rfl 23 (by decide) (hg _ qF_X7_174) (fun _ h9 => h9) rfl dX7_plan_87 ?_
      refine lv_if_ne (tgt := 97) hx hb dX7_plan_90 (by decide) (fun c_90 => ?_) (fun c_90 => ?_)
      · -- ifne taken
        refine lv_aload_n hx hb dX7_plan_97 rfl (lv_at hl 0 rfl) ?_
        refine va_get (D := G) (ci := 7) (v := .ref (ad 25)) (C := RX7) (T := TX7) (N := 33) hx hb hg hinX7 hown hK hP 0 ml_obj rfl 28 (by decide) (hg _ qF_X7_83) (fun _ h9 => h9) rfl dX7_plan_98 ?_
        refine lv_aload_n hx hb dX7_plan_101 rfl (lv_at hl 0 rfl) ?_
        refine va_get (D := G) (ci := 7) (v := .int (σ7 23 0)) (C := RX7) (T := TX7) (N := 33) hx hb hg hinX7 hown hK hP 0 ml_obj rfl 23 (by decide) (hg _ qF_X7_174) (fun _ h9 => h9) rfl dX7_plan_102 ?_
        refine lv_iconst (v := 1) hx hb dX7_plan_105 (by decide) ?_
        refine lv_isub hx hb dX7_plan_106 ?_
        refine va_iald hx hb hK hP 25 0 ml_trips rfl (mv1_in hIσ7 c_90) dX7_plan_107 ?_
        exact lp_topi (show m_trip σ7 = σ7 28 (nx ((σ7 23 0) - 1)) from by simp only [m_trip, if_neg c_90]) (hcut108 ls (lv_sub hl [0, 1, 2, 3] rfl))
      · -- ifne not taken
        refine lv_iconst (v := 0) hx hb dX7_plan_93 (by decide) ?_
        refine lv_goto (tgt := 108) hx hb dX7_plan_94 (by decide) ?_
        exact lp_topi (show m_trip σ7 = 0 from by simp only [m_trip, if_pos c_90]) (hcut108 ls (lv_sub hl [0, 1, 2, 3] rfl))
  · -- to the cut
    refine lv_aload_n hx hb dX7_plan_62 rfl (lv_at hl 0 rfl) ?_
    refine lv_iload_n hx hb dX7_plan_63 rfl (lv_at hl 1 rfl) ?_
    refine vp_callSi (W.runV (As := [.int a0]) (rest := [.int (σ5 23 0), .ref (ad 26)]) ⟨hx, hb, hml, hown, hg⟩ (m_ReplenishRulesModel_left l G cA ad σ5 a0 hp0) (cwV 1 hg (gV qM_X7_171 qI_X7_left qS_X7_left qN_X7 kX7_left) rfl rfl rfl (by decide +kernel) ⟨Nat.le_of_ble_eq_true rfl, Nat.le_of_ble_eq_true rfl⟩) (mm_pv hK hP (va_recv hK hP (ci := 7) (q0 := 0) rfl ml_obj)) rfl rfl hl.1 rfl (lv_room (Nat.le_of_ble_eq_true rfl)) dX7_plan_64 ⟨Nat.le_of_ble_eq_true rfl, Nat.le_of_ble_eq_true rfl⟩) (nm_e ?_)
    refine lv_if_ne (tgt := 74) hx hb dX7_plan_67 (by decide) (fun c_67 => ?_) (fun c_67 => ?_)
    · -- ifne taken
      refine lv_iconst (v := 0) hx hb dX7_plan_74 (by decide) ?_
      exact lp_topi (show (if m_left σ5 a0 = 0 then (1 : Int32) else 0) = 0 from by simp only [if_neg c_67]) (hcut75 ls (lv_sub hl [0, 1, 2, 3] rfl))
    · -- ifne not taken
      refine lv_iconst (v := 1) hx hb dX7_plan_70 (by decide) ?_
      refine lv_goto (tgt := 75) hx hb dX7_plan_71 (by decide) ?_
      exact lp_topi (show (if m_left σ5 a0 = 0 then (1 : Int32) else 0) = 1 from by simp only [if_pos c_67]) (hcut75 ls (lv_sub hl [0, 1, 2, 3] rfl))

set_option maxHeartbeats 4000000 in
set_option maxRecDepth 100000 in
theorem m_ReplenishRulesModel_run (l : Launch) (G : va_G) (cA : Nat → ClassId) (ad : Nat → Nat) (σ : St) (hJ : mm_inj ad) (hI : MInv σ) : Met l yX7_run (wX7_run :: wG) ({ frames := 6, cells := 0, slots := 0, locals := 152 }) (va_Pc [.ref (ad 0)] (mmW G cA ad σ)) (va_Qi (fun r σ' => r = m_runR σ ∧ σ' = m_runS σ) (mmW G cA ad) (mmA ad)) 0 0 (mmA ad) := by
  refine Met.ofW (cc := cX7_run) (maxL := 5) (ret := (some .int)) (by decide) rfl ?_
  intro p e s m args below meth c s₁ B hml hv
  obtain ⟨rfl, hP, hK⟩ := hv
  have hx := B.exec
  have hb := B.bytes
  have hr := B.returns
  have hts := atoms_spec (ws := wX7_run :: wG) B.pre
  have hg : ∀ w ∈ wG, w.before _ s = true := fun w h => hts w (List.mem_cons_of_mem _ h)
  have hown : s.vm.findClass RX7 = some m.cls := findClass_of_methodNamed B.named
  have hlocks := B.notSynchronized
  have hS : va_S (mmA ad) s.heap s.heap [] := va_S.rf
  have hl := lv_entry ([.ref (ad 0)]) (n := 5) (Nat.le_of_ble_eq_true rfl)
  rw [lg_entry_eq]
  generalize (lg_sl ([.ref (ad 0)]) ++ List.replicate (5 - (lg_sl ([.ref (ad 0)])).length) Slot.unset).toArray = ls at hl ⊢
  have hl : lv_has ls 5 [(0, .ref (ad 0))] := hl
  refine lp_cut (J := 18) (nL := 5) (LV := [(0, .ref (ad 0))]) (st := [.int (m_runT σ), .ref (ad 0)]) (fun ls hl => ?_) (fun hcut18 => ?_)
  · have hl : lv_has ls 5 [(0, .ref (ad 0))] := hl
    refine pp_put (D := G) (ci := 7) (v := .int (m_runT σ)) (ty := .int) (C := RX7) (T := TX7) (N := 33) hx hb hg hinX7 tyX7 tyX7_ok nmX7 hown hK hP (mm_D hJ) hS 0 ml_obj rfl 0 (by decide) (hg _ qF_X7_98) (fun _ h9 => h9) rfl (by decide +kernel) rfl rfl (Nat.le_of_ble_eq_true rfl) (ms_thrown) dX7_run_18 (fun H locs hP hS => ?_)
    obtain ⟨σ1, eσ1⟩ : ∃ z, z = up σ 0 0 (m_runT σ) := ⟨_, rfl⟩
    rw [← eσ1] at hP
    have hIσ1 : MInv σ1 := by rw [eσ1]; exact minv_up (by decide) hI
    refine lv_aload_n hx hb dX7_run_21 rfl (lv_at hl 0 rfl) ?_
    refine va_get (D := G) (ci := 7) (v := .int (σ1 0 0)) (C := RX7) (T := TX7) (N := 33) hx hb hg hinX7 hown hK hP 0 ml_obj rfl 0 (by decide) (hg _ qF_X7_98) (fun _ h9 => h9) rfl dX7_run_22 ?_
    refine lv_if_le (tgt := 30) hx hb dX7_run_25 (by decide) (fun c_25 => ?_) (fun c_25 => ?_)
    · -- ifle taken
      refine lv_aload_n hx hb dX7_run_30 rfl (lv_at hl 0 rfl) ?_
      refine lv_iconst (v := 0) hx hb dX7_run_31 (by decide) ?_
      refine pp_put (D := G) (ci := 7) (v := .int 0) (ty := .int) (C := RX7) (T := TX7) (N := 33) hx hb hg hinX7 tyX7 tyX7_ok nmX7 hown hK hP (mm_D hJ) hS 0 ml_obj rfl 23 (by decide) (hg _ qF_X7_174) (fun _ h9 => h9) rfl (by decide +kernel) rfl rfl (Nat.le_of_ble_eq_true rfl) (ms_moves) dX7_run_32 (fun H locs hP hS => ?_)
      obtain ⟨σ2, eσ2⟩ : ∃ z, z = up σ1 23 0 0 := ⟨_, rfl⟩
      rw [← eσ2] at hP
      have hIσ2 : MInv σ2 := by rw [eσ2]; exact minv_23 hIσ1 (by decide)
      refine lv_iconst (v := 0) hx hb dX7_run_35 (by decide) ?_
      refine lv_topi (fun y_36 ey_36 => ?_)
      obtain rfl : y_36 = nI 0 := ey_36.trans (nI_0.symm)
      refine lv_istore_n (lv' := [(1, .int (nI 0)), (0, .ref (ad 0))]) hx hb dX7_run_36 rfl hl (by decide) rfl (fun ls hl => ?_)
      refine mm_rw (f := m_runC) (t := 16) (nL := 5) (fun _ σ => MInv σ) (fun k => [(1, .int (nI k)), (0, .ref (ad 0))]) 16 0 σ2 (by decide) ?_ ?_ hIσ2 hP hS ls (lv_sub hl [0, 1] rfl)
      · intro k σ3 H locs hk hIσ3 hP hS IH ls hl
        have hl : lv_has ls 5 [(1, .int (nI k)), (0, .ref (ad 0))] := hl
        refine lv_iload_n hx hb dX7_run_37 rfl (lv_at hl 0 rfl) ?_
        refine lv_bipush (v := 16) hx hb dX7_run_38 (by decide) ?_
        refine lv_icmp_ge (tgt := 63) hx hb dX7_run_40 (by decide) (fun c_40 => ?_) (fun c_40 => ?_)
        · -- if_icmpge taken
          exact absurd c_40 (nI_ge hk (by decide))
        · -- if_icmpge not taken
          refine lv_aload_n hx hb dX7_run_43 rfl (lv_at hl 1 rfl) ?_
          refine va_get (D := G) (ci := 7) (v := .ref (ad 28)) (C := RX7) (T := TX7) (N := 33) hx hb hg hinX7 hown hK hP 0 ml_obj rfl 31 (by decide) (hg _ qF_X7_92) (fun _ h9 => h9) rfl dX7_run_44 ?_
          refine lv_iload_n hx hb dX7_run_47 rfl (lv_at hl 0 rfl) ?_
          refine lv_iconst (v := 0) hx hb dX7_run_48 (by decide) ?_
          refine pp_iast (x := 0) hx hb hK hP (mm_D hJ) hS 28 0 ml_planned rfl (nI_in16 hk) (ms_planned) dX7_run_49 (fun H locs hP hS => ?_)
          obtain ⟨σ4, eσ4⟩ : ∃ z, z = up σ3 31 (nx (nI k)) 0 := ⟨_, rfl⟩
          rw [← eσ4] at hP
          have hIσ4 : MInv σ4 := by rw [eσ4]; exact minv_up (by decide) hIσ3
          refine lv_aload_n hx hb dX7_run_50 rfl (lv_at hl 1 rfl) ?_
          refine va_get (D := G) (ci := 7) (v := .ref (ad 29)) (C := RX7) (T := TX7) (N := 33) hx hb hg hinX7 hown hK hP 0 ml_obj rfl 32 (by decide) (hg _ qF_X7_95) (fun _ h9 => h9) rfl dX7_run_51 ?_
          refine lv_iload_n hx hb dX7_run_54 rfl (lv_at hl 0 rfl) ?_
          refine lv_iconst (v := 0) hx hb dX7_run_55 (by decide) ?_
          refine pp_zast (x := 0) hx hb hK hP (mm_D hJ) hS 29 1 ml_gone rfl (by decide) (nI_in16 hk) (ms_gone) dX7_run_56 (fun H locs hP hS => ?_)
          obtain ⟨σ5, eσ5⟩ : ∃ z, z = up σ4 32 (nx (nI k)) 0 := ⟨_, rfl⟩
          rw [← eσ5] at hP
          have hIσ5 : MInv σ5 := by rw [eσ5]; exact minv_up (by decide) hIσ4
          refine lv_iinc (v := nI (k + 1)) (lv' := [(1, .int (nI (k + 1))), (0, .ref (ad 0))]) hx hb dX7_run_57 hl (k := 0) rfl (nI_1 k) (by decide) rfl (fun ls hl => ?_)
          refine lv_goto (tgt := 37) hx hb dX7_run_60 (by decide) ?_
          have eF : m_runC k σ3 = σ5 := by subst eσ4 eσ5; simp only [m_runC, if_neg c_40]
          exact IH H locs ls (by rw [eF]; exact hIσ5) (by rw [eF]; exact hP) hS (lv_sub hl [0, 1] rfl)
      · intro H locs hI9 hP hS ls hl
        have hl : lv_has ls 5 [(1, .int (nI 16)), (0, .ref (ad 0))] := hl
        obtain ⟨σ4, eσ4⟩ : ∃ z, z = foldN (m_runC) 16 0 σ2 := ⟨_, rfl⟩
        rw [← eσ4] at hP hI9
        refine lv_iload_n hx hb dX7_run_37 rfl (lv_at hl 0 rfl) ?_
        refine lv_bipush (v := 16) hx hb dX7_run_38 (by decide) ?_
        refine lv_icmp_ge (tgt := 63) hx hb dX7_run_40 (by decide) (fun c_40 => ?_) (fun c_40 => ?_)
        · -- if_icmpge taken
          refine lv_aload_n hx hb dX7_run_63 rfl (lv_at hl 1 rfl) ?_
          refine vp_callSi (W.runV (As := []) (rest := []) ⟨hx, hb, hml, hown, hg⟩ (m_ReplenishRulesModel_next l G cA ad σ4 hI9) (cwV 0 hg (gV qM_X7_177 qI_X7_next qS_X7_next qN_X7 kX7_next) rfl rfl rfl (by decide +kernel) ⟨Nat.le_of_ble_eq_true rfl, Nat.le_of_ble_eq_true rfl⟩) (mm_pv hK hP (va_recv hK hP (ci := 7) (q0 := 0) rfl ml_obj)) rfl rfl hl.1 rfl (lv_room (Nat.le_of_ble_eq_true rfl)) dX7_run_64 ⟨Nat.le_of_ble_eq_true rfl, Nat.le_of_ble_eq_true rfl⟩) (nm_e ?_)
          refine lv_istore_n (lv' := [(1, .int (m_next σ4)), (0, .ref (ad 0))]) hx hb dX7_run_67 rfl hl (by decide) rfl (fun ls hl => ?_)
          have e3 : σ4 = m_run0 σ := by rw [eσ4, eσ2, eσ1]; rfl
          refine mm_wh (β := Int32) (fun i f σ => MInv σ ∧ (f = -1 ∨ (vp_in f 16 ∧ σ 32 (nx f) = 0)) ∧ m_og σ < i) (fun f => [(1, .int f), (0, .ref (ad 0))]) m_outer 68 169 [(0, .ref (ad 0))] ?_ 17 (m_next σ4) σ4 H locs ls ⟨hI9, next_in σ4, Nat.lt_succ_of_le og_le⟩ hP hS (lv_sub hl [0, 1] rfl) ?_
          · intro j f σ5 H locs hJ9 hP hS EX IH ls hl
            obtain ⟨hIσ5, hf9, hog⟩ := hJ9
            have hl : lv_has ls 5 [(1, .int f), (0, .ref (ad 0))] := hl
            refine lv_iload_n hx hb dX7_run_68 rfl (lv_at hl 0 rfl) ?_
            refine lv_iconst (v := (-1)) hx hb dX7_run_69 (by decide) ?_
            refine lv_icmp_eq (tgt := 169) hx hb dX7_run_70 (by decide) (fun c_70 => ?_) (fun c_70 => ?_)
            · -- if_icmpeq taken
              exact EX H locs ls (by rw [outer_out1 c_70]; exact hP) hS (lv_sub hl [1] rfl)
            · -- if_icmpeq not taken
              refine lv_aload_n hx hb dX7_run_73 rfl (lv_at hl 1 rfl) ?_
              refine va_get (D := G) (ci := 7) (v := .int (σ5 23 0)) (C := RX7) (T := TX7) (N := 33) hx hb hg hinX7 hown hK hP 0 ml_obj rfl 23 (by decide) (hg _ qF_X7_174) (fun _ h9 => h9) rfl dX7_run_74 ?_
              refine lv_bipush (v := 30) hx hb dX7_run_77 (by decide) ?_
              refine lv_icmp_ge (tgt := 169) hx hb dX7_run_79 (by decide) (fun c_79 => ?_) (fun c_79 => ?_)
              · -- if_icmpge taken
                exact EX H locs ls (by rw [outer_out2 c_79]; exact hP) hS (lv_sub hl [1] rfl)
              · -- if_icmpge not taken
                refine lv_aload_n hx hb dX7_run_82 rfl (lv_at hl 1 rfl) ?_
                refine va_get (D := G) (ci := 7) (v := .ref (ad 29)) (C := RX7) (T := TX7) (N := 33) hx hb hg hinX7 hown hK hP 0 ml_obj rfl 32 (by decide) (hg _ qF_X7_95) (fun _ h9 => h9) rfl dX7_run_83 ?_
                refine lv_iload_n hx hb dX7_run_86 rfl (lv_at hl 0 rfl) ?_
                refine lv_iconst (v := 1) hx hb dX7_run_87 (by decide) ?_
                refine pp_zast (x := 1) hx hb hK hP (mm_D hJ) hS 29 1 ml_gone rfl (by decide) (hf9.resolve_left c_70).1 (ms_gone) dX7_run_88 (fun H locs hP hS => ?_)
                obtain ⟨σ6, eσ6⟩ : ∃ z, z = up σ5 32 (nx f) 1 := ⟨_, rfl⟩
                rw [← eσ6] at hP
                have hIσ6 : MInv σ6 := by rw [eσ6]; exact minv_up (by decide) hIσ5
                refine lv_aload_n hx hb dX7_run_89 rfl (lv_at hl 1 rfl) ?_
                refine lv_iload_n hx hb dX7_run_90 rfl (lv_at hl 0 rfl) ?_
                refine vp_callSi (W.runV (As := [.int f]) (rest := []) ⟨hx, hb, hml, hown, hg⟩ (m_ReplenishRulesModel_missing l G cA ad σ6 hIσ6 f (hf9.resolve_left c_70).1) (cwV 1 hg (gV qM_X7_165 qI_X7_missing qS_X7_missing qN_X7 kX7_missing) rfl rfl rfl (by decide +kernel) ⟨Nat.le_of_ble_eq_true rfl, Nat.le_of_ble_eq_true rfl⟩) (mm_pv hK hP (va_recv hK hP (ci := 7) (q0 := 0) rfl ml_obj)) rfl rfl hl.1 rfl (lv_room (Nat.le_of_ble_eq_true rfl)) dX7_run_91 ⟨Nat.le_of_ble_eq_true rfl, Nat.le_of_ble_eq_true rfl⟩) (nm_e ?_)
                refine lv_istore_n (lv' := [(2, .int (m_missing σ6 f)), (1, .int f), (0, .ref (ad 0))]) hx hb dX7_run_94 rfl hl (by decide) rfl (fun ls hl => ?_)
                refine lv_aload_n hx hb dX7_run_95 rfl (lv_at hl 2 rfl) ?_
                refine lv_iload_n hx hb dX7_run_96 rfl (lv_at hl 1 rfl) ?_
                refine vp_callSi (W.runV (As := [.int f]) (rest := []) ⟨hx, hb, hml, hown, hg⟩ (m_ReplenishRulesModel_reserve l G cA ad σ6 f (hf9.resolve_left c_70).1) (cwV 1 hg (gV qM_X7_181 qI_X7_reserve qS_X7_reserve qN_X7 kX7_reserve) rfl rfl rfl (by decide +kernel) ⟨Nat.le_of_ble_eq_true rfl, Nat.le_of_ble_eq_true rfl⟩) (mm_pv hK hP (va_recv hK hP (ci := 7) (q0 := 0) rfl ml_obj)) rfl rfl hl.1 rfl (lv_room (Nat.le_of_ble_eq_true rfl)) dX7_run_97 ⟨Nat.le_of_ble_eq_true rfl, Nat.le_of_ble_eq_true rfl⟩) (nm_e ?_)
                refine lv_istore_n (lv' := [(3, .int (m_reserve σ6 f)), (2, .int (m_missing σ6 f)), (1, .int f), (0, .ref (ad 0))]) hx hb dX7_run_100 rfl hl (by decide) rfl (fun ls hl => ?_)
                have hf : vp_in f 16 := (hf9.resolve_left c_70).1
                refine mm_wh (β := Int32 × Int32) (fun i b σ => MInv σ ∧ (b.2 = -1 ∨ vp_in b.2 16) ∧ 30 - nx (σ 23 0) < i) (fun b => [(2, .int b.1), (3, .int b.2), (1, .int f), (0, .ref (ad 0))]) (fun i b σ => m_inner f i b.1 b.2 σ) 101 161 [(1, .int f), (0, .ref (ad 0))] ?_ 31 (m_missing σ6 f, m_reserve σ6 f) σ6 H locs ls ⟨hIσ6, reserve_in, Nat.lt_succ_of_le (Nat.sub_le _ _)⟩ hP hS (lv_sub hl [1, 0, 2, 3] rfl) ?_
                · intro j2 b σ7 H locs hJ9 hP hS EX2 IH2 ls hl
                  obtain ⟨hIσ7, hb9, hfu⟩ := hJ9
                  have hl : lv_has ls 5 [(2, .int b.1), (3, .int b.2), (1, .int f), (0, .ref (ad 0))] := hl
                  refine lv_iload_n hx hb dX7_run_101 rfl (lv_at hl 0 rfl) ?_
                  refine lv_if_le (tgt := 161) hx hb dX7_run_102 (by decide) (fun c_102 => ?_) (fun c_102 => ?_)
                  · -- ifle taken
                    exact EX2 H locs ls (by rw [inner_out1 c_102]; exact hP) hS (lv_sub hl [2, 3] rfl)
                  · -- ifle not taken
                    refine lv_iload_n hx hb dX7_run_105 rfl (lv_at hl 1 rfl) ?_
                    refine lv_iconst (v := (-1)) hx hb dX7_run_106 (by decide) ?_
                    refine lv_icmp_eq (tgt := 161) hx hb dX7_run_107 (by decide) (fun c_107 => ?_) (fun c_107 => ?_)
                    · -- if_icmpeq taken
                      exact EX2 H locs ls (by rw [inner_out2 c_107]; exact hP) hS (lv_sub hl [2, 3] rfl)
                    · -- if_icmpeq not taken
                      refine lv_aload_n hx hb dX7_run_110 rfl (lv_at hl 3 rfl) ?_
                      refine va_get (D := G) (ci := 7) (v := .int (σ7 23 0)) (C := RX7) (T := TX7) (N := 33) hx hb hg hinX7 hown hK hP 0 ml_obj rfl 23 (by decide) (hg _ qF_X7_174) (fun _ h9 => h9) rfl dX7_run_111 ?_
                      refine lv_bipush (v := 30) hx hb dX7_run_114 (by decide) ?_
                      refine lv_icmp_ge (tgt := 161) hx hb dX7_run_116 (by decide) (fun c_116 => ?_) (fun c_116 => ?_)
                      · -- if_icmpge taken
                        exact EX2 H locs ls (by rw [inner_out3 c_116]; exact hP) hS (lv_sub hl [2, 3] rfl)
                      · -- if_icmpge not taken
                        refine lp_cut (J := 137) (nL := 5) (LV := [(2, .int b.1), (3, .int b.2), (1, .int f), (0, .ref (ad 0))]) (st := [.int (m_tk σ7 b.2 b.1)]) (fun ls hl => ?_) (fun hcut137 => ?_)
                        · have hl : lv_has ls 5 [(2, .int b.1), (3, .int b.2), (1, .int f), (0, .ref (ad 0))] := hl
                          refine lv_istore (lv' := [(4, .int (m_tk σ7 b.2 b.1)), (2, .int b.1), (3, .int b.2), (1, .int f), (0, .ref (ad 0))]) hx hb dX7_run_137 hl (by decide) rfl (fun ls hl => ?_)
                          refine lv_aload_n hx hb dX7_run_139 rfl (lv_at hl 4 rfl) ?_
                          refine lv_iload_n hx hb dX7_run_140 rfl (lv_at hl 2 rfl) ?_
                          refine lv_iload_n hx hb dX7_run_141 rfl (lv_at hl 3 rfl) ?_
                          refine lv_iload hx hb dX7_run_142 (lv_at hl 0 rfl) ?_
                          refine va_callv (va_runV (As := [.int b.2, .int f, .int (m_tk σ7 b.2 b.1)]) (rest := []) ⟨hx, hb, hml, hown, hg⟩ (m_ReplenishRulesModel_plan l G cA ad σ7 hJ hIσ7 b.2 f (m_tk σ7 b.2 b.1) (hb9.resolve_left c_107) hf (mlt c_116)) (cwV 3 hg (gV qM_X7_184 qI_X7_plan qS_X7_plan qN_X7 kX7_plan) rfl rfl rfl (by decide +kernel) ⟨Nat.le_of_ble_eq_true rfl, Nat.le_of_ble_eq_true rfl⟩) (mm_pv hK hP (va_recv hK hP (ci := 7) (q0 := 0) rfl ml_obj)) rfl rfl hl.1 rfl (lv_room (Nat.le_of_ble_eq_true rfl)) dX7_run_144 ⟨Nat.le_of_ble_eq_true rfl, Nat.le_of_ble_eq_true rfl⟩) hS (fun q _ h => h) (fun q h => h) (fun σ8 t H locs ht hvm eσ8 hB hz9 hk9 hS => ?_)
                          have hP := hB.1
                          rw [ht] at hP
                          have hIσ8 : MInv σ8 := by rw [eσ8]; exact minv_plan hIσ7 (hb9.resolve_left c_107) hf (mlt c_116)
                          refine lv_iload_n hx hb dX7_run_147 rfl (lv_at hl 1 rfl) ?_
                          refine lv_iload hx hb dX7_run_148 (lv_at hl 0 rfl) ?_
                          refine lv_isub hx hb dX7_run_150 ?_
                          refine lv_istore_n (lv' := [(2, .int (b.1 - (m_tk σ7 b.2 b.1))), (4, .int (m_tk σ7 b.2 b.1)), (3, .int b.2), (1, .int f), (0, .ref (ad 0))]) hx hb dX7_run_151 rfl hl (by decide) rfl (fun ls hl => ?_)
                          refine lv_aload_n hx hb dX7_run_152 rfl (lv_at hl 4 rfl) ?_
                          refine lv_iload_n hx hb dX7_run_153 rfl (lv_at hl 3 rfl) ?_
                          refine vp_callSi (W.runV (As := [.int f]) (rest := []) ⟨hx, hb, hml, hown, hg⟩ (m_ReplenishRulesModel_reserve l G cA ad σ8 f hf) (cwV 1 hg (gV qM_X7_181 qI_X7_reserve qS_X7_reserve qN_X7 kX7_reserve) rfl rfl rfl (by decide +kernel) ⟨Nat.le_of_ble_eq_true rfl, Nat.le_of_ble_eq_true rfl⟩) (mm_pv hK hP (va_recv hK hP (ci := 7) (q0 := 0) rfl ml_obj)) rfl rfl hl.1 rfl (lv_room (Nat.le_of_ble_eq_true rfl)) dX7_run_154 ⟨Nat.le_of_ble_eq_true rfl, Nat.le_of_ble_eq_true rfl⟩) (nm_e ?_)
                          refine lv_istore_n (lv' := [(3, .int (m_reserve σ8 f)), (2, .int (b.1 - (m_tk σ7 b.2 b.1))), (4, .int (m_tk σ7 b.2 b.1)), (1, .int f), (0, .ref (ad 0))]) hx hb dX7_run_157 rfl hl (by decide) rfl (fun ls hl => ?_)
                          refine lv_goto (tgt := 101) hx hb dX7_run_158 (by decide) ?_
                          exact IH2 (b.1 - m_tk σ7 b.2 b.1, m_reserve σ8 f) σ8 H locs ls ⟨hIσ8, reserve_in, plan_fuel hIσ7 (mlt c_116) eσ8 hfu⟩ (by rw [inner_step c_102 c_107 c_116, eσ8]) hP hS (lv_sub hl [1, 0, 3, 4] rfl)
                        · -- to the cut
                          refine lv_aload_n hx hb dX7_run_119 rfl (lv_at hl 3 rfl) ?_
                          refine lv_iload_n hx hb dX7_run_120 rfl (lv_at hl 1 rfl) ?_
                          refine vp_callSi (W.runV (As := [.int b.2]) (rest := []) ⟨hx, hb, hml, hown, hg⟩ (m_ReplenishRulesModel_left l G cA ad σ7 b.2 (hb9.resolve_left c_107)) (cwV 1 hg (gV qM_X7_171 qI_X7_left qS_X7_left qN_X7 kX7_left) rfl rfl rfl (by decide +kernel) ⟨Nat.le_of_ble_eq_true rfl, Nat.le_of_ble_eq_true rfl⟩) (mm_pv hK hP (va_recv hK hP (ci := 7) (q0 := 0) rfl ml_obj)) rfl rfl hl.1 rfl (lv_room (Nat.le_of_ble_eq_true rfl)) dX7_run_121 ⟨Nat.le_of_ble_eq_true rfl, Nat.le_of_ble_eq_true rfl⟩) (nm_e ?_)
                          refine lv_iload_n hx hb dX7_run_124 rfl (lv_at hl 0 rfl) ?_
                          refine lv_icmp_ge (tgt := 136) hx hb dX7_run_125 (by decide) (fun c_125 => ?_) (fun c_125 => ?_)
                          · -- if_icmpge taken
                            refine lv_iload_n hx hb dX7_run_136 rfl (lv_at hl 0 rfl) ?_
                            exact lp_topi (show m_tk σ7 b.2 b.1 = b.1 from by simp only [m_tk, if_pos c_125]) (hcut137 ls (lv_sub hl [0, 1, 2, 3] rfl))
                          · -- if_icmpge not taken
                            refine lv_aload_n hx hb dX7_run_128 rfl (lv_at hl 3 rfl) ?_
                            refine lv_iload_n hx hb dX7_run_129 rfl (lv_at hl 1 rfl) ?_
                            refine vp_callSi (W.runV (As := [.int b.2]) (rest := []) ⟨hx, hb, hml, hown, hg⟩ (m_ReplenishRulesModel_left l G cA ad σ7 b.2 (hb9.resolve_left c_107)) (cwV 1 hg (gV qM_X7_171 qI_X7_left qS_X7_left qN_X7 kX7_left) rfl rfl rfl (by decide +kernel) ⟨Nat.le_of_ble_eq_true rfl, Nat.le_of_ble_eq_true rfl⟩) (mm_pv hK hP (va_recv hK hP (ci := 7) (q0 := 0) rfl ml_obj)) rfl rfl hl.1 rfl (lv_room (Nat.le_of_ble_eq_true rfl)) dX7_run_130 ⟨Nat.le_of_ble_eq_true rfl, Nat.le_of_ble_eq_true rfl⟩) (nm_e ?_)
                            refine lv_goto (tgt := 137) hx hb dX7_run_133 (by decide) ?_
                            exact lp_topi (show m_tk σ7 b.2 b.1 = m_left σ7 b.2 from by simp only [m_tk, if_neg c_125]) (hcut137 ls (lv_sub hl [0, 1, 2, 3] rfl))
                · intro H locs ls hP hS hl
                  have hl : lv_has ls 5 [(1, .int f), (0, .ref (ad 0))] := hl
                  obtain ⟨σ7, eσ7⟩ : ∃ z, z = m_serve σ5 f := ⟨_, rfl⟩
                  have eq9 : m_inner f 31 (m_missing σ6 f, m_reserve σ6 f).1 (m_missing σ6 f, m_reserve σ6 f).2 σ6 = σ7 := by rw [eσ7, eσ6]; rfl
                  rw [eq9] at hP
                  have hIσ7 : MInv σ7 := by rw [eσ7]; exact minv_serve hIσ5 hf
                  have hog2 : m_og σ7 < j := by have := og_serve (σ := σ5) (f := f) hf (hf9.resolve_left c_70).2; rw [eσ7]; omega
                  refine lv_aload_n hx hb dX7_run_161 rfl (lv_at hl 1 rfl) ?_
                  refine vp_callSi (W.runV (As := []) (rest := []) ⟨hx, hb, hml, hown, hg⟩ (m_ReplenishRulesModel_next l G cA ad σ7 hIσ7) (cwV 0 hg (gV qM_X7_177 qI_X7_next qS_X7_next qN_X7 kX7_next) rfl rfl rfl (by decide +kernel) ⟨Nat.le_of_ble_eq_true rfl, Nat.le_of_ble_eq_true rfl⟩) (mm_pv hK hP (va_recv hK hP (ci := 7) (q0 := 0) rfl ml_obj)) rfl rfl hl.1 rfl (lv_room (Nat.le_of_ble_eq_true rfl)) dX7_run_162 ⟨Nat.le_of_ble_eq_true rfl, Nat.le_of_ble_eq_true rfl⟩) (nm_e ?_)
                  refine lv_istore_n (lv' := [(1, .int (m_next σ7)), (0, .ref (ad 0))]) hx hb dX7_run_165 rfl hl (by decide) rfl (fun ls hl => ?_)
                  refine lv_goto (tgt := 68) hx hb dX7_run_166 (by decide) ?_
                  exact IH (m_next σ7) σ7 H locs ls ⟨hIσ7, next_in σ7, hog2⟩ (by rw [outer_step c_70 c_79, eσ7]) hP hS (lv_sub hl [0, 1] rfl)
          · intro H locs ls hP hS hl
            rw [e3] at hP
            have eS : m_outer 17 (m_next (m_run0 σ)) (m_run0 σ) = m_runS σ := (show m_runS σ = _ from if_pos (by rw [eσ1] at c_25; exact c_25)).symm
            rw [eS] at hP
            have hl : lv_has ls 5 [(0, .ref (ad 0))] := hl
            refine lv_aload_n hx hb dX7_run_169 rfl (lv_at hl 0 rfl) ?_
            refine va_get (D := G) (ci := 7) (v := .int ((m_runS σ) 23 0)) (C := RX7) (T := TX7) (N := 33) hx hb hg hinX7 hown hK hP 0 ml_obj rfl 23 (by decide) (hg _ qF_X7_174) (fun _ h9 => h9) rfl dX7_run_170 ?_
            exact W.iret (v := (m_runS σ) 23 0) hx hb hr (fun t ht hW => ⟨⟨_, (m_runS σ), rfl, ⟨(show m_runR σ = m_runS σ 23 0 from if_pos (by rw [eσ1] at c_25; exact c_25)).symm, rfl⟩, by rw [ht]; exact hP, va_K.moved hW.alike hK⟩, hS.F ht⟩) hS.2.2 dX7_run_173
        · -- if_icmpge not taken
          exact absurd (Int32.le_refl _) c_40
    · -- ifle not taken
      refine lv_iconst (v := 0) hx hb dX7_run_28 (by decide) ?_
      exact W.iret (v := 0) hx hb hr (fun t ht hW => ⟨⟨_, σ1, rfl, ⟨(show m_runR σ = 0 from if_neg (by rw [eσ1] at c_25; exact c_25)).symm, by rw [(show m_runS σ = up σ 0 0 (m_runT σ) from if_neg (by rw [eσ1] at c_25; exact c_25))]; exact eσ1⟩, by rw [ht]; exact hP, va_K.moved hW.alike hK⟩, hS.F ht⟩) hS.2.2 dX7_run_29
  · -- to the cut
    refine lv_aload_n hx hb dX7_run_0 rfl (lv_at hl 0 rfl) ?_
    refine lv_aload_n hx hb dX7_run_1 rfl (lv_at hl 0 rfl) ?_
    refine va_get (D := G) (ci := 7) (v := .ref (ad 11)) (C := RX7) (T := TX7) (N := 33) hx hb hg hinX7 hown hK hP 0 ml_obj rfl 11 (by decide) (hg _ qF_X7_41) (fun _ h9 => h9) rfl dX7_run_2 ?_
    refine lv_aload_n hx hb dX7_run_5 rfl (lv_at hl 0 rfl) ?_
    refine va_get (D := G) (ci := 7) (v := .int (σ 18 0)) (C := RX7) (T := TX7) (N := 33) hx hb hg hinX7 hown hK hP 0 ml_obj rfl 18 (by decide) (hg _ qF_X7_123) (fun _ h9 => h9) rfl dX7_run_6 ?_
    refine va_zald hx hb hK hP 11 1 ml_closed rfl (minv_today hI) dX7_run_9 ?_
    refine lv_if_eq (tgt := 17) hx hb dX7_run_10 (by decide) (fun c_10 => ?_) (fun c_10 => ?_)
    · -- ifeq taken
      refine lv_iconst (v := 0) hx hb dX7_run_17 (by decide) ?_
      exact lp_topi (show m_runT σ = 0 from by simp only [m_runT, if_pos c_10]) (hcut18 ls (lv_sub hl [0] rfl))
    · -- ifeq not taken
      refine lv_iconst (v := 1) hx hb dX7_run_13 (by decide) ?_
      refine lv_goto (tgt := 18) hx hb dX7_run_14 (by decide) ?_
      exact lp_topi (show m_runT σ = 1 from by simp only [m_runT, if_neg c_10]) (hcut18 ls (lv_sub hl [0] rfl))

set_option maxHeartbeats 4000000 in
set_option maxRecDepth 100000 in
theorem m_ReplenishRulesModel_move (l : Launch) (G : va_G) (cA : Nat → ClassId) (ad : Nat → Nat) (σ : St) (hJ : mm_inj ad) (hI : MInv σ) (a0 : Int32) (b0 : Int32) : Met l yX7_move (wX7_move :: wG) ({ frames := 1, cells := 0, slots := 0, locals := 22 }) (va_Pc [.ref (ad 0), .int a0, .int b0] (mmW G cA ad σ)) (va_Qi (fun r σ' => r = m_moveR σ a0 b0 ∧ σ' = m_moveS σ a0 b0) (mmW G cA ad) (mmA ad)) 0 0 (mmA ad) := by
  refine Met.ofW (cc := cX7_move) (maxL := 3) (ret := (some .int)) (by decide) rfl ?_
  intro p e s m args below meth c s₁ B hml hv
  obtain ⟨rfl, hP, hK⟩ := hv
  have hx := B.exec
  have hb := B.bytes
  have hr := B.returns
  have hts := atoms_spec (ws := wX7_move :: wG) B.pre
  have hg : ∀ w ∈ wG, w.before _ s = true := fun w h => hts w (List.mem_cons_of_mem _ h)
  have hown : s.vm.findClass RX7 = some m.cls := findClass_of_methodNamed B.named
  have hlocks := B.notSynchronized
  have hS : va_S (mmA ad) s.heap s.heap [] := va_S.rf
  have hl := lv_entry ([.ref (ad 0), .int a0, .int b0]) (n := 3) (Nat.le_of_ble_eq_true rfl)
  rw [lg_entry_eq]
  generalize (lg_sl ([.ref (ad 0), .int a0, .int b0]) ++ List.replicate (3 - (lg_sl ([.ref (ad 0), .int a0, .int b0])).length) Slot.unset).toArray = ls at hl ⊢
  have hl : lv_has ls 3 [(0, .ref (ad 0)), (1, .int a0), (2, .int b0)] := hl
  refine lp_cut (J := 34) (nL := 3) (LV := [(0, .ref (ad 0)), (1, .int a0), (2, .int b0)]) (st := [.int (m_moveT σ a0 b0), .ref (ad 0)]) (fun ls hl => ?_) (fun hcut34 => ?_)
  · have hl : lv_has ls 3 [(0, .ref (ad 0)), (1, .int a0), (2, .int b0)] := hl
    refine pp_put (D := G) (ci := 7) (v := .int (m_moveT σ a0 b0)) (ty := .int) (C := RX7) (T := TX7) (N := 33) hx hb hg hinX7 tyX7 tyX7_ok nmX7 hown hK hP (mm_D hJ) hS 0 ml_obj rfl 0 (by decide) (hg _ qF_X7_98) (fun _ h9 => h9) rfl (by decide +kernel) rfl rfl (Nat.le_of_ble_eq_true rfl) (ms_thrown) dX7_move_34 (fun H locs hP hS => ?_)
    obtain ⟨σ1, eσ1⟩ : ∃ z, z = up σ 0 0 (m_moveT σ a0 b0) := ⟨_, rfl⟩
    rw [← eσ1] at hP
    have hIσ1 : MInv σ1 := by rw [eσ1]; exact minv_up (by decide) hI
    refine lv_aload_n hx hb dX7_move_37 rfl (lv_at hl 0 rfl) ?_
    refine va_get (D := G) (ci := 7) (v := .int (σ1 0 0)) (C := RX7) (T := TX7) (N := 33) hx hb hg hinX7 hown hK hP 0 ml_obj rfl 0 (by decide) (hg _ qF_X7_98) (fun _ h9 => h9) rfl dX7_move_38 ?_
    refine lv_if_le (tgt := 46) hx hb dX7_move_41 (by decide) (fun c_41 => ?_) (fun c_41 => ?_)
    · -- ifle taken
      refine lv_iload_n hx hb dX7_move_46 rfl (lv_at hl 2 rfl) ?_
      by_cases c_47_0 : b0 = 0
      · refine lv_tableIn (tgt := 84) hx hb dX7_move_47 (by rw [c_47_0]; decide) (by rw [c_47_0]; decide) (by rw [c_47_0]; rfl) (by decide) ?_
        refine lv_aload_n hx hb dX7_move_84 rfl (lv_at hl 0 rfl) ?_
        refine va_get (D := G) (ci := 7) (v := .ref (ad 21)) (C := RX7) (T := TX7) (N := 33) hx hb hg hinX7 hown hK hP 0 ml_obj rfl 24 (by decide) (hg _ qF_X7_71) (fun _ h9 => h9) rfl dX7_move_85 ?_
        refine lv_iload_n hx hb dX7_move_88 rfl (lv_at hl 1 rfl) ?_
        refine va_iald hx hb hK hP 21 0 ml_from rfl (moveT_in hI (by rw [eσ1, up_eq] at c_41; exact c_41)) dX7_move_89 ?_
        exact W.iret (v := σ1 24 (nx a0)) hx hb hr (fun t ht hW => ⟨⟨_, σ1, rfl, ⟨by subst eσ1; simp only [m_moveR, if_pos c_41, if_pos c_47_0], eσ1⟩, by rw [ht]; exact hP, va_K.moved hW.alike hK⟩, hS.F ht⟩) hS.2.2 dX7_move_90
      by_cases c_47_1 : b0 = 1
      · refine lv_tableIn (tgt := 91) hx hb dX7_move_47 (by rw [c_47_1]; decide) (by rw [c_47_1]; decide) (by rw [c_47_1]; rfl) (by decide) ?_
        refine lv_aload_n hx hb dX7_move_91 rfl (lv_at hl 0 rfl) ?_
        refine va_get (D := G) (ci := 7) (v := .ref (ad 22)) (C := RX7) (T := TX7) (N := 33) hx hb hg hinX7 hown hK hP 0 ml_obj rfl 25 (by decide) (hg _ qF_X7_74) (fun _ h9 => h9) rfl dX7_move_92 ?_
        refine lv_iload_n hx hb dX7_move_95 rfl (lv_at hl 1 rfl) ?_
        refine va_iald hx hb hK hP 22 0 ml_to rfl (moveT_in hI (by rw [eσ1, up_eq] at c_41; exact c_41)) dX7_move_96 ?_
        exact W.iret (v := σ1 25 (nx a0)) hx hb hr (fun t ht hW => ⟨⟨_, σ1, rfl, ⟨by subst eσ1; simp only [m_moveR, if_pos c_41, if_neg c_47_0, if_pos c_47_1], eσ1⟩, by rw [ht]; exact hP, va_K.moved hW.alike hK⟩, hS.F ht⟩) hS.2.2 dX7_move_97
      by_cases c_47_2 : b0 = 2
      · refine lv_tableIn (tgt := 98) hx hb dX7_move_47 (by rw [c_47_2]; decide) (by rw [c_47_2]; decide) (by rw [c_47_2]; rfl) (by decide) ?_
        refine lv_aload_n hx hb dX7_move_98 rfl (lv_at hl 0 rfl) ?_
        refine va_get (D := G) (ci := 7) (v := .ref (ad 23)) (C := RX7) (T := TX7) (N := 33) hx hb hg hinX7 hown hK hP 0 ml_obj rfl 26 (by decide) (hg _ qF_X7_77) (fun _ h9 => h9) rfl dX7_move_99 ?_
        refine lv_iload_n hx hb dX7_move_102 rfl (lv_at hl 1 rfl) ?_
        refine va_iald hx hb hK hP 23 0 ml_many rfl (moveT_in hI (by rw [eσ1, up_eq] at c_41; exact c_41)) dX7_move_103 ?_
        exact W.iret (v := σ1 26 (nx a0)) hx hb hr (fun t ht hW => ⟨⟨_, σ1, rfl, ⟨by subst eσ1; simp only [m_moveR, if_pos c_41, if_neg c_47_0, if_neg c_47_1, if_pos c_47_2], eσ1⟩, by rw [ht]; exact hP, va_K.moved hW.alike hK⟩, hS.F ht⟩) hS.2.2 dX7_move_104
      by_cases c_47_3 : b0 = 3
      · refine lv_tableIn (tgt := 105) hx hb dX7_move_47 (by rw [c_47_3]; decide) (by rw [c_47_3]; decide) (by rw [c_47_3]; rfl) (by decide) ?_
        refine lv_aload_n hx hb dX7_move_105 rfl (lv_at hl 0 rfl) ?_
        refine va_get (D := G) (ci := 7) (v := .ref (ad 24)) (C := RX7) (T := TX7) (N := 33) hx hb hg hinX7 hown hK hP 0 ml_obj rfl 27 (by decide) (hg _ qF_X7_80) (fun _ h9 => h9) rfl dX7_move_106 ?_
        refine lv_iload_n hx hb dX7_move_109 rfl (lv_at hl 1 rfl) ?_
        refine va_iald hx hb hK hP 24 0 ml_needs rfl (moveT_in hI (by rw [eσ1, up_eq] at c_41; exact c_41)) dX7_move_110 ?_
        exact W.iret (v := σ1 27 (nx a0)) hx hb hr (fun t ht hW => ⟨⟨_, σ1, rfl, ⟨by subst eσ1; simp only [m_moveR, if_pos c_41, if_neg c_47_0, if_neg c_47_1, if_neg c_47_2, if_pos c_47_3], eσ1⟩, by rw [ht]; exact hP, va_K.moved hW.alike hK⟩, hS.F ht⟩) hS.2.2 dX7_move_111
      by_cases c_47_4 : b0 = 4
      · refine lv_tableIn (tgt := 112) hx hb dX7_move_47 (by rw [c_47_4]; decide) (by rw [c_47_4]; decide) (by rw [c_47_4]; rfl) (by decide) ?_
        refine lv_aload_n hx hb dX7_move_112 rfl (lv_at hl 0 rfl) ?_
        refine va_get (D := G) (ci := 7) (v := .ref (ad 25)) (C := RX7) (T := TX7) (N := 33) hx hb hg hinX7 hown hK hP 0 ml_obj rfl 28 (by decide) (hg _ qF_X7_83) (fun _ h9 => h9) rfl dX7_move_113 ?_
        refine lv_iload_n hx hb dX7_move_116 rfl (lv_at hl 1 rfl) ?_
        refine va_iald hx hb hK hP 25 0 ml_trips rfl (moveT_in hI (by rw [eσ1, up_eq] at c_41; exact c_41)) dX7_move_117 ?_
        exact W.iret (v := σ1 28 (nx a0)) hx hb hr (fun t ht hW => ⟨⟨_, σ1, rfl, ⟨by subst eσ1; simp only [m_moveR, if_pos c_41, if_neg c_47_0, if_neg c_47_1, if_neg c_47_2, if_neg c_47_3, if_pos c_47_4], eσ1⟩, by rw [ht]; exact hP, va_K.moved hW.alike hK⟩, hS.F ht⟩) hS.2.2 dX7_move_118
      by_cases c_47_5 : b0 = 5
      · refine lv_tableIn (tgt := 119) hx hb dX7_move_47 (by rw [c_47_5]; decide) (by rw [c_47_5]; decide) (by rw [c_47_5]; rfl) (by decide) ?_
        refine lv_aload_n hx hb dX7_move_119 rfl (lv_at hl 0 rfl) ?_
        refine va_get (D := G) (ci := 7) (v := .ref (ad 26)) (C := RX7) (T := TX7) (N := 33) hx hb hg hinX7 hown hK hP 0 ml_obj rfl 29 (by decide) (hg _ qF_X7_86) (fun _ h9 => h9) rfl dX7_move_120 ?_
        refine lv_iload_n hx hb dX7_move_123 rfl (lv_at hl 1 rfl) ?_
        refine va_zald hx hb hK hP 26 1 ml_isLast rfl (moveT_in hI (by rw [eσ1, up_eq] at c_41; exact c_41)) dX7_move_124 ?_
        refine lv_if_eq (tgt := 132) hx hb dX7_move_125 (by decide) (fun c_125 => ?_) (fun c_125 => ?_)
        · -- ifeq taken
          refine lv_iconst (v := 0) hx hb dX7_move_132 (by decide) ?_
          exact W.iret (v := 0) hx hb hr (fun t ht hW => ⟨⟨_, σ1, rfl, ⟨by subst eσ1; simp only [m_moveR, if_pos c_41, if_neg c_47_0, if_neg c_47_1, if_neg c_47_2, if_neg c_47_3, if_neg c_47_4, if_pos c_47_5, if_pos c_125], eσ1⟩, by rw [ht]; exact hP, va_K.moved hW.alike hK⟩, hS.F ht⟩) hS.2.2 dX7_move_133
        · -- ifeq not taken
          refine lv_iconst (v := 1) hx hb dX7_move_128 (by decide) ?_
          refine lv_goto (tgt := 133) hx hb dX7_move_129 (by decide) ?_
          exact W.iret (v := 1) hx hb hr (fun t ht hW => ⟨⟨_, σ1, rfl, ⟨by subst eσ1; simp only [m_moveR, if_pos c_41, if_neg c_47_0, if_neg c_47_1, if_neg c_47_2, if_neg c_47_3, if_neg c_47_4, if_pos c_47_5, if_neg c_125], eσ1⟩, by rw [ht]; exact hP, va_K.moved hW.alike hK⟩, hS.F ht⟩) hS.2.2 dX7_move_133
      refine lv_tableOut (tgt := 134) hx hb dX7_move_47 (by have z0 := lv_neT c_47_0 (a := 0) rfl; have z1 := lv_neT c_47_1 (a := 1) rfl; have z2 := lv_neT c_47_2 (a := 2) rfl; have z3 := lv_neT c_47_3 (a := 3) rfl; have z4 := lv_neT c_47_4 (a := 4) rfl; have z5 := lv_neT c_47_5 (a := 5) rfl; omega) (by decide) ?_
      refine lv_aload_n hx hb dX7_move_134 rfl (lv_at hl 0 rfl) ?_
      refine va_get (D := G) (ci := 7) (v := .ref (ad 27)) (C := RX7) (T := TX7) (N := 33) hx hb hg hinX7 hown hK hP 0 ml_obj rfl 30 (by decide) (hg _ qF_X7_89) (fun _ h9 => h9) rfl dX7_move_135 ?_
      refine lv_iload_n hx hb dX7_move_138 rfl (lv_at hl 1 rfl) ?_
      refine va_zald hx hb hK hP 27 1 ml_isDone rfl (moveT_in hI (by rw [eσ1, up_eq] at c_41; exact c_41)) dX7_move_139 ?_
      refine lv_if_eq (tgt := 147) hx hb dX7_move_140 (by decide) (fun c_140 => ?_) (fun c_140 => ?_)
      · -- ifeq taken
        refine lv_iconst (v := 0) hx hb dX7_move_147 (by decide) ?_
        exact W.iret (v := 0) hx hb hr (fun t ht hW => ⟨⟨_, σ1, rfl, ⟨by subst eσ1; simp only [m_moveR, if_pos c_41, if_neg c_47_0, if_neg c_47_1, if_neg c_47_2, if_neg c_47_3, if_neg c_47_4, if_neg c_47_5, if_pos c_140], eσ1⟩, by rw [ht]; exact hP, va_K.moved hW.alike hK⟩, hS.F ht⟩) hS.2.2 dX7_move_148
      · -- ifeq not taken
        refine lv_iconst (v := 1) hx hb dX7_move_143 (by decide) ?_
        refine lv_goto (tgt := 148) hx hb dX7_move_144 (by decide) ?_
        exact W.iret (v := 1) hx hb hr (fun t ht hW => ⟨⟨_, σ1, rfl, ⟨by subst eσ1; simp only [m_moveR, if_pos c_41, if_neg c_47_0, if_neg c_47_1, if_neg c_47_2, if_neg c_47_3, if_neg c_47_4, if_neg c_47_5, if_neg c_140], eσ1⟩, by rw [ht]; exact hP, va_K.moved hW.alike hK⟩, hS.F ht⟩) hS.2.2 dX7_move_148
    · -- ifle not taken
      refine lv_iconst (v := 0) hx hb dX7_move_44 (by decide) ?_
      exact W.iret (v := 0) hx hb hr (fun t ht hW => ⟨⟨_, σ1, rfl, ⟨by subst eσ1; simp only [m_moveR, if_neg c_41], eσ1⟩, by rw [ht]; exact hP, va_K.moved hW.alike hK⟩, hS.F ht⟩) hS.2.2 dX7_move_45
  · -- to the cut
    refine lv_aload_n hx hb dX7_move_0 rfl (lv_at hl 0 rfl) ?_
    refine lv_iload_n hx hb dX7_move_1 rfl (lv_at hl 1 rfl) ?_
    refine lv_iconst (v := 0) hx hb dX7_move_2 (by decide) ?_
    refine lv_aload_n hx hb dX7_move_3 rfl (lv_at hl 0 rfl) ?_
    refine va_get (D := G) (ci := 7) (v := .int (σ 23 0)) (C := RX7) (T := TX7) (N := 33) hx hb hg hinX7 hown hK hP 0 ml_obj rfl 23 (by decide) (hg _ qF_X7_174) (fun _ h9 => h9) rfl dX7_move_4 ?_
    refine lv_iconst (v := 1) hx hb dX7_move_7 (by decide) ?_
    refine lv_isub hx hb dX7_move_8 ?_
    refine vp_callSi (W.runS (As := [.int a0, .int 0, .int ((σ 23 0) - 1)]) (rest := [.ref (ad 0)]) ⟨hx, hb, hml, hown, hg⟩ (m_ReplenishRulesModel_in l a0 0 ((σ 23 0) - 1)) (cwS 3 hg (gS qM_X7_102 qT_X7_in qN_X7 kX7_in) rfl rfl rfl (by decide +kernel) ⟨Nat.le_of_ble_eq_true rfl, Nat.le_of_ble_eq_true rfl⟩) ⟨fun _ _ _ _ q => q, fun _ _ _ => ⟨rfl, trivial⟩⟩ rfl rfl hl.1 rfl (lv_room (Nat.le_of_ble_eq_true rfl)) dX7_move_9 ⟨Nat.le_of_ble_eq_true rfl, Nat.le_of_ble_eq_true rfl⟩) (nm_e ?_)
    refine lv_if_ne (tgt := 19) hx hb dX7_move_12 (by decide) (fun c_12 => ?_) (fun c_12 => ?_)
    · -- ifne taken
      refine lv_iload_n hx hb dX7_move_19 rfl (lv_at hl 2 rfl) ?_
      refine lv_iconst (v := 0) hx hb dX7_move_20 (by decide) ?_
      refine lv_bipush (v := 6) hx hb dX7_move_21 (by decide) ?_
      refine vp_callSi (W.runS (As := [.int b0, .int 0, .int 6]) (rest := [.ref (ad 0)]) ⟨hx, hb, hml, hown, hg⟩ (m_ReplenishRulesModel_in l b0 0 6) (cwS 3 hg (gS qM_X7_102 qT_X7_in qN_X7 kX7_in) rfl rfl rfl (by decide +kernel) ⟨Nat.le_of_ble_eq_true rfl, Nat.le_of_ble_eq_true rfl⟩) ⟨fun _ _ _ _ q => q, fun _ _ _ => ⟨rfl, trivial⟩⟩ rfl rfl hl.1 rfl (lv_room (Nat.le_of_ble_eq_true rfl)) dX7_move_23 ⟨Nat.le_of_ble_eq_true rfl, Nat.le_of_ble_eq_true rfl⟩) (nm_e ?_)
      refine lv_if_ne (tgt := 33) hx hb dX7_move_26 (by decide) (fun c_26 => ?_) (fun c_26 => ?_)
      · -- ifne taken
        refine lv_iconst (v := 0) hx hb dX7_move_33 (by decide) ?_
        exact lp_topi (show m_moveT σ a0 b0 = 0 from by simp only [m_moveT, if_neg c_12, if_neg c_26]) (hcut34 ls (lv_sub hl [0, 1, 2] rfl))
      · -- ifne not taken
        refine lv_iconst (v := 2) hx hb dX7_move_29 (by decide) ?_
        refine lv_goto (tgt := 34) hx hb dX7_move_30 (by decide) ?_
        exact lp_topi (show m_moveT σ a0 b0 = 2 from by simp only [m_moveT, if_neg c_12, if_pos c_26]) (hcut34 ls (lv_sub hl [0, 1, 2] rfl))
    · -- ifne not taken
      refine lv_iconst (v := 1) hx hb dX7_move_15 (by decide) ?_
      refine lv_goto (tgt := 34) hx hb dX7_move_16 (by decide) ?_
      exact lp_topi (show m_moveT σ a0 b0 = 1 from by simp only [m_moveT, if_pos c_12]) (hcut34 ls (lv_sub hl [0, 1, 2] rfl))

set_option maxHeartbeats 4000000 in
set_option maxRecDepth 100000 in
theorem m_ReplenishRulesModel_done (l : Launch) (G : va_G) (cA : Nat → ClassId) (ad : Nat → Nat) (σ : St) (hJ : mm_inj ad) (hI : MInv σ) (a0 : Int32) : Met l yX7_done (wX7_done :: wG) ({ frames := 1, cells := 0, slots := 0, locals := 22 }) (va_Pc [.ref (ad 0), .int a0] (mmW G cA ad σ)) (va_Qv (fun σ' => σ' = m_doneS σ a0) (mmW G cA ad) (mmA ad)) 0 0 (mmA ad) := by
  refine Met.ofW (cc := cX7_done) (maxL := 6) (ret := none) (by decide) rfl ?_
  intro p e s m args below meth c s₁ B hml hv
  obtain ⟨rfl, hP, hK⟩ := hv
  have hx := B.exec
  have hb := B.bytes
  have hr := B.returns
  have hts := atoms_spec (ws := wX7_done :: wG) B.pre
  have hg : ∀ w ∈ wG, w.before _ s = true := fun w h => hts w (List.mem_cons_of_mem _ h)
  have hown : s.vm.findClass RX7 = some m.cls := findClass_of_methodNamed B.named
  have hlocks := B.notSynchronized
  have hS : va_S (mmA ad) s.heap s.heap [] := va_S.rf
  have hl := lv_entry ([.ref (ad 0), .int a0]) (n := 6) (Nat.le_of_ble_eq_true rfl)
  rw [lg_entry_eq]
  generalize (lg_sl ([.ref (ad 0), .int a0]) ++ List.replicate (6 - (lg_sl ([.ref (ad 0), .int a0])).length) Slot.unset).toArray = ls at hl ⊢
  have hl : lv_has ls 6 [(0, .ref (ad 0)), (1, .int a0)] := hl
  refine lv_iload_n hx hb dX7_done_0 rfl (lv_at hl 1 rfl) ?_
  refine lv_iconst (v := 0) hx hb dX7_done_1 (by decide) ?_
  refine lv_aload_n hx hb dX7_done_2 rfl (lv_at hl 0 rfl) ?_
  refine va_get (D := G) (ci := 7) (v := .int (σ 23 0)) (C := RX7) (T := TX7) (N := 33) hx hb hg hinX7 hown hK hP 0 ml_obj rfl 23 (by decide) (hg _ qF_X7_174) (fun _ h9 => h9) rfl dX7_done_3 ?_
  refine lv_iconst (v := 1) hx hb dX7_done_6 (by decide) ?_
  refine lv_isub hx hb dX7_done_7 ?_
  refine vp_callSi (W.runS (As := [.int a0, .int 0, .int ((σ 23 0) - 1)]) (rest := []) ⟨hx, hb, hml, hown, hg⟩ (m_ReplenishRulesModel_in l a0 0 ((σ 23 0) - 1)) (cwS 3 hg (gS qM_X7_102 qT_X7_in qN_X7 kX7_in) rfl rfl rfl (by decide +kernel) ⟨Nat.le_of_ble_eq_true rfl, Nat.le_of_ble_eq_true rfl⟩) ⟨fun _ _ _ _ q => q, fun _ _ _ => ⟨rfl, trivial⟩⟩ rfl rfl hl.1 rfl (lv_room (Nat.le_of_ble_eq_true rfl)) dX7_done_8 ⟨Nat.le_of_ble_eq_true rfl, Nat.le_of_ble_eq_true rfl⟩) (nm_e ?_)
  refine lv_if_ne (tgt := 20) hx hb dX7_done_11 (by decide) (fun c_11 => ?_) (fun c_11 => ?_)
  · -- ifne taken
    refine lv_aload_n hx hb dX7_done_20 rfl (lv_at hl 0 rfl) ?_
    refine va_get (D := G) (ci := 7) (v := .ref (ad 21)) (C := RX7) (T := TX7) (N := 33) hx hb hg hinX7 hown hK hP 0 ml_obj rfl 24 (by decide) (hg _ qF_X7_71) (fun _ h9 => h9) rfl dX7_done_21 ?_
    refine lv_iload_n hx hb dX7_done_24 rfl (lv_at hl 1 rfl) ?_
    refine va_iald hx hb hK hP 21 0 ml_from rfl (mvi_in hI c_11) dX7_done_25 ?_
    refine lv_istore_n (lv' := [(2, .int (σ 24 (nx a0))), (0, .ref (ad 0)), (1, .int a0)]) hx hb dX7_done_26 rfl hl (by decide) rfl (fun ls hl => ?_)
    refine lv_aload_n hx hb dX7_done_27 rfl (lv_at hl 1 rfl) ?_
    refine va_get (D := G) (ci := 7) (v := .ref (ad 22)) (C := RX7) (T := TX7) (N := 33) hx hb hg hinX7 hown hK hP 0 ml_obj rfl 25 (by decide) (hg _ qF_X7_74) (fun _ h9 => h9) rfl dX7_done_28 ?_
    refine lv_iload_n hx hb dX7_done_31 rfl (lv_at hl 2 rfl) ?_
    refine va_iald hx hb hK hP 22 0 ml_to rfl (mvi_in hI c_11) dX7_done_32 ?_
    refine lv_istore_n (lv' := [(3, .int (σ 25 (nx a0))), (2, .int (σ 24 (nx a0))), (0, .ref (ad 0)), (1, .int a0)]) hx hb dX7_done_33 rfl hl (by decide) rfl (fun ls hl => ?_)
    refine lv_aload_n hx hb dX7_done_34 rfl (lv_at hl 2 rfl) ?_
    refine va_get (D := G) (ci := 7) (v := .ref (ad 7)) (C := RX7) (T := TX7) (N := 33) hx hb hg hinX7 hown hK hP 0 ml_obj rfl 7 (by decide) (hg _ qF_X7_29) (fun _ h9 => h9) rfl dX7_done_35 ?_
    refine lv_iload_n hx hb dX7_done_38 rfl (lv_at hl 0 rfl) ?_
    refine va_iald hx hb hK hP 7 0 ml_faceGood rfl (minv_mv hI (vp_lt (mvi_in hI c_11))).2 dX7_done_39 ?_
    refine lv_istore (lv' := [(4, .int (σ 7 (nx (σ 25 (nx a0))))), (3, .int (σ 25 (nx a0))), (2, .int (σ 24 (nx a0))), (0, .ref (ad 0)), (1, .int a0)]) hx hb dX7_done_40 hl (by decide) rfl (fun ls hl => ?_)
    refine lp_cut (J := 72) (nL := 6) (LV := [(4, .int (σ 7 (nx (σ 25 (nx a0))))), (3, .int (σ 25 (nx a0))), (2, .int (σ 24 (nx a0))), (0, .ref (ad 0)), (1, .int a0)]) (st := [.int (m_lacks σ a0)]) (fun ls hl => ?_) (fun hcut72 => ?_)
    · have hl : lv_has ls 6 [(4, .int (σ 7 (nx (σ 25 (nx a0))))), (3, .int (σ 25 (nx a0))), (2, .int (σ 24 (nx a0))), (0, .ref (ad 0)), (1, .int a0)] := hl
      refine lv_istore (lv' := [(5, .int (m_lacks σ a0)), (4, .int (σ 7 (nx (σ 25 (nx a0))))), (3, .int (σ 25 (nx a0))), (2, .int (σ 24 (nx a0))), (0, .ref (ad 0)), (1, .int a0)]) hx hb dX7_done_72 hl (by decide) rfl (fun ls hl => ?_)
      refine lp_cut (J := 130) (nL := 6) (LV := [(5, .int (m_lacks σ a0)), (4, .int (σ 7 (nx (σ 25 (nx a0))))), (3, .int (σ 25 (nx a0))), (2, .int (σ 24 (nx a0))), (0, .ref (ad 0)), (1, .int a0)]) (st := [.int (m_doneT σ a0), .ref (ad 0)]) (fun ls hl => ?_) (fun hcut130 => ?_)
      · have hl : lv_has ls 6 [(5, .int (m_lacks σ a0)), (4, .int (σ 7 (nx (σ 25 (nx a0))))), (3, .int (σ 25 (nx a0))), (2, .int (σ 24 (nx a0))), (0, .ref (ad 0)), (1, .int a0)] := hl
        refine pp_put (D := G) (ci := 7) (v := .int (m_doneT σ a0)) (ty := .int) (C := RX7) (T := TX7) (N := 33) hx hb hg hinX7 tyX7 tyX7_ok nmX7 hown hK hP (mm_D hJ) hS 0 ml_obj rfl 0 (by decide) (hg _ qF_X7_98) (fun _ h9 => h9) rfl (by decide +kernel) rfl rfl (Nat.le_of_ble_eq_true rfl) (ms_thrown) dX7_done_130 (fun H locs hP hS => ?_)
        obtain ⟨σ1, eσ1⟩ : ∃ z, z = up σ 0 0 (m_doneT σ a0) := ⟨_, rfl⟩
        rw [← eσ1] at hP
        have hIσ1 : MInv σ1 := by rw [eσ1]; exact minv_up (by decide) hI
        refine lv_aload_n hx hb dX7_done_133 rfl (lv_at hl 4 rfl) ?_
        refine va_get (D := G) (ci := 7) (v := .int (σ1 0 0)) (C := RX7) (T := TX7) (N := 33) hx hb hg hinX7 hown hK hP 0 ml_obj rfl 0 (by decide) (hg _ qF_X7_98) (fun _ h9 => h9) rfl dX7_done_134 ?_
        refine lv_if_ne (tgt := 181) hx hb dX7_done_137 (by decide) (fun c_137 => ?_) (fun c_137 => ?_)
        · -- ifne taken
          exact W.vret hx hb hr (fun t ht hW => ⟨⟨σ1, rfl, by subst eσ1; simp only [m_doneS, if_neg c_11, if_neg c_137], by rw [ht]; exact hP, va_K.moved hW.alike hK⟩, hS.F ht⟩) hS.2.2 dX7_done_181
        · -- ifne not taken
          refine lv_aload_n hx hb dX7_done_140 rfl (lv_at hl 4 rfl) ?_
          refine lv_iload_n hx hb dX7_done_141 rfl (lv_at hl 3 rfl) ?_
          refine lv_aload_n hx hb dX7_done_142 rfl (lv_at hl 4 rfl) ?_
          refine va_get (D := G) (ci := 7) (v := .ref (ad 23)) (C := RX7) (T := TX7) (N := 33) hx hb hg hinX7 hown hK hP 0 ml_obj rfl 26 (by decide) (hg _ qF_X7_77) (fun _ h9 => h9) rfl dX7_done_143 ?_
          refine lv_iload_n hx hb dX7_done_146 rfl (lv_at hl 5 rfl) ?_
          refine va_iald hx hb hK hP 23 0 ml_many rfl (mvi_in hI c_11) dX7_done_147 ?_
          refine va_callv (va_runV (As := [.int (σ 24 (nx a0)), .int (σ1 26 (nx a0))]) (rest := []) ⟨hx, hb, hml, hown, hg⟩ (m_ReplenishRulesModel_takes l G cA ad σ1 hJ (σ 24 (nx a0)) (σ1 26 (nx a0)) (minv_mv hI (vp_lt (mvi_in hI c_11))).1) (cwV 2 hg (gV qM_X7_119 qI_X7_takes qS_X7_takes qN_X7 kX7_takes) rfl rfl rfl (by decide +kernel) ⟨Nat.le_of_ble_eq_true rfl, Nat.le_of_ble_eq_true rfl⟩) (mm_pv hK hP (va_recv hK hP (ci := 7) (q0 := 0) rfl ml_obj)) rfl rfl hl.1 rfl (lv_room (Nat.le_of_ble_eq_true rfl)) dX7_done_148 ⟨Nat.le_of_ble_eq_true rfl, Nat.le_of_ble_eq_true rfl⟩) hS (fun q _ h => h) (fun q h => h) (fun σ2 t H locs ht hvm eσ2 hB hz9 hk9 hS => ?_)
          have hP := hB.1
          rw [ht] at hP
          have hIσ2 : MInv σ2 := by rw [eσ2]; exact minv_takes hIσ1
          refine lv_aload_n hx hb dX7_done_151 rfl (lv_at hl 4 rfl) ?_
          refine va_get (D := G) (ci := 7) (v := .ref (ad 3)) (C := RX7) (T := TX7) (N := 33) hx hb hg hinX7 hown hK hP 0 ml_obj rfl 3 (by decide) (hg _ qF_X7_16) (fun _ h9 => h9) rfl dX7_done_152 ?_
          refine lv_iload_n hx hb dX7_done_155 rfl (lv_at hl 2 rfl) ?_
          refine lv_dup2_11 hx hb dX7_done_156 rfl rfl ?_
          refine va_iald hx hb hK hP 3 0 ml_pieces rfl (minv_mv hI (vp_lt (mvi_in hI c_11))).2 dX7_done_157 ?_
          refine lv_aload_n hx hb dX7_done_158 rfl (lv_at hl 4 rfl) ?_
          refine va_get (D := G) (ci := 7) (v := .ref (ad 23)) (C := RX7) (T := TX7) (N := 33) hx hb hg hinX7 hown hK hP 0 ml_obj rfl 26 (by decide) (hg _ qF_X7_77) (fun _ h9 => h9) rfl dX7_done_159 ?_
          refine lv_iload_n hx hb dX7_done_162 rfl (lv_at hl 5 rfl) ?_
          refine va_iald hx hb hK hP 23 0 ml_many rfl (mvi_in hI c_11) dX7_done_163 ?_
          refine lv_iadd hx hb dX7_done_164 ?_
          refine pp_iast (x := ((σ2 3 (nx (σ 25 (nx a0)))) + (σ2 26 (nx a0)))) hx hb hK hP (mm_D hJ) hS 3 0 ml_pieces rfl (minv_mv hI (vp_lt (mvi_in hI c_11))).2 (ms_pieces) dX7_done_165 (fun H locs hP hS => ?_)
          obtain ⟨σ3, eσ3⟩ : ∃ z, z = up σ2 3 (nx (σ 25 (nx a0))) ((σ2 3 (nx (σ 25 (nx a0)))) + (σ2 26 (nx a0))) := ⟨_, rfl⟩
          rw [← eσ3] at hP
          have hIσ3 : MInv σ3 := by rw [eσ3]; exact minv_up (by decide) hIσ2
          refine lv_aload_n hx hb dX7_done_166 rfl (lv_at hl 4 rfl) ?_
          refine va_get (D := G) (ci := 7) (v := .ref (ad 4)) (C := RX7) (T := TX7) (N := 33) hx hb hg hinX7 hown hK hP 0 ml_obj rfl 4 (by decide) (hg _ qF_X7_19) (fun _ h9 => h9) rfl dX7_done_167 ?_
          refine lv_iload_n hx hb dX7_done_170 rfl (lv_at hl 2 rfl) ?_
          refine lv_iload hx hb dX7_done_171 (lv_at hl 1 rfl) ?_
          refine pp_iast (x := (σ 7 (nx (σ 25 (nx a0))))) hx hb hK hP (mm_D hJ) hS 4 0 ml_good rfl (minv_mv hI (vp_lt (mvi_in hI c_11))).2 (ms_good) dX7_done_173 (fun H locs hP hS => ?_)
          obtain ⟨σ4, eσ4⟩ : ∃ z, z = up σ3 4 (nx (σ 25 (nx a0))) (σ 7 (nx (σ 25 (nx a0)))) := ⟨_, rfl⟩
          rw [← eσ4] at hP
          have hIσ4 : MInv σ4 := by rw [eσ4]; exact minv_up (by decide) hIσ3
          refine lv_aload_n hx hb dX7_done_174 rfl (lv_at hl 4 rfl) ?_
          refine va_get (D := G) (ci := 7) (v := .ref (ad 27)) (C := RX7) (T := TX7) (N := 33) hx hb hg hinX7 hown hK hP 0 ml_obj rfl 30 (by decide) (hg _ qF_X7_89) (fun _ h9 => h9) rfl dX7_done_175 ?_
          refine lv_iload_n hx hb dX7_done_178 rfl (lv_at hl 5 rfl) ?_
          refine lv_iconst (v := 1) hx hb dX7_done_179 (by decide) ?_
          refine pp_zast (x := 1) hx hb hK hP (mm_D hJ) hS 27 1 ml_isDone rfl (by decide) (mvi_in hI c_11) (ms_isDone) dX7_done_180 (fun H locs hP hS => ?_)
          obtain ⟨σ5, eσ5⟩ : ∃ z, z = up σ4 30 (nx a0) 1 := ⟨_, rfl⟩
          rw [← eσ5] at hP
          have hIσ5 : MInv σ5 := by rw [eσ5]; exact minv_up (by decide) hIσ4
          exact W.vret hx hb hr (fun t ht hW => ⟨⟨σ5, rfl, by subst eσ1 eσ2 eσ3 eσ4 eσ5; simp only [m_doneS, if_neg c_11, if_pos c_137], by rw [ht]; exact hP, va_K.moved hW.alike hK⟩, hS.F ht⟩) hS.2.2 dX7_done_181
      · -- to the cut
        refine lv_aload_n hx hb dX7_done_74 rfl (lv_at hl 4 rfl) ?_
        refine lv_aload_n hx hb dX7_done_75 rfl (lv_at hl 4 rfl) ?_
        refine va_get (D := G) (ci := 7) (v := .ref (ad 27)) (C := RX7) (T := TX7) (N := 33) hx hb hg hinX7 hown hK hP 0 ml_obj rfl 30 (by decide) (hg _ qF_X7_89) (fun _ h9 => h9) rfl dX7_done_76 ?_
        refine lv_iload_n hx hb dX7_done_79 rfl (lv_at hl 5 rfl) ?_
        refine va_zald hx hb hK hP 27 1 ml_isDone rfl (mvi_in hI c_11) dX7_done_80 ?_
        refine lv_if_ne (tgt := 99) hx hb dX7_done_81 (by decide) (fun c_81 => ?_) (fun c_81 => ?_)
        · -- ifne taken
          refine lv_iconst (v := 2) hx hb dX7_done_99 (by decide) ?_
          refine lv_goto (tgt := 130) hx hb dX7_done_100 (by decide) ?_
          exact lp_topi (show m_doneT σ a0 = 2 from by simp only [m_doneT, if_neg c_81]) (hcut130 ls (lv_sub hl [0, 1, 2, 3, 4, 5] rfl))
        · -- ifne not taken
          refine lv_iload hx hb dX7_done_84 (lv_at hl 0 rfl) ?_
          refine lv_if_ne (tgt := 99) hx hb dX7_done_86 (by decide) (fun c_86 => ?_) (fun c_86 => ?_)
          · -- ifne taken
            refine lv_iconst (v := 2) hx hb dX7_done_99 (by decide) ?_
            refine lv_goto (tgt := 130) hx hb dX7_done_100 (by decide) ?_
            exact lp_topi (show m_doneT σ a0 = 2 from by simp only [m_doneT, if_pos c_81, if_neg c_86]) (hcut130 ls (lv_sub hl [0, 1, 2, 3, 4, 5] rfl))
          · -- ifne not taken
            refine lv_aload_n hx hb dX7_done_89 rfl (lv_at hl 4 rfl) ?_
            refine lv_iload_n hx hb dX7_done_90 rfl (lv_at hl 2 rfl) ?_
            refine lv_iload hx hb dX7_done_91 (lv_at hl 1 rfl) ?_
            refine vp_callSi (W.runV (As := [.int (σ 25 (nx a0)), .int (σ 7 (nx (σ 25 (nx a0))))]) (rest := [.ref (ad 0)]) ⟨hx, hb, hml, hown, hg⟩ (m_ReplenishRulesModel_holdsOther l G cA ad σ (σ 25 (nx a0)) (σ 7 (nx (σ 25 (nx a0)))) (minv_mv hI (vp_lt (mvi_in hI c_11))).2) (cwV 2 hg (gV qM_X7_111 qI_X7_holdsOther qS_X7_holdsOther qN_X7 kX7_holdsOther) rfl rfl rfl (by decide +kernel) ⟨Nat.le_of_ble_eq_true rfl, Nat.le_of_ble_eq_true rfl⟩) (mm_pv hK hP (va_recv hK hP (ci := 7) (q0 := 0) rfl ml_obj)) rfl rfl hl.1 rfl (lv_room (Nat.le_of_ble_eq_true rfl)) dX7_done_93 ⟨Nat.le_of_ble_eq_true rfl, Nat.le_of_ble_eq_true rfl⟩) (nm_e ?_)
            refine lv_if_eq (tgt := 103) hx hb dX7_done_96 (by decide) (fun c_96 => ?_) (fun c_96 => ?_)
            · -- ifeq taken
              refine lv_aload_n hx hb dX7_done_103 rfl (lv_at hl 4 rfl) ?_
              refine va_get (D := G) (ci := 7) (v := .ref (ad 3)) (C := RX7) (T := TX7) (N := 33) hx hb hg hinX7 hown hK hP 0 ml_obj rfl 3 (by decide) (hg _ qF_X7_16) (fun _ h9 => h9) rfl dX7_done_104 ?_
              refine lv_iload_n hx hb dX7_done_107 rfl (lv_at hl 2 rfl) ?_
              refine va_iald hx hb hK hP 3 0 ml_pieces rfl (minv_mv hI (vp_lt (mvi_in hI c_11))).2 dX7_done_108 ?_
              refine lv_aload_n hx hb dX7_done_109 rfl (lv_at hl 4 rfl) ?_
              refine va_get (D := G) (ci := 7) (v := .ref (ad 23)) (C := RX7) (T := TX7) (N := 33) hx hb hg hinX7 hown hK hP 0 ml_obj rfl 26 (by decide) (hg _ qF_X7_77) (fun _ h9 => h9) rfl dX7_done_110 ?_
              refine lv_iload_n hx hb dX7_done_113 rfl (lv_at hl 5 rfl) ?_
              refine va_iald hx hb hK hP 23 0 ml_many rfl (mvi_in hI c_11) dX7_done_114 ?_
              refine lv_iadd hx hb dX7_done_115 ?_
              refine lv_aload_n hx hb dX7_done_116 rfl (lv_at hl 4 rfl) ?_
              refine va_get (D := G) (ci := 7) (v := .ref (ad 1)) (C := RX7) (T := TX7) (N := 33) hx hb hg hinX7 hown hK hP 0 ml_obj rfl 1 (by decide) (hg _ qF_X7_7) (fun _ h9 => h9) rfl dX7_done_117 ?_
              refine lv_iload_n hx hb dX7_done_120 rfl (lv_at hl 2 rfl) ?_
              refine va_iald hx hb hK hP 1 0 ml_room rfl (minv_mv hI (vp_lt (mvi_in hI c_11))).2 dX7_done_121 ?_
              refine lv_icmp_le (tgt := 129) hx hb dX7_done_122 (by decide) (fun c_122 => ?_) (fun c_122 => ?_)
              · -- if_icmple taken
                refine lv_iconst (v := 0) hx hb dX7_done_129 (by decide) ?_
                exact lp_topi (show m_doneT σ a0 = 0 from by simp only [m_doneT, if_pos c_81, if_pos c_86, if_pos c_96, if_pos c_122]) (hcut130 ls (lv_sub hl [0, 1, 2, 3, 4, 5] rfl))
              · -- if_icmple not taken
                refine lv_iconst (v := 3) hx hb dX7_done_125 (by decide) ?_
                refine lv_goto (tgt := 130) hx hb dX7_done_126 (by decide) ?_
                exact lp_topi (show m_doneT σ a0 = 3 from by simp only [m_doneT, if_pos c_81, if_pos c_86, if_pos c_96, if_neg c_122]) (hcut130 ls (lv_sub hl [0, 1, 2, 3, 4, 5] rfl))
            · -- ifeq not taken
              refine lv_iconst (v := 2) hx hb dX7_done_99 (by decide) ?_
              refine lv_goto (tgt := 130) hx hb dX7_done_100 (by decide) ?_
              exact lp_topi (show m_doneT σ a0 = 2 from by simp only [m_doneT, if_pos c_81, if_pos c_86, if_neg c_96]) (hcut130 ls (lv_sub hl [0, 1, 2, 3, 4, 5] rfl))
    · -- to the cut
      refine lv_aload_n hx hb dX7_done_42 rfl (lv_at hl 3 rfl) ?_
      refine va_get (D := G) (ci := 7) (v := .ref (ad 4)) (C := RX7) (T := TX7) (N := 33) hx hb hg hinX7 hown hK hP 0 ml_obj rfl 4 (by decide) (hg _ qF_X7_19) (fun _ h9 => h9) rfl dX7_done_43 ?_
      refine lv_iload_n hx hb dX7_done_46 rfl (lv_at hl 2 rfl) ?_
      refine va_iald hx hb hK hP 4 0 ml_good rfl (minv_mv hI (vp_lt (mvi_in hI c_11))).1 dX7_done_47 ?_
      refine lv_iload hx hb dX7_done_48 (lv_at hl 0 rfl) ?_
      refine lv_icmp_ne (tgt := 67) hx hb dX7_done_50 (by decide) (fun c_50 => ?_) (fun c_50 => ?_)
      · -- if_icmpne taken
        refine lv_iconst (v := 1) hx hb dX7_done_67 (by decide) ?_
        refine lv_goto (tgt := 72) hx hb dX7_done_68 (by decide) ?_
        exact lp_topi (show m_lacks σ a0 = 1 from by simp only [m_lacks, if_neg c_50]) (hcut72 ls (lv_sub hl [0, 1, 2, 3, 4] rfl))
      · -- if_icmpne not taken
        refine lv_aload_n hx hb dX7_done_53 rfl (lv_at hl 3 rfl) ?_
        refine lv_iload_n hx hb dX7_done_54 rfl (lv_at hl 2 rfl) ?_
        refine vp_callSi (W.runV (As := [.int (σ 24 (nx a0))]) (rest := []) ⟨hx, hb, hml, hown, hg⟩ (m_ReplenishRulesModel_free l G cA ad σ (σ 24 (nx a0)) (minv_mv hI (vp_lt (mvi_in hI c_11))).1) (cwV 1 hg (gV qM_X7_115 qI_X7_free qS_X7_free qN_X7 kX7_free) rfl rfl rfl (by decide +kernel) ⟨Nat.le_of_ble_eq_true rfl, Nat.le_of_ble_eq_true rfl⟩) (mm_pv hK hP (va_recv hK hP (ci := 7) (q0 := 0) rfl ml_obj)) rfl rfl hl.1 rfl (lv_room (Nat.le_of_ble_eq_true rfl)) dX7_done_55 ⟨Nat.le_of_ble_eq_true rfl, Nat.le_of_ble_eq_true rfl⟩) (nm_e ?_)
        refine lv_aload_n hx hb dX7_done_58 rfl (lv_at hl 3 rfl) ?_
        refine va_get (D := G) (ci := 7) (v := .ref (ad 23)) (C := RX7) (T := TX7) (N := 33) hx hb hg hinX7 hown hK hP 0 ml_obj rfl 26 (by decide) (hg _ qF_X7_77) (fun _ h9 => h9) rfl dX7_done_59 ?_
        refine lv_iload_n hx hb dX7_done_62 rfl (lv_at hl 4 rfl) ?_
        refine va_iald hx hb hK hP 23 0 ml_many rfl (mvi_in hI c_11) dX7_done_63 ?_
        refine lv_icmp_ge (tgt := 71) hx hb dX7_done_64 (by decide) (fun c_64 => ?_) (fun c_64 => ?_)
        · -- if_icmpge taken
          refine lv_iconst (v := 0) hx hb dX7_done_71 (by decide) ?_
          exact lp_topi (show m_lacks σ a0 = 0 from by simp only [m_lacks, if_pos c_50, if_pos c_64]) (hcut72 ls (lv_sub hl [0, 1, 2, 3, 4] rfl))
        · -- if_icmpge not taken
          refine lv_iconst (v := 1) hx hb dX7_done_67 (by decide) ?_
          refine lv_goto (tgt := 72) hx hb dX7_done_68 (by decide) ?_
          exact lp_topi (show m_lacks σ a0 = 1 from by simp only [m_lacks, if_pos c_50, if_neg c_64]) (hcut72 ls (lv_sub hl [0, 1, 2, 3, 4] rfl))
  · -- ifne not taken
    refine lv_aload_n hx hb dX7_done_14 rfl (lv_at hl 0 rfl) ?_
    refine lv_iconst (v := 1) hx hb dX7_done_15 (by decide) ?_
    refine pp_put (D := G) (ci := 7) (v := .int 1) (ty := .int) (C := RX7) (T := TX7) (N := 33) hx hb hg hinX7 tyX7 tyX7_ok nmX7 hown hK hP (mm_D hJ) hS 0 ml_obj rfl 0 (by decide) (hg _ qF_X7_98) (fun _ h9 => h9) rfl (by decide +kernel) rfl rfl (Nat.le_of_ble_eq_true rfl) (ms_thrown) dX7_done_16 (fun H locs hP hS => ?_)
    obtain ⟨σ1, eσ1⟩ : ∃ z, z = up σ 0 0 1 := ⟨_, rfl⟩
    rw [← eσ1] at hP
    have hIσ1 : MInv σ1 := by rw [eσ1]; exact minv_up (by decide) hI
    exact W.vret hx hb hr (fun t ht hW => ⟨⟨σ1, rfl, by subst eσ1; simp only [m_doneS, if_pos c_11], by rw [ht]; exact hP, va_K.moved hW.alike hK⟩, hS.F ht⟩) hS.2.2 dX7_done_19

set_option maxHeartbeats 4000000 in
set_option maxRecDepth 100000 in
theorem m_ReplenishRulesModel_told (l : Launch) (G : va_G) (cA : Nat → ClassId) (ad : Nat → Nat) (σ : St) (hJ : mm_inj ad) (a0 : Int32) (b0 : Int32) : Met l yX7_told (wX7_told :: wG) ({ frames := 2, cells := 0, slots := 0, locals := 42 }) (va_Pc [.ref (ad 0), .int a0, .int b0] (mmW G cA ad σ)) (va_Qi (fun r σ' => r = m_toldR σ a0 b0 ∧ σ' = m_toldS σ a0 b0) (mmW G cA ad) (mmA ad)) 0 0 (mmA ad) := by
  refine Met.ofW (cc := cX7_told) (maxL := 3) (ret := (some .int)) (by decide) rfl ?_
  intro p e s m args below meth c s₁ B hml hv
  obtain ⟨rfl, hP, hK⟩ := hv
  have hx := B.exec
  have hb := B.bytes
  have hr := B.returns
  have hts := atoms_spec (ws := wX7_told :: wG) B.pre
  have hg : ∀ w ∈ wG, w.before _ s = true := fun w h => hts w (List.mem_cons_of_mem _ h)
  have hown : s.vm.findClass RX7 = some m.cls := findClass_of_methodNamed B.named
  have hlocks := B.notSynchronized
  have hS : va_S (mmA ad) s.heap s.heap [] := va_S.rf
  have hl := lv_entry ([.ref (ad 0), .int a0, .int b0]) (n := 3) (Nat.le_of_ble_eq_true rfl)
  rw [lg_entry_eq]
  generalize (lg_sl ([.ref (ad 0), .int a0, .int b0]) ++ List.replicate (3 - (lg_sl ([.ref (ad 0), .int a0, .int b0])).length) Slot.unset).toArray = ls at hl ⊢
  have hl : lv_has ls 3 [(0, .ref (ad 0)), (1, .int a0), (2, .int b0)] := hl
  refine lp_cut (J := 22) (nL := 3) (LV := [(0, .ref (ad 0)), (1, .int a0), (2, .int b0)]) (st := [.int (m_toldT a0 b0), .ref (ad 0)]) (fun ls hl => ?_) (fun hcut22 => ?_)
  · have hl : lv_has ls 3 [(0, .ref (ad 0)), (1, .int a0), (2, .int b0)] := hl
    refine pp_put (D := G) (ci := 7) (v := .int (m_toldT a0 b0)) (ty := .int) (C := RX7) (T := TX7) (N := 33) hx hb hg hinX7 tyX7 tyX7_ok nmX7 hown hK hP (mm_D hJ) hS 0 ml_obj rfl 0 (by decide) (hg _ qF_X7_98) (fun _ h9 => h9) rfl (by decide +kernel) rfl rfl (Nat.le_of_ble_eq_true rfl) (ms_thrown) dX7_told_22 (fun H locs hP hS => ?_)
    obtain ⟨σ1, eσ1⟩ : ∃ z, z = up σ 0 0 (m_toldT a0 b0) := ⟨_, rfl⟩
    rw [← eσ1] at hP
    refine lv_aload_n hx hb dX7_told_25 rfl (lv_at hl 0 rfl) ?_
    refine va_get (D := G) (ci := 7) (v := .int (σ1 0 0)) (C := RX7) (T := TX7) (N := 33) hx hb hg hinX7 hown hK hP 0 ml_obj rfl 0 (by decide) (hg _ qF_X7_98) (fun _ h9 => h9) rfl dX7_told_26 ?_
    refine lv_if_le (tgt := 34) hx hb dX7_told_29 (by decide) (fun c_29 => ?_) (fun c_29 => ?_)
    · -- ifle taken
      refine lv_iload_n hx hb dX7_told_34 rfl (lv_at hl 2 rfl) ?_
      by_cases c_35_0 : b0 = 0
      · refine lv_tableIn (tgt := 68) hx hb dX7_told_35 (by rw [c_35_0]; decide) (by rw [c_35_0]; decide) (by rw [c_35_0]; rfl) (by decide) ?_
        refine lv_aload_n hx hb dX7_told_68 rfl (lv_at hl 0 rfl) ?_
        refine va_get (D := G) (ci := 7) (v := .ref (ad 3)) (C := RX7) (T := TX7) (N := 33) hx hb hg hinX7 hown hK hP 0 ml_obj rfl 3 (by decide) (hg _ qF_X7_16) (fun _ h9 => h9) rfl dX7_told_69 ?_
        refine lv_iload_n hx hb dX7_told_72 rfl (lv_at hl 1 rfl) ?_
        refine va_iald hx hb hK hP 3 0 ml_pieces rfl (toldT_in (by rw [eσ1, up_eq] at c_29; exact c_29)) dX7_told_73 ?_
        exact W.iret (v := σ1 3 (nx a0)) hx hb hr (fun t ht hW => ⟨⟨_, σ1, rfl, ⟨by subst eσ1; simp only [m_toldR, if_pos c_29, if_pos c_35_0], eσ1⟩, by rw [ht]; exact hP, va_K.moved hW.alike hK⟩, hS.F ht⟩) hS.2.2 dX7_told_74
      by_cases c_35_1 : b0 = 1
      · refine lv_tableIn (tgt := 75) hx hb dX7_told_35 (by rw [c_35_1]; decide) (by rw [c_35_1]; decide) (by rw [c_35_1]; rfl) (by decide) ?_
        refine lv_aload_n hx hb dX7_told_75 rfl (lv_at hl 0 rfl) ?_
        refine va_get (D := G) (ci := 7) (v := .ref (ad 5)) (C := RX7) (T := TX7) (N := 33) hx hb hg hinX7 hown hK hP 0 ml_obj rfl 5 (by decide) (hg _ qF_X7_22) (fun _ h9 => h9) rfl dX7_told_76 ?_
        refine lv_iload_n hx hb dX7_told_79 rfl (lv_at hl 1 rfl) ?_
        refine va_iald hx hb hK hP 5 0 ml_held rfl (toldT_in (by rw [eσ1, up_eq] at c_29; exact c_29)) dX7_told_80 ?_
        exact W.iret (v := σ1 5 (nx a0)) hx hb hr (fun t ht hW => ⟨⟨_, σ1, rfl, ⟨by subst eσ1; simp only [m_toldR, if_pos c_29, if_neg c_35_0, if_pos c_35_1], eσ1⟩, by rw [ht]; exact hP, va_K.moved hW.alike hK⟩, hS.F ht⟩) hS.2.2 dX7_told_81
      by_cases c_35_2 : b0 = 2
      · refine lv_tableIn (tgt := 82) hx hb dX7_told_35 (by rw [c_35_2]; decide) (by rw [c_35_2]; decide) (by rw [c_35_2]; rfl) (by decide) ?_
        refine lv_aload_n hx hb dX7_told_82 rfl (lv_at hl 0 rfl) ?_
        refine va_get (D := G) (ci := 7) (v := .ref (ad 4)) (C := RX7) (T := TX7) (N := 33) hx hb hg hinX7 hown hK hP 0 ml_obj rfl 4 (by decide) (hg _ qF_X7_19) (fun _ h9 => h9) rfl dX7_told_83 ?_
        refine lv_iload_n hx hb dX7_told_86 rfl (lv_at hl 1 rfl) ?_
        refine va_iald hx hb hK hP 4 0 ml_good rfl (toldT_in (by rw [eσ1, up_eq] at c_29; exact c_29)) dX7_told_87 ?_
        exact W.iret (v := σ1 4 (nx a0)) hx hb hr (fun t ht hW => ⟨⟨_, σ1, rfl, ⟨by subst eσ1; simp only [m_toldR, if_pos c_29, if_neg c_35_0, if_neg c_35_1, if_pos c_35_2], eσ1⟩, by rw [ht]; exact hP, va_K.moved hW.alike hK⟩, hS.F ht⟩) hS.2.2 dX7_told_88
      by_cases c_35_3 : b0 = 3
      · refine lv_tableIn (tgt := 89) hx hb dX7_told_35 (by rw [c_35_3]; decide) (by rw [c_35_3]; decide) (by rw [c_35_3]; rfl) (by decide) ?_
        refine lv_aload_n hx hb dX7_told_89 rfl (lv_at hl 0 rfl) ?_
        refine va_get (D := G) (ci := 7) (v := .ref (ad 6)) (C := RX7) (T := TX7) (N := 33) hx hb hg hinX7 hown hK hP 0 ml_obj rfl 6 (by decide) (hg _ qF_X7_25) (fun _ h9 => h9) rfl dX7_told_90 ?_
        refine lv_iload_n hx hb dX7_told_93 rfl (lv_at hl 1 rfl) ?_
        refine va_zald hx hb hK hP 6 1 ml_isFace rfl (toldT_in (by rw [eσ1, up_eq] at c_29; exact c_29)) dX7_told_94 ?_
        refine lv_if_eq (tgt := 102) hx hb dX7_told_95 (by decide) (fun c_95 => ?_) (fun c_95 => ?_)
        · -- ifeq taken
          refine lv_iconst (v := 0) hx hb dX7_told_102 (by decide) ?_
          exact W.iret (v := 0) hx hb hr (fun t ht hW => ⟨⟨_, σ1, rfl, ⟨by subst eσ1; simp only [m_toldR, if_pos c_29, if_neg c_35_0, if_neg c_35_1, if_neg c_35_2, if_pos c_35_3, if_pos c_95], eσ1⟩, by rw [ht]; exact hP, va_K.moved hW.alike hK⟩, hS.F ht⟩) hS.2.2 dX7_told_103
        · -- ifeq not taken
          refine lv_iconst (v := 1) hx hb dX7_told_98 (by decide) ?_
          refine lv_goto (tgt := 103) hx hb dX7_told_99 (by decide) ?_
          exact W.iret (v := 1) hx hb hr (fun t ht hW => ⟨⟨_, σ1, rfl, ⟨by subst eσ1; simp only [m_toldR, if_pos c_29, if_neg c_35_0, if_neg c_35_1, if_neg c_35_2, if_pos c_35_3, if_neg c_95], eσ1⟩, by rw [ht]; exact hP, va_K.moved hW.alike hK⟩, hS.F ht⟩) hS.2.2 dX7_told_103
      by_cases c_35_4 : b0 = 4
      · refine lv_tableIn (tgt := 104) hx hb dX7_told_35 (by rw [c_35_4]; decide) (by rw [c_35_4]; decide) (by rw [c_35_4]; rfl) (by decide) ?_
        refine lv_aload_n hx hb dX7_told_104 rfl (lv_at hl 0 rfl) ?_
        refine va_get (D := G) (ci := 7) (v := .ref (ad 6)) (C := RX7) (T := TX7) (N := 33) hx hb hg hinX7 hown hK hP 0 ml_obj rfl 6 (by decide) (hg _ qF_X7_25) (fun _ h9 => h9) rfl dX7_told_105 ?_
        refine lv_iload_n hx hb dX7_told_108 rfl (lv_at hl 1 rfl) ?_
        refine va_zald hx hb hK hP 6 1 ml_isFace rfl (toldT_in (by rw [eσ1, up_eq] at c_29; exact c_29)) dX7_told_109 ?_
        refine lv_if_eq (tgt := 122) hx hb dX7_told_110 (by decide) (fun c_110 => ?_) (fun c_110 => ?_)
        · -- ifeq taken
          refine lv_iconst (v := 0) hx hb dX7_told_122 (by decide) ?_
          exact W.iret (v := 0) hx hb hr (fun t ht hW => ⟨⟨_, σ1, rfl, ⟨by subst eσ1; simp only [m_toldR, if_pos c_29, if_neg c_35_0, if_neg c_35_1, if_neg c_35_2, if_neg c_35_3, if_pos c_35_4, if_pos c_110], eσ1⟩, by rw [ht]; exact hP, va_K.moved hW.alike hK⟩, hS.F ht⟩) hS.2.2 dX7_told_123
        · -- ifeq not taken
          refine lv_aload_n hx hb dX7_told_113 rfl (lv_at hl 0 rfl) ?_
          refine va_get (D := G) (ci := 7) (v := .ref (ad 8)) (C := RX7) (T := TX7) (N := 33) hx hb hg hinX7 hown hK hP 0 ml_obj rfl 8 (by decide) (hg _ qF_X7_32) (fun _ h9 => h9) rfl dX7_told_114 ?_
          refine lv_iload_n hx hb dX7_told_117 rfl (lv_at hl 1 rfl) ?_
          refine va_iald hx hb hK hP 8 0 ml_least rfl (toldT_in (by rw [eσ1, up_eq] at c_29; exact c_29)) dX7_told_118 ?_
          refine lv_goto (tgt := 123) hx hb dX7_told_119 (by decide) ?_
          exact W.iret (v := σ1 8 (nx a0)) hx hb hr (fun t ht hW => ⟨⟨_, σ1, rfl, ⟨by subst eσ1; simp only [m_toldR, if_pos c_29, if_neg c_35_0, if_neg c_35_1, if_neg c_35_2, if_neg c_35_3, if_pos c_35_4, if_neg c_110], eσ1⟩, by rw [ht]; exact hP, va_K.moved hW.alike hK⟩, hS.F ht⟩) hS.2.2 dX7_told_123
      refine lv_tableOut (tgt := 124) hx hb dX7_told_35 (by have z0 := lv_neT c_35_0 (a := 0) rfl; have z1 := lv_neT c_35_1 (a := 1) rfl; have z2 := lv_neT c_35_2 (a := 2) rfl; have z3 := lv_neT c_35_3 (a := 3) rfl; have z4 := lv_neT c_35_4 (a := 4) rfl; omega) (by decide) ?_
      refine lv_aload_n hx hb dX7_told_124 rfl (lv_at hl 0 rfl) ?_
      refine va_get (D := G) (ci := 7) (v := .ref (ad 6)) (C := RX7) (T := TX7) (N := 33) hx hb hg hinX7 hown hK hP 0 ml_obj rfl 6 (by decide) (hg _ qF_X7_25) (fun _ h9 => h9) rfl dX7_told_125 ?_
      refine lv_iload_n hx hb dX7_told_128 rfl (lv_at hl 1 rfl) ?_
      refine va_zald hx hb hK hP 6 1 ml_isFace rfl (toldT_in (by rw [eσ1, up_eq] at c_29; exact c_29)) dX7_told_129 ?_
      refine lv_if_eq (tgt := 142) hx hb dX7_told_130 (by decide) (fun c_130 => ?_) (fun c_130 => ?_)
      · -- ifeq taken
        refine lv_iconst (v := 0) hx hb dX7_told_142 (by decide) ?_
        exact W.iret (v := 0) hx hb hr (fun t ht hW => ⟨⟨_, σ1, rfl, ⟨by subst eσ1; simp only [m_toldR, if_pos c_29, if_neg c_35_0, if_neg c_35_1, if_neg c_35_2, if_neg c_35_3, if_neg c_35_4, if_pos c_130], eσ1⟩, by rw [ht]; exact hP, va_K.moved hW.alike hK⟩, hS.F ht⟩) hS.2.2 dX7_told_143
      · -- ifeq not taken
        refine lv_aload_n hx hb dX7_told_133 rfl (lv_at hl 0 rfl) ?_
        refine va_get (D := G) (ci := 7) (v := .ref (ad 9)) (C := RX7) (T := TX7) (N := 33) hx hb hg hinX7 hown hK hP 0 ml_obj rfl 9 (by decide) (hg _ qF_X7_35) (fun _ h9 => h9) rfl dX7_told_134 ?_
        refine lv_iload_n hx hb dX7_told_137 rfl (lv_at hl 1 rfl) ?_
        refine va_iald hx hb hK hP 9 0 ml_most rfl (toldT_in (by rw [eσ1, up_eq] at c_29; exact c_29)) dX7_told_138 ?_
        refine lv_goto (tgt := 143) hx hb dX7_told_139 (by decide) ?_
        exact W.iret (v := σ1 9 (nx a0)) hx hb hr (fun t ht hW => ⟨⟨_, σ1, rfl, ⟨by subst eσ1; simp only [m_toldR, if_pos c_29, if_neg c_35_0, if_neg c_35_1, if_neg c_35_2, if_neg c_35_3, if_neg c_35_4, if_neg c_130], eσ1⟩, by rw [ht]; exact hP, va_K.moved hW.alike hK⟩, hS.F ht⟩) hS.2.2 dX7_told_143
    · -- ifle not taken
      refine lv_iconst (v := 0) hx hb dX7_told_32 (by decide) ?_
      exact W.iret (v := 0) hx hb hr (fun t ht hW => ⟨⟨_, σ1, rfl, ⟨by subst eσ1; simp only [m_toldR, if_neg c_29], eσ1⟩, by rw [ht]; exact hP, va_K.moved hW.alike hK⟩, hS.F ht⟩) hS.2.2 dX7_told_33
  · -- to the cut
    refine lv_aload_n hx hb dX7_told_0 rfl (lv_at hl 0 rfl) ?_
    refine lv_iload_n hx hb dX7_told_1 rfl (lv_at hl 1 rfl) ?_
    refine vp_callSi (W.runS (As := [.int a0]) (rest := [.ref (ad 0)]) ⟨hx, hb, hml, hown, hg⟩ (m_ReplenishRulesModel_isPlace l a0) (cwS 1 hg (gS qM_X7_106 qT_X7_isPlace qN_X7 kX7_isPlace) rfl rfl rfl (by decide +kernel) ⟨Nat.le_of_ble_eq_true rfl, Nat.le_of_ble_eq_true rfl⟩) ⟨fun _ _ _ _ q => q, fun _ _ _ => ⟨rfl, trivial⟩⟩ rfl rfl hl.1 rfl (lv_room (Nat.le_of_ble_eq_true rfl)) dX7_told_2 ⟨Nat.le_of_ble_eq_true rfl, Nat.le_of_ble_eq_true rfl⟩) (nm_e ?_)
    refine lv_if_eq (tgt := 21) hx hb dX7_told_5 (by decide) (fun c_5 => ?_) (fun c_5 => ?_)
    · -- ifeq taken
      refine lv_iconst (v := 1) hx hb dX7_told_21 (by decide) ?_
      exact lp_topi (show m_toldT a0 b0 = 1 from by simp only [m_toldT, if_pos c_5]) (hcut22 ls (lv_sub hl [0, 1, 2] rfl))
    · -- ifeq not taken
      refine lv_iload_n hx hb dX7_told_8 rfl (lv_at hl 2 rfl) ?_
      refine lv_iconst (v := 0) hx hb dX7_told_9 (by decide) ?_
      refine lv_iconst (v := 5) hx hb dX7_told_10 (by decide) ?_
      refine vp_callSi (W.runS (As := [.int b0, .int 0, .int 5]) (rest := [.ref (ad 0)]) ⟨hx, hb, hml, hown, hg⟩ (m_ReplenishRulesModel_in l b0 0 5) (cwS 3 hg (gS qM_X7_102 qT_X7_in qN_X7 kX7_in) rfl rfl rfl (by decide +kernel) ⟨Nat.le_of_ble_eq_true rfl, Nat.le_of_ble_eq_true rfl⟩) ⟨fun _ _ _ _ q => q, fun _ _ _ => ⟨rfl, trivial⟩⟩ rfl rfl hl.1 rfl (lv_room (Nat.le_of_ble_eq_true rfl)) dX7_told_11 ⟨Nat.le_of_ble_eq_true rfl, Nat.le_of_ble_eq_true rfl⟩) (nm_e ?_)
      refine lv_if_eq (tgt := 21) hx hb dX7_told_14 (by decide) (fun c_14 => ?_) (fun c_14 => ?_)
      · -- ifeq taken
        refine lv_iconst (v := 1) hx hb dX7_told_21 (by decide) ?_
        exact lp_topi (show m_toldT a0 b0 = 1 from by simp only [m_toldT, if_neg c_5, if_pos c_14]) (hcut22 ls (lv_sub hl [0, 1, 2] rfl))
      · -- ifeq not taken
        refine lv_iconst (v := 0) hx hb dX7_told_17 (by decide) ?_
        refine lv_goto (tgt := 22) hx hb dX7_told_18 (by decide) ?_
        exact lp_topi (show m_toldT a0 b0 = 0 from by simp only [m_toldT, if_neg c_5, if_neg c_14]) (hcut22 ls (lv_sub hl [0, 1, 2] rfl))
