set_option maxHeartbeats 4000000 in
set_option maxRecDepth 100000 in
theorem l_above (l : Launch) (hl9 : l.stackTraces = false) (G : va_G) (cA : Nat → ClassId) (ad : Nat → Nat) (σ : St) (hJ : rr_inj ad) (hI : Inv σ) (a0 : Int32) (qo : Nat) (cJ : ClassId) (z : Int64) : Met l yL_above (wL_above :: wG) { frames := 10, cells := 5, slots := 30, locals := 200 } (va_Pc [.ref (ad 66), .int a0, .ref qo] (lxL G cA ad σ qo cJ z)) (lqL G cA ad qo cJ (c_faceAt σ a0) σ (if c_aboveR σ a0 = 0 then 0 else 1)) 5 30 (oA ad qo) := by
  refine va_MetW (cc := cL_above) (maxL := 4) (ret := some .int) (hh := hL_above) (by decide) rfl ?_
  intro p e s m args below meth c s₁ B hml hv
  obtain ⟨rfl, hX, hA9, ho, hoT, hoA⟩ := hv
  have hx := B.exec
  have hb := B.bytes
  have hr := B.returns
  have hts := atoms_spec (ws := wL_above :: wG) B.pre
  have hg : ∀ w ∈ wG, w.before _ s = true := fun w h => hts w (List.mem_cons_of_mem _ h)
  have hown : s.vm.findClass RL = some m.cls := findClass_of_methodNamed B.named
  have htab := ct_tab (Stand.of_body B) B.named (hts _ List.mem_cons_self)
  have hl := lv_entry ([.ref (ad 66), .int a0, .ref qo]) (n := 4) (Nat.le_of_ble_eq_true rfl)
  rw [lg_entry_eq]
  generalize (lg_sl ([.ref (ad 66), .int a0, .ref qo]) ++ List.replicate (4 - (lg_sl ([.ref (ad 66), .int a0, .ref qo])).length) Slot.unset).toArray = ls at hl ⊢
  have hl : lv_has ls 4 [(0, .ref (ad 66)), (1, .int a0), (2, .ref qo)] := hl
  refine lv_aload_n hx hb dL_above_0 rfl (lv_at hl 2 rfl) ?_
  refine lv_iconst (v := 0) hx hb dL_above_1 (by decide) ?_
  refine lv_aload_n hx hb dL_above_2 rfl (lv_at hl 0 rfl) ?_
  refine lv_iload_n hx hb dL_above_3 rfl (lv_at hl 1 rfl) ?_
  rcases rn_above σ a0 with hk | hk | hk
  · refine ct_callV (h := 0) (As := [.int a0]) (rest := [.int 0, .ref qo]) ⟨hx, hb, hml, hown, hg⟩ (m_ReplenishRules_above l hl9 G cA ad σ hJ hI a0) (cwV 1 hg (gV qM_L_67 qI_X6_above qS_X6_above qN_X6 kX6_above) rfl rfl rfl (by decide +kernel) ⟨Nat.le_of_ble_eq_true rfl, Nat.le_of_ble_eq_true rfl⟩) hX hA9 htab (va_recv hX.2.1 hX.1 (ci := 6) (q0 := 66) rfl rl_main) rfl hl.1 rfl (lv_room (Nat.le_of_ble_eq_true rfl)) dL_above_4 ⟨Nat.le_of_ble_eq_true rfl, Nat.le_of_ble_eq_true rfl⟩ (by rw [hk]; decide) (fun h9 => absurd hk h9) (fun _ v τ H locs hr8 hP hS => ?_) (fun h9 => absurd hk h9)
    have ho := oKeep ho hoA hS
    have hS := oS (qo := qo) hS
    obtain ⟨rfl, hτ9⟩ := hr8
    rw [hτ9] at hP
    refine W.eq (g2 := F0 m 7 ls [.int (c_aboveR σ a0), .int 0, .ref qo]) rfl ?_
    refine lv_if_eq (tgt := 14) hx hb dL_above_7 (by decide) (fun c_7 => ?_) (fun c_7 => ?_)
    · -- ifeq taken
      refine lv_lconst (v := 0) hx hb dL_above_14 (by decide) ?_
      refine o_st (x := 0) hx hb hoT ho hP hoA hS dL_above_15 (fun H locs hP ho hS => ?_)
      refine lv_goto (tgt := 25) hx hb dL_above_16 (by decide) ?_
      refine lv_iconst (v := 0) hx hb dL_above_25 (by decide) ?_
      refine W.widen (k := 5) (n := 30) (Nat.le_of_ble_eq_true rfl) (Nat.le_of_ble_eq_true rfl) ?_
      exact W.iret (v := 0) hx hb hr (fun t ht hW => ⟨⟨0, (σ, 0), rfl, ⟨by rw [hk]; rfl, rfl, fun _ => (if_pos c_7).symm⟩, ⟨by rw [ht]; exact hP, va_K.moved hW.alike hX.2.1⟩, by rw [ht]; exact ho⟩, hS.F ht⟩) hS.2.2 dL_above_26
    · -- ifeq not taken
      refine lv_lconst (v := 1) hx hb dL_above_10 (by decide) ?_
      refine lv_goto (tgt := 15) hx hb dL_above_11 (by decide) ?_
      refine o_st (x := 1) hx hb hoT ho hP hoA hS dL_above_15 (fun H locs hP ho hS => ?_)
      refine lv_goto (tgt := 25) hx hb dL_above_16 (by decide) ?_
      refine lv_iconst (v := 0) hx hb dL_above_25 (by decide) ?_
      refine W.widen (k := 5) (n := 30) (Nat.le_of_ble_eq_true rfl) (Nat.le_of_ble_eq_true rfl) ?_
      exact W.iret (v := 0) hx hb hr (fun t ht hW => ⟨⟨0, (σ, 1), rfl, ⟨by rw [hk]; rfl, rfl, fun _ => (if_neg c_7).symm⟩, ⟨by rw [ht]; exact hP, va_K.moved hW.alike hX.2.1⟩, by rw [ht]; exact ho⟩, hS.F ht⟩) hS.2.2 dL_above_26
  · refine ct_callV (h := 19) (As := [.int a0]) (rest := [.int 0, .ref qo]) ⟨hx, hb, hml, hown, hg⟩ (m_ReplenishRules_above l hl9 G cA ad σ hJ hI a0) (cwV 1 hg (gV qM_L_67 qI_X6_above qS_X6_above qN_X6 kX6_above) rfl rfl rfl (by decide +kernel) ⟨Nat.le_of_ble_eq_true rfl, Nat.le_of_ble_eq_true rfl⟩) hX hA9 htab (va_recv hX.2.1 hX.1 (ci := 6) (q0 := 66) rfl rl_main) rfl hl.1 rfl (lv_room (Nat.le_of_ble_eq_true rfl)) dL_above_4 ⟨Nat.le_of_ble_eq_true rfl, Nat.le_of_ble_eq_true rfl⟩ (by rw [hk]; decide) (fun _ pl hpl o ho9 => by rw [hk] at ho9; exact ct_take (K := 1) hpl hA9 hown rfl (by decide) (hg _ qK_L_13) ho9 ⟨by decide, by decide⟩) (fun h9 => absurd (h9.symm.trans hk) (by decide)) (fun _ q H locs hP hS => ?_)
    have ho := oKeep ho hoA hS
    have hS := oS (qo := qo) hS
    refine lv_astore_n (lv' := [(3, .ref q), (0, .ref (ad 66)), (1, .int a0), (2, .ref qo)]) hx hb dL_above_19 rfl hl (by decide) rfl (fun ls hl => ?_)
    refine lv_iconst (v := 1) hx hb dL_above_20 (by decide) ?_
    refine W.widen (k := 5) (n := 30) (Nat.le_of_ble_eq_true rfl) (Nat.le_of_ble_eq_true rfl) ?_
    exact W.iret (v := 1) hx hb hr (fun t ht hW => ⟨⟨1, (σ, z), rfl, ⟨by rw [hk]; rfl, rfl, fun h9 => absurd h9 (by rw [hk]; decide)⟩, ⟨by rw [ht]; exact hP, va_K.moved hW.alike hX.2.1⟩, by rw [ht]; exact ho⟩, hS.F ht⟩) hS.2.2 dL_above_21
  · refine ct_callV (h := 22) (As := [.int a0]) (rest := [.int 0, .ref qo]) ⟨hx, hb, hml, hown, hg⟩ (m_ReplenishRules_above l hl9 G cA ad σ hJ hI a0) (cwV 1 hg (gV qM_L_67 qI_X6_above qS_X6_above qN_X6 kX6_above) rfl rfl rfl (by decide +kernel) ⟨Nat.le_of_ble_eq_true rfl, Nat.le_of_ble_eq_true rfl⟩) hX hA9 htab (va_recv hX.2.1 hX.1 (ci := 6) (q0 := 66) rfl rl_main) rfl hl.1 rfl (lv_room (Nat.le_of_ble_eq_true rfl)) dL_above_4 ⟨Nat.le_of_ble_eq_true rfl, Nat.le_of_ble_eq_true rfl⟩ (by rw [hk]; decide) (fun _ pl hpl o ho9 => by rw [hk] at ho9; exact ct_pass (K := 2) (j := 1) hpl hA9 hown rfl (by decide) (hg _ qK_L_13) ho9 ⟨by decide, by decide⟩ ⟨by decide, by decide⟩ (by decide) (ct_take (K := 2) hpl hA9 hown rfl (by decide) (hg _ qK_L_15) ho9 ⟨by decide, by decide⟩)) (fun h9 => absurd (h9.symm.trans hk) (by decide)) (fun _ q H locs hP hS => ?_)
    have ho := oKeep ho hoA hS
    have hS := oS (qo := qo) hS
    refine lv_astore_n (lv' := [(3, .ref q), (0, .ref (ad 66)), (1, .int a0), (2, .ref qo)]) hx hb dL_above_22 rfl hl (by decide) rfl (fun ls hl => ?_)
    refine lv_iconst (v := 2) hx hb dL_above_23 (by decide) ?_
    refine W.widen (k := 5) (n := 30) (Nat.le_of_ble_eq_true rfl) (Nat.le_of_ble_eq_true rfl) ?_
    exact W.iret (v := 2) hx hb hr (fun t ht hW => ⟨⟨2, (σ, z), rfl, ⟨by rw [hk]; rfl, rfl, fun h9 => absurd h9 (by rw [hk]; decide)⟩, ⟨by rw [ht]; exact hP, va_K.moved hW.alike hX.2.1⟩, by rw [ht]; exact ho⟩, hS.F ht⟩) hS.2.2 dL_above_24

set_option maxHeartbeats 4000000 in
set_option maxRecDepth 100000 in
theorem l_run (l : Launch) (hl9 : l.stackTraces = false) (G : va_G) (cA : Nat → ClassId) (ad : Nat → Nat) (σ : St) (hJ : rr_inj ad) (hI : Inv σ) (qo : Nat) (cJ : ClassId) (z : Int64) : Met l yL_run (wL_run :: wG) { frames := 10, cells := 5, slots := 30, locals := 200 } (va_Pc [.ref (ad 66), .ref qo] (lxL G cA ad σ qo cJ z)) (lqL G cA ad qo cJ (cdR (c_runK σ)) (if c_runK σ = 0 then c_runS σ else σ) ((c_runS σ 42 0).toInt64)) 5 30 (oA ad qo) := by
  refine va_MetW (cc := cL_run) (maxL := 3) (ret := some .int) (hh := hL_run) (by decide) rfl ?_
  intro p e s m args below meth c s₁ B hml hv
  obtain ⟨rfl, hX, hA9, ho, hoT, hoA⟩ := hv
  have hx := B.exec
  have hb := B.bytes
  have hr := B.returns
  have hts := atoms_spec (ws := wL_run :: wG) B.pre
  have hg : ∀ w ∈ wG, w.before _ s = true := fun w h => hts w (List.mem_cons_of_mem _ h)
  have hown : s.vm.findClass RL = some m.cls := findClass_of_methodNamed B.named
  have htab := ct_tab (Stand.of_body B) B.named (hts _ List.mem_cons_self)
  have hl := lv_entry ([.ref (ad 66), .ref qo]) (n := 3) (Nat.le_of_ble_eq_true rfl)
  rw [lg_entry_eq]
  generalize (lg_sl ([.ref (ad 66), .ref qo]) ++ List.replicate (3 - (lg_sl ([.ref (ad 66), .ref qo])).length) Slot.unset).toArray = ls at hl ⊢
  have hl : lv_has ls 3 [(0, .ref (ad 66)), (1, .ref qo)] := hl
  refine lv_aload_n hx hb dL_run_0 rfl (lv_at hl 1 rfl) ?_
  refine lv_iconst (v := 0) hx hb dL_run_1 (by decide) ?_
  refine lv_aload_n hx hb dL_run_2 rfl (lv_at hl 0 rfl) ?_
  rcases rn_run σ with hk | hk
  · refine ct_callV (h := 0) (As := []) (rest := [.int 0, .ref qo]) ⟨hx, hb, hml, hown, hg⟩ (m_ReplenishRules_run l hl9 G cA ad σ hJ hI) (cwV 0 hg (gV qM_L_71 qI_X6_run qS_X6_run qN_X6 kX6_run) rfl rfl rfl (by decide +kernel) ⟨Nat.le_of_ble_eq_true rfl, Nat.le_of_ble_eq_true rfl⟩) hX hA9 htab (va_recv hX.2.1 hX.1 (ci := 6) (q0 := 66) rfl rl_main) rfl hl.1 rfl (lv_room (Nat.le_of_ble_eq_true rfl)) dL_run_3 ⟨Nat.le_of_ble_eq_true rfl, Nat.le_of_ble_eq_true rfl⟩ (by rw [hk]; decide) (fun h9 => absurd hk h9) (fun _ v τ H locs hr8 hP hS => ?_) (fun h9 => absurd hk h9)
    have ho := oKeep ho hoA hS
    have hS := oS (qo := qo) hS
    obtain ⟨rfl, hτ9⟩ := hr8
    rw [hτ9] at hP
    generalize c_runS σ = τ0 at hP ⊢
    refine W.eq (g2 := F0 m 6 ls [.int (τ0 42 0), .int 0, .ref qo]) rfl ?_
    refine lv_i2l (v := (τ0 42 0).toInt64) hx hb dL_run_6 rfl ?_
    refine o_st (x := (τ0 42 0).toInt64) hx hb hoT ho hP hoA hS dL_run_7 (fun H locs hP ho hS => ?_)
    refine lv_goto (tgt := 14) hx hb dL_run_8 (by decide) ?_
    refine lv_iconst (v := 0) hx hb dL_run_14 (by decide) ?_
    refine W.widen (k := 5) (n := 30) (Nat.le_of_ble_eq_true rfl) (Nat.le_of_ble_eq_true rfl) ?_
    exact W.iret (v := 0) hx hb hr (fun t ht hW => ⟨⟨0, (τ0, (τ0 42 0).toInt64), rfl, ⟨by rw [hk]; rfl, (if_pos hk).symm, fun _ => rfl⟩, ⟨by rw [ht]; exact hP, va_K.moved hW.alike hX.2.1⟩, by rw [ht]; exact ho⟩, hS.F ht⟩) hS.2.2 dL_run_15
  · refine ct_callV (h := 11) (As := []) (rest := [.int 0, .ref qo]) ⟨hx, hb, hml, hown, hg⟩ (m_ReplenishRules_run l hl9 G cA ad σ hJ hI) (cwV 0 hg (gV qM_L_71 qI_X6_run qS_X6_run qN_X6 kX6_run) rfl rfl rfl (by decide +kernel) ⟨Nat.le_of_ble_eq_true rfl, Nat.le_of_ble_eq_true rfl⟩) hX hA9 htab (va_recv hX.2.1 hX.1 (ci := 6) (q0 := 66) rfl rl_main) rfl hl.1 rfl (lv_room (Nat.le_of_ble_eq_true rfl)) dL_run_3 ⟨Nat.le_of_ble_eq_true rfl, Nat.le_of_ble_eq_true rfl⟩ (by rw [hk]; decide) (fun _ pl hpl o ho9 => by rw [hk] at ho9; exact ct_take (K := 2) hpl hA9 hown rfl (by decide) (hg _ qK_L_15) ho9 ⟨by decide, by decide⟩) (fun h9 => absurd (h9.symm.trans hk) (by decide)) (fun _ q H locs hP hS => ?_)
    have ho := oKeep ho hoA hS
    have hS := oS (qo := qo) hS
    generalize c_runS σ = τ0
    refine lv_astore_n (lv' := [(2, .ref q), (0, .ref (ad 66)), (1, .ref qo)]) hx hb dL_run_11 rfl hl (by decide) rfl (fun ls hl => ?_)
    refine lv_iconst (v := 1) hx hb dL_run_12 (by decide) ?_
    refine W.widen (k := 5) (n := 30) (Nat.le_of_ble_eq_true rfl) (Nat.le_of_ble_eq_true rfl) ?_
    exact W.iret (v := 1) hx hb hr (fun t ht hW => ⟨⟨1, (σ, z), rfl, ⟨by rw [hk]; rfl, (if_neg (by rw [hk]; decide)).symm, fun h9 => absurd h9 (by rw [hk]; decide)⟩, ⟨by rw [ht]; exact hP, va_K.moved hW.alike hX.2.1⟩, by rw [ht]; exact ho⟩, hS.F ht⟩) hS.2.2 dL_run_13
