set_option maxHeartbeats 4000000 in
set_option maxRecDepth 100000 in
theorem m_Place_bring (l : Launch) (G : va_G) (cA : Nat → ClassId) (ad : Nat → Nat) (σ : St) (hJ : rr_inj ad) (a0 : Nat) (ha0 : a0 < 16) (b0 : Int32) (c0 : Int32) : Met l yX2_bring (wX2_bring :: wG) ({ frames := 0, cells := 0, slots := 0, locals := 0 }) (va_Pc [.ref (ad a0), .int b0, .int c0] (rrW G cA ad σ)) (va_Qv (fun σ' => σ' = c_bring σ a0 b0 c0) (rrW G cA ad) (rrA ad)) 0 0 (rrA ad) := by
  refine Met.ofW (cc := cX2_bring) (maxL := 3) (ret := none) (by decide) rfl ?_
  intro p e s m args below meth c s₁ B hml hv
  obtain ⟨rfl, hP, hK⟩ := hv
  have hx := B.exec
  have hb := B.bytes
  have hr := B.returns
  have hts := atoms_spec (ws := wX2_bring :: wG) B.pre
  have hg : ∀ w ∈ wG, w.before _ s = true := fun w h => hts w (List.mem_cons_of_mem _ h)
  have hown : s.vm.findClass RX2 = some m.cls := findClass_of_methodNamed B.named
  have hlocks := B.notSynchronized
  have hS : va_S (rrA ad) s.heap s.heap [] := va_S.rf
  have hl := lv_entry ([.ref (ad a0), .int b0, .int c0]) (n := 3) (Nat.le_of_ble_eq_true rfl)
  rw [lg_entry_eq]
  generalize (lg_sl ([.ref (ad a0), .int b0, .int c0]) ++ List.replicate (3 - (lg_sl ([.ref (ad a0), .int b0, .int c0])).length) Slot.unset).toArray = ls at hl ⊢
  have hl : lv_has ls 3 [(0, .ref (ad a0)), (1, .int b0), (2, .int c0)] := hl
  refine lv_aload_n hx hb dX2_bring_0 rfl (lv_at hl 0 rfl) ?_
  refine lv_iload_n hx hb dX2_bring_1 rfl (lv_at hl 1 rfl) ?_
  refine pp_put (D := G) (ci := 2) (v := .int b0) (ty := .int) (C := RX2) (T := TX2) (N := 13) hx hb hg hinX2 tyX2 tyX2_ok nmX2 hown hK hP (rr_D hJ) hS a0 (rl_Place ha0) rfl 6 (by decide) (hg _ qF_X2_28) (fun _ h9 => h9) rfl (by decide +kernel) rfl rfl (Nat.le_of_ble_eq_true rfl) (rs_Place_good ha0) dX2_bring_2 (fun H locs hP hS => ?_)
  obtain ⟨σ1, eσ1⟩ : ∃ z, z = up σ 4 a0 b0 := ⟨_, rfl⟩
  rw [← eσ1] at hP
  refine lv_aload_n hx hb dX2_bring_5 rfl (lv_at hl 0 rfl) ?_
  refine lv_dup hx hb dX2_bring_6 rfl ?_
  refine va_get (D := G) (ci := 2) (v := .int (σ1 2 a0)) (C := RX2) (T := TX2) (N := 13) hx hb hg hinX2 hown hK hP a0 (rl_Place ha0) rfl 4 (by decide) (hg _ qF_X2_22) (fun _ h9 => h9) rfl dX2_bring_7 ?_
  refine lv_iload_n hx hb dX2_bring_10 rfl (lv_at hl 2 rfl) ?_
  refine lv_iadd hx hb dX2_bring_11 ?_
  refine pp_put (D := G) (ci := 2) (v := .int ((σ1 2 a0) + c0)) (ty := .int) (C := RX2) (T := TX2) (N := 13) hx hb hg hinX2 tyX2 tyX2_ok nmX2 hown hK hP (rr_D hJ) hS a0 (rl_Place ha0) rfl 4 (by decide) (hg _ qF_X2_22) (fun _ h9 => h9) rfl (by decide +kernel) rfl rfl (Nat.le_of_ble_eq_true rfl) (rs_Place_pieces ha0) dX2_bring_12 (fun H locs hP hS => ?_)
  obtain ⟨σ2, eσ2⟩ : ∃ z, z = up σ1 2 a0 ((σ1 2 a0) + c0) := ⟨_, rfl⟩
  rw [← eσ2] at hP
  exact W.vret hx hb hr (fun t ht hW => ⟨⟨σ2, rfl, by subst eσ1 eσ2; exact rfl, by rw [ht]; exact hP, va_K.moved hW.alike hK⟩, hS.F ht⟩) hS.2.2 dX2_bring_15

set_option maxHeartbeats 4000000 in
set_option maxRecDepth 100000 in
theorem m_Place_takeAway (l : Launch) (G : va_G) (cA : Nat → ClassId) (ad : Nat → Nat) (σ : St) (hJ : rr_inj ad) (a0 : Nat) (ha0 : a0 < 16) (b0 : Int32) : Met l yX2_takeAway (wX2_takeAway :: wG) ({ frames := 0, cells := 0, slots := 0, locals := 0 }) (va_Pc [.ref (ad a0), .int b0] (rrW G cA ad σ)) (va_Qv (fun σ' => σ' = c_takeAway σ a0 b0) (rrW G cA ad) (rrA ad)) 0 0 (rrA ad) := by
  refine Met.ofW (cc := cX2_takeAway) (maxL := 2) (ret := none) (by decide) rfl ?_
  intro p e s m args below meth c s₁ B hml hv
  obtain ⟨rfl, hP, hK⟩ := hv
  have hx := B.exec
  have hb := B.bytes
  have hr := B.returns
  have hts := atoms_spec (ws := wX2_takeAway :: wG) B.pre
  have hg : ∀ w ∈ wG, w.before _ s = true := fun w h => hts w (List.mem_cons_of_mem _ h)
  have hown : s.vm.findClass RX2 = some m.cls := findClass_of_methodNamed B.named
  have hlocks := B.notSynchronized
  have hS : va_S (rrA ad) s.heap s.heap [] := va_S.rf
  have hl := lv_entry ([.ref (ad a0), .int b0]) (n := 2) (Nat.le_of_ble_eq_true rfl)
  rw [lg_entry_eq]
  generalize (lg_sl ([.ref (ad a0), .int b0]) ++ List.replicate (2 - (lg_sl ([.ref (ad a0), .int b0])).length) Slot.unset).toArray = ls at hl ⊢
  have hl : lv_has ls 2 [(0, .ref (ad a0)), (1, .int b0)] := hl
  refine lv_aload_n hx hb dX2_takeAway_0 rfl (lv_at hl 0 rfl) ?_
  refine lv_dup hx hb dX2_takeAway_1 rfl ?_
  refine va_get (D := G) (ci := 2) (v := .int (σ 2 a0)) (C := RX2) (T := TX2) (N := 13) hx hb hg hinX2 hown hK hP a0 (rl_Place ha0) rfl 4 (by decide) (hg _ qF_X2_22) (fun _ h9 => h9) rfl dX2_takeAway_2 ?_
  refine lv_iload_n hx hb dX2_takeAway_5 rfl (lv_at hl 1 rfl) ?_
  refine lv_isub hx hb dX2_takeAway_6 ?_
  refine pp_put (D := G) (ci := 2) (v := .int ((σ 2 a0) - b0)) (ty := .int) (C := RX2) (T := TX2) (N := 13) hx hb hg hinX2 tyX2 tyX2_ok nmX2 hown hK hP (rr_D hJ) hS a0 (rl_Place ha0) rfl 4 (by decide) (hg _ qF_X2_22) (fun _ h9 => h9) rfl (by decide +kernel) rfl rfl (Nat.le_of_ble_eq_true rfl) (rs_Place_pieces ha0) dX2_takeAway_7 (fun H locs hP hS => ?_)
  obtain ⟨σ1, eσ1⟩ : ∃ z, z = up σ 2 a0 ((σ 2 a0) - b0) := ⟨_, rfl⟩
  rw [← eσ1] at hP
  refine lv_aload_n hx hb dX2_takeAway_10 rfl (lv_at hl 0 rfl) ?_
  refine va_get (D := G) (ci := 2) (v := .int (σ1 2 a0)) (C := RX2) (T := TX2) (N := 13) hx hb hg hinX2 hown hK hP a0 (rl_Place ha0) rfl 4 (by decide) (hg _ qF_X2_22) (fun _ h9 => h9) rfl dX2_takeAway_11 ?_
  refine lv_if_ne (tgt := 22) hx hb dX2_takeAway_14 (by decide) (fun c_14 => ?_) (fun c_14 => ?_)
  · -- ifne taken
    exact W.vret hx hb hr (fun t ht hW => ⟨⟨σ1, rfl, by subst eσ1; simp only [c_takeAway, if_neg c_14], by rw [ht]; exact hP, va_K.moved hW.alike hK⟩, hS.F ht⟩) hS.2.2 dX2_takeAway_22
  · -- ifne not taken
    refine lv_aload_n hx hb dX2_takeAway_17 rfl (lv_at hl 0 rfl) ?_
    refine lv_iconst (v := (-1)) hx hb dX2_takeAway_18 (by decide) ?_
    refine pp_put (D := G) (ci := 2) (v := .int (-1)) (ty := .int) (C := RX2) (T := TX2) (N := 13) hx hb hg hinX2 tyX2 tyX2_ok nmX2 hown hK hP (rr_D hJ) hS a0 (rl_Place ha0) rfl 6 (by decide) (hg _ qF_X2_28) (fun _ h9 => h9) rfl (by decide +kernel) rfl rfl (Nat.le_of_ble_eq_true rfl) (rs_Place_good ha0) dX2_takeAway_19 (fun H locs hP hS => ?_)
    obtain ⟨σ2, eσ2⟩ : ∃ z, z = up σ1 4 a0 (-1) := ⟨_, rfl⟩
    rw [← eσ2] at hP
    exact W.vret hx hb hr (fun t ht hW => ⟨⟨σ2, rfl, by subst eσ1 eσ2; simp only [c_takeAway, if_pos c_14], by rw [ht]; exact hP, va_K.moved hW.alike hK⟩, hS.F ht⟩) hS.2.2 dX2_takeAway_22

set_option maxHeartbeats 4000000 in
set_option maxRecDepth 100000 in
theorem m_Waves_add (l : Launch) (G : va_G) (cA : Nat → ClassId) (ad : Nat → Nat) (σ : St) (hJ : rr_inj ad) (a0 : Int32) (b0 : Int32) (c0 : Int32) (hp0 : ¬ σ 41 0 < 0) : Met l yX5_add (wX5_add :: wG) ({ frames := 0, cells := 0, slots := 0, locals := 0 }) (va_Pc [.ref (ad 74), .int a0, .int b0, .int c0] (rrW G cA ad σ)) (va_Qv (fun σ' => σ' = c_wavesAdd σ a0 b0 c0) (rrW G cA ad) (rrA ad)) 0 0 (rrA ad) := by
  refine Met.ofW (cc := cX5_add) (maxL := 4) (ret := none) (by decide) rfl ?_
  intro p e s m args below meth c s₁ B hml hv
  obtain ⟨rfl, hP, hK⟩ := hv
  have hx := B.exec
  have hb := B.bytes
  have hr := B.returns
  have hts := atoms_spec (ws := wX5_add :: wG) B.pre
  have hg : ∀ w ∈ wG, w.before _ s = true := fun w h => hts w (List.mem_cons_of_mem _ h)
  have hown : s.vm.findClass RX5 = some m.cls := findClass_of_methodNamed B.named
  have hlocks := B.notSynchronized
  have hS : va_S (rrA ad) s.heap s.heap [] := va_S.rf
  have hl := lv_entry ([.ref (ad 74), .int a0, .int b0, .int c0]) (n := 4) (Nat.le_of_ble_eq_true rfl)
  rw [lg_entry_eq]
  generalize (lg_sl ([.ref (ad 74), .int a0, .int b0, .int c0]) ++ List.replicate (4 - (lg_sl ([.ref (ad 74), .int a0, .int b0, .int c0])).length) Slot.unset).toArray = ls at hl ⊢
  have hl : lv_has ls 4 [(0, .ref (ad 74)), (1, .int a0), (2, .int b0), (3, .int c0)] := hl
  refine lv_aload_n hx hb dX5_add_0 rfl (lv_at hl 0 rfl) ?_
  refine va_get (D := G) (ci := 5) (v := .int (σ 41 0)) (C := RX5) (T := TX5) (N := 4) hx hb hg hinX5 hown hK hP 74 rl_Waves rfl 3 (by decide) (hg _ qF_X5_21) (fun _ h9 => h9) rfl dX5_add_1 ?_
  refine lv_bipush (v := 30) hx hb dX5_add_4 (by decide) ?_
  refine lv_icmp_lt (tgt := 10) hx hb dX5_add_6 (by decide) (fun c_6 => ?_) (fun c_6 => ?_)
  · -- if_icmplt taken
    refine lv_aload_n hx hb dX5_add_10 rfl (lv_at hl 0 rfl) ?_
    refine va_get (D := G) (ci := 5) (v := .ref (ad 75)) (C := RX5) (T := TX5) (N := 4) hx hb hg hinX5 hown hK hP 74 rl_Waves rfl 0 (by decide) (hg _ qF_X5_9) (fun _ h9 => h9) rfl dX5_add_11 ?_
    refine lv_aload_n hx hb dX5_add_14 rfl (lv_at hl 0 rfl) ?_
    refine va_get (D := G) (ci := 5) (v := .int (σ 41 0)) (C := RX5) (T := TX5) (N := 4) hx hb hg hinX5 hown hK hP 74 rl_Waves rfl 3 (by decide) (hg _ qF_X5_21) (fun _ h9 => h9) rfl dX5_add_15 ?_
    refine lv_iload_n hx hb dX5_add_18 rfl (lv_at hl 1 rfl) ?_
    refine pp_iast (x := a0) hx hb hK hP (rr_D hJ) hS 75 0 rl_facesA rfl (lt30_in hp0 c_6) (rs_facesA) dX5_add_19 (fun H locs hP hS => ?_)
    obtain ⟨σ1, eσ1⟩ : ∃ z, z = up σ 34 (nx (σ 41 0)) a0 := ⟨_, rfl⟩
    rw [← eσ1] at hP
    refine lv_aload_n hx hb dX5_add_20 rfl (lv_at hl 0 rfl) ?_
    refine va_get (D := G) (ci := 5) (v := .ref (ad 76)) (C := RX5) (T := TX5) (N := 4) hx hb hg hinX5 hown hK hP 74 rl_Waves rfl 1 (by decide) (hg _ qF_X5_15) (fun _ h9 => h9) rfl dX5_add_21 ?_
    refine lv_aload_n hx hb dX5_add_24 rfl (lv_at hl 0 rfl) ?_
    refine va_get (D := G) (ci := 5) (v := .int (σ1 41 0)) (C := RX5) (T := TX5) (N := 4) hx hb hg hinX5 hown hK hP 74 rl_Waves rfl 3 (by decide) (hg _ qF_X5_21) (fun _ h9 => h9) rfl dX5_add_25 ?_
    refine lv_iload_n hx hb dX5_add_28 rfl (lv_at hl 2 rfl) ?_
    refine pp_iast (x := b0) hx hb hK hP (rr_D hJ) hS 76 0 rl_wpiecesA rfl (by rw [eσ1]; exact lt30_in hp0 c_6) (rs_wpiecesA) dX5_add_29 (fun H locs hP hS => ?_)
    obtain ⟨σ2, eσ2⟩ : ∃ z, z = up σ1 35 (nx (σ1 41 0)) b0 := ⟨_, rfl⟩
    rw [← eσ2] at hP
    refine lv_aload_n hx hb dX5_add_30 rfl (lv_at hl 0 rfl) ?_
    refine va_get (D := G) (ci := 5) (v := .ref (ad 77)) (C := RX5) (T := TX5) (N := 4) hx hb hg hinX5 hown hK hP 74 rl_Waves rfl 2 (by decide) (hg _ qF_X5_18) (fun _ h9 => h9) rfl dX5_add_31 ?_
    refine lv_aload_n hx hb dX5_add_34 rfl (lv_at hl 0 rfl) ?_
    refine va_get (D := G) (ci := 5) (v := .int (σ2 41 0)) (C := RX5) (T := TX5) (N := 4) hx hb hg hinX5 hown hK hP 74 rl_Waves rfl 3 (by decide) (hg _ qF_X5_21) (fun _ h9 => h9) rfl dX5_add_35 ?_
    refine lv_iload_n hx hb dX5_add_38 rfl (lv_at hl 3 rfl) ?_
    refine pp_iast (x := c0) hx hb hK hP (rr_D hJ) hS 77 0 rl_daysA rfl (by rw [eσ2, eσ1]; exact lt30_in hp0 c_6) (rs_daysA) dX5_add_39 (fun H locs hP hS => ?_)
    obtain ⟨σ3, eσ3⟩ : ∃ z, z = up σ2 36 (nx (σ2 41 0)) c0 := ⟨_, rfl⟩
    rw [← eσ3] at hP
    refine lv_aload_n hx hb dX5_add_40 rfl (lv_at hl 0 rfl) ?_
    refine lv_dup hx hb dX5_add_41 rfl ?_
    refine va_get (D := G) (ci := 5) (v := .int (σ3 41 0)) (C := RX5) (T := TX5) (N := 4) hx hb hg hinX5 hown hK hP 74 rl_Waves rfl 3 (by decide) (hg _ qF_X5_21) (fun _ h9 => h9) rfl dX5_add_42 ?_
    refine lv_iconst (v := 1) hx hb dX5_add_45 (by decide) ?_
    refine lv_iadd hx hb dX5_add_46 ?_
    refine pp_put (D := G) (ci := 5) (v := .int ((σ3 41 0) + 1)) (ty := .int) (C := RX5) (T := TX5) (N := 4) hx hb hg hinX5 tyX5 tyX5_ok nmX5 hown hK hP (rr_D hJ) hS 74 rl_Waves rfl 3 (by decide) (hg _ qF_X5_21) (fun _ h9 => h9) rfl (by decide +kernel) rfl rfl (Nat.le_of_ble_eq_true rfl) (rs_Waves_count) dX5_add_47 (fun H locs hP hS => ?_)
    obtain ⟨σ4, eσ4⟩ : ∃ z, z = up σ3 41 0 ((σ3 41 0) + 1) := ⟨_, rfl⟩
    rw [← eσ4] at hP
    exact W.vret hx hb hr (fun t ht hW => ⟨⟨σ4, rfl, by subst eσ1 eσ2 eσ3 eσ4; simp only [c_wavesAdd, up_row (show (41 : Nat) ≠ 34 by decide), up_row (show (41 : Nat) ≠ 35 by decide), up_row (show (41 : Nat) ≠ 36 by decide), if_pos c_6], by rw [ht]; exact hP, va_K.moved hW.alike hK⟩, hS.F ht⟩) hS.2.2 dX5_add_50
  · -- if_icmplt not taken
    exact W.vret hx hb hr (fun t ht hW => ⟨⟨σ, rfl, by simp only [c_wavesAdd, up_row (show (41 : Nat) ≠ 34 by decide), up_row (show (41 : Nat) ≠ 35 by decide), up_row (show (41 : Nat) ≠ 36 by decide), if_neg c_6], by rw [ht]; exact hP, va_K.moved hW.alike hK⟩, hS.F ht⟩) hS.2.2 dX5_add_9

set_option maxHeartbeats 4000000 in
set_option maxRecDepth 100000 in
theorem m_Plan_clear (l : Launch) (G : va_G) (cA : Nat → ClassId) (ad : Nat → Nat) (σ : St) (hJ : rr_inj ad) : Met l yX3_clear (wX3_clear :: wG) ({ frames := 0, cells := 0, slots := 0, locals := 0 }) (va_Pc [.ref (ad 78)] (rrW G cA ad σ)) (va_Qv (fun σ' => σ' = c_clear σ) (rrW G cA ad) (rrA ad)) 0 0 (rrA ad) := by
  refine Met.ofW (cc := cX3_clear) (maxL := 1) (ret := none) (by decide) rfl ?_
  intro p e s m args below meth c s₁ B hml hv
  obtain ⟨rfl, hP, hK⟩ := hv
  have hx := B.exec
  have hb := B.bytes
  have hr := B.returns
  have hts := atoms_spec (ws := wX3_clear :: wG) B.pre
  have hg : ∀ w ∈ wG, w.before _ s = true := fun w h => hts w (List.mem_cons_of_mem _ h)
  have hown : s.vm.findClass RX3 = some m.cls := findClass_of_methodNamed B.named
  have hlocks := B.notSynchronized
  have hS : va_S (rrA ad) s.heap s.heap [] := va_S.rf
  have hl := lv_entry ([.ref (ad 78)]) (n := 1) (Nat.le_of_ble_eq_true rfl)
  rw [lg_entry_eq]
  generalize (lg_sl ([.ref (ad 78)]) ++ List.replicate (1 - (lg_sl ([.ref (ad 78)])).length) Slot.unset).toArray = ls at hl ⊢
  have hl : lv_has ls 1 [(0, .ref (ad 78))] := hl
  refine lv_aload_n hx hb dX3_clear_0 rfl (lv_at hl 0 rfl) ?_
  refine lv_iconst (v := 0) hx hb dX3_clear_1 (by decide) ?_
  refine pp_put (D := G) (ci := 3) (v := .int 0) (ty := .int) (C := RX3) (T := TX3) (N := 5) hx hb hg hinX3 tyX3 tyX3_ok nmX3 hown hK hP (rr_D hJ) hS 78 rl_Plan rfl 1 (by decide) (hg _ qF_X3_17) (fun _ h9 => h9) rfl (by decide +kernel) rfl rfl (Nat.le_of_ble_eq_true rfl) (rs_Plan_count) dX3_clear_2 (fun H locs hP hS => ?_)
  obtain ⟨σ1, eσ1⟩ : ∃ z, z = up σ 42 0 0 := ⟨_, rfl⟩
  rw [← eσ1] at hP
  refine lv_aload_n hx hb dX3_clear_5 rfl (lv_at hl 0 rfl) ?_
  refine lv_iconst (v := (-1)) hx hb dX3_clear_6 (by decide) ?_
  refine pp_put (D := G) (ci := 3) (v := .int (-1)) (ty := .int) (C := RX3) (T := TX3) (N := 5) hx hb hg hinX3 tyX3 tyX3_ok nmX3 hown hK hP (rr_D hJ) hS 78 rl_Plan rfl 2 (by decide) (hg _ qF_X3_21) (fun _ h9 => h9) rfl (by decide +kernel) rfl rfl (Nat.le_of_ble_eq_true rfl) (rs_Plan_trip) dX3_clear_7 (fun H locs hP hS => ?_)
  obtain ⟨σ2, eσ2⟩ : ∃ z, z = up σ1 43 0 (-1) := ⟨_, rfl⟩
  rw [← eσ2] at hP
  refine lv_aload_n hx hb dX3_clear_10 rfl (lv_at hl 0 rfl) ?_
  refine lv_iconst (v := (-1)) hx hb dX3_clear_11 (by decide) ?_
  refine pp_put (D := G) (ci := 3) (v := .int (-1)) (ty := .int) (C := RX3) (T := TX3) (N := 5) hx hb hg hinX3 tyX3 tyX3_ok nmX3 hown hK hP (rr_D hJ) hS 78 rl_Plan rfl 3 (by decide) (hg _ qF_X3_24) (fun _ h9 => h9) rfl (by decide +kernel) rfl rfl (Nat.le_of_ble_eq_true rfl) (rs_Plan_tripZone) dX3_clear_12 (fun H locs hP hS => ?_)
  obtain ⟨σ3, eσ3⟩ : ∃ z, z = up σ2 44 0 (-1) := ⟨_, rfl⟩
  rw [← eσ3] at hP
  refine lv_aload_n hx hb dX3_clear_15 rfl (lv_at hl 0 rfl) ?_
  refine lv_iconst (v := 0) hx hb dX3_clear_16 (by decide) ?_
  refine pp_put (D := G) (ci := 3) (v := .int 0) (ty := .int) (C := RX3) (T := TX3) (N := 5) hx hb hg hinX3 tyX3 tyX3_ok nmX3 hown hK hP (rr_D hJ) hS 78 rl_Plan rfl 4 (by decide) (hg _ qF_X3_27) (fun _ h9 => h9) rfl (by decide +kernel) rfl rfl (Nat.le_of_ble_eq_true rfl) (rs_Plan_tripMoves) dX3_clear_17 (fun H locs hP hS => ?_)
  obtain ⟨σ4, eσ4⟩ : ∃ z, z = up σ3 45 0 0 := ⟨_, rfl⟩
  rw [← eσ4] at hP
  exact W.vret hx hb hr (fun t ht hW => ⟨⟨σ4, rfl, by subst eσ1 eσ2 eσ3 eσ4; exact rfl, by rw [ht]; exact hP, va_K.moved hW.alike hK⟩, hS.F ht⟩) hS.2.2 dX3_clear_20

set_option maxHeartbeats 4000000 in
set_option maxRecDepth 100000 in
theorem m_Plan_joinTrip (l : Launch) (G : va_G) (cA : Nat → ClassId) (ad : Nat → Nat) (σ : St) (hJ : rr_inj ad) (a0 : Int32) : Met l yX3_joinTrip (wX3_joinTrip :: wG) ({ frames := 0, cells := 0, slots := 0, locals := 0 }) (va_Pc [.ref (ad 78), .int a0] (rrW G cA ad σ)) (va_Qv (fun σ' => σ' = c_join σ a0) (rrW G cA ad) (rrA ad)) 0 0 (rrA ad) := by
  refine Met.ofW (cc := cX3_joinTrip) (maxL := 2) (ret := none) (by decide) rfl ?_
  intro p e s m args below meth c s₁ B hml hv
  obtain ⟨rfl, hP, hK⟩ := hv
  have hx := B.exec
  have hb := B.bytes
  have hr := B.returns
  have hts := atoms_spec (ws := wX3_joinTrip :: wG) B.pre
  have hg : ∀ w ∈ wG, w.before _ s = true := fun w h => hts w (List.mem_cons_of_mem _ h)
  have hown : s.vm.findClass RX3 = some m.cls := findClass_of_methodNamed B.named
  have hlocks := B.notSynchronized
  have hS : va_S (rrA ad) s.heap s.heap [] := va_S.rf
  have hl := lv_entry ([.ref (ad 78), .int a0]) (n := 2) (Nat.le_of_ble_eq_true rfl)
  rw [lg_entry_eq]
  generalize (lg_sl ([.ref (ad 78), .int a0]) ++ List.replicate (2 - (lg_sl ([.ref (ad 78), .int a0])).length) Slot.unset).toArray = ls at hl ⊢
  have hl : lv_has ls 2 [(0, .ref (ad 78)), (1, .int a0)] := hl
  refine lv_aload_n hx hb dX3_joinTrip_0 rfl (lv_at hl 0 rfl) ?_
  refine va_get (D := G) (ci := 3) (v := .int (σ 44 0)) (C := RX3) (T := TX3) (N := 5) hx hb hg hinX3 hown hK hP 78 rl_Plan rfl 3 (by decide) (hg _ qF_X3_24) (fun _ h9 => h9) rfl dX3_joinTrip_1 ?_
  refine lv_iload_n hx hb dX3_joinTrip_4 rfl (lv_at hl 1 rfl) ?_
  refine lv_icmp_ne (tgt := 16) hx hb dX3_joinTrip_5 (by decide) (fun c_5 => ?_) (fun c_5 => ?_)
  · -- if_icmpne taken
    refine lv_aload_n hx hb dX3_joinTrip_16 rfl (lv_at hl 0 rfl) ?_
    refine lv_dup hx hb dX3_joinTrip_17 rfl ?_
    refine va_get (D := G) (ci := 3) (v := .int (σ 43 0)) (C := RX3) (T := TX3) (N := 5) hx hb hg hinX3 hown hK hP 78 rl_Plan rfl 2 (by decide) (hg _ qF_X3_21) (fun _ h9 => h9) rfl dX3_joinTrip_18 ?_
    refine lv_iconst (v := 1) hx hb dX3_joinTrip_21 (by decide) ?_
    refine lv_iadd hx hb dX3_joinTrip_22 ?_
    refine pp_put (D := G) (ci := 3) (v := .int ((σ 43 0) + 1)) (ty := .int) (C := RX3) (T := TX3) (N := 5) hx hb hg hinX3 tyX3 tyX3_ok nmX3 hown hK hP (rr_D hJ) hS 78 rl_Plan rfl 2 (by decide) (hg _ qF_X3_21) (fun _ h9 => h9) rfl (by decide +kernel) rfl rfl (Nat.le_of_ble_eq_true rfl) (rs_Plan_trip) dX3_joinTrip_23 (fun H locs hP hS => ?_)
    obtain ⟨σ1, eσ1⟩ : ∃ z, z = up σ 43 0 ((σ 43 0) + 1) := ⟨_, rfl⟩
    rw [← eσ1] at hP
    refine lv_aload_n hx hb dX3_joinTrip_26 rfl (lv_at hl 0 rfl) ?_
    refine lv_iload_n hx hb dX3_joinTrip_27 rfl (lv_at hl 1 rfl) ?_
    refine pp_put (D := G) (ci := 3) (v := .int a0) (ty := .int) (C := RX3) (T := TX3) (N := 5) hx hb hg hinX3 tyX3 tyX3_ok nmX3 hown hK hP (rr_D hJ) hS 78 rl_Plan rfl 3 (by decide) (hg _ qF_X3_24) (fun _ h9 => h9) rfl (by decide +kernel) rfl rfl (Nat.le_of_ble_eq_true rfl) (rs_Plan_tripZone) dX3_joinTrip_28 (fun H locs hP hS => ?_)
    obtain ⟨σ2, eσ2⟩ : ∃ z, z = up σ1 44 0 a0 := ⟨_, rfl⟩
    rw [← eσ2] at hP
    refine lv_aload_n hx hb dX3_joinTrip_31 rfl (lv_at hl 0 rfl) ?_
    refine lv_iconst (v := 0) hx hb dX3_joinTrip_32 (by decide) ?_
    refine pp_put (D := G) (ci := 3) (v := .int 0) (ty := .int) (C := RX3) (T := TX3) (N := 5) hx hb hg hinX3 tyX3 tyX3_ok nmX3 hown hK hP (rr_D hJ) hS 78 rl_Plan rfl 4 (by decide) (hg _ qF_X3_27) (fun _ h9 => h9) rfl (by decide +kernel) rfl rfl (Nat.le_of_ble_eq_true rfl) (rs_Plan_tripMoves) dX3_joinTrip_33 (fun H locs hP hS => ?_)
    obtain ⟨σ3, eσ3⟩ : ∃ z, z = up σ2 45 0 0 := ⟨_, rfl⟩
    rw [← eσ3] at hP
    refine lv_aload_n hx hb dX3_joinTrip_36 rfl (lv_at hl 0 rfl) ?_
    refine lv_dup hx hb dX3_joinTrip_37 rfl ?_
    refine va_get (D := G) (ci := 3) (v := .int (σ3 45 0)) (C := RX3) (T := TX3) (N := 5) hx hb hg hinX3 hown hK hP 78 rl_Plan rfl 4 (by decide) (hg _ qF_X3_27) (fun _ h9 => h9) rfl dX3_joinTrip_38 ?_
    refine lv_iconst (v := 1) hx hb dX3_joinTrip_41 (by decide) ?_
    refine lv_iadd hx hb dX3_joinTrip_42 ?_
    refine pp_put (D := G) (ci := 3) (v := .int ((σ3 45 0) + 1)) (ty := .int) (C := RX3) (T := TX3) (N := 5) hx hb hg hinX3 tyX3 tyX3_ok nmX3 hown hK hP (rr_D hJ) hS 78 rl_Plan rfl 4 (by decide) (hg _ qF_X3_27) (fun _ h9 => h9) rfl (by decide +kernel) rfl rfl (Nat.le_of_ble_eq_true rfl) (rs_Plan_tripMoves) dX3_joinTrip_43 (fun H locs hP hS => ?_)
    obtain ⟨σ4, eσ4⟩ : ∃ z, z = up σ3 45 0 ((σ3 45 0) + 1) := ⟨_, rfl⟩
    rw [← eσ4] at hP
    exact W.vret hx hb hr (fun t ht hW => ⟨⟨σ4, rfl, by subst eσ1 eσ2 eσ3 eσ4; simp only [c_join, c_joinA, c_joinB, if_neg c_5], by rw [ht]; exact hP, va_K.moved hW.alike hK⟩, hS.F ht⟩) hS.2.2 dX3_joinTrip_46
  · -- if_icmpne not taken
    refine lv_aload_n hx hb dX3_joinTrip_8 rfl (lv_at hl 0 rfl) ?_
    refine va_get (D := G) (ci := 3) (v := .int (σ 45 0)) (C := RX3) (T := TX3) (N := 5) hx hb hg hinX3 hown hK hP 78 rl_Plan rfl 4 (by decide) (hg _ qF_X3_27) (fun _ h9 => h9) rfl dX3_joinTrip_9 ?_
    refine lv_iconst (v := 3) hx hb dX3_joinTrip_12 (by decide) ?_
    refine lv_icmp_lt (tgt := 36) hx hb dX3_joinTrip_13 (by decide) (fun c_13 => ?_) (fun c_13 => ?_)
    · -- if_icmplt taken
      refine lv_aload_n hx hb dX3_joinTrip_36 rfl (lv_at hl 0 rfl) ?_
      refine lv_dup hx hb dX3_joinTrip_37 rfl ?_
      refine va_get (D := G) (ci := 3) (v := .int (σ 45 0)) (C := RX3) (T := TX3) (N := 5) hx hb hg hinX3 hown hK hP 78 rl_Plan rfl 4 (by decide) (hg _ qF_X3_27) (fun _ h9 => h9) rfl dX3_joinTrip_38 ?_
      refine lv_iconst (v := 1) hx hb dX3_joinTrip_41 (by decide) ?_
      refine lv_iadd hx hb dX3_joinTrip_42 ?_
      refine pp_put (D := G) (ci := 3) (v := .int ((σ 45 0) + 1)) (ty := .int) (C := RX3) (T := TX3) (N := 5) hx hb hg hinX3 tyX3 tyX3_ok nmX3 hown hK hP (rr_D hJ) hS 78 rl_Plan rfl 4 (by decide) (hg _ qF_X3_27) (fun _ h9 => h9) rfl (by decide +kernel) rfl rfl (Nat.le_of_ble_eq_true rfl) (rs_Plan_tripMoves) dX3_joinTrip_43 (fun H locs hP hS => ?_)
      obtain ⟨σ1, eσ1⟩ : ∃ z, z = up σ 45 0 ((σ 45 0) + 1) := ⟨_, rfl⟩
      rw [← eσ1] at hP
      exact W.vret hx hb hr (fun t ht hW => ⟨⟨σ1, rfl, by subst eσ1; simp only [c_join, c_joinA, c_joinB, if_pos c_5, if_pos c_13], by rw [ht]; exact hP, va_K.moved hW.alike hK⟩, hS.F ht⟩) hS.2.2 dX3_joinTrip_46
    · -- if_icmplt not taken
      refine lv_aload_n hx hb dX3_joinTrip_16 rfl (lv_at hl 0 rfl) ?_
      refine lv_dup hx hb dX3_joinTrip_17 rfl ?_
      refine va_get (D := G) (ci := 3) (v := .int (σ 43 0)) (C := RX3) (T := TX3) (N := 5) hx hb hg hinX3 hown hK hP 78 rl_Plan rfl 2 (by decide) (hg _ qF_X3_21) (fun _ h9 => h9) rfl dX3_joinTrip_18 ?_
      refine lv_iconst (v := 1) hx hb dX3_joinTrip_21 (by decide) ?_
      refine lv_iadd hx hb dX3_joinTrip_22 ?_
      refine pp_put (D := G) (ci := 3) (v := .int ((σ 43 0) + 1)) (ty := .int) (C := RX3) (T := TX3) (N := 5) hx hb hg hinX3 tyX3 tyX3_ok nmX3 hown hK hP (rr_D hJ) hS 78 rl_Plan rfl 2 (by decide) (hg _ qF_X3_21) (fun _ h9 => h9) rfl (by decide +kernel) rfl rfl (Nat.le_of_ble_eq_true rfl) (rs_Plan_trip) dX3_joinTrip_23 (fun H locs hP hS => ?_)
      obtain ⟨σ1, eσ1⟩ : ∃ z, z = up σ 43 0 ((σ 43 0) + 1) := ⟨_, rfl⟩
      rw [← eσ1] at hP
      refine lv_aload_n hx hb dX3_joinTrip_26 rfl (lv_at hl 0 rfl) ?_
      refine lv_iload_n hx hb dX3_joinTrip_27 rfl (lv_at hl 1 rfl) ?_
      refine pp_put (D := G) (ci := 3) (v := .int a0) (ty := .int) (C := RX3) (T := TX3) (N := 5) hx hb hg hinX3 tyX3 tyX3_ok nmX3 hown hK hP (rr_D hJ) hS 78 rl_Plan rfl 3 (by decide) (hg _ qF_X3_24) (fun _ h9 => h9) rfl (by decide +kernel) rfl rfl (Nat.le_of_ble_eq_true rfl) (rs_Plan_tripZone) dX3_joinTrip_28 (fun H locs hP hS => ?_)
      obtain ⟨σ2, eσ2⟩ : ∃ z, z = up σ1 44 0 a0 := ⟨_, rfl⟩
      rw [← eσ2] at hP
      refine lv_aload_n hx hb dX3_joinTrip_31 rfl (lv_at hl 0 rfl) ?_
      refine lv_iconst (v := 0) hx hb dX3_joinTrip_32 (by decide) ?_
      refine pp_put (D := G) (ci := 3) (v := .int 0) (ty := .int) (C := RX3) (T := TX3) (N := 5) hx hb hg hinX3 tyX3 tyX3_ok nmX3 hown hK hP (rr_D hJ) hS 78 rl_Plan rfl 4 (by decide) (hg _ qF_X3_27) (fun _ h9 => h9) rfl (by decide +kernel) rfl rfl (Nat.le_of_ble_eq_true rfl) (rs_Plan_tripMoves) dX3_joinTrip_33 (fun H locs hP hS => ?_)
      obtain ⟨σ3, eσ3⟩ : ∃ z, z = up σ2 45 0 0 := ⟨_, rfl⟩
      rw [← eσ3] at hP
      refine lv_aload_n hx hb dX3_joinTrip_36 rfl (lv_at hl 0 rfl) ?_
      refine lv_dup hx hb dX3_joinTrip_37 rfl ?_
      refine va_get (D := G) (ci := 3) (v := .int (σ3 45 0)) (C := RX3) (T := TX3) (N := 5) hx hb hg hinX3 hown hK hP 78 rl_Plan rfl 4 (by decide) (hg _ qF_X3_27) (fun _ h9 => h9) rfl dX3_joinTrip_38 ?_
      refine lv_iconst (v := 1) hx hb dX3_joinTrip_41 (by decide) ?_
      refine lv_iadd hx hb dX3_joinTrip_42 ?_
      refine pp_put (D := G) (ci := 3) (v := .int ((σ3 45 0) + 1)) (ty := .int) (C := RX3) (T := TX3) (N := 5) hx hb hg hinX3 tyX3 tyX3_ok nmX3 hown hK hP (rr_D hJ) hS 78 rl_Plan rfl 4 (by decide) (hg _ qF_X3_27) (fun _ h9 => h9) rfl (by decide +kernel) rfl rfl (Nat.le_of_ble_eq_true rfl) (rs_Plan_tripMoves) dX3_joinTrip_43 (fun H locs hP hS => ?_)
      obtain ⟨σ4, eσ4⟩ : ∃ z, z = up σ3 45 0 ((σ3 45 0) + 1) := ⟨_, rfl⟩
      rw [← eσ4] at hP
      exact W.vret hx hb hr (fun t ht hW => ⟨⟨σ4, rfl, by subst eσ1 eσ2 eσ3 eσ4; simp only [c_join, c_joinA, c_joinB, if_pos c_5, if_neg c_13], by rw [ht]; exact hP, va_K.moved hW.alike hK⟩, hS.F ht⟩) hS.2.2 dX3_joinTrip_46

set_option maxHeartbeats 4000000 in
set_option maxRecDepth 100000 in
theorem m_Plan_add (l : Launch) (G : va_G) (cA : Nat → ClassId) (ad : Nat → Nat) (σ : St) (hJ : rr_inj ad) (a0 : Nat) (ha0 : a0 < 16) (b0 : Nat) (hb0 : b0 < 16) (c0 : Int32) (hp0 : ¬ σ 42 0 < 0) : Met l yX3_add (wX3_add :: wG) ({ frames := 2, cells := 0, slots := 0, locals := 40 }) (va_Pc [.ref (ad 78), .ref (ad a0), .ref (ad b0), .int c0] (rrW G cA ad σ)) (va_Qv (fun σ' => σ' = c_add σ a0 b0 c0) (rrW G cA ad) (rrA ad)) 0 0 (rrA ad) := by
  refine Met.ofW (cc := cX3_add) (maxL := 5) (ret := none) (by decide) rfl ?_
  intro p e s m args below meth c s₁ B hml hv
  obtain ⟨rfl, hP, hK⟩ := hv
  have hx := B.exec
  have hb := B.bytes
  have hr := B.returns
  have hts := atoms_spec (ws := wX3_add :: wG) B.pre
  have hg : ∀ w ∈ wG, w.before _ s = true := fun w h => hts w (List.mem_cons_of_mem _ h)
  have hown : s.vm.findClass RX3 = some m.cls := findClass_of_methodNamed B.named
  have hlocks := B.notSynchronized
  have hS : va_S (rrA ad) s.heap s.heap [] := va_S.rf
  have hl := lv_entry ([.ref (ad 78), .ref (ad a0), .ref (ad b0), .int c0]) (n := 5) (Nat.le_of_ble_eq_true rfl)
  rw [lg_entry_eq]
  generalize (lg_sl ([.ref (ad 78), .ref (ad a0), .ref (ad b0), .int c0]) ++ List.replicate (5 - (lg_sl ([.ref (ad 78), .ref (ad a0), .ref (ad b0), .int c0])).length) Slot.unset).toArray = ls at hl ⊢
  have hl : lv_has ls 5 [(0, .ref (ad 78)), (1, .ref (ad a0)), (2, .ref (ad b0)), (3, .int c0)] := hl
  refine lv_aload_n hx hb dX3_add_0 rfl (lv_at hl 0 rfl) ?_
  refine va_get (D := G) (ci := 3) (v := .int (σ 42 0)) (C := RX3) (T := TX3) (N := 5) hx hb hg hinX3 hown hK hP 78 rl_Plan rfl 1 (by decide) (hg _ qF_X3_17) (fun _ h9 => h9) rfl dX3_add_1 ?_
  refine lv_bipush (v := 30) hx hb dX3_add_4 (by decide) ?_
  refine lv_icmp_lt (tgt := 10) hx hb dX3_add_6 (by decide) (fun c_6 => ?_) (fun c_6 => ?_)
  · -- if_icmplt taken
    refine lv_aload_n hx hb dX3_add_10 rfl (lv_at hl 0 rfl) ?_
    refine lv_aload_n hx hb dX3_add_11 rfl (lv_at hl 1 rfl) ?_
    refine va_get (D := G) (ci := 2) (v := .int (σ 1 a0)) (C := RX2) (T := TX2) (N := 13) hx hb hg hinX2 hown hK hP a0 (rl_Place ha0) rfl 3 (by decide) (hg _ qF_X3_38) (fun _ h9 => h9) rfl dX3_add_12 ?_
    refine va_callv (va_runV (As := [.int (σ 1 a0)]) (rest := []) ⟨hx, hb, hml, hown, hg⟩ (m_Plan_joinTrip l G cA ad σ hJ (σ 1 a0)) (cwV 1 hg (gV qM_X3_43 qI_X3_joinTrip qS_X3_joinTrip qN_X3 kX3_joinTrip) rfl rfl rfl (by decide +kernel) ⟨Nat.le_of_ble_eq_true rfl, Nat.le_of_ble_eq_true rfl⟩) (rr_pv hK hP (va_recv hK hP (ci := 3) (q0 := 78) rfl rl_Plan)) rfl rfl hl.1 rfl (lv_room (Nat.le_of_ble_eq_true rfl)) dX3_add_15 ⟨Nat.le_of_ble_eq_true rfl, Nat.le_of_ble_eq_true rfl⟩) hS (fun q _ h => h) (fun q h => h) (fun σ1 t H locs ht hvm eσ1 hB hz9 hk9 hS => ?_)
    have hP := hB.1
    rw [ht] at hP
    refine lv_aload_n hx hb dX3_add_18 rfl (lv_at hl 0 rfl) ?_
    refine va_get (D := G) (ci := 3) (v := .ref (ad 79)) (C := RX3) (T := TX3) (N := 5) hx hb hg hinX3 hown hK hP 78 rl_Plan rfl 0 (by decide) (hg _ qF_X3_11) (fun _ h9 => h9) rfl dX3_add_19 ?_
    refine lv_aload_n hx hb dX3_add_22 rfl (lv_at hl 0 rfl) ?_
    refine va_get (D := G) (ci := 3) (v := .int (σ1 42 0)) (C := RX3) (T := TX3) (N := 5) hx hb hg hinX3 hown hK hP 78 rl_Plan rfl 1 (by decide) (hg _ qF_X3_17) (fun _ h9 => h9) rfl dX3_add_23 ?_
    refine va_aldq hx hb hK hP 79 4 rl_movesA rfl (by rw [eσ1, join_42]; exact lt30_in hp0 c_6) dX3_add_26 ?_
    show W _ _ _ _ _ _ _ _ _ _ _ _ _ _ _ (F0 m _ ls (.ref (ad (36 + nx (σ1 42 0))) :: []))
    refine lv_astore (lv' := [(4, .ref (ad (36 + nx (σ1 42 0)))), (0, .ref (ad 78)), (1, .ref (ad a0)), (2, .ref (ad b0)), (3, .int c0)]) hx hb dX3_add_27 hl (by decide) rfl (fun ls hl => ?_)
    refine lv_aload hx hb dX3_add_29 (lv_at hl 0 rfl) ?_
    refine lv_aload_n hx hb dX3_add_31 rfl (lv_at hl 2 rfl) ?_
    refine va_get (D := G) (ci := 2) (v := .int (nI a0)) (C := RX2) (T := TX2) (N := 13) hx hb hg hinX2 hown hK hP a0 (rl_Place ha0) rfl 0 (by decide) (hg _ qF_X3_47) (fun _ h9 => h9) rfl dX3_add_32 ?_
    refine pp_put (D := G) (ci := 1) (v := .int (nI a0)) (ty := .int) (C := RX1) (T := TX1) (N := 7) hx hb hg hinX1 tyX1 tyX1_ok nmX1 hown hK hP (rr_D hJ) hS (36 + (nx (σ1 42 0))) (rl_Move (vp_lt (by rw [eσ1, join_42]; exact lt30_in hp0 c_6))) rfl 0 (by decide) (hg _ qF_X3_50) (fun _ h9 => h9) rfl (by decide +kernel) rfl rfl (Nat.le_of_ble_eq_true rfl) (rs_Move_from (vp_lt (by rw [eσ1, join_42]; exact lt30_in hp0 c_6))) dX3_add_35 (fun H locs hP hS => ?_)
    obtain ⟨σ2, eσ2⟩ : ∃ z, z = up σ1 50 (nx (σ1 42 0)) (nI a0) := ⟨_, rfl⟩
    rw [← eσ2] at hP
    refine lv_aload hx hb dX3_add_38 (lv_at hl 0 rfl) ?_
    refine lv_aload_n hx hb dX3_add_40 rfl (lv_at hl 3 rfl) ?_
    refine va_get (D := G) (ci := 2) (v := .int (nI b0)) (C := RX2) (T := TX2) (N := 13) hx hb hg hinX2 hown hK hP b0 (rl_Place hb0) rfl 0 (by decide) (hg _ qF_X3_47) (fun _ h9 => h9) rfl dX3_add_41 ?_
    refine pp_put (D := G) (ci := 1) (v := .int (nI b0)) (ty := .int) (C := RX1) (T := TX1) (N := 7) hx hb hg hinX1 tyX1 tyX1_ok nmX1 hown hK hP (rr_D hJ) hS (36 + (nx (σ1 42 0))) (rl_Move (vp_lt (by rw [eσ1, join_42]; exact lt30_in hp0 c_6))) rfl 1 (by decide) (hg _ qF_X3_53) (fun _ h9 => h9) rfl (by decide +kernel) rfl rfl (Nat.le_of_ble_eq_true rfl) (rs_Move_to (vp_lt (by rw [eσ1, join_42]; exact lt30_in hp0 c_6))) dX3_add_44 (fun H locs hP hS => ?_)
    obtain ⟨σ3, eσ3⟩ : ∃ z, z = up σ2 51 (nx (σ1 42 0)) (nI b0) := ⟨_, rfl⟩
    rw [← eσ3] at hP
    refine lv_aload hx hb dX3_add_47 (lv_at hl 0 rfl) ?_
    refine lv_iload_n hx hb dX3_add_49 rfl (lv_at hl 4 rfl) ?_
    refine pp_put (D := G) (ci := 1) (v := .int c0) (ty := .int) (C := RX1) (T := TX1) (N := 7) hx hb hg hinX1 tyX1 tyX1_ok nmX1 hown hK hP (rr_D hJ) hS (36 + (nx (σ1 42 0))) (rl_Move (vp_lt (by rw [eσ1, join_42]; exact lt30_in hp0 c_6))) rfl 2 (by decide) (hg _ qF_X3_56) (fun _ h9 => h9) rfl (by decide +kernel) rfl rfl (Nat.le_of_ble_eq_true rfl) (rs_Move_pieces (vp_lt (by rw [eσ1, join_42]; exact lt30_in hp0 c_6))) dX3_add_50 (fun H locs hP hS => ?_)
    obtain ⟨σ4, eσ4⟩ : ∃ z, z = up σ3 52 (nx (σ1 42 0)) c0 := ⟨_, rfl⟩
    rw [← eσ4] at hP
    refine lv_aload hx hb dX3_add_53 (lv_at hl 0 rfl) ?_
    refine lv_aload_n hx hb dX3_add_55 rfl (lv_at hl 3 rfl) ?_
    refine va_get (D := G) (ci := 2) (v := .int (σ4 10 b0)) (C := RX2) (T := TX2) (N := 13) hx hb hg hinX2 hown hK hP b0 (rl_Place hb0) rfl 12 (by decide) (hg _ qF_X3_59) (fun _ h9 => h9) rfl dX3_add_56 ?_
    refine pp_put (D := G) (ci := 1) (v := .int (σ4 10 b0)) (ty := .int) (C := RX1) (T := TX1) (N := 7) hx hb hg hinX1 tyX1 tyX1_ok nmX1 hown hK hP (rr_D hJ) hS (36 + (nx (σ1 42 0))) (rl_Move (vp_lt (by rw [eσ1, join_42]; exact lt30_in hp0 c_6))) rfl 3 (by decide) (hg _ qF_X3_62) (fun _ h9 => h9) rfl (by decide +kernel) rfl rfl (Nat.le_of_ble_eq_true rfl) (rs_Move_needTime (vp_lt (by rw [eσ1, join_42]; exact lt30_in hp0 c_6))) dX3_add_59 (fun H locs hP hS => ?_)
    obtain ⟨σ5, eσ5⟩ : ∃ z, z = up σ4 53 (nx (σ1 42 0)) (σ4 10 b0) := ⟨_, rfl⟩
    rw [← eσ5] at hP
    refine lv_aload hx hb dX3_add_62 (lv_at hl 0 rfl) ?_
    refine lv_aload_n hx hb dX3_add_64 rfl (lv_at hl 1 rfl) ?_
    refine va_get (D := G) (ci := 3) (v := .int (σ5 43 0)) (C := RX3) (T := TX3) (N := 5) hx hb hg hinX3 hown hK hP 78 rl_Plan rfl 2 (by decide) (hg _ qF_X3_21) (fun _ h9 => h9) rfl dX3_add_65 ?_
    refine pp_put (D := G) (ci := 1) (v := .int (σ5 43 0)) (ty := .int) (C := RX1) (T := TX1) (N := 7) hx hb hg hinX1 tyX1 tyX1_ok nmX1 hown hK hP (rr_D hJ) hS (36 + (nx (σ1 42 0))) (rl_Move (vp_lt (by rw [eσ1, join_42]; exact lt30_in hp0 c_6))) rfl 4 (by decide) (hg _ qF_X3_63) (fun _ h9 => h9) rfl (by decide +kernel) rfl rfl (Nat.le_of_ble_eq_true rfl) (rs_Move_trip (vp_lt (by rw [eσ1, join_42]; exact lt30_in hp0 c_6))) dX3_add_68 (fun H locs hP hS => ?_)
    obtain ⟨σ6, eσ6⟩ : ∃ z, z = up σ5 54 (nx (σ1 42 0)) (σ5 43 0) := ⟨_, rfl⟩
    rw [← eσ6] at hP
    refine lv_aload hx hb dX3_add_71 (lv_at hl 0 rfl) ?_
    refine lv_aload_n hx hb dX3_add_73 rfl (lv_at hl 2 rfl) ?_
    refine vp_callSi (W.runV (As := []) (rest := [.ref (ad (36 + nx (σ1 42 0)))]) ⟨hx, hb, hml, hown, hg⟩ (m_Place_free l G cA ad σ6 a0 ha0) (cwV 0 hg (gV qM_X3_64 qI_X2_free qS_X2_free qN_X2 kX2_free) rfl rfl rfl (by decide +kernel) ⟨Nat.le_of_ble_eq_true rfl, Nat.le_of_ble_eq_true rfl⟩) (rr_pv hK hP (va_recv hK hP (ci := 2) (q0 := a0) rfl (rl_Place ha0))) rfl rfl hl.1 rfl (lv_room (Nat.le_of_ble_eq_true rfl)) dX3_add_74 ⟨Nat.le_of_ble_eq_true rfl, Nat.le_of_ble_eq_true rfl⟩) (nm_e ?_)
    refine lv_if_ne (tgt := 84) hx hb dX3_add_77 (by decide) (fun c_77 => ?_) (fun c_77 => ?_)
    · -- ifne taken
      refine lv_iconst (v := 0) hx hb dX3_add_84 (by decide) ?_
      refine pp_put (D := G) (ci := 1) (v := .int 0) (ty := .boolean) (C := RX1) (T := TX1) (N := 7) hx hb hg hinX1 tyX1 tyX1_ok nmX1 hown hK hP (rr_D hJ) hS (36 + (nx (σ1 42 0))) (rl_Move (vp_lt (by rw [eσ1, join_42]; exact lt30_in hp0 c_6))) rfl 5 (by decide) (hg _ qF_X3_68) (fun _ h9 => h9) rfl (by decide +kernel) rfl rfl (Nat.le_of_ble_eq_true rfl) (rs_Move_emptiesReserve (vp_lt (by rw [eσ1, join_42]; exact lt30_in hp0 c_6))) dX3_add_85 (fun H locs hP hS => ?_)
      obtain ⟨σ7, eσ7⟩ : ∃ z, z = up σ6 55 (nx (σ1 42 0)) 0 := ⟨_, rfl⟩
      rw [← eσ7] at hP
      refine lv_aload hx hb dX3_add_88 (lv_at hl 0 rfl) ?_
      refine lv_iconst (v := 0) hx hb dX3_add_90 (by decide) ?_
      refine pp_put (D := G) (ci := 1) (v := .int 0) (ty := .boolean) (C := RX1) (T := TX1) (N := 7) hx hb hg hinX1 tyX1 tyX1_ok nmX1 hown hK hP (rr_D hJ) hS (36 + (nx (σ1 42 0))) (rl_Move (vp_lt (by rw [eσ1, join_42]; exact lt30_in hp0 c_6))) rfl 6 (by decide) (hg _ qF_X3_72) (fun _ h9 => h9) rfl (by decide +kernel) rfl rfl (Nat.le_of_ble_eq_true rfl) (rs_Move_isDone (vp_lt (by rw [eσ1, join_42]; exact lt30_in hp0 c_6))) dX3_add_91 (fun H locs hP hS => ?_)
      obtain ⟨σ8, eσ8⟩ : ∃ z, z = up σ7 56 (nx (σ1 42 0)) 0 := ⟨_, rfl⟩
      rw [← eσ8] at hP
      refine lv_aload_n hx hb dX3_add_94 rfl (lv_at hl 1 rfl) ?_
      refine lv_dup hx hb dX3_add_95 rfl ?_
      refine va_get (D := G) (ci := 3) (v := .int (σ8 42 0)) (C := RX3) (T := TX3) (N := 5) hx hb hg hinX3 hown hK hP 78 rl_Plan rfl 1 (by decide) (hg _ qF_X3_17) (fun _ h9 => h9) rfl dX3_add_96 ?_
      refine lv_iconst (v := 1) hx hb dX3_add_99 (by decide) ?_
      refine lv_iadd hx hb dX3_add_100 ?_
      refine pp_put (D := G) (ci := 3) (v := .int ((σ8 42 0) + 1)) (ty := .int) (C := RX3) (T := TX3) (N := 5) hx hb hg hinX3 tyX3 tyX3_ok nmX3 hown hK hP (rr_D hJ) hS 78 rl_Plan rfl 1 (by decide) (hg _ qF_X3_17) (fun _ h9 => h9) rfl (by decide +kernel) rfl rfl (Nat.le_of_ble_eq_true rfl) (rs_Plan_count) dX3_add_101 (fun H locs hP hS => ?_)
      obtain ⟨σ9, eσ9⟩ : ∃ z, z = up σ8 42 0 ((σ8 42 0) + 1) := ⟨_, rfl⟩
      rw [← eσ9] at hP
      exact W.vret hx hb hr (fun t ht hW => ⟨⟨σ9, rfl, by subst eσ1 eσ2 eσ3 eσ4 eσ5 eσ6 eσ7 eσ8 eσ9; simp only [c_add, if_pos c_6, if_neg c_77], by rw [ht]; exact hP, va_K.moved hW.alike hK⟩, hS.F ht⟩) hS.2.2 dX3_add_104
    · -- ifne not taken
      refine lv_iconst (v := 1) hx hb dX3_add_80 (by decide) ?_
      refine lv_goto (tgt := 85) hx hb dX3_add_81 (by decide) ?_
      refine pp_put (D := G) (ci := 1) (v := .int 1) (ty := .boolean) (C := RX1) (T := TX1) (N := 7) hx hb hg hinX1 tyX1 tyX1_ok nmX1 hown hK hP (rr_D hJ) hS (36 + (nx (σ1 42 0))) (rl_Move (vp_lt (by rw [eσ1, join_42]; exact lt30_in hp0 c_6))) rfl 5 (by decide) (hg _ qF_X3_68) (fun _ h9 => h9) rfl (by decide +kernel) rfl rfl (Nat.le_of_ble_eq_true rfl) (rs_Move_emptiesReserve (vp_lt (by rw [eσ1, join_42]; exact lt30_in hp0 c_6))) dX3_add_85 (fun H locs hP hS => ?_)
      obtain ⟨σ7, eσ7⟩ : ∃ z, z = up σ6 55 (nx (σ1 42 0)) 1 := ⟨_, rfl⟩
      rw [← eσ7] at hP
      refine lv_aload hx hb dX3_add_88 (lv_at hl 0 rfl) ?_
      refine lv_iconst (v := 0) hx hb dX3_add_90 (by decide) ?_
      refine pp_put (D := G) (ci := 1) (v := .int 0) (ty := .boolean) (C := RX1) (T := TX1) (N := 7) hx hb hg hinX1 tyX1 tyX1_ok nmX1 hown hK hP (rr_D hJ) hS (36 + (nx (σ1 42 0))) (rl_Move (vp_lt (by rw [eσ1, join_42]; exact lt30_in hp0 c_6))) rfl 6 (by decide) (hg _ qF_X3_72) (fun _ h9 => h9) rfl (by decide +kernel) rfl rfl (Nat.le_of_ble_eq_true rfl) (rs_Move_isDone (vp_lt (by rw [eσ1, join_42]; exact lt30_in hp0 c_6))) dX3_add_91 (fun H locs hP hS => ?_)
      obtain ⟨σ8, eσ8⟩ : ∃ z, z = up σ7 56 (nx (σ1 42 0)) 0 := ⟨_, rfl⟩
      rw [← eσ8] at hP
      refine lv_aload_n hx hb dX3_add_94 rfl (lv_at hl 1 rfl) ?_
      refine lv_dup hx hb dX3_add_95 rfl ?_
      refine va_get (D := G) (ci := 3) (v := .int (σ8 42 0)) (C := RX3) (T := TX3) (N := 5) hx hb hg hinX3 hown hK hP 78 rl_Plan rfl 1 (by decide) (hg _ qF_X3_17) (fun _ h9 => h9) rfl dX3_add_96 ?_
      refine lv_iconst (v := 1) hx hb dX3_add_99 (by decide) ?_
      refine lv_iadd hx hb dX3_add_100 ?_
      refine pp_put (D := G) (ci := 3) (v := .int ((σ8 42 0) + 1)) (ty := .int) (C := RX3) (T := TX3) (N := 5) hx hb hg hinX3 tyX3 tyX3_ok nmX3 hown hK hP (rr_D hJ) hS 78 rl_Plan rfl 1 (by decide) (hg _ qF_X3_17) (fun _ h9 => h9) rfl (by decide +kernel) rfl rfl (Nat.le_of_ble_eq_true rfl) (rs_Plan_count) dX3_add_101 (fun H locs hP hS => ?_)
      obtain ⟨σ9, eσ9⟩ : ∃ z, z = up σ8 42 0 ((σ8 42 0) + 1) := ⟨_, rfl⟩
      rw [← eσ9] at hP
      exact W.vret hx hb hr (fun t ht hW => ⟨⟨σ9, rfl, by subst eσ1 eσ2 eσ3 eσ4 eσ5 eσ6 eσ7 eσ8 eσ9; simp only [c_add, if_pos c_6, if_pos c_77], by rw [ht]; exact hP, va_K.moved hW.alike hK⟩, hS.F ht⟩) hS.2.2 dX3_add_104
  · -- if_icmplt not taken
    exact W.vret hx hb hr (fun t ht hW => ⟨⟨σ, rfl, by simp only [c_add, if_neg c_6], by rw [ht]; exact hP, va_K.moved hW.alike hK⟩, hS.F ht⟩) hS.2.2 dX3_add_9

set_option maxHeartbeats 4000000 in
set_option maxRecDepth 100000 in
theorem m_ReplenishRules_planMove (l : Launch) (G : va_G) (cA : Nat → ClassId) (ad : Nat → Nat) (σ : St) (hJ : rr_inj ad) (a0 : Nat) (ha0 : a0 < 16) (b0 : Nat) (hb0 : b0 < 16) (hp0 : ¬ σ 42 0 < 0) : Met l yX6_planMove (wX6_planMove :: wG) ({ frames := 3, cells := 0, slots := 0, locals := 64 }) (va_Pc [.ref (ad 66), .ref (ad a0), .ref (ad b0)] (rrW G cA ad σ)) (va_Qv (fun σ' => σ' = c_planMove σ a0 b0) (rrW G cA ad) (rrA ad)) 0 0 (rrA ad) := by
  refine Met.ofW (cc := cX6_planMove) (maxL := 4) (ret := none) (by decide) rfl ?_
  intro p e s m args below meth c s₁ B hml hv
  obtain ⟨rfl, hP, hK⟩ := hv
  have hx := B.exec
  have hb := B.bytes
  have hr := B.returns
  have hts := atoms_spec (ws := wX6_planMove :: wG) B.pre
  have hg : ∀ w ∈ wG, w.before _ s = true := fun w h => hts w (List.mem_cons_of_mem _ h)
  have hown : s.vm.findClass RX6 = some m.cls := findClass_of_methodNamed B.named
  have hlocks := B.notSynchronized
  have hS : va_S (rrA ad) s.heap s.heap [] := va_S.rf
  have hl := lv_entry ([.ref (ad 66), .ref (ad a0), .ref (ad b0)]) (n := 4) (Nat.le_of_ble_eq_true rfl)
  rw [lg_entry_eq]
  generalize (lg_sl ([.ref (ad 66), .ref (ad a0), .ref (ad b0)]) ++ List.replicate (4 - (lg_sl ([.ref (ad 66), .ref (ad a0), .ref (ad b0)])).length) Slot.unset).toArray = ls at hl ⊢
  have hl : lv_has ls 4 [(0, .ref (ad 66)), (1, .ref (ad a0)), (2, .ref (ad b0))] := hl
  refine lv_aload_n hx hb dX6_planMove_0 rfl (lv_at hl 1 rfl) ?_
  refine vp_callSi (W.runV (As := []) (rest := []) ⟨hx, hb, hml, hown, hg⟩ (m_Place_free l G cA ad σ a0 ha0) (cwV 0 hg (gV qM_X6_328 qI_X2_free qS_X2_free qN_X2 kX2_free) rfl rfl rfl (by decide +kernel) ⟨Nat.le_of_ble_eq_true rfl, Nat.le_of_ble_eq_true rfl⟩) (rr_pv hK hP (va_recv hK hP (ci := 2) (q0 := a0) rfl (rl_Place ha0))) rfl rfl hl.1 rfl (lv_room (Nat.le_of_ble_eq_true rfl)) dX6_planMove_1 ⟨Nat.le_of_ble_eq_true rfl, Nat.le_of_ble_eq_true rfl⟩) (nm_e ?_)
  refine lv_aload_n hx hb dX6_planMove_4 rfl (lv_at hl 2 rfl) ?_
  refine va_get (D := G) (ci := 2) (v := .int (σ 9 b0)) (C := RX2) (T := TX2) (N := 13) hx hb hg hinX2 hown hK hP b0 (rl_Place hb0) rfl 11 (by decide) (hg _ qF_X6_297) (fun _ h9 => h9) rfl dX6_planMove_5 ?_
  refine va_mmin hx hb (hml.trans hl.1.symm) hown (hg _ qM_X6_331) (hg _ qT_Math_min_i) (hg _ qN_Math) (hg _ qY_Math_min_i) (Nat.le_of_ble_eq_true rfl) (Nat.le_of_ble_eq_true rfl) (Nat.le_of_ble_eq_true rfl) (Nat.le_of_ble_eq_true rfl) dX6_planMove_8 ?_
  show W _ _ _ _ _ _ _ _ _ _ _ _ _ _ _ (F0 m 11 ls (.int (c_minI (c_free σ a0) (σ 9 b0)) :: []))
  refine lv_istore_n (lv' := [(3, .int (c_minI (c_free σ a0) (σ 9 b0))), (0, .ref (ad 66)), (1, .ref (ad a0)), (2, .ref (ad b0))]) hx hb dX6_planMove_11 rfl hl (by decide) rfl (fun ls hl => ?_)
  refine lv_iload_n hx hb dX6_planMove_12 rfl (lv_at hl 0 rfl) ?_
  refine lv_if_le (tgt := 28) hx hb dX6_planMove_13 (by decide) (fun c_13 => ?_) (fun c_13 => ?_)
  · -- ifle taken
    exact W.vret hx hb hr (fun t ht hW => ⟨⟨σ, rfl, by simp only [c_planMove, if_pos c_13], by rw [ht]; exact hP, va_K.moved hW.alike hK⟩, hS.F ht⟩) hS.2.2 dX6_planMove_28
  · -- ifle not taken
    refine lv_aload_n hx hb dX6_planMove_16 rfl (lv_at hl 1 rfl) ?_
    refine va_get (D := G) (ci := 6) (v := .ref (ad 78)) (C := RX6) (T := TX6) (N := 8) hx hb hg hinX6 hown hK hP 66 rl_main rfl 7 (by decide) (hg _ qF_X6_48) (fun _ h9 => h9) rfl dX6_planMove_17 ?_
    refine va_get (D := G) (ci := 3) (v := .int (σ 42 0)) (C := RX3) (T := TX3) (N := 5) hx hb hg hinX3 hown hK hP 78 rl_Plan rfl 1 (by decide) (hg _ qF_X6_210) (fun _ h9 => h9) rfl dX6_planMove_20 ?_
    refine lv_bipush (v := 30) hx hb dX6_planMove_23 (by decide) ?_
    refine lv_icmp_lt (tgt := 29) hx hb dX6_planMove_25 (by decide) (fun c_25 => ?_) (fun c_25 => ?_)
    · -- if_icmplt taken
      refine lv_aload_n hx hb dX6_planMove_29 rfl (lv_at hl 2 rfl) ?_
      refine lv_dup hx hb dX6_planMove_30 rfl ?_
      refine va_get (D := G) (ci := 2) (v := .int (σ 8 a0)) (C := RX2) (T := TX2) (N := 13) hx hb hg hinX2 hown hK hP a0 (rl_Place ha0) rfl 10 (by decide) (hg _ qF_X6_294) (fun _ h9 => h9) rfl dX6_planMove_31 ?_
      refine lv_iload_n hx hb dX6_planMove_34 rfl (lv_at hl 0 rfl) ?_
      refine lv_iadd hx hb dX6_planMove_35 ?_
      refine pp_put (D := G) (ci := 2) (v := .int ((σ 8 a0) + (c_minI (c_free σ a0) (σ 9 b0)))) (ty := .int) (C := RX2) (T := TX2) (N := 13) hx hb hg hinX2 tyX2 tyX2_ok nmX2 hown hK hP (rr_D hJ) hS a0 (rl_Place ha0) rfl 10 (by decide) (hg _ qF_X6_294) (fun _ h9 => h9) rfl (by decide +kernel) rfl rfl (Nat.le_of_ble_eq_true rfl) (rs_Place_planned ha0) dX6_planMove_36 (fun H locs hP hS => ?_)
      obtain ⟨σ1, eσ1⟩ : ∃ z, z = up σ 8 a0 ((σ 8 a0) + (c_minI (c_free σ a0) (σ 9 b0))) := ⟨_, rfl⟩
      rw [← eσ1] at hP
      refine lv_aload_n hx hb dX6_planMove_39 rfl (lv_at hl 3 rfl) ?_
      refine lv_dup hx hb dX6_planMove_40 rfl ?_
      refine va_get (D := G) (ci := 2) (v := .int (σ1 9 b0)) (C := RX2) (T := TX2) (N := 13) hx hb hg hinX2 hown hK hP b0 (rl_Place hb0) rfl 11 (by decide) (hg _ qF_X6_297) (fun _ h9 => h9) rfl dX6_planMove_41 ?_
      refine lv_iload_n hx hb dX6_planMove_44 rfl (lv_at hl 0 rfl) ?_
      refine lv_isub hx hb dX6_planMove_45 ?_
      refine pp_put (D := G) (ci := 2) (v := .int ((σ1 9 b0) - (c_minI (c_free σ a0) (σ 9 b0)))) (ty := .int) (C := RX2) (T := TX2) (N := 13) hx hb hg hinX2 tyX2 tyX2_ok nmX2 hown hK hP (rr_D hJ) hS b0 (rl_Place hb0) rfl 11 (by decide) (hg _ qF_X6_297) (fun _ h9 => h9) rfl (by decide +kernel) rfl rfl (Nat.le_of_ble_eq_true rfl) (rs_Place_wanted hb0) dX6_planMove_46 (fun H locs hP hS => ?_)
      obtain ⟨σ2, eσ2⟩ : ∃ z, z = up σ1 9 b0 ((σ1 9 b0) - (c_minI (c_free σ a0) (σ 9 b0))) := ⟨_, rfl⟩
      rw [← eσ2] at hP
      refine lv_aload_n hx hb dX6_planMove_49 rfl (lv_at hl 1 rfl) ?_
      refine va_get (D := G) (ci := 6) (v := .ref (ad 78)) (C := RX6) (T := TX6) (N := 8) hx hb hg hinX6 hown hK hP 66 rl_main rfl 7 (by decide) (hg _ qF_X6_48) (fun _ h9 => h9) rfl dX6_planMove_50 ?_
      refine lv_aload_n hx hb dX6_planMove_53 rfl (lv_at hl 2 rfl) ?_
      refine lv_aload_n hx hb dX6_planMove_54 rfl (lv_at hl 3 rfl) ?_
      refine lv_iload_n hx hb dX6_planMove_55 rfl (lv_at hl 0 rfl) ?_
      refine va_callv (va_runV (As := [.ref (ad a0), .ref (ad b0), .int (c_minI (c_free σ a0) (σ 9 b0))]) (rest := []) ⟨hx, hb, hml, hown, hg⟩ (m_Plan_add l G cA ad σ2 hJ a0 ha0 b0 hb0 (c_minI (c_free σ a0) (σ 9 b0)) (by rw [eσ2, eσ1, up_row (by decide), up_row (by decide)]; exact hp0)) (cwV 3 hg (gV qM_X6_333 qI_X3_add qS_X3_add qN_X3 kX3_add) rfl rfl rfl (by decide +kernel) ⟨Nat.le_of_ble_eq_true rfl, Nat.le_of_ble_eq_true rfl⟩) (rr_pv hK hP (va_recv hK hP (ci := 3) (q0 := 78) rfl rl_Plan)) rfl rfl hl.1 rfl (lv_room (Nat.le_of_ble_eq_true rfl)) dX6_planMove_56 ⟨Nat.le_of_ble_eq_true rfl, Nat.le_of_ble_eq_true rfl⟩) hS (fun q _ h => h) (fun q h => h) (fun σ3 t H locs ht hvm eσ3 hB hz9 hk9 hS => ?_)
      have hP := hB.1
      rw [ht] at hP
      exact W.vret hx hb hr (fun t ht hW => ⟨⟨σ3, rfl, by subst eσ1 eσ2 eσ3; simp only [c_planMove, if_neg c_13, if_pos c_25], by rw [ht]; exact hP, va_K.moved hW.alike hK⟩, hS.F ht⟩) hS.2.2 dX6_planMove_59
    · -- if_icmplt not taken
      exact W.vret hx hb hr (fun t ht hW => ⟨⟨σ, rfl, by simp only [c_planMove, if_neg c_13, if_neg c_25], by rw [ht]; exact hP, va_K.moved hW.alike hK⟩, hS.F ht⟩) hS.2.2 dX6_planMove_28
