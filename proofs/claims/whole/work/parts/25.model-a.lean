set_option maxHeartbeats 4000000 in
set_option maxRecDepth 100000 in
theorem m_ReplenishRulesModel_thrown (l : Launch) (G : va_G) (cA : Nat → ClassId) (ad : Nat → Nat) (σ : St) : Met l yX7_thrown (wX7_thrown :: wG) ({ frames := 0, cells := 0, slots := 0, locals := 0 }) (va_Pc [.ref (ad 0)] (mmW G cA ad σ)) (vp_Si (fun r => r = σ 0 0)) 0 0 (fun _ => False) := by
  refine Met.ofW (cc := cX7_thrown) (maxL := 1) (ret := (some .int)) (by decide) rfl ?_
  intro p e s m args below meth c s₁ B hml hv
  obtain ⟨rfl, hP, hK⟩ := hv
  have hx := B.exec
  have hb := B.bytes
  have hr := B.returns
  have hts := atoms_spec (ws := wX7_thrown :: wG) B.pre
  have hg : ∀ w ∈ wG, w.before _ s = true := fun w h => hts w (List.mem_cons_of_mem _ h)
  have hown : s.vm.findClass RX7 = some m.cls := findClass_of_methodNamed B.named
  have hlocks := B.notSynchronized
  have hl := lv_entry ([.ref (ad 0)]) (n := 1) (Nat.le_of_ble_eq_true rfl)
  rw [lg_entry_eq]
  generalize (lg_sl ([.ref (ad 0)]) ++ List.replicate (1 - (lg_sl ([.ref (ad 0)])).length) Slot.unset).toArray = ls at hl ⊢
  have hl : lv_has ls 1 [(0, .ref (ad 0))] := hl
  refine lv_aload_n hx hb dX7_thrown_0 rfl (lv_at hl 0 rfl) ?_
  refine va_get (D := G) (ci := 7) (v := .int (σ 0 0)) (C := RX7) (T := TX7) (N := 33) hx hb hg hinX7 hown hK hP 0 ml_obj rfl 0 (by decide) (hg _ qF_X7_98) (fun _ h9 => h9) rfl dX7_thrown_1 ?_
  exact W.iret (v := σ 0 0) hx hb hr (fun t ht hW => ⟨_, rfl, rfl, ht⟩) (fun _ h => nomatch h) dX7_thrown_4

set_option maxHeartbeats 4000000 in
set_option maxRecDepth 100000 in
theorem m_ReplenishRulesModel_in (l : Launch) (a0 : Int32) (b0 : Int32) (c0 : Int32) : Met l yX7_in (wX7_in :: wG) ({ frames := 0, cells := 0, slots := 0, locals := 0 }) (va_Pc [.int a0, .int b0, .int c0] (fun _ => True)) (vp_Si (fun r => r = m_in a0 b0 c0)) 0 0 (fun _ => False) := by
  refine Met.ofW (cc := cX7_in) (maxL := 3) (ret := (some .boolean)) (by decide) rfl ?_
  intro p e s m args below meth c s₁ B hml hv
  obtain ⟨rfl, -⟩ := hv
  have hx := B.exec
  have hb := B.bytes
  have hr := B.returns
  have hts := atoms_spec (ws := wX7_in :: wG) B.pre
  have hg : ∀ w ∈ wG, w.before _ s = true := fun w h => hts w (List.mem_cons_of_mem _ h)
  have hown : s.vm.findClass RX7 = some m.cls := findClass_of_methodNamed B.named
  have hlocks := B.notSynchronized
  have hl := lv_entry ([.int a0, .int b0, .int c0]) (n := 3) (Nat.le_of_ble_eq_true rfl)
  rw [lg_entry_eq]
  generalize (lg_sl ([.int a0, .int b0, .int c0]) ++ List.replicate (3 - (lg_sl ([.int a0, .int b0, .int c0])).length) Slot.unset).toArray = ls at hl ⊢
  have hl : lv_has ls 3 [(0, .int a0), (1, .int b0), (2, .int c0)] := hl
  refine lv_iload_n hx hb dX7_in_0 rfl (lv_at hl 0 rfl) ?_
  refine lv_iload_n hx hb dX7_in_1 rfl (lv_at hl 1 rfl) ?_
  refine lv_icmp_lt (tgt := 14) hx hb dX7_in_2 (by decide) (fun c_2 => ?_) (fun c_2 => ?_)
  · -- if_icmplt taken
    refine lv_iconst (v := 0) hx hb dX7_in_14 (by decide) ?_
    exact W.zret (v := 0) (ty := .boolean) hx hb hr (by decide) (fun t ht hW => ⟨_, rfl, by simp only [m_in, if_pos c_2], ht⟩) (fun _ h => nomatch h) dX7_in_15
  · -- if_icmplt not taken
    refine lv_iload_n hx hb dX7_in_5 rfl (lv_at hl 0 rfl) ?_
    refine lv_iload_n hx hb dX7_in_6 rfl (lv_at hl 2 rfl) ?_
    refine lv_icmp_gt (tgt := 14) hx hb dX7_in_7 (by decide) (fun c_7 => ?_) (fun c_7 => ?_)
    · -- if_icmpgt taken
      refine lv_iconst (v := 0) hx hb dX7_in_14 (by decide) ?_
      exact W.zret (v := 0) (ty := .boolean) hx hb hr (by decide) (fun t ht hW => ⟨_, rfl, by simp only [m_in, if_neg c_2, if_pos c_7], ht⟩) (fun _ h => nomatch h) dX7_in_15
    · -- if_icmpgt not taken
      refine lv_iconst (v := 1) hx hb dX7_in_10 (by decide) ?_
      refine lv_goto (tgt := 15) hx hb dX7_in_11 (by decide) ?_
      exact W.zret (v := 1) (ty := .boolean) hx hb hr (by decide) (fun t ht hW => ⟨_, rfl, by simp only [m_in, if_neg c_2, if_neg c_7], ht⟩) (fun _ h => nomatch h) dX7_in_15

set_option maxHeartbeats 4000000 in
set_option maxRecDepth 100000 in
theorem m_ReplenishRulesModel_isPlace (l : Launch) (a0 : Int32) : Met l yX7_isPlace (wX7_isPlace :: wG) ({ frames := 1, cells := 0, slots := 0, locals := 22 }) (va_Pc [.int a0] (fun _ => True)) (vp_Si (fun r => r = m_isPlace a0)) 0 0 (fun _ => False) := by
  refine Met.ofW (cc := cX7_isPlace) (maxL := 1) (ret := (some .boolean)) (by decide) rfl ?_
  intro p e s m args below meth c s₁ B hml hv
  obtain ⟨rfl, -⟩ := hv
  have hx := B.exec
  have hb := B.bytes
  have hr := B.returns
  have hts := atoms_spec (ws := wX7_isPlace :: wG) B.pre
  have hg : ∀ w ∈ wG, w.before _ s = true := fun w h => hts w (List.mem_cons_of_mem _ h)
  have hown : s.vm.findClass RX7 = some m.cls := findClass_of_methodNamed B.named
  have hlocks := B.notSynchronized
  have hl := lv_entry ([.int a0]) (n := 1) (Nat.le_of_ble_eq_true rfl)
  rw [lg_entry_eq]
  generalize (lg_sl ([.int a0]) ++ List.replicate (1 - (lg_sl ([.int a0])).length) Slot.unset).toArray = ls at hl ⊢
  have hl : lv_has ls 1 [(0, .int a0)] := hl
  refine lv_iload_n hx hb dX7_isPlace_0 rfl (lv_at hl 0 rfl) ?_
  refine lv_iconst (v := 0) hx hb dX7_isPlace_1 (by decide) ?_
  refine lv_bipush (v := 15) hx hb dX7_isPlace_2 (by decide) ?_
  refine vp_callSi (W.runS (As := [.int a0, .int 0, .int 15]) (rest := []) ⟨hx, hb, hml, hown, hg⟩ (m_ReplenishRulesModel_in l a0 0 15) (cwS 3 hg (gS qM_X7_102 qT_X7_in qN_X7 kX7_in) rfl rfl rfl (by decide +kernel) ⟨Nat.le_of_ble_eq_true rfl, Nat.le_of_ble_eq_true rfl⟩) ⟨fun _ _ _ _ q => q, fun _ _ _ => ⟨rfl, trivial⟩⟩ rfl rfl hl.1 rfl (lv_room (Nat.le_of_ble_eq_true rfl)) dX7_isPlace_4 ⟨Nat.le_of_ble_eq_true rfl, Nat.le_of_ble_eq_true rfl⟩) (nm_e ?_)
  exact W.zret (v := m_in a0 0 15) (ty := .boolean) hx hb hr (in_nar _ _ _) (fun t ht hW => ⟨_, rfl, rfl, ht⟩) (fun _ h => nomatch h) dX7_isPlace_7

set_option maxHeartbeats 4000000 in
set_option maxRecDepth 100000 in
theorem m_ReplenishRulesModel_holdsOther (l : Launch) (G : va_G) (cA : Nat → ClassId) (ad : Nat → Nat) (σ : St) (a0 : Int32) (b0 : Int32) (hp0 : vp_in a0 16) : Met l yX7_holdsOther (wX7_holdsOther :: wG) ({ frames := 0, cells := 0, slots := 0, locals := 0 }) (va_Pc [.ref (ad 0), .int a0, .int b0] (mmW G cA ad σ)) (vp_Si (fun r => r = m_holdsOther σ a0 b0)) 0 0 (fun _ => False) := by
  refine Met.ofW (cc := cX7_holdsOther) (maxL := 3) (ret := (some .boolean)) (by decide) rfl ?_
  intro p e s m args below meth c s₁ B hml hv
  obtain ⟨rfl, hP, hK⟩ := hv
  have hx := B.exec
  have hb := B.bytes
  have hr := B.returns
  have hts := atoms_spec (ws := wX7_holdsOther :: wG) B.pre
  have hg : ∀ w ∈ wG, w.before _ s = true := fun w h => hts w (List.mem_cons_of_mem _ h)
  have hown : s.vm.findClass RX7 = some m.cls := findClass_of_methodNamed B.named
  have hlocks := B.notSynchronized
  have hl := lv_entry ([.ref (ad 0), .int a0, .int b0]) (n := 3) (Nat.le_of_ble_eq_true rfl)
  rw [lg_entry_eq]
  generalize (lg_sl ([.ref (ad 0), .int a0, .int b0]) ++ List.replicate (3 - (lg_sl ([.ref (ad 0), .int a0, .int b0])).length) Slot.unset).toArray = ls at hl ⊢
  have hl : lv_has ls 3 [(0, .ref (ad 0)), (1, .int a0), (2, .int b0)] := hl
  refine lv_aload_n hx hb dX7_holdsOther_0 rfl (lv_at hl 0 rfl) ?_
  refine va_get (D := G) (ci := 7) (v := .ref (ad 3)) (C := RX7) (T := TX7) (N := 33) hx hb hg hinX7 hown hK hP 0 ml_obj rfl 3 (by decide) (hg _ qF_X7_16) (fun _ h9 => h9) rfl dX7_holdsOther_1 ?_
  refine lv_iload_n hx hb dX7_holdsOther_4 rfl (lv_at hl 1 rfl) ?_
  refine va_iald hx hb hK hP 3 0 ml_pieces rfl hp0 dX7_holdsOther_5 ?_
  refine lv_if_le (tgt := 23) hx hb dX7_holdsOther_6 (by decide) (fun c_6 => ?_) (fun c_6 => ?_)
  · -- ifle taken
    refine lv_iconst (v := 0) hx hb dX7_holdsOther_23 (by decide) ?_
    exact W.zret (v := 0) (ty := .boolean) hx hb hr (by decide) (fun t ht hW => ⟨_, rfl, by simp only [m_holdsOther, if_pos c_6], ht⟩) (fun _ h => nomatch h) dX7_holdsOther_24
  · -- ifle not taken
    refine lv_aload_n hx hb dX7_holdsOther_9 rfl (lv_at hl 0 rfl) ?_
    refine va_get (D := G) (ci := 7) (v := .ref (ad 4)) (C := RX7) (T := TX7) (N := 33) hx hb hg hinX7 hown hK hP 0 ml_obj rfl 4 (by decide) (hg _ qF_X7_19) (fun _ h9 => h9) rfl dX7_holdsOther_10 ?_
    refine lv_iload_n hx hb dX7_holdsOther_13 rfl (lv_at hl 1 rfl) ?_
    refine va_iald hx hb hK hP 4 0 ml_good rfl hp0 dX7_holdsOther_14 ?_
    refine lv_iload_n hx hb dX7_holdsOther_15 rfl (lv_at hl 2 rfl) ?_
    refine lv_icmp_eq (tgt := 23) hx hb dX7_holdsOther_16 (by decide) (fun c_16 => ?_) (fun c_16 => ?_)
    · -- if_icmpeq taken
      refine lv_iconst (v := 0) hx hb dX7_holdsOther_23 (by decide) ?_
      exact W.zret (v := 0) (ty := .boolean) hx hb hr (by decide) (fun t ht hW => ⟨_, rfl, by simp only [m_holdsOther, if_neg c_6, if_pos c_16], ht⟩) (fun _ h => nomatch h) dX7_holdsOther_24
    · -- if_icmpeq not taken
      refine lv_iconst (v := 1) hx hb dX7_holdsOther_19 (by decide) ?_
      refine lv_goto (tgt := 24) hx hb dX7_holdsOther_20 (by decide) ?_
      exact W.zret (v := 1) (ty := .boolean) hx hb hr (by decide) (fun t ht hW => ⟨_, rfl, by simp only [m_holdsOther, if_neg c_6, if_neg c_16], ht⟩) (fun _ h => nomatch h) dX7_holdsOther_24

set_option maxHeartbeats 4000000 in
set_option maxRecDepth 100000 in
theorem m_ReplenishRulesModel_free (l : Launch) (G : va_G) (cA : Nat → ClassId) (ad : Nat → Nat) (σ : St) (a0 : Int32) (hp0 : vp_in a0 16) : Met l yX7_free (wX7_free :: wG) ({ frames := 0, cells := 0, slots := 0, locals := 0 }) (va_Pc [.ref (ad 0), .int a0] (mmW G cA ad σ)) (vp_Si (fun r => r = m_free σ a0)) 0 0 (fun _ => False) := by
  refine Met.ofW (cc := cX7_free) (maxL := 2) (ret := (some .int)) (by decide) rfl ?_
  intro p e s m args below meth c s₁ B hml hv
  obtain ⟨rfl, hP, hK⟩ := hv
  have hx := B.exec
  have hb := B.bytes
  have hr := B.returns
  have hts := atoms_spec (ws := wX7_free :: wG) B.pre
  have hg : ∀ w ∈ wG, w.before _ s = true := fun w h => hts w (List.mem_cons_of_mem _ h)
  have hown : s.vm.findClass RX7 = some m.cls := findClass_of_methodNamed B.named
  have hlocks := B.notSynchronized
  have hl := lv_entry ([.ref (ad 0), .int a0]) (n := 2) (Nat.le_of_ble_eq_true rfl)
  rw [lg_entry_eq]
  generalize (lg_sl ([.ref (ad 0), .int a0]) ++ List.replicate (2 - (lg_sl ([.ref (ad 0), .int a0])).length) Slot.unset).toArray = ls at hl ⊢
  have hl : lv_has ls 2 [(0, .ref (ad 0)), (1, .int a0)] := hl
  refine lv_aload_n hx hb dX7_free_0 rfl (lv_at hl 0 rfl) ?_
  refine va_get (D := G) (ci := 7) (v := .ref (ad 3)) (C := RX7) (T := TX7) (N := 33) hx hb hg hinX7 hown hK hP 0 ml_obj rfl 3 (by decide) (hg _ qF_X7_16) (fun _ h9 => h9) rfl dX7_free_1 ?_
  refine lv_iload_n hx hb dX7_free_4 rfl (lv_at hl 1 rfl) ?_
  refine va_iald hx hb hK hP 3 0 ml_pieces rfl hp0 dX7_free_5 ?_
  refine lv_aload_n hx hb dX7_free_6 rfl (lv_at hl 0 rfl) ?_
  refine va_get (D := G) (ci := 7) (v := .ref (ad 5)) (C := RX7) (T := TX7) (N := 33) hx hb hg hinX7 hown hK hP 0 ml_obj rfl 5 (by decide) (hg _ qF_X7_22) (fun _ h9 => h9) rfl dX7_free_7 ?_
  refine lv_iload_n hx hb dX7_free_10 rfl (lv_at hl 1 rfl) ?_
  refine va_iald hx hb hK hP 5 0 ml_held rfl hp0 dX7_free_11 ?_
  refine lv_isub hx hb dX7_free_12 ?_
  exact W.iret (v := (σ 3 (nx a0)) - (σ 5 (nx a0))) hx hb hr (fun t ht hW => ⟨_, rfl, rfl, ht⟩) (fun _ h => nomatch h) dX7_free_13

set_option maxHeartbeats 4000000 in
set_option maxRecDepth 100000 in
theorem m_ReplenishRulesModel_takes (l : Launch) (G : va_G) (cA : Nat → ClassId) (ad : Nat → Nat) (σ : St) (hJ : mm_inj ad) (a0 : Int32) (b0 : Int32) (hp0 : vp_in a0 16) : Met l yX7_takes (wX7_takes :: wG) ({ frames := 0, cells := 0, slots := 0, locals := 0 }) (va_Pc [.ref (ad 0), .int a0, .int b0] (mmW G cA ad σ)) (va_Qv (fun σ' => σ' = m_takes σ a0 b0) (mmW G cA ad) (mmA ad)) 0 0 (mmA ad) := by
  refine Met.ofW (cc := cX7_takes) (maxL := 3) (ret := none) (by decide) rfl ?_
  intro p e s m args below meth c s₁ B hml hv
  obtain ⟨rfl, hP, hK⟩ := hv
  have hx := B.exec
  have hb := B.bytes
  have hr := B.returns
  have hts := atoms_spec (ws := wX7_takes :: wG) B.pre
  have hg : ∀ w ∈ wG, w.before _ s = true := fun w h => hts w (List.mem_cons_of_mem _ h)
  have hown : s.vm.findClass RX7 = some m.cls := findClass_of_methodNamed B.named
  have hlocks := B.notSynchronized
  have hS : va_S (mmA ad) s.heap s.heap [] := va_S.rf
  have hl := lv_entry ([.ref (ad 0), .int a0, .int b0]) (n := 3) (Nat.le_of_ble_eq_true rfl)
  rw [lg_entry_eq]
  generalize (lg_sl ([.ref (ad 0), .int a0, .int b0]) ++ List.replicate (3 - (lg_sl ([.ref (ad 0), .int a0, .int b0])).length) Slot.unset).toArray = ls at hl ⊢
  have hl : lv_has ls 3 [(0, .ref (ad 0)), (1, .int a0), (2, .int b0)] := hl
  refine lv_aload_n hx hb dX7_takes_0 rfl (lv_at hl 0 rfl) ?_
  refine va_get (D := G) (ci := 7) (v := .ref (ad 3)) (C := RX7) (T := TX7) (N := 33) hx hb hg hinX7 hown hK hP 0 ml_obj rfl 3 (by decide) (hg _ qF_X7_16) (fun _ h9 => h9) rfl dX7_takes_1 ?_
  refine lv_iload_n hx hb dX7_takes_4 rfl (lv_at hl 1 rfl) ?_
  refine lv_dup2_11 hx hb dX7_takes_5 rfl rfl ?_
  refine va_iald hx hb hK hP 3 0 ml_pieces rfl hp0 dX7_takes_6 ?_
  refine lv_iload_n hx hb dX7_takes_7 rfl (lv_at hl 2 rfl) ?_
  refine lv_isub hx hb dX7_takes_8 ?_
  refine pp_iast (x := ((σ 3 (nx a0)) - b0)) hx hb hK hP (mm_D hJ) hS 3 0 ml_pieces rfl hp0 (ms_pieces) dX7_takes_9 (fun H locs hP hS => ?_)
  obtain ⟨σ1, eσ1⟩ : ∃ z, z = up σ 3 (nx a0) ((σ 3 (nx a0)) - b0) := ⟨_, rfl⟩
  rw [← eσ1] at hP
  refine lv_aload_n hx hb dX7_takes_10 rfl (lv_at hl 0 rfl) ?_
  refine va_get (D := G) (ci := 7) (v := .ref (ad 4)) (C := RX7) (T := TX7) (N := 33) hx hb hg hinX7 hown hK hP 0 ml_obj rfl 4 (by decide) (hg _ qF_X7_19) (fun _ h9 => h9) rfl dX7_takes_11 ?_
  refine lv_iload_n hx hb dX7_takes_14 rfl (lv_at hl 1 rfl) ?_
  refine lv_aload_n hx hb dX7_takes_15 rfl (lv_at hl 0 rfl) ?_
  refine va_get (D := G) (ci := 7) (v := .ref (ad 3)) (C := RX7) (T := TX7) (N := 33) hx hb hg hinX7 hown hK hP 0 ml_obj rfl 3 (by decide) (hg _ qF_X7_16) (fun _ h9 => h9) rfl dX7_takes_16 ?_
  refine lv_iload_n hx hb dX7_takes_19 rfl (lv_at hl 1 rfl) ?_
  refine va_iald hx hb hK hP 3 0 ml_pieces rfl hp0 dX7_takes_20 ?_
  refine lv_if_ne (tgt := 28) hx hb dX7_takes_21 (by decide) (fun c_21 => ?_) (fun c_21 => ?_)
  · -- ifne taken
    refine lv_aload_n hx hb dX7_takes_28 rfl (lv_at hl 0 rfl) ?_
    refine va_get (D := G) (ci := 7) (v := .ref (ad 4)) (C := RX7) (T := TX7) (N := 33) hx hb hg hinX7 hown hK hP 0 ml_obj rfl 4 (by decide) (hg _ qF_X7_19) (fun _ h9 => h9) rfl dX7_takes_29 ?_
    refine lv_iload_n hx hb dX7_takes_32 rfl (lv_at hl 1 rfl) ?_
    refine va_iald hx hb hK hP 4 0 ml_good rfl hp0 dX7_takes_33 ?_
    refine pp_iast (x := (σ1 4 (nx a0))) hx hb hK hP (mm_D hJ) hS 4 0 ml_good rfl hp0 (ms_good) dX7_takes_34 (fun H locs hP hS => ?_)
    obtain ⟨σ2, eσ2⟩ : ∃ z, z = up σ1 4 (nx a0) (σ1 4 (nx a0)) := ⟨_, rfl⟩
    rw [← eσ2] at hP
    exact W.vret hx hb hr (fun t ht hW => ⟨⟨σ2, rfl, by subst eσ1 eσ2; simp only [m_takes, if_neg c_21], by rw [ht]; exact hP, va_K.moved hW.alike hK⟩, hS.F ht⟩) hS.2.2 dX7_takes_35
  · -- ifne not taken
    refine lv_iconst (v := (-1)) hx hb dX7_takes_24 (by decide) ?_
    refine lv_goto (tgt := 34) hx hb dX7_takes_25 (by decide) ?_
    refine pp_iast (x := (-1)) hx hb hK hP (mm_D hJ) hS 4 0 ml_good rfl hp0 (ms_good) dX7_takes_34 (fun H locs hP hS => ?_)
    obtain ⟨σ2, eσ2⟩ : ∃ z, z = up σ1 4 (nx a0) (-1) := ⟨_, rfl⟩
    rw [← eσ2] at hP
    exact W.vret hx hb hr (fun t ht hW => ⟨⟨σ2, rfl, by subst eσ1 eσ2; simp only [m_takes, if_pos c_21], by rw [ht]; exact hP, va_K.moved hW.alike hK⟩, hS.F ht⟩) hS.2.2 dX7_takes_35

set_option maxHeartbeats 4000000 in
set_option maxRecDepth 100000 in
theorem m_ReplenishRulesModel_place (l : Launch) (G : va_G) (cA : Nat → ClassId) (ad : Nat → Nat) (σ : St) (hJ : mm_inj ad) (a0 : Int32) (b0 : Int32) (c0 : Int32) : Met l yX7_place (wX7_place :: wG) ({ frames := 2, cells := 0, slots := 0, locals := 42 }) (va_Pc [.ref (ad 0), .int a0, .int b0, .int c0] (mmW G cA ad σ)) (va_Qv (fun σ' => σ' = m_placeS σ a0 b0 c0) (mmW G cA ad) (mmA ad)) 0 0 (mmA ad) := by
  refine Met.ofW (cc := cX7_place) (maxL := 4) (ret := none) (by decide) rfl ?_
  intro p e s m args below meth c s₁ B hml hv
  obtain ⟨rfl, hP, hK⟩ := hv
  have hx := B.exec
  have hb := B.bytes
  have hr := B.returns
  have hts := atoms_spec (ws := wX7_place :: wG) B.pre
  have hg : ∀ w ∈ wG, w.before _ s = true := fun w h => hts w (List.mem_cons_of_mem _ h)
  have hown : s.vm.findClass RX7 = some m.cls := findClass_of_methodNamed B.named
  have hlocks := B.notSynchronized
  have hS : va_S (mmA ad) s.heap s.heap [] := va_S.rf
  have hl := lv_entry ([.ref (ad 0), .int a0, .int b0, .int c0]) (n := 4) (Nat.le_of_ble_eq_true rfl)
  rw [lg_entry_eq]
  generalize (lg_sl ([.ref (ad 0), .int a0, .int b0, .int c0]) ++ List.replicate (4 - (lg_sl ([.ref (ad 0), .int a0, .int b0, .int c0])).length) Slot.unset).toArray = ls at hl ⊢
  have hl : lv_has ls 4 [(0, .ref (ad 0)), (1, .int a0), (2, .int b0), (3, .int c0)] := hl
  refine lp_cut (J := 65) (nL := 4) (LV := [(0, .ref (ad 0)), (1, .int a0), (2, .int b0), (3, .int c0)]) (st := [.int (m_placeT σ a0 b0 c0), .ref (ad 0)]) (fun ls hl => ?_) (fun hcut65 => ?_)
  · have hl : lv_has ls 4 [(0, .ref (ad 0)), (1, .int a0), (2, .int b0), (3, .int c0)] := hl
    refine pp_put (D := G) (ci := 7) (v := .int (m_placeT σ a0 b0 c0)) (ty := .int) (C := RX7) (T := TX7) (N := 33) hx hb hg hinX7 tyX7 tyX7_ok nmX7 hown hK hP (mm_D hJ) hS 0 ml_obj rfl 0 (by decide) (hg _ qF_X7_98) (fun _ h9 => h9) rfl (by decide +kernel) rfl rfl (Nat.le_of_ble_eq_true rfl) (ms_thrown) dX7_place_65 (fun H locs hP hS => ?_)
    obtain ⟨σ1, eσ1⟩ : ∃ z, z = up σ 0 0 (m_placeT σ a0 b0 c0) := ⟨_, rfl⟩
    rw [← eσ1] at hP
    refine lv_aload_n hx hb dX7_place_68 rfl (lv_at hl 0 rfl) ?_
    refine va_get (D := G) (ci := 7) (v := .int (σ1 0 0)) (C := RX7) (T := TX7) (N := 33) hx hb hg hinX7 hown hK hP 0 ml_obj rfl 0 (by decide) (hg _ qF_X7_98) (fun _ h9 => h9) rfl dX7_place_69 ?_
    refine lv_if_ne (tgt := 89) hx hb dX7_place_72 (by decide) (fun c_72 => ?_) (fun c_72 => ?_)
    · -- ifne taken
      exact W.vret hx hb hr (fun t ht hW => ⟨⟨σ1, rfl, by subst eσ1; simp only [m_placeS, if_neg c_72], by rw [ht]; exact hP, va_K.moved hW.alike hK⟩, hS.F ht⟩) hS.2.2 dX7_place_89
    · -- ifne not taken
      refine lv_aload_n hx hb dX7_place_75 rfl (lv_at hl 0 rfl) ?_
      refine va_get (D := G) (ci := 7) (v := .ref (ad 1)) (C := RX7) (T := TX7) (N := 33) hx hb hg hinX7 hown hK hP 0 ml_obj rfl 1 (by decide) (hg _ qF_X7_7) (fun _ h9 => h9) rfl dX7_place_76 ?_
      refine lv_iload_n hx hb dX7_place_79 rfl (lv_at hl 1 rfl) ?_
      refine lv_iload_n hx hb dX7_place_80 rfl (lv_at hl 2 rfl) ?_
      refine pp_iast (x := b0) hx hb hK hP (mm_D hJ) hS 1 0 ml_room rfl (placeT_in (by rw [eσ1, up_eq] at c_72; exact c_72)) (ms_room) dX7_place_81 (fun H locs hP hS => ?_)
      obtain ⟨σ2, eσ2⟩ : ∃ z, z = up σ1 1 (nx a0) b0 := ⟨_, rfl⟩
      rw [← eσ2] at hP
      refine lv_aload_n hx hb dX7_place_82 rfl (lv_at hl 0 rfl) ?_
      refine va_get (D := G) (ci := 7) (v := .ref (ad 2)) (C := RX7) (T := TX7) (N := 33) hx hb hg hinX7 hown hK hP 0 ml_obj rfl 2 (by decide) (hg _ qF_X7_13) (fun _ h9 => h9) rfl dX7_place_83 ?_
      refine lv_iload_n hx hb dX7_place_86 rfl (lv_at hl 1 rfl) ?_
      refine lv_iload_n hx hb dX7_place_87 rfl (lv_at hl 3 rfl) ?_
      refine pp_iast (x := c0) hx hb hK hP (mm_D hJ) hS 2 0 ml_zone rfl (placeT_in (by rw [eσ1, up_eq] at c_72; exact c_72)) (ms_zone) dX7_place_88 (fun H locs hP hS => ?_)
      obtain ⟨σ3, eσ3⟩ : ∃ z, z = up σ2 2 (nx a0) c0 := ⟨_, rfl⟩
      rw [← eσ3] at hP
      exact W.vret hx hb hr (fun t ht hW => ⟨⟨σ3, rfl, by subst eσ1 eσ2 eσ3; simp only [m_placeS, if_pos c_72], by rw [ht]; exact hP, va_K.moved hW.alike hK⟩, hS.F ht⟩) hS.2.2 dX7_place_89
  · -- to the cut
    refine lv_aload_n hx hb dX7_place_0 rfl (lv_at hl 0 rfl) ?_
    refine lv_iload_n hx hb dX7_place_1 rfl (lv_at hl 1 rfl) ?_
    refine vp_callSi (W.runS (As := [.int a0]) (rest := [.ref (ad 0)]) ⟨hx, hb, hml, hown, hg⟩ (m_ReplenishRulesModel_isPlace l a0) (cwS 1 hg (gS qM_X7_106 qT_X7_isPlace qN_X7 kX7_isPlace) rfl rfl rfl (by decide +kernel) ⟨Nat.le_of_ble_eq_true rfl, Nat.le_of_ble_eq_true rfl⟩) ⟨fun _ _ _ _ q => q, fun _ _ _ => ⟨rfl, trivial⟩⟩ rfl rfl hl.1 rfl (lv_room (Nat.le_of_ble_eq_true rfl)) dX7_place_2 ⟨Nat.le_of_ble_eq_true rfl, Nat.le_of_ble_eq_true rfl⟩) (nm_e ?_)
    refine lv_if_eq (tgt := 27) hx hb dX7_place_5 (by decide) (fun c_5 => ?_) (fun c_5 => ?_)
    · -- ifeq taken
      refine lv_iconst (v := 1) hx hb dX7_place_27 (by decide) ?_
      refine lv_goto (tgt := 65) hx hb dX7_place_28 (by decide) ?_
      exact lp_topi (show m_placeT σ a0 b0 c0 = 1 from by simp only [m_placeT, if_pos c_5]) (hcut65 ls (lv_sub hl [0, 1, 2, 3] rfl))
    · -- ifeq not taken
      refine lv_iload_n hx hb dX7_place_8 rfl (lv_at hl 2 rfl) ?_
      refine lv_iconst (v := 1) hx hb dX7_place_9 (by decide) ?_
      refine lv_ldc (v := 100000) hx hb hown (hg _ qC_X7_110) dX7_place_10 ?_
      refine vp_callSi (W.runS (As := [.int b0, .int 1, .int 100000]) (rest := [.ref (ad 0)]) ⟨hx, hb, hml, hown, hg⟩ (m_ReplenishRulesModel_in l b0 1 100000) (cwS 3 hg (gS qM_X7_102 qT_X7_in qN_X7 kX7_in) rfl rfl rfl (by decide +kernel) ⟨Nat.le_of_ble_eq_true rfl, Nat.le_of_ble_eq_true rfl⟩) ⟨fun _ _ _ _ q => q, fun _ _ _ => ⟨rfl, trivial⟩⟩ rfl rfl hl.1 rfl (lv_room (Nat.le_of_ble_eq_true rfl)) dX7_place_12 ⟨Nat.le_of_ble_eq_true rfl, Nat.le_of_ble_eq_true rfl⟩) (nm_e ?_)
      refine lv_if_eq (tgt := 27) hx hb dX7_place_15 (by decide) (fun c_15 => ?_) (fun c_15 => ?_)
      · -- ifeq taken
        refine lv_iconst (v := 1) hx hb dX7_place_27 (by decide) ?_
        refine lv_goto (tgt := 65) hx hb dX7_place_28 (by decide) ?_
        exact lp_topi (show m_placeT σ a0 b0 c0 = 1 from by simp only [m_placeT, if_neg c_5, if_pos c_15]) (hcut65 ls (lv_sub hl [0, 1, 2, 3] rfl))
      · -- ifeq not taken
        refine lv_iload_n hx hb dX7_place_18 rfl (lv_at hl 3 rfl) ?_
        refine lv_iconst (v := 0) hx hb dX7_place_19 (by decide) ?_
        refine lv_iconst (v := 3) hx hb dX7_place_20 (by decide) ?_
        refine vp_callSi (W.runS (As := [.int c0, .int 0, .int 3]) (rest := [.ref (ad 0)]) ⟨hx, hb, hml, hown, hg⟩ (m_ReplenishRulesModel_in l c0 0 3) (cwS 3 hg (gS qM_X7_102 qT_X7_in qN_X7 kX7_in) rfl rfl rfl (by decide +kernel) ⟨Nat.le_of_ble_eq_true rfl, Nat.le_of_ble_eq_true rfl⟩) ⟨fun _ _ _ _ q => q, fun _ _ _ => ⟨rfl, trivial⟩⟩ rfl rfl hl.1 rfl (lv_room (Nat.le_of_ble_eq_true rfl)) dX7_place_21 ⟨Nat.le_of_ble_eq_true rfl, Nat.le_of_ble_eq_true rfl⟩) (nm_e ?_)
        refine lv_if_ne (tgt := 31) hx hb dX7_place_24 (by decide) (fun c_24 => ?_) (fun c_24 => ?_)
        · -- ifne taken
          refine lv_aload_n hx hb dX7_place_31 rfl (lv_at hl 0 rfl) ?_
          refine va_get (D := G) (ci := 7) (v := .ref (ad 3)) (C := RX7) (T := TX7) (N := 33) hx hb hg hinX7 hown hK hP 0 ml_obj rfl 3 (by decide) (hg _ qF_X7_16) (fun _ h9 => h9) rfl dX7_place_32 ?_
          refine lv_iload_n hx hb dX7_place_35 rfl (lv_at hl 1 rfl) ?_
          refine va_iald hx hb hK hP 3 0 ml_pieces rfl (isP c_5) dX7_place_36 ?_
          refine lv_iload_n hx hb dX7_place_37 rfl (lv_at hl 2 rfl) ?_
          refine lv_icmp_gt (tgt := 60) hx hb dX7_place_38 (by decide) (fun c_38 => ?_) (fun c_38 => ?_)
          · -- if_icmpgt taken
            refine lv_iconst (v := 2) hx hb dX7_place_60 (by decide) ?_
            refine lv_goto (tgt := 65) hx hb dX7_place_61 (by decide) ?_
            exact lp_topi (show m_placeT σ a0 b0 c0 = 2 from by simp only [m_placeT, if_neg c_5, if_neg c_15, if_neg c_24, if_pos c_38]) (hcut65 ls (lv_sub hl [0, 1, 2, 3] rfl))
          · -- if_icmpgt not taken
            refine lv_aload_n hx hb dX7_place_41 rfl (lv_at hl 0 rfl) ?_
            refine va_get (D := G) (ci := 7) (v := .ref (ad 6)) (C := RX7) (T := TX7) (N := 33) hx hb hg hinX7 hown hK hP 0 ml_obj rfl 6 (by decide) (hg _ qF_X7_25) (fun _ h9 => h9) rfl dX7_place_42 ?_
            refine lv_iload_n hx hb dX7_place_45 rfl (lv_at hl 1 rfl) ?_
            refine va_zald hx hb hK hP 6 1 ml_isFace rfl (isP c_5) dX7_place_46 ?_
            refine lv_if_eq (tgt := 64) hx hb dX7_place_47 (by decide) (fun c_47 => ?_) (fun c_47 => ?_)
            · -- ifeq taken
              refine lv_iconst (v := 0) hx hb dX7_place_64 (by decide) ?_
              exact lp_topi (show m_placeT σ a0 b0 c0 = 0 from by simp only [m_placeT, if_neg c_5, if_neg c_15, if_neg c_24, if_neg c_38, if_pos c_47]) (hcut65 ls (lv_sub hl [0, 1, 2, 3] rfl))
            · -- ifeq not taken
              refine lv_aload_n hx hb dX7_place_50 rfl (lv_at hl 0 rfl) ?_
              refine va_get (D := G) (ci := 7) (v := .ref (ad 9)) (C := RX7) (T := TX7) (N := 33) hx hb hg hinX7 hown hK hP 0 ml_obj rfl 9 (by decide) (hg _ qF_X7_35) (fun _ h9 => h9) rfl dX7_place_51 ?_
              refine lv_iload_n hx hb dX7_place_54 rfl (lv_at hl 1 rfl) ?_
              refine va_iald hx hb hK hP 9 0 ml_most rfl (isP c_5) dX7_place_55 ?_
              refine lv_iload_n hx hb dX7_place_56 rfl (lv_at hl 2 rfl) ?_
              refine lv_icmp_le (tgt := 64) hx hb dX7_place_57 (by decide) (fun c_57 => ?_) (fun c_57 => ?_)
              · -- if_icmple taken
                refine lv_iconst (v := 0) hx hb dX7_place_64 (by decide) ?_
                exact lp_topi (show m_placeT σ a0 b0 c0 = 0 from by simp only [m_placeT, if_neg c_5, if_neg c_15, if_neg c_24, if_neg c_38, if_neg c_47, if_pos c_57]) (hcut65 ls (lv_sub hl [0, 1, 2, 3] rfl))
              · -- if_icmple not taken
                refine lv_iconst (v := 2) hx hb dX7_place_60 (by decide) ?_
                refine lv_goto (tgt := 65) hx hb dX7_place_61 (by decide) ?_
                exact lp_topi (show m_placeT σ a0 b0 c0 = 2 from by simp only [m_placeT, if_neg c_5, if_neg c_15, if_neg c_24, if_neg c_38, if_neg c_47, if_neg c_57]) (hcut65 ls (lv_sub hl [0, 1, 2, 3] rfl))
        · -- ifne not taken
          refine lv_iconst (v := 1) hx hb dX7_place_27 (by decide) ?_
          refine lv_goto (tgt := 65) hx hb dX7_place_28 (by decide) ?_
          exact lp_topi (show m_placeT σ a0 b0 c0 = 1 from by simp only [m_placeT, if_neg c_5, if_neg c_15, if_pos c_24]) (hcut65 ls (lv_sub hl [0, 1, 2, 3] rfl))

set_option maxHeartbeats 4000000 in
set_option maxRecDepth 100000 in
theorem m_ReplenishRulesModel_face (l : Launch) (G : va_G) (cA : Nat → ClassId) (ad : Nat → Nat) (σ : St) (hJ : mm_inj ad) (a0 : Int32) (b0 : Int32) (c0 : Int32) (d0 : Int32) : Met l yX7_face (wX7_face :: wG) ({ frames := 2, cells := 0, slots := 0, locals := 42 }) (va_Pc [.ref (ad 0), .int a0, .int b0, .int c0, .int d0] (mmW G cA ad σ)) (va_Qv (fun σ' => σ' = m_faceS σ a0 b0 c0 d0) (mmW G cA ad) (mmA ad)) 0 0 (mmA ad) := by
  refine Met.ofW (cc := cX7_face) (maxL := 6) (ret := none) (by decide) rfl ?_
  intro p e s m args below meth c s₁ B hml hv
  obtain ⟨rfl, hP, hK⟩ := hv
  have hx := B.exec
  have hb := B.bytes
  have hr := B.returns
  have hts := atoms_spec (ws := wX7_face :: wG) B.pre
  have hg : ∀ w ∈ wG, w.before _ s = true := fun w h => hts w (List.mem_cons_of_mem _ h)
  have hown : s.vm.findClass RX7 = some m.cls := findClass_of_methodNamed B.named
  have hlocks := B.notSynchronized
  have hS : va_S (mmA ad) s.heap s.heap [] := va_S.rf
  have hl := lv_entry ([.ref (ad 0), .int a0, .int b0, .int c0, .int d0]) (n := 6) (Nat.le_of_ble_eq_true rfl)
  rw [lg_entry_eq]
  generalize (lg_sl ([.ref (ad 0), .int a0, .int b0, .int c0, .int d0]) ++ List.replicate (6 - (lg_sl ([.ref (ad 0), .int a0, .int b0, .int c0, .int d0])).length) Slot.unset).toArray = ls at hl ⊢
  have hl : lv_has ls 6 [(0, .ref (ad 0)), (1, .int a0), (2, .int b0), (3, .int c0), (4, .int d0)] := hl
  refine lp_cut (J := 43) (nL := 6) (LV := [(0, .ref (ad 0)), (1, .int a0), (2, .int b0), (3, .int c0), (4, .int d0)]) (st := [.int (m_faceG σ a0 b0 c0 d0)]) (fun ls hl => ?_) (fun hcut43 => ?_)
  · have hl : lv_has ls 6 [(0, .ref (ad 0)), (1, .int a0), (2, .int b0), (3, .int c0), (4, .int d0)] := hl
    refine lv_istore (lv' := [(5, .int (m_faceG σ a0 b0 c0 d0)), (0, .ref (ad 0)), (1, .int a0), (2, .int b0), (3, .int c0), (4, .int d0)]) hx hb dX7_face_43 hl (by decide) rfl (fun ls hl => ?_)
    refine lp_cut (J := 69) (nL := 6) (LV := [(5, .int (m_faceG σ a0 b0 c0 d0)), (0, .ref (ad 0)), (1, .int a0), (2, .int b0), (3, .int c0), (4, .int d0)]) (st := [.int (m_faceT σ a0 b0 c0 d0), .ref (ad 0)]) (fun ls hl => ?_) (fun hcut69 => ?_)
    · have hl : lv_has ls 6 [(5, .int (m_faceG σ a0 b0 c0 d0)), (0, .ref (ad 0)), (1, .int a0), (2, .int b0), (3, .int c0), (4, .int d0)] := hl
      refine pp_put (D := G) (ci := 7) (v := .int (m_faceT σ a0 b0 c0 d0)) (ty := .int) (C := RX7) (T := TX7) (N := 33) hx hb hg hinX7 tyX7 tyX7_ok nmX7 hown hK hP (mm_D hJ) hS 0 ml_obj rfl 0 (by decide) (hg _ qF_X7_98) (fun _ h9 => h9) rfl (by decide +kernel) rfl rfl (Nat.le_of_ble_eq_true rfl) (ms_thrown) dX7_face_69 (fun H locs hP hS => ?_)
      obtain ⟨σ1, eσ1⟩ : ∃ z, z = up σ 0 0 (m_faceT σ a0 b0 c0 d0) := ⟨_, rfl⟩
      rw [← eσ1] at hP
      refine lv_aload_n hx hb dX7_face_72 rfl (lv_at hl 1 rfl) ?_
      refine va_get (D := G) (ci := 7) (v := .int (σ1 0 0)) (C := RX7) (T := TX7) (N := 33) hx hb hg hinX7 hown hK hP 0 ml_obj rfl 0 (by decide) (hg _ qF_X7_98) (fun _ h9 => h9) rfl dX7_face_73 ?_
      refine lv_if_ne (tgt := 108) hx hb dX7_face_76 (by decide) (fun c_76 => ?_) (fun c_76 => ?_)
      · -- ifne taken
        exact W.vret hx hb hr (fun t ht hW => ⟨⟨σ1, rfl, by subst eσ1; simp only [m_faceS, if_neg c_76], by rw [ht]; exact hP, va_K.moved hW.alike hK⟩, hS.F ht⟩) hS.2.2 dX7_face_108
      · -- ifne not taken
        refine lv_aload_n hx hb dX7_face_79 rfl (lv_at hl 1 rfl) ?_
        refine va_get (D := G) (ci := 7) (v := .ref (ad 6)) (C := RX7) (T := TX7) (N := 33) hx hb hg hinX7 hown hK hP 0 ml_obj rfl 6 (by decide) (hg _ qF_X7_25) (fun _ h9 => h9) rfl dX7_face_80 ?_
        refine lv_iload_n hx hb dX7_face_83 rfl (lv_at hl 2 rfl) ?_
        refine lv_iconst (v := 1) hx hb dX7_face_84 (by decide) ?_
        refine pp_zast (x := 1) hx hb hK hP (mm_D hJ) hS 6 1 ml_isFace rfl (by decide) (faceT_in (by rw [eσ1, up_eq] at c_76; exact c_76)) (ms_isFace) dX7_face_85 (fun H locs hP hS => ?_)
        obtain ⟨σ2, eσ2⟩ : ∃ z, z = up σ1 6 (nx a0) 1 := ⟨_, rfl⟩
        rw [← eσ2] at hP
        refine lv_aload_n hx hb dX7_face_86 rfl (lv_at hl 1 rfl) ?_
        refine va_get (D := G) (ci := 7) (v := .ref (ad 7)) (C := RX7) (T := TX7) (N := 33) hx hb hg hinX7 hown hK hP 0 ml_obj rfl 7 (by decide) (hg _ qF_X7_29) (fun _ h9 => h9) rfl dX7_face_87 ?_
        refine lv_iload_n hx hb dX7_face_90 rfl (lv_at hl 2 rfl) ?_
        refine lv_iload_n hx hb dX7_face_91 rfl (lv_at hl 3 rfl) ?_
        refine pp_iast (x := b0) hx hb hK hP (mm_D hJ) hS 7 0 ml_faceGood rfl (faceT_in (by rw [eσ1, up_eq] at c_76; exact c_76)) (ms_faceGood) dX7_face_92 (fun H locs hP hS => ?_)
        obtain ⟨σ3, eσ3⟩ : ∃ z, z = up σ2 7 (nx a0) b0 := ⟨_, rfl⟩
        rw [← eσ3] at hP
        refine lv_aload_n hx hb dX7_face_93 rfl (lv_at hl 1 rfl) ?_
        refine va_get (D := G) (ci := 7) (v := .ref (ad 8)) (C := RX7) (T := TX7) (N := 33) hx hb hg hinX7 hown hK hP 0 ml_obj rfl 8 (by decide) (hg _ qF_X7_32) (fun _ h9 => h9) rfl dX7_face_94 ?_
        refine lv_iload_n hx hb dX7_face_97 rfl (lv_at hl 2 rfl) ?_
        refine lv_iload_n hx hb dX7_face_98 rfl (lv_at hl 4 rfl) ?_
        refine pp_iast (x := c0) hx hb hK hP (mm_D hJ) hS 8 0 ml_least rfl (faceT_in (by rw [eσ1, up_eq] at c_76; exact c_76)) (ms_least) dX7_face_99 (fun H locs hP hS => ?_)
        obtain ⟨σ4, eσ4⟩ : ∃ z, z = up σ3 8 (nx a0) c0 := ⟨_, rfl⟩
        rw [← eσ4] at hP
        refine lv_aload_n hx hb dX7_face_100 rfl (lv_at hl 1 rfl) ?_
        refine va_get (D := G) (ci := 7) (v := .ref (ad 9)) (C := RX7) (T := TX7) (N := 33) hx hb hg hinX7 hown hK hP 0 ml_obj rfl 9 (by decide) (hg _ qF_X7_35) (fun _ h9 => h9) rfl dX7_face_101 ?_
        refine lv_iload_n hx hb dX7_face_104 rfl (lv_at hl 2 rfl) ?_
        refine lv_iload hx hb dX7_face_105 (lv_at hl 5 rfl) ?_
        refine pp_iast (x := d0) hx hb hK hP (mm_D hJ) hS 9 0 ml_most rfl (faceT_in (by rw [eσ1, up_eq] at c_76; exact c_76)) (ms_most) dX7_face_107 (fun H locs hP hS => ?_)
        obtain ⟨σ5, eσ5⟩ : ∃ z, z = up σ4 9 (nx a0) d0 := ⟨_, rfl⟩
        rw [← eσ5] at hP
        exact W.vret hx hb hr (fun t ht hW => ⟨⟨σ5, rfl, by subst eσ1 eσ2 eσ3 eσ4 eσ5; simp only [m_faceS, if_pos c_76], by rw [ht]; exact hP, va_K.moved hW.alike hK⟩, hS.F ht⟩) hS.2.2 dX7_face_108
    · -- to the cut
      refine lv_aload_n hx hb dX7_face_45 rfl (lv_at hl 1 rfl) ?_
      refine lv_iload hx hb dX7_face_46 (lv_at hl 0 rfl) ?_
      refine lv_if_ne (tgt := 55) hx hb dX7_face_48 (by decide) (fun c_48 => ?_) (fun c_48 => ?_)
      · -- ifne taken
        refine lv_aload_n hx hb dX7_face_55 rfl (lv_at hl 1 rfl) ?_
        refine lv_iload_n hx hb dX7_face_56 rfl (lv_at hl 2 rfl) ?_
        refine lv_iload_n hx hb dX7_face_57 rfl (lv_at hl 3 rfl) ?_
        refine vp_callSi (W.runV (As := [.int a0, .int b0]) (rest := [.ref (ad 0)]) ⟨hx, hb, hml, hown, hg⟩ (m_ReplenishRulesModel_holdsOther l G cA ad σ a0 b0 (faceG_in c_48)) (cwV 2 hg (gV qM_X7_111 qI_X7_holdsOther qS_X7_holdsOther qN_X7 kX7_holdsOther) rfl rfl rfl (by decide +kernel) ⟨Nat.le_of_ble_eq_true rfl, Nat.le_of_ble_eq_true rfl⟩) (mm_pv hK hP (va_recv hK hP (ci := 7) (q0 := 0) rfl ml_obj)) rfl rfl hl.1 rfl (lv_room (Nat.le_of_ble_eq_true rfl)) dX7_face_58 ⟨Nat.le_of_ble_eq_true rfl, Nat.le_of_ble_eq_true rfl⟩) (nm_e ?_)
        refine lv_if_eq (tgt := 68) hx hb dX7_face_61 (by decide) (fun c_61 => ?_) (fun c_61 => ?_)
        · -- ifeq taken
          refine lv_iconst (v := 0) hx hb dX7_face_68 (by decide) ?_
          exact lp_topi (show m_faceT σ a0 b0 c0 d0 = 0 from by simp only [m_faceT, if_neg c_48, if_pos c_61]) (hcut69 ls (lv_sub hl [0, 1, 2, 3, 4, 5] rfl))
        · -- ifeq not taken
          refine lv_iconst (v := 2) hx hb dX7_face_64 (by decide) ?_
          refine lv_goto (tgt := 69) hx hb dX7_face_65 (by decide) ?_
          exact lp_topi (show m_faceT σ a0 b0 c0 d0 = 2 from by simp only [m_faceT, if_neg c_48, if_neg c_61]) (hcut69 ls (lv_sub hl [0, 1, 2, 3, 4, 5] rfl))
      · -- ifne not taken
        refine lv_iconst (v := 1) hx hb dX7_face_51 (by decide) ?_
        refine lv_goto (tgt := 69) hx hb dX7_face_52 (by decide) ?_
        exact lp_topi (show m_faceT σ a0 b0 c0 d0 = 1 from by simp only [m_faceT, if_pos c_48]) (hcut69 ls (lv_sub hl [0, 1, 2, 3, 4, 5] rfl))
  · -- to the cut
    refine lv_iload_n hx hb dX7_face_0 rfl (lv_at hl 1 rfl) ?_
    refine vp_callSi (W.runS (As := [.int a0]) (rest := []) ⟨hx, hb, hml, hown, hg⟩ (m_ReplenishRulesModel_isPlace l a0) (cwS 1 hg (gS qM_X7_106 qT_X7_isPlace qN_X7 kX7_isPlace) rfl rfl rfl (by decide +kernel) ⟨Nat.le_of_ble_eq_true rfl, Nat.le_of_ble_eq_true rfl⟩) ⟨fun _ _ _ _ q => q, fun _ _ _ => ⟨rfl, trivial⟩⟩ rfl rfl hl.1 rfl (lv_room (Nat.le_of_ble_eq_true rfl)) dX7_face_1 ⟨Nat.le_of_ble_eq_true rfl, Nat.le_of_ble_eq_true rfl⟩) (nm_e ?_)
    refine lv_if_eq (tgt := 42) hx hb dX7_face_4 (by decide) (fun c_4 => ?_) (fun c_4 => ?_)
    · -- ifeq taken
      refine lv_iconst (v := 0) hx hb dX7_face_42 (by decide) ?_
      exact lp_topi (show m_faceG σ a0 b0 c0 d0 = 0 from by simp only [m_faceG, if_pos c_4]) (hcut43 ls (lv_sub hl [0, 1, 2, 3, 4] rfl))
    · -- ifeq not taken
      refine lv_iload_n hx hb dX7_face_7 rfl (lv_at hl 2 rfl) ?_
      refine lv_iconst (v := 0) hx hb dX7_face_8 (by decide) ?_
      refine lv_bipush (v := 7) hx hb dX7_face_9 (by decide) ?_
      refine vp_callSi (W.runS (As := [.int b0, .int 0, .int 7]) (rest := []) ⟨hx, hb, hml, hown, hg⟩ (m_ReplenishRulesModel_in l b0 0 7) (cwS 3 hg (gS qM_X7_102 qT_X7_in qN_X7 kX7_in) rfl rfl rfl (by decide +kernel) ⟨Nat.le_of_ble_eq_true rfl, Nat.le_of_ble_eq_true rfl⟩) ⟨fun _ _ _ _ q => q, fun _ _ _ => ⟨rfl, trivial⟩⟩ rfl rfl hl.1 rfl (lv_room (Nat.le_of_ble_eq_true rfl)) dX7_face_11 ⟨Nat.le_of_ble_eq_true rfl, Nat.le_of_ble_eq_true rfl⟩) (nm_e ?_)
      refine lv_if_eq (tgt := 42) hx hb dX7_face_14 (by decide) (fun c_14 => ?_) (fun c_14 => ?_)
      · -- ifeq taken
        refine lv_iconst (v := 0) hx hb dX7_face_42 (by decide) ?_
        exact lp_topi (show m_faceG σ a0 b0 c0 d0 = 0 from by simp only [m_faceG, if_neg c_4, if_pos c_14]) (hcut43 ls (lv_sub hl [0, 1, 2, 3, 4] rfl))
      · -- ifeq not taken
        refine lv_iload_n hx hb dX7_face_17 rfl (lv_at hl 3 rfl) ?_
        refine lv_if_lt (tgt := 42) hx hb dX7_face_18 (by decide) (fun c_18 => ?_) (fun c_18 => ?_)
        · -- iflt taken
          refine lv_iconst (v := 0) hx hb dX7_face_42 (by decide) ?_
          exact lp_topi (show m_faceG σ a0 b0 c0 d0 = 0 from by simp only [m_faceG, if_neg c_4, if_neg c_14, if_pos c_18]) (hcut43 ls (lv_sub hl [0, 1, 2, 3, 4] rfl))
        · -- iflt not taken
          refine lv_iload_n hx hb dX7_face_21 rfl (lv_at hl 3 rfl) ?_
          refine lv_iload hx hb dX7_face_22 (lv_at hl 4 rfl) ?_
          refine lv_icmp_gt (tgt := 42) hx hb dX7_face_24 (by decide) (fun c_24 => ?_) (fun c_24 => ?_)
          · -- if_icmpgt taken
            refine lv_iconst (v := 0) hx hb dX7_face_42 (by decide) ?_
            exact lp_topi (show m_faceG σ a0 b0 c0 d0 = 0 from by simp only [m_faceG, if_neg c_4, if_neg c_14, if_neg c_18, if_pos c_24]) (hcut43 ls (lv_sub hl [0, 1, 2, 3, 4] rfl))
          · -- if_icmpgt not taken
            refine lv_iload hx hb dX7_face_27 (lv_at hl 4 rfl) ?_
            refine lv_aload_n hx hb dX7_face_29 rfl (lv_at hl 0 rfl) ?_
            refine va_get (D := G) (ci := 7) (v := .ref (ad 1)) (C := RX7) (T := TX7) (N := 33) hx hb hg hinX7 hown hK hP 0 ml_obj rfl 1 (by decide) (hg _ qF_X7_7) (fun _ h9 => h9) rfl dX7_face_30 ?_
            refine lv_iload_n hx hb dX7_face_33 rfl (lv_at hl 1 rfl) ?_
            refine va_iald hx hb hK hP 1 0 ml_room rfl (isP c_4) dX7_face_34 ?_
            refine lv_icmp_gt (tgt := 42) hx hb dX7_face_35 (by decide) (fun c_35 => ?_) (fun c_35 => ?_)
            · -- if_icmpgt taken
              refine lv_iconst (v := 0) hx hb dX7_face_42 (by decide) ?_
              exact lp_topi (show m_faceG σ a0 b0 c0 d0 = 0 from by simp only [m_faceG, if_neg c_4, if_neg c_14, if_neg c_18, if_neg c_24, if_pos c_35]) (hcut43 ls (lv_sub hl [0, 1, 2, 3, 4] rfl))
            · -- if_icmpgt not taken
              refine lv_iconst (v := 1) hx hb dX7_face_38 (by decide) ?_
              refine lv_goto (tgt := 43) hx hb dX7_face_39 (by decide) ?_
              exact lp_topi (show m_faceG σ a0 b0 c0 d0 = 1 from by simp only [m_faceG, if_neg c_4, if_neg c_14, if_neg c_18, if_neg c_24, if_neg c_35]) (hcut43 ls (lv_sub hl [0, 1, 2, 3, 4] rfl))

set_option maxHeartbeats 4000000 in
set_option maxRecDepth 100000 in
theorem m_ReplenishRulesModel_put (l : Launch) (G : va_G) (cA : Nat → ClassId) (ad : Nat → Nat) (σ : St) (hJ : mm_inj ad) (a0 : Int32) (b0 : Int32) (c0 : Int32) : Met l yX7_put (wX7_put :: wG) ({ frames := 2, cells := 0, slots := 0, locals := 42 }) (va_Pc [.ref (ad 0), .int a0, .int b0, .int c0] (mmW G cA ad σ)) (va_Qv (fun σ' => σ' = m_putS σ a0 b0 c0) (mmW G cA ad) (mmA ad)) 0 0 (mmA ad) := by
  refine Met.ofW (cc := cX7_put) (maxL := 5) (ret := none) (by decide) rfl ?_
  intro p e s m args below meth c s₁ B hml hv
  obtain ⟨rfl, hP, hK⟩ := hv
  have hx := B.exec
  have hb := B.bytes
  have hr := B.returns
  have hts := atoms_spec (ws := wX7_put :: wG) B.pre
  have hg : ∀ w ∈ wG, w.before _ s = true := fun w h => hts w (List.mem_cons_of_mem _ h)
  have hown : s.vm.findClass RX7 = some m.cls := findClass_of_methodNamed B.named
  have hlocks := B.notSynchronized
  have hS : va_S (mmA ad) s.heap s.heap [] := va_S.rf
  have hl := lv_entry ([.ref (ad 0), .int a0, .int b0, .int c0]) (n := 5) (Nat.le_of_ble_eq_true rfl)
  rw [lg_entry_eq]
  generalize (lg_sl ([.ref (ad 0), .int a0, .int b0, .int c0]) ++ List.replicate (5 - (lg_sl ([.ref (ad 0), .int a0, .int b0, .int c0])).length) Slot.unset).toArray = ls at hl ⊢
  have hl : lv_has ls 5 [(0, .ref (ad 0)), (1, .int a0), (2, .int b0), (3, .int c0)] := hl
  refine lp_cut (J := 32) (nL := 5) (LV := [(0, .ref (ad 0)), (1, .int a0), (2, .int b0), (3, .int c0)]) (st := [.int (m_putI a0 b0 c0)]) (fun ls hl => ?_) (fun hcut32 => ?_)
  · have hl : lv_has ls 5 [(0, .ref (ad 0)), (1, .int a0), (2, .int b0), (3, .int c0)] := hl
    refine lv_istore (lv' := [(4, .int (m_putI a0 b0 c0)), (0, .ref (ad 0)), (1, .int a0), (2, .int b0), (3, .int c0)]) hx hb dX7_put_32 hl (by decide) rfl (fun ls hl => ?_)
    refine lp_cut (J := 98) (nL := 5) (LV := [(4, .int (m_putI a0 b0 c0)), (0, .ref (ad 0)), (1, .int a0), (2, .int b0), (3, .int c0)]) (st := [.int (m_putT σ a0 b0 c0), .ref (ad 0)]) (fun ls hl => ?_) (fun hcut98 => ?_)
    · have hl : lv_has ls 5 [(4, .int (m_putI a0 b0 c0)), (0, .ref (ad 0)), (1, .int a0), (2, .int b0), (3, .int c0)] := hl
      refine pp_put (D := G) (ci := 7) (v := .int (m_putT σ a0 b0 c0)) (ty := .int) (C := RX7) (T := TX7) (N := 33) hx hb hg hinX7 tyX7 tyX7_ok nmX7 hown hK hP (mm_D hJ) hS 0 ml_obj rfl 0 (by decide) (hg _ qF_X7_98) (fun _ h9 => h9) rfl (by decide +kernel) rfl rfl (Nat.le_of_ble_eq_true rfl) (ms_thrown) dX7_put_98 (fun H locs hP hS => ?_)
      obtain ⟨σ1, eσ1⟩ : ∃ z, z = up σ 0 0 (m_putT σ a0 b0 c0) := ⟨_, rfl⟩
      rw [← eσ1] at hP
      refine lv_aload_n hx hb dX7_put_101 rfl (lv_at hl 1 rfl) ?_
      refine va_get (D := G) (ci := 7) (v := .int (σ1 0 0)) (C := RX7) (T := TX7) (N := 33) hx hb hg hinX7 hown hK hP 0 ml_obj rfl 0 (by decide) (hg _ qF_X7_98) (fun _ h9 => h9) rfl dX7_put_102 ?_
      refine lv_if_ne (tgt := 125) hx hb dX7_put_105 (by decide) (fun c_105 => ?_) (fun c_105 => ?_)
      · -- ifne taken
        exact W.vret hx hb hr (fun t ht hW => ⟨⟨σ1, rfl, by subst eσ1; simp only [m_putS, if_neg c_105], by rw [ht]; exact hP, va_K.moved hW.alike hK⟩, hS.F ht⟩) hS.2.2 dX7_put_125
      · -- ifne not taken
        refine lv_aload_n hx hb dX7_put_108 rfl (lv_at hl 1 rfl) ?_
        refine va_get (D := G) (ci := 7) (v := .ref (ad 3)) (C := RX7) (T := TX7) (N := 33) hx hb hg hinX7 hown hK hP 0 ml_obj rfl 3 (by decide) (hg _ qF_X7_16) (fun _ h9 => h9) rfl dX7_put_109 ?_
        refine lv_iload_n hx hb dX7_put_112 rfl (lv_at hl 2 rfl) ?_
        refine lv_dup2_11 hx hb dX7_put_113 rfl rfl ?_
        refine va_iald hx hb hK hP 3 0 ml_pieces rfl (putT_in (by rw [eσ1, up_eq] at c_105; exact c_105)) dX7_put_114 ?_
        refine lv_iload_n hx hb dX7_put_115 rfl (lv_at hl 4 rfl) ?_
        refine lv_iadd hx hb dX7_put_116 ?_
        refine pp_iast (x := ((σ1 3 (nx a0)) + c0)) hx hb hK hP (mm_D hJ) hS 3 0 ml_pieces rfl (putT_in (by rw [eσ1, up_eq] at c_105; exact c_105)) (ms_pieces) dX7_put_117 (fun H locs hP hS => ?_)
        obtain ⟨σ2, eσ2⟩ : ∃ z, z = up σ1 3 (nx a0) ((σ1 3 (nx a0)) + c0) := ⟨_, rfl⟩
        rw [← eσ2] at hP
        refine lv_aload_n hx hb dX7_put_118 rfl (lv_at hl 1 rfl) ?_
        refine va_get (D := G) (ci := 7) (v := .ref (ad 4)) (C := RX7) (T := TX7) (N := 33) hx hb hg hinX7 hown hK hP 0 ml_obj rfl 4 (by decide) (hg _ qF_X7_19) (fun _ h9 => h9) rfl dX7_put_119 ?_
        refine lv_iload_n hx hb dX7_put_122 rfl (lv_at hl 2 rfl) ?_
        refine lv_iload_n hx hb dX7_put_123 rfl (lv_at hl 3 rfl) ?_
        refine pp_iast (x := b0) hx hb hK hP (mm_D hJ) hS 4 0 ml_good rfl (putT_in (by rw [eσ1, up_eq] at c_105; exact c_105)) (ms_good) dX7_put_124 (fun H locs hP hS => ?_)
        obtain ⟨σ3, eσ3⟩ : ∃ z, z = up σ2 4 (nx a0) b0 := ⟨_, rfl⟩
        rw [← eσ3] at hP
        exact W.vret hx hb hr (fun t ht hW => ⟨⟨σ3, rfl, by subst eσ1 eσ2 eσ3; simp only [m_putS, if_pos c_105], by rw [ht]; exact hP, va_K.moved hW.alike hK⟩, hS.F ht⟩) hS.2.2 dX7_put_125
    · -- to the cut
      refine lv_aload_n hx hb dX7_put_34 rfl (lv_at hl 1 rfl) ?_
      refine lv_iload hx hb dX7_put_35 (lv_at hl 0 rfl) ?_
      refine lv_if_ne (tgt := 44) hx hb dX7_put_37 (by decide) (fun c_37 => ?_) (fun c_37 => ?_)
      · -- ifne taken
        refine lv_aload_n hx hb dX7_put_44 rfl (lv_at hl 1 rfl) ?_
        refine lv_iload_n hx hb dX7_put_45 rfl (lv_at hl 2 rfl) ?_
        refine lv_iload_n hx hb dX7_put_46 rfl (lv_at hl 3 rfl) ?_
        refine vp_callSi (W.runV (As := [.int a0, .int b0]) (rest := [.ref (ad 0)]) ⟨hx, hb, hml, hown, hg⟩ (m_ReplenishRulesModel_holdsOther l G cA ad σ a0 b0 (putI_in c_37)) (cwV 2 hg (gV qM_X7_111 qI_X7_holdsOther qS_X7_holdsOther qN_X7 kX7_holdsOther) rfl rfl rfl (by decide +kernel) ⟨Nat.le_of_ble_eq_true rfl, Nat.le_of_ble_eq_true rfl⟩) (mm_pv hK hP (va_recv hK hP (ci := 7) (q0 := 0) rfl ml_obj)) rfl rfl hl.1 rfl (lv_room (Nat.le_of_ble_eq_true rfl)) dX7_put_47 ⟨Nat.le_of_ble_eq_true rfl, Nat.le_of_ble_eq_true rfl⟩) (nm_e ?_)
        refine lv_if_ne (tgt := 72) hx hb dX7_put_50 (by decide) (fun c_50 => ?_) (fun c_50 => ?_)
        · -- ifne taken
          refine lv_iconst (v := 2) hx hb dX7_put_72 (by decide) ?_
          refine lv_goto (tgt := 98) hx hb dX7_put_73 (by decide) ?_
          exact lp_topi (show m_putT σ a0 b0 c0 = 2 from by simp only [m_putT, m_putQ, if_neg c_37, if_neg c_50]) (hcut98 ls (lv_sub hl [0, 1, 2, 3, 4] rfl))
        · -- ifne not taken
          refine lv_aload_n hx hb dX7_put_53 rfl (lv_at hl 1 rfl) ?_
          refine va_get (D := G) (ci := 7) (v := .ref (ad 6)) (C := RX7) (T := TX7) (N := 33) hx hb hg hinX7 hown hK hP 0 ml_obj rfl 6 (by decide) (hg _ qF_X7_25) (fun _ h9 => h9) rfl dX7_put_54 ?_
          refine lv_iload_n hx hb dX7_put_57 rfl (lv_at hl 2 rfl) ?_
          refine va_zald hx hb hK hP 6 1 ml_isFace rfl (putI_in c_37) dX7_put_58 ?_
          refine lv_if_eq (tgt := 76) hx hb dX7_put_59 (by decide) (fun c_59 => ?_) (fun c_59 => ?_)
          · -- ifeq taken
            refine lv_aload_n hx hb dX7_put_76 rfl (lv_at hl 1 rfl) ?_
            refine va_get (D := G) (ci := 7) (v := .ref (ad 3)) (C := RX7) (T := TX7) (N := 33) hx hb hg hinX7 hown hK hP 0 ml_obj rfl 3 (by decide) (hg _ qF_X7_16) (fun _ h9 => h9) rfl dX7_put_77 ?_
            refine lv_iload_n hx hb dX7_put_80 rfl (lv_at hl 2 rfl) ?_
            refine va_iald hx hb hK hP 3 0 ml_pieces rfl (putI_in c_37) dX7_put_81 ?_
            refine lv_iload_n hx hb dX7_put_82 rfl (lv_at hl 4 rfl) ?_
            refine lv_iadd hx hb dX7_put_83 ?_
            refine lv_aload_n hx hb dX7_put_84 rfl (lv_at hl 1 rfl) ?_
            refine va_get (D := G) (ci := 7) (v := .ref (ad 1)) (C := RX7) (T := TX7) (N := 33) hx hb hg hinX7 hown hK hP 0 ml_obj rfl 1 (by decide) (hg _ qF_X7_7) (fun _ h9 => h9) rfl dX7_put_85 ?_
            refine lv_iload_n hx hb dX7_put_88 rfl (lv_at hl 2 rfl) ?_
            refine va_iald hx hb hK hP 1 0 ml_room rfl (putI_in c_37) dX7_put_89 ?_
            refine lv_icmp_le (tgt := 97) hx hb dX7_put_90 (by decide) (fun c_90 => ?_) (fun c_90 => ?_)
            · -- if_icmple taken
              refine lv_iconst (v := 0) hx hb dX7_put_97 (by decide) ?_
              exact lp_topi (show m_putT σ a0 b0 c0 = 0 from by simp only [m_putT, m_putQ, if_neg c_37, if_pos c_50, if_pos c_59, if_pos c_90]) (hcut98 ls (lv_sub hl [0, 1, 2, 3, 4] rfl))
            · -- if_icmple not taken
              refine lv_iconst (v := 3) hx hb dX7_put_93 (by decide) ?_
              refine lv_goto (tgt := 98) hx hb dX7_put_94 (by decide) ?_
              exact lp_topi (show m_putT σ a0 b0 c0 = 3 from by simp only [m_putT, m_putQ, if_neg c_37, if_pos c_50, if_pos c_59, if_neg c_90]) (hcut98 ls (lv_sub hl [0, 1, 2, 3, 4] rfl))
          · -- ifeq not taken
            refine lv_aload_n hx hb dX7_put_62 rfl (lv_at hl 1 rfl) ?_
            refine va_get (D := G) (ci := 7) (v := .ref (ad 7)) (C := RX7) (T := TX7) (N := 33) hx hb hg hinX7 hown hK hP 0 ml_obj rfl 7 (by decide) (hg _ qF_X7_29) (fun _ h9 => h9) rfl dX7_put_63 ?_
            refine lv_iload_n hx hb dX7_put_66 rfl (lv_at hl 2 rfl) ?_
            refine va_iald hx hb hK hP 7 0 ml_faceGood rfl (putI_in c_37) dX7_put_67 ?_
            refine lv_iload_n hx hb dX7_put_68 rfl (lv_at hl 3 rfl) ?_
            refine lv_icmp_eq (tgt := 76) hx hb dX7_put_69 (by decide) (fun c_69 => ?_) (fun c_69 => ?_)
            · -- if_icmpeq taken
              refine lv_aload_n hx hb dX7_put_76 rfl (lv_at hl 1 rfl) ?_
              refine va_get (D := G) (ci := 7) (v := .ref (ad 3)) (C := RX7) (T := TX7) (N := 33) hx hb hg hinX7 hown hK hP 0 ml_obj rfl 3 (by decide) (hg _ qF_X7_16) (fun _ h9 => h9) rfl dX7_put_77 ?_
              refine lv_iload_n hx hb dX7_put_80 rfl (lv_at hl 2 rfl) ?_
              refine va_iald hx hb hK hP 3 0 ml_pieces rfl (putI_in c_37) dX7_put_81 ?_
              refine lv_iload_n hx hb dX7_put_82 rfl (lv_at hl 4 rfl) ?_
              refine lv_iadd hx hb dX7_put_83 ?_
              refine lv_aload_n hx hb dX7_put_84 rfl (lv_at hl 1 rfl) ?_
              refine va_get (D := G) (ci := 7) (v := .ref (ad 1)) (C := RX7) (T := TX7) (N := 33) hx hb hg hinX7 hown hK hP 0 ml_obj rfl 1 (by decide) (hg _ qF_X7_7) (fun _ h9 => h9) rfl dX7_put_85 ?_
              refine lv_iload_n hx hb dX7_put_88 rfl (lv_at hl 2 rfl) ?_
              refine va_iald hx hb hK hP 1 0 ml_room rfl (putI_in c_37) dX7_put_89 ?_
              refine lv_icmp_le (tgt := 97) hx hb dX7_put_90 (by decide) (fun c_90 => ?_) (fun c_90 => ?_)
              · -- if_icmple taken
                refine lv_iconst (v := 0) hx hb dX7_put_97 (by decide) ?_
                exact lp_topi (show m_putT σ a0 b0 c0 = 0 from by simp only [m_putT, m_putQ, if_neg c_37, if_pos c_50, if_neg c_59, if_pos c_69, if_pos c_90]) (hcut98 ls (lv_sub hl [0, 1, 2, 3, 4] rfl))
              · -- if_icmple not taken
                refine lv_iconst (v := 3) hx hb dX7_put_93 (by decide) ?_
                refine lv_goto (tgt := 98) hx hb dX7_put_94 (by decide) ?_
                exact lp_topi (show m_putT σ a0 b0 c0 = 3 from by simp only [m_putT, m_putQ, if_neg c_37, if_pos c_50, if_neg c_59, if_pos c_69, if_neg c_90]) (hcut98 ls (lv_sub hl [0, 1, 2, 3, 4] rfl))
            · -- if_icmpeq not taken
              refine lv_iconst (v := 2) hx hb dX7_put_72 (by decide) ?_
              refine lv_goto (tgt := 98) hx hb dX7_put_73 (by decide) ?_
              exact lp_topi (show m_putT σ a0 b0 c0 = 2 from by simp only [m_putT, m_putQ, if_neg c_37, if_pos c_50, if_neg c_59, if_neg c_69]) (hcut98 ls (lv_sub hl [0, 1, 2, 3, 4] rfl))
      · -- ifne not taken
        refine lv_iconst (v := 1) hx hb dX7_put_40 (by decide) ?_
        refine lv_goto (tgt := 98) hx hb dX7_put_41 (by decide) ?_
        exact lp_topi (show m_putT σ a0 b0 c0 = 1 from by simp only [m_putT, m_putQ, if_pos c_37]) (hcut98 ls (lv_sub hl [0, 1, 2, 3, 4] rfl))
  · -- to the cut
    refine lv_iload_n hx hb dX7_put_0 rfl (lv_at hl 1 rfl) ?_
    refine vp_callSi (W.runS (As := [.int a0]) (rest := []) ⟨hx, hb, hml, hown, hg⟩ (m_ReplenishRulesModel_isPlace l a0) (cwS 1 hg (gS qM_X7_106 qT_X7_isPlace qN_X7 kX7_isPlace) rfl rfl rfl (by decide +kernel) ⟨Nat.le_of_ble_eq_true rfl, Nat.le_of_ble_eq_true rfl⟩) ⟨fun _ _ _ _ q => q, fun _ _ _ => ⟨rfl, trivial⟩⟩ rfl rfl hl.1 rfl (lv_room (Nat.le_of_ble_eq_true rfl)) dX7_put_1 ⟨Nat.le_of_ble_eq_true rfl, Nat.le_of_ble_eq_true rfl⟩) (nm_e ?_)
    refine lv_if_eq (tgt := 31) hx hb dX7_put_4 (by decide) (fun c_4 => ?_) (fun c_4 => ?_)
    · -- ifeq taken
      refine lv_iconst (v := 0) hx hb dX7_put_31 (by decide) ?_
      exact lp_topi (show m_putI a0 b0 c0 = 0 from by simp only [m_putI, if_pos c_4]) (hcut32 ls (lv_sub hl [0, 1, 2, 3] rfl))
    · -- ifeq not taken
      refine lv_iload_n hx hb dX7_put_7 rfl (lv_at hl 2 rfl) ?_
      refine lv_iconst (v := 0) hx hb dX7_put_8 (by decide) ?_
      refine lv_bipush (v := 7) hx hb dX7_put_9 (by decide) ?_
      refine vp_callSi (W.runS (As := [.int b0, .int 0, .int 7]) (rest := []) ⟨hx, hb, hml, hown, hg⟩ (m_ReplenishRulesModel_in l b0 0 7) (cwS 3 hg (gS qM_X7_102 qT_X7_in qN_X7 kX7_in) rfl rfl rfl (by decide +kernel) ⟨Nat.le_of_ble_eq_true rfl, Nat.le_of_ble_eq_true rfl⟩) ⟨fun _ _ _ _ q => q, fun _ _ _ => ⟨rfl, trivial⟩⟩ rfl rfl hl.1 rfl (lv_room (Nat.le_of_ble_eq_true rfl)) dX7_put_11 ⟨Nat.le_of_ble_eq_true rfl, Nat.le_of_ble_eq_true rfl⟩) (nm_e ?_)
      refine lv_if_eq (tgt := 31) hx hb dX7_put_14 (by decide) (fun c_14 => ?_) (fun c_14 => ?_)
      · -- ifeq taken
        refine lv_iconst (v := 0) hx hb dX7_put_31 (by decide) ?_
        exact lp_topi (show m_putI a0 b0 c0 = 0 from by simp only [m_putI, if_neg c_4, if_pos c_14]) (hcut32 ls (lv_sub hl [0, 1, 2, 3] rfl))
      · -- ifeq not taken
        refine lv_iload_n hx hb dX7_put_17 rfl (lv_at hl 3 rfl) ?_
        refine lv_iconst (v := 1) hx hb dX7_put_18 (by decide) ?_
        refine lv_ldc (v := 100000) hx hb hown (hg _ qC_X7_110) dX7_put_19 ?_
        refine vp_callSi (W.runS (As := [.int c0, .int 1, .int 100000]) (rest := []) ⟨hx, hb, hml, hown, hg⟩ (m_ReplenishRulesModel_in l c0 1 100000) (cwS 3 hg (gS qM_X7_102 qT_X7_in qN_X7 kX7_in) rfl rfl rfl (by decide +kernel) ⟨Nat.le_of_ble_eq_true rfl, Nat.le_of_ble_eq_true rfl⟩) ⟨fun _ _ _ _ q => q, fun _ _ _ => ⟨rfl, trivial⟩⟩ rfl rfl hl.1 rfl (lv_room (Nat.le_of_ble_eq_true rfl)) dX7_put_21 ⟨Nat.le_of_ble_eq_true rfl, Nat.le_of_ble_eq_true rfl⟩) (nm_e ?_)
        refine lv_if_eq (tgt := 31) hx hb dX7_put_24 (by decide) (fun c_24 => ?_) (fun c_24 => ?_)
        · -- ifeq taken
          refine lv_iconst (v := 0) hx hb dX7_put_31 (by decide) ?_
          exact lp_topi (show m_putI a0 b0 c0 = 0 from by simp only [m_putI, if_neg c_4, if_neg c_14, if_pos c_24]) (hcut32 ls (lv_sub hl [0, 1, 2, 3] rfl))
        · -- ifeq not taken
          refine lv_iconst (v := 1) hx hb dX7_put_27 (by decide) ?_
          refine lv_goto (tgt := 32) hx hb dX7_put_28 (by decide) ?_
          exact lp_topi (show m_putI a0 b0 c0 = 1 from by simp only [m_putI, if_neg c_4, if_neg c_14, if_neg c_24]) (hcut32 ls (lv_sub hl [0, 1, 2, 3] rfl))

set_option maxHeartbeats 4000000 in
set_option maxRecDepth 100000 in
theorem m_ReplenishRulesModel_use (l : Launch) (G : va_G) (cA : Nat → ClassId) (ad : Nat → Nat) (σ : St) (hJ : mm_inj ad) (hI : MInv σ) (a0 : Int32) (b0 : Int32) : Met l yX7_use (wX7_use :: wG) ({ frames := 2, cells := 0, slots := 0, locals := 42 }) (va_Pc [.ref (ad 0), .int a0, .int b0] (mmW G cA ad σ)) (va_Qv (fun σ' => σ' = m_useS σ a0 b0) (mmW G cA ad) (mmA ad)) 0 0 (mmA ad) := by
  refine Met.ofW (cc := cX7_use) (maxL := 3) (ret := none) (by decide) rfl ?_
  intro p e s m args below meth c s₁ B hml hv
  obtain ⟨rfl, hP, hK⟩ := hv
  have hx := B.exec
  have hb := B.bytes
  have hr := B.returns
  have hts := atoms_spec (ws := wX7_use :: wG) B.pre
  have hg : ∀ w ∈ wG, w.before _ s = true := fun w h => hts w (List.mem_cons_of_mem _ h)
  have hown : s.vm.findClass RX7 = some m.cls := findClass_of_methodNamed B.named
  have hlocks := B.notSynchronized
  have hS : va_S (mmA ad) s.heap s.heap [] := va_S.rf
  have hl := lv_entry ([.ref (ad 0), .int a0, .int b0]) (n := 3) (Nat.le_of_ble_eq_true rfl)
  rw [lg_entry_eq]
  generalize (lg_sl ([.ref (ad 0), .int a0, .int b0]) ++ List.replicate (3 - (lg_sl ([.ref (ad 0), .int a0, .int b0])).length) Slot.unset).toArray = ls at hl ⊢
  have hl : lv_has ls 3 [(0, .ref (ad 0)), (1, .int a0), (2, .int b0)] := hl
  refine lp_cut (J := 45) (nL := 3) (LV := [(0, .ref (ad 0)), (1, .int a0), (2, .int b0)]) (st := [.int (m_useT σ a0 b0), .ref (ad 0)]) (fun ls hl => ?_) (fun hcut45 => ?_)
  · have hl : lv_has ls 3 [(0, .ref (ad 0)), (1, .int a0), (2, .int b0)] := hl
    refine pp_put (D := G) (ci := 7) (v := .int (m_useT σ a0 b0)) (ty := .int) (C := RX7) (T := TX7) (N := 33) hx hb hg hinX7 tyX7 tyX7_ok nmX7 hown hK hP (mm_D hJ) hS 0 ml_obj rfl 0 (by decide) (hg _ qF_X7_98) (fun _ h9 => h9) rfl (by decide +kernel) rfl rfl (Nat.le_of_ble_eq_true rfl) (ms_thrown) dX7_use_45 (fun H locs hP hS => ?_)
    obtain ⟨σ1, eσ1⟩ : ∃ z, z = up σ 0 0 (m_useT σ a0 b0) := ⟨_, rfl⟩
    rw [← eσ1] at hP
    have hIσ1 : MInv σ1 := by rw [eσ1]; exact minv_up (by decide) hI
    refine lv_aload_n hx hb dX7_use_48 rfl (lv_at hl 0 rfl) ?_
    refine va_get (D := G) (ci := 7) (v := .int (σ1 0 0)) (C := RX7) (T := TX7) (N := 33) hx hb hg hinX7 hown hK hP 0 ml_obj rfl 0 (by decide) (hg _ qF_X7_98) (fun _ h9 => h9) rfl dX7_use_49 ?_
    refine lv_if_ne (tgt := 80) hx hb dX7_use_52 (by decide) (fun c_52 => ?_) (fun c_52 => ?_)
    · -- ifne taken
      exact W.vret hx hb hr (fun t ht hW => ⟨⟨σ1, rfl, by subst eσ1; simp only [m_useS, if_neg c_52], by rw [ht]; exact hP, va_K.moved hW.alike hK⟩, hS.F ht⟩) hS.2.2 dX7_use_80
    · -- ifne not taken
      refine lv_aload_n hx hb dX7_use_55 rfl (lv_at hl 0 rfl) ?_
      refine lv_iload_n hx hb dX7_use_56 rfl (lv_at hl 1 rfl) ?_
      refine lv_iload_n hx hb dX7_use_57 rfl (lv_at hl 2 rfl) ?_
      refine va_callv (va_runV (As := [.int a0, .int b0]) (rest := []) ⟨hx, hb, hml, hown, hg⟩ (m_ReplenishRulesModel_takes l G cA ad σ1 hJ a0 b0 (useT_in (by rw [eσ1, up_eq] at c_52; exact c_52))) (cwV 2 hg (gV qM_X7_119 qI_X7_takes qS_X7_takes qN_X7 kX7_takes) rfl rfl rfl (by decide +kernel) ⟨Nat.le_of_ble_eq_true rfl, Nat.le_of_ble_eq_true rfl⟩) (mm_pv hK hP (va_recv hK hP (ci := 7) (q0 := 0) rfl ml_obj)) rfl rfl hl.1 rfl (lv_room (Nat.le_of_ble_eq_true rfl)) dX7_use_58 ⟨Nat.le_of_ble_eq_true rfl, Nat.le_of_ble_eq_true rfl⟩) hS (fun q _ h => h) (fun q h => h) (fun σ2 t H locs ht hvm eσ2 hB hz9 hk9 hS => ?_)
      have hP := hB.1
      rw [ht] at hP
      have hIσ2 : MInv σ2 := by rw [eσ2]; exact minv_takes hIσ1
      refine lv_aload_n hx hb dX7_use_61 rfl (lv_at hl 0 rfl) ?_
      refine va_get (D := G) (ci := 7) (v := .ref (ad 12)) (C := RX7) (T := TX7) (N := 33) hx hb hg hinX7 hown hK hP 0 ml_obj rfl 12 (by decide) (hg _ qF_X7_44) (fun _ h9 => h9) rfl dX7_use_62 ?_
      refine lv_sipush (v := 400) hx hb dX7_use_65 (by decide) ?_
      refine lv_iload_n hx hb dX7_use_68 rfl (lv_at hl 1 rfl) ?_
      refine lv_imul hx hb dX7_use_69 ?_
      refine lv_aload_n hx hb dX7_use_70 rfl (lv_at hl 0 rfl) ?_
      refine va_get (D := G) (ci := 7) (v := .int (σ2 18 0)) (C := RX7) (T := TX7) (N := 33) hx hb hg hinX7 hown hK hP 0 ml_obj rfl 18 (by decide) (hg _ qF_X7_123) (fun _ h9 => h9) rfl dX7_use_71 ?_
      refine lv_iadd hx hb dX7_use_74 ?_
      refine lv_dup2_11 hx hb dX7_use_75 rfl rfl ?_
      refine va_iald hx hb hK hP 12 0 ml_used rfl (mix_in (useT_in (by rw [eσ1, up_eq] at c_52; exact c_52)) (by rw [eσ2, takes_row (by decide)]; exact minv_today hIσ1)) dX7_use_76 ?_
      refine lv_iload_n hx hb dX7_use_77 rfl (lv_at hl 2 rfl) ?_
      refine lv_iadd hx hb dX7_use_78 ?_
      refine pp_iast (x := ((σ2 12 (nx ((400 * a0) + (σ2 18 0)))) + b0)) hx hb hK hP (mm_D hJ) hS 12 0 ml_used rfl (mix_in (useT_in (by rw [eσ1, up_eq] at c_52; exact c_52)) (by rw [eσ2, takes_row (by decide)]; exact minv_today hIσ1)) (ms_used) dX7_use_79 (fun H locs hP hS => ?_)
      obtain ⟨σ3, eσ3⟩ : ∃ z, z = up σ2 12 (nx ((400 * a0) + (σ2 18 0))) ((σ2 12 (nx ((400 * a0) + (σ2 18 0)))) + b0) := ⟨_, rfl⟩
      rw [← eσ3] at hP
      have hIσ3 : MInv σ3 := by rw [eσ3]; exact minv_up (by decide) hIσ2
      exact W.vret hx hb hr (fun t ht hW => ⟨⟨σ3, rfl, by subst eσ1 eσ2 eσ3; simp only [m_useS, if_pos c_52], by rw [ht]; exact hP, va_K.moved hW.alike hK⟩, hS.F ht⟩) hS.2.2 dX7_use_80
  · -- to the cut
    refine lv_aload_n hx hb dX7_use_0 rfl (lv_at hl 0 rfl) ?_
    refine lv_iload_n hx hb dX7_use_1 rfl (lv_at hl 1 rfl) ?_
    refine vp_callSi (W.runS (As := [.int a0]) (rest := [.ref (ad 0)]) ⟨hx, hb, hml, hown, hg⟩ (m_ReplenishRulesModel_isPlace l a0) (cwS 1 hg (gS qM_X7_106 qT_X7_isPlace qN_X7 kX7_isPlace) rfl rfl rfl (by decide +kernel) ⟨Nat.le_of_ble_eq_true rfl, Nat.le_of_ble_eq_true rfl⟩) ⟨fun _ _ _ _ q => q, fun _ _ _ => ⟨rfl, trivial⟩⟩ rfl rfl hl.1 rfl (lv_room (Nat.le_of_ble_eq_true rfl)) dX7_use_2 ⟨Nat.le_of_ble_eq_true rfl, Nat.le_of_ble_eq_true rfl⟩) (nm_e ?_)
    refine lv_if_eq (tgt := 18) hx hb dX7_use_5 (by decide) (fun c_5 => ?_) (fun c_5 => ?_)
    · -- ifeq taken
      refine lv_iconst (v := 1) hx hb dX7_use_18 (by decide) ?_
      refine lv_goto (tgt := 45) hx hb dX7_use_19 (by decide) ?_
      exact lp_topi (show m_useT σ a0 b0 = 1 from by simp only [m_useT, if_pos c_5]) (hcut45 ls (lv_sub hl [0, 1, 2] rfl))
    · -- ifeq not taken
      refine lv_iload_n hx hb dX7_use_8 rfl (lv_at hl 2 rfl) ?_
      refine lv_iconst (v := 1) hx hb dX7_use_9 (by decide) ?_
      refine lv_ldc (v := 100000) hx hb hown (hg _ qC_X7_110) dX7_use_10 ?_
      refine vp_callSi (W.runS (As := [.int b0, .int 1, .int 100000]) (rest := [.ref (ad 0)]) ⟨hx, hb, hml, hown, hg⟩ (m_ReplenishRulesModel_in l b0 1 100000) (cwS 3 hg (gS qM_X7_102 qT_X7_in qN_X7 kX7_in) rfl rfl rfl (by decide +kernel) ⟨Nat.le_of_ble_eq_true rfl, Nat.le_of_ble_eq_true rfl⟩) ⟨fun _ _ _ _ q => q, fun _ _ _ => ⟨rfl, trivial⟩⟩ rfl rfl hl.1 rfl (lv_room (Nat.le_of_ble_eq_true rfl)) dX7_use_12 ⟨Nat.le_of_ble_eq_true rfl, Nat.le_of_ble_eq_true rfl⟩) (nm_e ?_)
      refine lv_if_ne (tgt := 22) hx hb dX7_use_15 (by decide) (fun c_15 => ?_) (fun c_15 => ?_)
      · -- ifne taken
        refine lv_aload_n hx hb dX7_use_22 rfl (lv_at hl 0 rfl) ?_
        refine va_get (D := G) (ci := 7) (v := .ref (ad 6)) (C := RX7) (T := TX7) (N := 33) hx hb hg hinX7 hown hK hP 0 ml_obj rfl 6 (by decide) (hg _ qF_X7_25) (fun _ h9 => h9) rfl dX7_use_23 ?_
        refine lv_iload_n hx hb dX7_use_26 rfl (lv_at hl 1 rfl) ?_
        refine va_zald hx hb hK hP 6 1 ml_isFace rfl (isP c_5) dX7_use_27 ?_
        refine lv_if_eq (tgt := 40) hx hb dX7_use_28 (by decide) (fun c_28 => ?_) (fun c_28 => ?_)
        · -- ifeq taken
          refine lv_iconst (v := 2) hx hb dX7_use_40 (by decide) ?_
          refine lv_goto (tgt := 45) hx hb dX7_use_41 (by decide) ?_
          exact lp_topi (show m_useT σ a0 b0 = 2 from by simp only [m_useT, if_neg c_5, if_neg c_15, if_pos c_28]) (hcut45 ls (lv_sub hl [0, 1, 2] rfl))
        · -- ifeq not taken
          refine lv_aload_n hx hb dX7_use_31 rfl (lv_at hl 0 rfl) ?_
          refine lv_iload_n hx hb dX7_use_32 rfl (lv_at hl 1 rfl) ?_
          refine vp_callSi (W.runV (As := [.int a0]) (rest := [.ref (ad 0)]) ⟨hx, hb, hml, hown, hg⟩ (m_ReplenishRulesModel_free l G cA ad σ a0 (isP c_5)) (cwV 1 hg (gV qM_X7_115 qI_X7_free qS_X7_free qN_X7 kX7_free) rfl rfl rfl (by decide +kernel) ⟨Nat.le_of_ble_eq_true rfl, Nat.le_of_ble_eq_true rfl⟩) (mm_pv hK hP (va_recv hK hP (ci := 7) (q0 := 0) rfl ml_obj)) rfl rfl hl.1 rfl (lv_room (Nat.le_of_ble_eq_true rfl)) dX7_use_33 ⟨Nat.le_of_ble_eq_true rfl, Nat.le_of_ble_eq_true rfl⟩) (nm_e ?_)
          refine lv_iload_n hx hb dX7_use_36 rfl (lv_at hl 2 rfl) ?_
          refine lv_icmp_ge (tgt := 44) hx hb dX7_use_37 (by decide) (fun c_37 => ?_) (fun c_37 => ?_)
          · -- if_icmpge taken
            refine lv_iconst (v := 0) hx hb dX7_use_44 (by decide) ?_
            exact lp_topi (show m_useT σ a0 b0 = 0 from by simp only [m_useT, if_neg c_5, if_neg c_15, if_neg c_28, if_pos c_37]) (hcut45 ls (lv_sub hl [0, 1, 2] rfl))
          · -- if_icmpge not taken
            refine lv_iconst (v := 2) hx hb dX7_use_40 (by decide) ?_
            refine lv_goto (tgt := 45) hx hb dX7_use_41 (by decide) ?_
            exact lp_topi (show m_useT σ a0 b0 = 2 from by simp only [m_useT, if_neg c_5, if_neg c_15, if_neg c_28, if_neg c_37]) (hcut45 ls (lv_sub hl [0, 1, 2] rfl))
      · -- ifne not taken
        refine lv_iconst (v := 1) hx hb dX7_use_18 (by decide) ?_
        refine lv_goto (tgt := 45) hx hb dX7_use_19 (by decide) ?_
        exact lp_topi (show m_useT σ a0 b0 = 1 from by simp only [m_useT, if_neg c_5, if_pos c_15]) (hcut45 ls (lv_sub hl [0, 1, 2] rfl))

set_option maxHeartbeats 4000000 in
set_option maxRecDepth 100000 in
theorem m_ReplenishRulesModel_hold (l : Launch) (G : va_G) (cA : Nat → ClassId) (ad : Nat → Nat) (σ : St) (hJ : mm_inj ad) (a0 : Int32) (b0 : Int32) : Met l yX7_hold (wX7_hold :: wG) ({ frames := 2, cells := 0, slots := 0, locals := 42 }) (va_Pc [.ref (ad 0), .int a0, .int b0] (mmW G cA ad σ)) (va_Qv (fun σ' => σ' = m_holdS σ a0 b0) (mmW G cA ad) (mmA ad)) 0 0 (mmA ad) := by
  refine Met.ofW (cc := cX7_hold) (maxL := 3) (ret := none) (by decide) rfl ?_
  intro p e s m args below meth c s₁ B hml hv
  obtain ⟨rfl, hP, hK⟩ := hv
  have hx := B.exec
  have hb := B.bytes
  have hr := B.returns
  have hts := atoms_spec (ws := wX7_hold :: wG) B.pre
  have hg : ∀ w ∈ wG, w.before _ s = true := fun w h => hts w (List.mem_cons_of_mem _ h)
  have hown : s.vm.findClass RX7 = some m.cls := findClass_of_methodNamed B.named
  have hlocks := B.notSynchronized
  have hS : va_S (mmA ad) s.heap s.heap [] := va_S.rf
  have hl := lv_entry ([.ref (ad 0), .int a0, .int b0]) (n := 3) (Nat.le_of_ble_eq_true rfl)
  rw [lg_entry_eq]
  generalize (lg_sl ([.ref (ad 0), .int a0, .int b0]) ++ List.replicate (3 - (lg_sl ([.ref (ad 0), .int a0, .int b0])).length) Slot.unset).toArray = ls at hl ⊢
  have hl : lv_has ls 3 [(0, .ref (ad 0)), (1, .int a0), (2, .int b0)] := hl
  refine lp_cut (J := 31) (nL := 3) (LV := [(0, .ref (ad 0)), (1, .int a0), (2, .int b0)]) (st := [.int (m_holdT σ a0 b0), .ref (ad 0)]) (fun ls hl => ?_) (fun hcut31 => ?_)
  · have hl : lv_has ls 3 [(0, .ref (ad 0)), (1, .int a0), (2, .int b0)] := hl
    refine pp_put (D := G) (ci := 7) (v := .int (m_holdT σ a0 b0)) (ty := .int) (C := RX7) (T := TX7) (N := 33) hx hb hg hinX7 tyX7 tyX7_ok nmX7 hown hK hP (mm_D hJ) hS 0 ml_obj rfl 0 (by decide) (hg _ qF_X7_98) (fun _ h9 => h9) rfl (by decide +kernel) rfl rfl (Nat.le_of_ble_eq_true rfl) (ms_thrown) dX7_hold_31 (fun H locs hP hS => ?_)
    obtain ⟨σ1, eσ1⟩ : ∃ z, z = up σ 0 0 (m_holdT σ a0 b0) := ⟨_, rfl⟩
    rw [← eσ1] at hP
    refine lv_aload_n hx hb dX7_hold_34 rfl (lv_at hl 0 rfl) ?_
    refine va_get (D := G) (ci := 7) (v := .int (σ1 0 0)) (C := RX7) (T := TX7) (N := 33) hx hb hg hinX7 hown hK hP 0 ml_obj rfl 0 (by decide) (hg _ qF_X7_98) (fun _ h9 => h9) rfl dX7_hold_35 ?_
    refine lv_if_ne (tgt := 48) hx hb dX7_hold_38 (by decide) (fun c_38 => ?_) (fun c_38 => ?_)
    · -- ifne taken
      exact W.vret hx hb hr (fun t ht hW => ⟨⟨σ1, rfl, by subst eσ1; simp only [m_holdS, if_neg c_38], by rw [ht]; exact hP, va_K.moved hW.alike hK⟩, hS.F ht⟩) hS.2.2 dX7_hold_48
    · -- ifne not taken
      refine lv_aload_n hx hb dX7_hold_41 rfl (lv_at hl 0 rfl) ?_
      refine va_get (D := G) (ci := 7) (v := .ref (ad 5)) (C := RX7) (T := TX7) (N := 33) hx hb hg hinX7 hown hK hP 0 ml_obj rfl 5 (by decide) (hg _ qF_X7_22) (fun _ h9 => h9) rfl dX7_hold_42 ?_
      refine lv_iload_n hx hb dX7_hold_45 rfl (lv_at hl 1 rfl) ?_
      refine lv_iload_n hx hb dX7_hold_46 rfl (lv_at hl 2 rfl) ?_
      refine pp_iast (x := b0) hx hb hK hP (mm_D hJ) hS 5 0 ml_held rfl (holdT_in (by rw [eσ1, up_eq] at c_38; exact c_38)) (ms_held) dX7_hold_47 (fun H locs hP hS => ?_)
      obtain ⟨σ2, eσ2⟩ : ∃ z, z = up σ1 5 (nx a0) b0 := ⟨_, rfl⟩
      rw [← eσ2] at hP
      exact W.vret hx hb hr (fun t ht hW => ⟨⟨σ2, rfl, by subst eσ1 eσ2; simp only [m_holdS, if_pos c_38], by rw [ht]; exact hP, va_K.moved hW.alike hK⟩, hS.F ht⟩) hS.2.2 dX7_hold_48
  · -- to the cut
    refine lv_aload_n hx hb dX7_hold_0 rfl (lv_at hl 0 rfl) ?_
    refine lv_iload_n hx hb dX7_hold_1 rfl (lv_at hl 1 rfl) ?_
    refine vp_callSi (W.runS (As := [.int a0]) (rest := [.ref (ad 0)]) ⟨hx, hb, hml, hown, hg⟩ (m_ReplenishRulesModel_isPlace l a0) (cwS 1 hg (gS qM_X7_106 qT_X7_isPlace qN_X7 kX7_isPlace) rfl rfl rfl (by decide +kernel) ⟨Nat.le_of_ble_eq_true rfl, Nat.le_of_ble_eq_true rfl⟩) ⟨fun _ _ _ _ q => q, fun _ _ _ => ⟨rfl, trivial⟩⟩ rfl rfl hl.1 rfl (lv_room (Nat.le_of_ble_eq_true rfl)) dX7_hold_2 ⟨Nat.le_of_ble_eq_true rfl, Nat.le_of_ble_eq_true rfl⟩) (nm_e ?_)
    refine lv_if_eq (tgt := 12) hx hb dX7_hold_5 (by decide) (fun c_5 => ?_) (fun c_5 => ?_)
    · -- ifeq taken
      refine lv_iconst (v := 1) hx hb dX7_hold_12 (by decide) ?_
      refine lv_goto (tgt := 31) hx hb dX7_hold_13 (by decide) ?_
      exact lp_topi (show m_holdT σ a0 b0 = 1 from by simp only [m_holdT, if_pos c_5]) (hcut31 ls (lv_sub hl [0, 1, 2] rfl))
    · -- ifeq not taken
      refine lv_iload_n hx hb dX7_hold_8 rfl (lv_at hl 2 rfl) ?_
      refine lv_if_ge (tgt := 16) hx hb dX7_hold_9 (by decide) (fun c_9 => ?_) (fun c_9 => ?_)
      · -- ifge taken
        refine lv_iload_n hx hb dX7_hold_16 rfl (lv_at hl 2 rfl) ?_
        refine lv_aload_n hx hb dX7_hold_17 rfl (lv_at hl 0 rfl) ?_
        refine va_get (D := G) (ci := 7) (v := .ref (ad 3)) (C := RX7) (T := TX7) (N := 33) hx hb hg hinX7 hown hK hP 0 ml_obj rfl 3 (by decide) (hg _ qF_X7_16) (fun _ h9 => h9) rfl dX7_hold_18 ?_
        refine lv_iload_n hx hb dX7_hold_21 rfl (lv_at hl 1 rfl) ?_
        refine va_iald hx hb hK hP 3 0 ml_pieces rfl (isP c_5) dX7_hold_22 ?_
        refine lv_icmp_le (tgt := 30) hx hb dX7_hold_23 (by decide) (fun c_23 => ?_) (fun c_23 => ?_)
        · -- if_icmple taken
          refine lv_iconst (v := 0) hx hb dX7_hold_30 (by decide) ?_
          exact lp_topi (show m_holdT σ a0 b0 = 0 from by simp only [m_holdT, if_neg c_5, if_pos c_9, if_pos c_23]) (hcut31 ls (lv_sub hl [0, 1, 2] rfl))
        · -- if_icmple not taken
          refine lv_iconst (v := 2) hx hb dX7_hold_26 (by decide) ?_
          refine lv_goto (tgt := 31) hx hb dX7_hold_27 (by decide) ?_
          exact lp_topi (show m_holdT σ a0 b0 = 2 from by simp only [m_holdT, if_neg c_5, if_pos c_9, if_neg c_23]) (hcut31 ls (lv_sub hl [0, 1, 2] rfl))
      · -- ifge not taken
        refine lv_iconst (v := 1) hx hb dX7_hold_12 (by decide) ?_
        refine lv_goto (tgt := 31) hx hb dX7_hold_13 (by decide) ?_
        exact lp_topi (show m_holdT σ a0 b0 = 1 from by simp only [m_holdT, if_neg c_5, if_neg c_9]) (hcut31 ls (lv_sub hl [0, 1, 2] rfl))

set_option maxHeartbeats 4000000 in
set_option maxRecDepth 100000 in
theorem m_ReplenishRulesModel_cases (l : Launch) (G : va_G) (cA : Nat → ClassId) (ad : Nat → Nat) (σ : St) (hJ : mm_inj ad) (a0 : Int32) (b0 : Int32) : Met l yX7_cases (wX7_cases :: wG) ({ frames := 1, cells := 0, slots := 0, locals := 22 }) (va_Pc [.ref (ad 0), .int a0, .int b0] (mmW G cA ad σ)) (va_Qv (fun σ' => σ' = m_casesS σ a0 b0) (mmW G cA ad) (mmA ad)) 0 0 (mmA ad) := by
  refine Met.ofW (cc := cX7_cases) (maxL := 3) (ret := none) (by decide) rfl ?_
  intro p e s m args below meth c s₁ B hml hv
  obtain ⟨rfl, hP, hK⟩ := hv
  have hx := B.exec
  have hb := B.bytes
  have hr := B.returns
  have hts := atoms_spec (ws := wX7_cases :: wG) B.pre
  have hg : ∀ w ∈ wG, w.before _ s = true := fun w h => hts w (List.mem_cons_of_mem _ h)
  have hown : s.vm.findClass RX7 = some m.cls := findClass_of_methodNamed B.named
  have hlocks := B.notSynchronized
  have hS : va_S (mmA ad) s.heap s.heap [] := va_S.rf
  have hl := lv_entry ([.ref (ad 0), .int a0, .int b0]) (n := 3) (Nat.le_of_ble_eq_true rfl)
  rw [lg_entry_eq]
  generalize (lg_sl ([.ref (ad 0), .int a0, .int b0]) ++ List.replicate (3 - (lg_sl ([.ref (ad 0), .int a0, .int b0])).length) Slot.unset).toArray = ls at hl ⊢
  have hl : lv_has ls 3 [(0, .ref (ad 0)), (1, .int a0), (2, .int b0)] := hl
  refine lp_cut (J := 27) (nL := 3) (LV := [(0, .ref (ad 0)), (1, .int a0), (2, .int b0)]) (st := [.int (m_casesT a0 b0), .ref (ad 0)]) (fun ls hl => ?_) (fun hcut27 => ?_)
  · have hl : lv_has ls 3 [(0, .ref (ad 0)), (1, .int a0), (2, .int b0)] := hl
    refine pp_put (D := G) (ci := 7) (v := .int (m_casesT a0 b0)) (ty := .int) (C := RX7) (T := TX7) (N := 33) hx hb hg hinX7 tyX7 tyX7_ok nmX7 hown hK hP (mm_D hJ) hS 0 ml_obj rfl 0 (by decide) (hg _ qF_X7_98) (fun _ h9 => h9) rfl (by decide +kernel) rfl rfl (Nat.le_of_ble_eq_true rfl) (ms_thrown) dX7_cases_27 (fun H locs hP hS => ?_)
    obtain ⟨σ1, eσ1⟩ : ∃ z, z = up σ 0 0 (m_casesT a0 b0) := ⟨_, rfl⟩
    rw [← eσ1] at hP
    refine lv_aload_n hx hb dX7_cases_30 rfl (lv_at hl 0 rfl) ?_
    refine va_get (D := G) (ci := 7) (v := .int (σ1 0 0)) (C := RX7) (T := TX7) (N := 33) hx hb hg hinX7 hown hK hP 0 ml_obj rfl 0 (by decide) (hg _ qF_X7_98) (fun _ h9 => h9) rfl dX7_cases_31 ?_
    refine lv_if_ne (tgt := 44) hx hb dX7_cases_34 (by decide) (fun c_34 => ?_) (fun c_34 => ?_)
    · -- ifne taken
      exact W.vret hx hb hr (fun t ht hW => ⟨⟨σ1, rfl, by subst eσ1; simp only [m_casesS, if_neg c_34], by rw [ht]; exact hP, va_K.moved hW.alike hK⟩, hS.F ht⟩) hS.2.2 dX7_cases_44
    · -- ifne not taken
      refine lv_aload_n hx hb dX7_cases_37 rfl (lv_at hl 0 rfl) ?_
      refine va_get (D := G) (ci := 7) (v := .ref (ad 10)) (C := RX7) (T := TX7) (N := 33) hx hb hg hinX7 hown hK hP 0 ml_obj rfl 10 (by decide) (hg _ qF_X7_38) (fun _ h9 => h9) rfl dX7_cases_38 ?_
      refine lv_iload_n hx hb dX7_cases_41 rfl (lv_at hl 1 rfl) ?_
      refine lv_iload_n hx hb dX7_cases_42 rfl (lv_at hl 2 rfl) ?_
      refine pp_iast (x := b0) hx hb hK hP (mm_D hJ) hS 10 0 ml_caseOf rfl (casesT_in (by rw [eσ1, up_eq] at c_34; exact c_34)) (ms_caseOf) dX7_cases_43 (fun H locs hP hS => ?_)
      obtain ⟨σ2, eσ2⟩ : ∃ z, z = up σ1 10 (nx a0) b0 := ⟨_, rfl⟩
      rw [← eσ2] at hP
      exact W.vret hx hb hr (fun t ht hW => ⟨⟨σ2, rfl, by subst eσ1 eσ2; simp only [m_casesS, if_pos c_34], by rw [ht]; exact hP, va_K.moved hW.alike hK⟩, hS.F ht⟩) hS.2.2 dX7_cases_44
  · -- to the cut
    refine lv_aload_n hx hb dX7_cases_0 rfl (lv_at hl 0 rfl) ?_
    refine lv_iload_n hx hb dX7_cases_1 rfl (lv_at hl 1 rfl) ?_
    refine lv_iconst (v := 0) hx hb dX7_cases_2 (by decide) ?_
    refine lv_bipush (v := 7) hx hb dX7_cases_3 (by decide) ?_
    refine vp_callSi (W.runS (As := [.int a0, .int 0, .int 7]) (rest := [.ref (ad 0)]) ⟨hx, hb, hml, hown, hg⟩ (m_ReplenishRulesModel_in l a0 0 7) (cwS 3 hg (gS qM_X7_102 qT_X7_in qN_X7 kX7_in) rfl rfl rfl (by decide +kernel) ⟨Nat.le_of_ble_eq_true rfl, Nat.le_of_ble_eq_true rfl⟩) ⟨fun _ _ _ _ q => q, fun _ _ _ => ⟨rfl, trivial⟩⟩ rfl rfl hl.1 rfl (lv_room (Nat.le_of_ble_eq_true rfl)) dX7_cases_5 ⟨Nat.le_of_ble_eq_true rfl, Nat.le_of_ble_eq_true rfl⟩) (nm_e ?_)
    refine lv_if_eq (tgt := 26) hx hb dX7_cases_8 (by decide) (fun c_8 => ?_) (fun c_8 => ?_)
    · -- ifeq taken
      refine lv_iconst (v := 1) hx hb dX7_cases_26 (by decide) ?_
      exact lp_topi (show m_casesT a0 b0 = 1 from by simp only [m_casesT, if_pos c_8]) (hcut27 ls (lv_sub hl [0, 1, 2] rfl))
    · -- ifeq not taken
      refine lv_iload_n hx hb dX7_cases_11 rfl (lv_at hl 2 rfl) ?_
      refine lv_iconst (v := 1) hx hb dX7_cases_12 (by decide) ?_
      refine lv_sipush (v := 1000) hx hb dX7_cases_13 (by decide) ?_
      refine vp_callSi (W.runS (As := [.int b0, .int 1, .int 1000]) (rest := [.ref (ad 0)]) ⟨hx, hb, hml, hown, hg⟩ (m_ReplenishRulesModel_in l b0 1 1000) (cwS 3 hg (gS qM_X7_102 qT_X7_in qN_X7 kX7_in) rfl rfl rfl (by decide +kernel) ⟨Nat.le_of_ble_eq_true rfl, Nat.le_of_ble_eq_true rfl⟩) ⟨fun _ _ _ _ q => q, fun _ _ _ => ⟨rfl, trivial⟩⟩ rfl rfl hl.1 rfl (lv_room (Nat.le_of_ble_eq_true rfl)) dX7_cases_16 ⟨Nat.le_of_ble_eq_true rfl, Nat.le_of_ble_eq_true rfl⟩) (nm_e ?_)
      refine lv_if_eq (tgt := 26) hx hb dX7_cases_19 (by decide) (fun c_19 => ?_) (fun c_19 => ?_)
      · -- ifeq taken
        refine lv_iconst (v := 1) hx hb dX7_cases_26 (by decide) ?_
        exact lp_topi (show m_casesT a0 b0 = 1 from by simp only [m_casesT, if_neg c_8, if_pos c_19]) (hcut27 ls (lv_sub hl [0, 1, 2] rfl))
      · -- ifeq not taken
        refine lv_iconst (v := 0) hx hb dX7_cases_22 (by decide) ?_
        refine lv_goto (tgt := 27) hx hb dX7_cases_23 (by decide) ?_
        exact lp_topi (show m_casesT a0 b0 = 0 from by simp only [m_casesT, if_neg c_8, if_neg c_19]) (hcut27 ls (lv_sub hl [0, 1, 2] rfl))

set_option maxHeartbeats 4000000 in
set_option maxRecDepth 100000 in
theorem m_ReplenishRulesModel_rule (l : Launch) (G : va_G) (cA : Nat → ClassId) (ad : Nat → Nat) (σ : St) (hJ : mm_inj ad) (a0 : Int32) (b0 : Int32) (c0 : Int32) (d0 : Int32) : Met l yX7_rule (wX7_rule :: wG) ({ frames := 1, cells := 0, slots := 0, locals := 22 }) (va_Pc [.ref (ad 0), .int a0, .int b0, .int c0, .int d0] (mmW G cA ad σ)) (va_Qv (fun σ' => σ' = m_ruleS σ a0 b0 c0 d0) (mmW G cA ad) (mmA ad)) 0 0 (mmA ad) := by
  refine Met.ofW (cc := cX7_rule) (maxL := 5) (ret := none) (by decide) rfl ?_
  intro p e s m args below meth c s₁ B hml hv
  obtain ⟨rfl, hP, hK⟩ := hv
  have hx := B.exec
  have hb := B.bytes
  have hr := B.returns
  have hts := atoms_spec (ws := wX7_rule :: wG) B.pre
  have hg : ∀ w ∈ wG, w.before _ s = true := fun w h => hts w (List.mem_cons_of_mem _ h)
  have hown : s.vm.findClass RX7 = some m.cls := findClass_of_methodNamed B.named
  have hlocks := B.notSynchronized
  have hS : va_S (mmA ad) s.heap s.heap [] := va_S.rf
  have hl := lv_entry ([.ref (ad 0), .int a0, .int b0, .int c0, .int d0]) (n := 5) (Nat.le_of_ble_eq_true rfl)
  rw [lg_entry_eq]
  generalize (lg_sl ([.ref (ad 0), .int a0, .int b0, .int c0, .int d0]) ++ List.replicate (5 - (lg_sl ([.ref (ad 0), .int a0, .int b0, .int c0, .int d0])).length) Slot.unset).toArray = ls at hl ⊢
  have hl : lv_has ls 5 [(0, .ref (ad 0)), (1, .int a0), (2, .int b0), (3, .int c0), (4, .int d0)] := hl
  refine lp_cut (J := 46) (nL := 5) (LV := [(0, .ref (ad 0)), (1, .int a0), (2, .int b0), (3, .int c0), (4, .int d0)]) (st := [.int (m_ruleT a0 b0 c0 d0), .ref (ad 0)]) (fun ls hl => ?_) (fun hcut46 => ?_)
  · have hl : lv_has ls 5 [(0, .ref (ad 0)), (1, .int a0), (2, .int b0), (3, .int c0), (4, .int d0)] := hl
    refine pp_put (D := G) (ci := 7) (v := .int (m_ruleT a0 b0 c0 d0)) (ty := .int) (C := RX7) (T := TX7) (N := 33) hx hb hg hinX7 tyX7 tyX7_ok nmX7 hown hK hP (mm_D hJ) hS 0 ml_obj rfl 0 (by decide) (hg _ qF_X7_98) (fun _ h9 => h9) rfl (by decide +kernel) rfl rfl (Nat.le_of_ble_eq_true rfl) (ms_thrown) dX7_rule_46 (fun H locs hP hS => ?_)
    obtain ⟨σ1, eσ1⟩ : ∃ z, z = up σ 0 0 (m_ruleT a0 b0 c0 d0) := ⟨_, rfl⟩
    rw [← eσ1] at hP
    refine lv_aload_n hx hb dX7_rule_49 rfl (lv_at hl 0 rfl) ?_
    refine va_get (D := G) (ci := 7) (v := .int (σ1 0 0)) (C := RX7) (T := TX7) (N := 33) hx hb hg hinX7 hown hK hP 0 ml_obj rfl 0 (by decide) (hg _ qF_X7_98) (fun _ h9 => h9) rfl dX7_rule_50 ?_
    refine lv_if_ne (tgt := 78) hx hb dX7_rule_53 (by decide) (fun c_53 => ?_) (fun c_53 => ?_)
    · -- ifne taken
      exact W.vret hx hb hr (fun t ht hW => ⟨⟨σ1, rfl, by subst eσ1; simp only [m_ruleS, if_neg c_53], by rw [ht]; exact hP, va_K.moved hW.alike hK⟩, hS.F ht⟩) hS.2.2 dX7_rule_78
    · -- ifne not taken
      refine lv_aload_n hx hb dX7_rule_56 rfl (lv_at hl 0 rfl) ?_
      refine va_get (D := G) (ci := 7) (v := .ref (ad 13)) (C := RX7) (T := TX7) (N := 33) hx hb hg hinX7 hown hK hP 0 ml_obj rfl 13 (by decide) (hg _ qF_X7_47) (fun _ h9 => h9) rfl dX7_rule_57 ?_
      refine lv_iload_n hx hb dX7_rule_60 rfl (lv_at hl 1 rfl) ?_
      refine lv_iload_n hx hb dX7_rule_61 rfl (lv_at hl 2 rfl) ?_
      refine pp_iast (x := b0) hx hb hK hP (mm_D hJ) hS 13 0 ml_kinds rfl (ruleT_in (by rw [eσ1, up_eq] at c_53; exact c_53)) (ms_kinds) dX7_rule_62 (fun H locs hP hS => ?_)
      obtain ⟨σ2, eσ2⟩ : ∃ z, z = up σ1 13 (nx a0) b0 := ⟨_, rfl⟩
      rw [← eσ2] at hP
      refine lv_aload_n hx hb dX7_rule_63 rfl (lv_at hl 0 rfl) ?_
      refine va_get (D := G) (ci := 7) (v := .ref (ad 14)) (C := RX7) (T := TX7) (N := 33) hx hb hg hinX7 hown hK hP 0 ml_obj rfl 14 (by decide) (hg _ qF_X7_50) (fun _ h9 => h9) rfl dX7_rule_64 ?_
      refine lv_iload_n hx hb dX7_rule_67 rfl (lv_at hl 1 rfl) ?_
      refine lv_iload_n hx hb dX7_rule_68 rfl (lv_at hl 3 rfl) ?_
      refine pp_iast (x := c0) hx hb hK hP (mm_D hJ) hS 14 0 ml_aheads rfl (ruleT_in (by rw [eσ1, up_eq] at c_53; exact c_53)) (ms_aheads) dX7_rule_69 (fun H locs hP hS => ?_)
      obtain ⟨σ3, eσ3⟩ : ∃ z, z = up σ2 14 (nx a0) c0 := ⟨_, rfl⟩
      rw [← eσ3] at hP
      refine lv_aload_n hx hb dX7_rule_70 rfl (lv_at hl 0 rfl) ?_
      refine va_get (D := G) (ci := 7) (v := .ref (ad 15)) (C := RX7) (T := TX7) (N := 33) hx hb hg hinX7 hown hK hP 0 ml_obj rfl 15 (by decide) (hg _ qF_X7_53) (fun _ h9 => h9) rfl dX7_rule_71 ?_
      refine lv_iload_n hx hb dX7_rule_74 rfl (lv_at hl 1 rfl) ?_
      refine lv_iload hx hb dX7_rule_75 (lv_at hl 4 rfl) ?_
      refine pp_iast (x := d0) hx hb hK hP (mm_D hJ) hS 15 0 ml_untils rfl (ruleT_in (by rw [eσ1, up_eq] at c_53; exact c_53)) (ms_untils) dX7_rule_77 (fun H locs hP hS => ?_)
      obtain ⟨σ4, eσ4⟩ : ∃ z, z = up σ3 15 (nx a0) d0 := ⟨_, rfl⟩
      rw [← eσ4] at hP
      exact W.vret hx hb hr (fun t ht hW => ⟨⟨σ4, rfl, by subst eσ1 eσ2 eσ3 eσ4; simp only [m_ruleS, if_pos c_53], by rw [ht]; exact hP, va_K.moved hW.alike hK⟩, hS.F ht⟩) hS.2.2 dX7_rule_78
  · -- to the cut
    refine lv_aload_n hx hb dX7_rule_0 rfl (lv_at hl 0 rfl) ?_
    refine lv_iload_n hx hb dX7_rule_1 rfl (lv_at hl 1 rfl) ?_
    refine lv_iconst (v := 0) hx hb dX7_rule_2 (by decide) ?_
    refine lv_iconst (v := 3) hx hb dX7_rule_3 (by decide) ?_
    refine vp_callSi (W.runS (As := [.int a0, .int 0, .int 3]) (rest := [.ref (ad 0)]) ⟨hx, hb, hml, hown, hg⟩ (m_ReplenishRulesModel_in l a0 0 3) (cwS 3 hg (gS qM_X7_102 qT_X7_in qN_X7 kX7_in) rfl rfl rfl (by decide +kernel) ⟨Nat.le_of_ble_eq_true rfl, Nat.le_of_ble_eq_true rfl⟩) ⟨fun _ _ _ _ q => q, fun _ _ _ => ⟨rfl, trivial⟩⟩ rfl rfl hl.1 rfl (lv_room (Nat.le_of_ble_eq_true rfl)) dX7_rule_4 ⟨Nat.le_of_ble_eq_true rfl, Nat.le_of_ble_eq_true rfl⟩) (nm_e ?_)
    refine lv_if_eq (tgt := 45) hx hb dX7_rule_7 (by decide) (fun c_7 => ?_) (fun c_7 => ?_)
    · -- ifeq taken
      refine lv_iconst (v := 1) hx hb dX7_rule_45 (by decide) ?_
      exact lp_topi (show m_ruleT a0 b0 c0 d0 = 1 from by simp only [m_ruleT, if_pos c_7]) (hcut46 ls (lv_sub hl [0, 1, 2, 3, 4] rfl))
    · -- ifeq not taken
      refine lv_iload_n hx hb dX7_rule_10 rfl (lv_at hl 2 rfl) ?_
      refine lv_iconst (v := 0) hx hb dX7_rule_11 (by decide) ?_
      refine lv_iconst (v := 2) hx hb dX7_rule_12 (by decide) ?_
      refine vp_callSi (W.runS (As := [.int b0, .int 0, .int 2]) (rest := [.ref (ad 0)]) ⟨hx, hb, hml, hown, hg⟩ (m_ReplenishRulesModel_in l b0 0 2) (cwS 3 hg (gS qM_X7_102 qT_X7_in qN_X7 kX7_in) rfl rfl rfl (by decide +kernel) ⟨Nat.le_of_ble_eq_true rfl, Nat.le_of_ble_eq_true rfl⟩) ⟨fun _ _ _ _ q => q, fun _ _ _ => ⟨rfl, trivial⟩⟩ rfl rfl hl.1 rfl (lv_room (Nat.le_of_ble_eq_true rfl)) dX7_rule_13 ⟨Nat.le_of_ble_eq_true rfl, Nat.le_of_ble_eq_true rfl⟩) (nm_e ?_)
      refine lv_if_eq (tgt := 45) hx hb dX7_rule_16 (by decide) (fun c_16 => ?_) (fun c_16 => ?_)
      · -- ifeq taken
        refine lv_iconst (v := 1) hx hb dX7_rule_45 (by decide) ?_
        exact lp_topi (show m_ruleT a0 b0 c0 d0 = 1 from by simp only [m_ruleT, if_neg c_7, if_pos c_16]) (hcut46 ls (lv_sub hl [0, 1, 2, 3, 4] rfl))
      · -- ifeq not taken
        refine lv_iload_n hx hb dX7_rule_19 rfl (lv_at hl 3 rfl) ?_
        refine lv_iconst (v := 1) hx hb dX7_rule_20 (by decide) ?_
        refine lv_bipush (v := 30) hx hb dX7_rule_21 (by decide) ?_
        refine vp_callSi (W.runS (As := [.int c0, .int 1, .int 30]) (rest := [.ref (ad 0)]) ⟨hx, hb, hml, hown, hg⟩ (m_ReplenishRulesModel_in l c0 1 30) (cwS 3 hg (gS qM_X7_102 qT_X7_in qN_X7 kX7_in) rfl rfl rfl (by decide +kernel) ⟨Nat.le_of_ble_eq_true rfl, Nat.le_of_ble_eq_true rfl⟩) ⟨fun _ _ _ _ q => q, fun _ _ _ => ⟨rfl, trivial⟩⟩ rfl rfl hl.1 rfl (lv_room (Nat.le_of_ble_eq_true rfl)) dX7_rule_23 ⟨Nat.le_of_ble_eq_true rfl, Nat.le_of_ble_eq_true rfl⟩) (nm_e ?_)
        refine lv_if_eq (tgt := 45) hx hb dX7_rule_26 (by decide) (fun c_26 => ?_) (fun c_26 => ?_)
        · -- ifeq taken
          refine lv_iconst (v := 1) hx hb dX7_rule_45 (by decide) ?_
          exact lp_topi (show m_ruleT a0 b0 c0 d0 = 1 from by simp only [m_ruleT, if_neg c_7, if_neg c_16, if_pos c_26]) (hcut46 ls (lv_sub hl [0, 1, 2, 3, 4] rfl))
        · -- ifeq not taken
          refine lv_iload hx hb dX7_rule_29 (lv_at hl 4 rfl) ?_
          refine lv_iconst (v := 0) hx hb dX7_rule_31 (by decide) ?_
          refine lv_sipush (v := 399) hx hb dX7_rule_32 (by decide) ?_
          refine vp_callSi (W.runS (As := [.int d0, .int 0, .int 399]) (rest := [.ref (ad 0)]) ⟨hx, hb, hml, hown, hg⟩ (m_ReplenishRulesModel_in l d0 0 399) (cwS 3 hg (gS qM_X7_102 qT_X7_in qN_X7 kX7_in) rfl rfl rfl (by decide +kernel) ⟨Nat.le_of_ble_eq_true rfl, Nat.le_of_ble_eq_true rfl⟩) ⟨fun _ _ _ _ q => q, fun _ _ _ => ⟨rfl, trivial⟩⟩ rfl rfl hl.1 rfl (lv_room (Nat.le_of_ble_eq_true rfl)) dX7_rule_35 ⟨Nat.le_of_ble_eq_true rfl, Nat.le_of_ble_eq_true rfl⟩) (nm_e ?_)
          refine lv_if_eq (tgt := 45) hx hb dX7_rule_38 (by decide) (fun c_38 => ?_) (fun c_38 => ?_)
          · -- ifeq taken
            refine lv_iconst (v := 1) hx hb dX7_rule_45 (by decide) ?_
            exact lp_topi (show m_ruleT a0 b0 c0 d0 = 1 from by simp only [m_ruleT, if_neg c_7, if_neg c_16, if_neg c_26, if_pos c_38]) (hcut46 ls (lv_sub hl [0, 1, 2, 3, 4] rfl))
          · -- ifeq not taken
            refine lv_iconst (v := 0) hx hb dX7_rule_41 (by decide) ?_
            refine lv_goto (tgt := 46) hx hb dX7_rule_42 (by decide) ?_
            exact lp_topi (show m_ruleT a0 b0 c0 d0 = 0 from by simp only [m_ruleT, if_neg c_7, if_neg c_16, if_neg c_26, if_neg c_38]) (hcut46 ls (lv_sub hl [0, 1, 2, 3, 4] rfl))

set_option maxHeartbeats 4000000 in
set_option maxRecDepth 100000 in
theorem m_ReplenishRulesModel_factor (l : Launch) (G : va_G) (cA : Nat → ClassId) (ad : Nat → Nat) (σ : St) (hJ : mm_inj ad) (a0 : Int32) (b0 : Int32) (c0 : Int32) : Met l yX7_factor (wX7_factor :: wG) ({ frames := 1, cells := 0, slots := 0, locals := 22 }) (va_Pc [.ref (ad 0), .int a0, .int b0, .int c0] (mmW G cA ad σ)) (va_Qv (fun σ' => σ' = m_factorS σ a0 b0 c0) (mmW G cA ad) (mmA ad)) 0 0 (mmA ad) := by
  refine Met.ofW (cc := cX7_factor) (maxL := 4) (ret := none) (by decide) rfl ?_
  intro p e s m args below meth c s₁ B hml hv
  obtain ⟨rfl, hP, hK⟩ := hv
  have hx := B.exec
  have hb := B.bytes
  have hr := B.returns
  have hts := atoms_spec (ws := wX7_factor :: wG) B.pre
  have hg : ∀ w ∈ wG, w.before _ s = true := fun w h => hts w (List.mem_cons_of_mem _ h)
  have hown : s.vm.findClass RX7 = some m.cls := findClass_of_methodNamed B.named
  have hlocks := B.notSynchronized
  have hS : va_S (mmA ad) s.heap s.heap [] := va_S.rf
  have hl := lv_entry ([.ref (ad 0), .int a0, .int b0, .int c0]) (n := 4) (Nat.le_of_ble_eq_true rfl)
  rw [lg_entry_eq]
  generalize (lg_sl ([.ref (ad 0), .int a0, .int b0, .int c0]) ++ List.replicate (4 - (lg_sl ([.ref (ad 0), .int a0, .int b0, .int c0])).length) Slot.unset).toArray = ls at hl ⊢
  have hl : lv_has ls 4 [(0, .ref (ad 0)), (1, .int a0), (2, .int b0), (3, .int c0)] := hl
  refine lp_cut (J := 38) (nL := 4) (LV := [(0, .ref (ad 0)), (1, .int a0), (2, .int b0), (3, .int c0)]) (st := [.int (m_factorT a0 b0 c0), .ref (ad 0)]) (fun ls hl => ?_) (fun hcut38 => ?_)
  · have hl : lv_has ls 4 [(0, .ref (ad 0)), (1, .int a0), (2, .int b0), (3, .int c0)] := hl
    refine pp_put (D := G) (ci := 7) (v := .int (m_factorT a0 b0 c0)) (ty := .int) (C := RX7) (T := TX7) (N := 33) hx hb hg hinX7 tyX7 tyX7_ok nmX7 hown hK hP (mm_D hJ) hS 0 ml_obj rfl 0 (by decide) (hg _ qF_X7_98) (fun _ h9 => h9) rfl (by decide +kernel) rfl rfl (Nat.le_of_ble_eq_true rfl) (ms_thrown) dX7_factor_38 (fun H locs hP hS => ?_)
    obtain ⟨σ1, eσ1⟩ : ∃ z, z = up σ 0 0 (m_factorT a0 b0 c0) := ⟨_, rfl⟩
    rw [← eσ1] at hP
    refine lv_aload_n hx hb dX7_factor_41 rfl (lv_at hl 0 rfl) ?_
    refine va_get (D := G) (ci := 7) (v := .int (σ1 0 0)) (C := RX7) (T := TX7) (N := 33) hx hb hg hinX7 hown hK hP 0 ml_obj rfl 0 (by decide) (hg _ qF_X7_98) (fun _ h9 => h9) rfl dX7_factor_42 ?_
    refine lv_if_ne (tgt := 62) hx hb dX7_factor_45 (by decide) (fun c_45 => ?_) (fun c_45 => ?_)
    · -- ifne taken
      exact W.vret hx hb hr (fun t ht hW => ⟨⟨σ1, rfl, by subst eσ1; simp only [m_factorS, if_neg c_45], by rw [ht]; exact hP, va_K.moved hW.alike hK⟩, hS.F ht⟩) hS.2.2 dX7_factor_62
    · -- ifne not taken
      refine lv_aload_n hx hb dX7_factor_48 rfl (lv_at hl 0 rfl) ?_
      refine va_get (D := G) (ci := 7) (v := .ref (ad 16)) (C := RX7) (T := TX7) (N := 33) hx hb hg hinX7 hown hK hP 0 ml_obj rfl 16 (by decide) (hg _ qF_X7_56) (fun _ h9 => h9) rfl dX7_factor_49 ?_
      refine lv_iload_n hx hb dX7_factor_52 rfl (lv_at hl 1 rfl) ?_
      refine lv_iload_n hx hb dX7_factor_53 rfl (lv_at hl 2 rfl) ?_
      refine pp_iast (x := b0) hx hb hK hP (mm_D hJ) hS 16 0 ml_ups rfl (factorT_in (by rw [eσ1, up_eq] at c_45; exact c_45)) (ms_ups) dX7_factor_54 (fun H locs hP hS => ?_)
      obtain ⟨σ2, eσ2⟩ : ∃ z, z = up σ1 16 (nx a0) b0 := ⟨_, rfl⟩
      rw [← eσ2] at hP
      refine lv_aload_n hx hb dX7_factor_55 rfl (lv_at hl 0 rfl) ?_
      refine va_get (D := G) (ci := 7) (v := .ref (ad 17)) (C := RX7) (T := TX7) (N := 33) hx hb hg hinX7 hown hK hP 0 ml_obj rfl 17 (by decide) (hg _ qF_X7_59) (fun _ h9 => h9) rfl dX7_factor_56 ?_
      refine lv_iload_n hx hb dX7_factor_59 rfl (lv_at hl 1 rfl) ?_
      refine lv_iload_n hx hb dX7_factor_60 rfl (lv_at hl 3 rfl) ?_
      refine pp_iast (x := c0) hx hb hK hP (mm_D hJ) hS 17 0 ml_downs rfl (factorT_in (by rw [eσ1, up_eq] at c_45; exact c_45)) (ms_downs) dX7_factor_61 (fun H locs hP hS => ?_)
      obtain ⟨σ3, eσ3⟩ : ∃ z, z = up σ2 17 (nx a0) c0 := ⟨_, rfl⟩
      rw [← eσ3] at hP
      exact W.vret hx hb hr (fun t ht hW => ⟨⟨σ3, rfl, by subst eσ1 eσ2 eσ3; simp only [m_factorS, if_pos c_45], by rw [ht]; exact hP, va_K.moved hW.alike hK⟩, hS.F ht⟩) hS.2.2 dX7_factor_62
  · -- to the cut
    refine lv_aload_n hx hb dX7_factor_0 rfl (lv_at hl 0 rfl) ?_
    refine lv_iload_n hx hb dX7_factor_1 rfl (lv_at hl 1 rfl) ?_
    refine lv_iconst (v := 0) hx hb dX7_factor_2 (by decide) ?_
    refine lv_bipush (v := 11) hx hb dX7_factor_3 (by decide) ?_
    refine vp_callSi (W.runS (As := [.int a0, .int 0, .int 11]) (rest := [.ref (ad 0)]) ⟨hx, hb, hml, hown, hg⟩ (m_ReplenishRulesModel_in l a0 0 11) (cwS 3 hg (gS qM_X7_102 qT_X7_in qN_X7 kX7_in) rfl rfl rfl (by decide +kernel) ⟨Nat.le_of_ble_eq_true rfl, Nat.le_of_ble_eq_true rfl⟩) ⟨fun _ _ _ _ q => q, fun _ _ _ => ⟨rfl, trivial⟩⟩ rfl rfl hl.1 rfl (lv_room (Nat.le_of_ble_eq_true rfl)) dX7_factor_5 ⟨Nat.le_of_ble_eq_true rfl, Nat.le_of_ble_eq_true rfl⟩) (nm_e ?_)
    refine lv_if_eq (tgt := 37) hx hb dX7_factor_8 (by decide) (fun c_8 => ?_) (fun c_8 => ?_)
    · -- ifeq taken
      refine lv_iconst (v := 1) hx hb dX7_factor_37 (by decide) ?_
      exact lp_topi (show m_factorT a0 b0 c0 = 1 from by simp only [m_factorT, if_pos c_8]) (hcut38 ls (lv_sub hl [0, 1, 2, 3] rfl))
    · -- ifeq not taken
      refine lv_iload_n hx hb dX7_factor_11 rfl (lv_at hl 2 rfl) ?_
      refine lv_iconst (v := 0) hx hb dX7_factor_12 (by decide) ?_
      refine lv_sipush (v := 1000) hx hb dX7_factor_13 (by decide) ?_
      refine vp_callSi (W.runS (As := [.int b0, .int 0, .int 1000]) (rest := [.ref (ad 0)]) ⟨hx, hb, hml, hown, hg⟩ (m_ReplenishRulesModel_in l b0 0 1000) (cwS 3 hg (gS qM_X7_102 qT_X7_in qN_X7 kX7_in) rfl rfl rfl (by decide +kernel) ⟨Nat.le_of_ble_eq_true rfl, Nat.le_of_ble_eq_true rfl⟩) ⟨fun _ _ _ _ q => q, fun _ _ _ => ⟨rfl, trivial⟩⟩ rfl rfl hl.1 rfl (lv_room (Nat.le_of_ble_eq_true rfl)) dX7_factor_16 ⟨Nat.le_of_ble_eq_true rfl, Nat.le_of_ble_eq_true rfl⟩) (nm_e ?_)
      refine lv_if_eq (tgt := 37) hx hb dX7_factor_19 (by decide) (fun c_19 => ?_) (fun c_19 => ?_)
      · -- ifeq taken
        refine lv_iconst (v := 1) hx hb dX7_factor_37 (by decide) ?_
        exact lp_topi (show m_factorT a0 b0 c0 = 1 from by simp only [m_factorT, if_neg c_8, if_pos c_19]) (hcut38 ls (lv_sub hl [0, 1, 2, 3] rfl))
      · -- ifeq not taken
        refine lv_iload_n hx hb dX7_factor_22 rfl (lv_at hl 3 rfl) ?_
        refine lv_iconst (v := 1) hx hb dX7_factor_23 (by decide) ?_
        refine lv_sipush (v := 1000) hx hb dX7_factor_24 (by decide) ?_
        refine vp_callSi (W.runS (As := [.int c0, .int 1, .int 1000]) (rest := [.ref (ad 0)]) ⟨hx, hb, hml, hown, hg⟩ (m_ReplenishRulesModel_in l c0 1 1000) (cwS 3 hg (gS qM_X7_102 qT_X7_in qN_X7 kX7_in) rfl rfl rfl (by decide +kernel) ⟨Nat.le_of_ble_eq_true rfl, Nat.le_of_ble_eq_true rfl⟩) ⟨fun _ _ _ _ q => q, fun _ _ _ => ⟨rfl, trivial⟩⟩ rfl rfl hl.1 rfl (lv_room (Nat.le_of_ble_eq_true rfl)) dX7_factor_27 ⟨Nat.le_of_ble_eq_true rfl, Nat.le_of_ble_eq_true rfl⟩) (nm_e ?_)
        refine lv_if_eq (tgt := 37) hx hb dX7_factor_30 (by decide) (fun c_30 => ?_) (fun c_30 => ?_)
        · -- ifeq taken
          refine lv_iconst (v := 1) hx hb dX7_factor_37 (by decide) ?_
          exact lp_topi (show m_factorT a0 b0 c0 = 1 from by simp only [m_factorT, if_neg c_8, if_neg c_19, if_pos c_30]) (hcut38 ls (lv_sub hl [0, 1, 2, 3] rfl))
        · -- ifeq not taken
          refine lv_iconst (v := 0) hx hb dX7_factor_33 (by decide) ?_
          refine lv_goto (tgt := 38) hx hb dX7_factor_34 (by decide) ?_
          exact lp_topi (show m_factorT a0 b0 c0 = 0 from by simp only [m_factorT, if_neg c_8, if_neg c_19, if_neg c_30]) (hcut38 ls (lv_sub hl [0, 1, 2, 3] rfl))

set_option maxHeartbeats 4000000 in
set_option maxRecDepth 100000 in
theorem m_ReplenishRulesModel_wave (l : Launch) (G : va_G) (cA : Nat → ClassId) (ad : Nat → Nat) (σ : St) (hJ : mm_inj ad) (hI : MInv σ) (a0 : Int32) (b0 : Int32) (c0 : Int32) : Met l yX7_wave (wX7_wave :: wG) ({ frames := 2, cells := 0, slots := 0, locals := 42 }) (va_Pc [.ref (ad 0), .int a0, .int b0, .int c0] (mmW G cA ad σ)) (va_Qv (fun σ' => σ' = m_waveS σ a0 b0 c0) (mmW G cA ad) (mmA ad)) 0 0 (mmA ad) := by
  refine Met.ofW (cc := cX7_wave) (maxL := 4) (ret := none) (by decide) rfl ?_
  intro p e s m args below meth c s₁ B hml hv
  obtain ⟨rfl, hP, hK⟩ := hv
  have hx := B.exec
  have hb := B.bytes
  have hr := B.returns
  have hts := atoms_spec (ws := wX7_wave :: wG) B.pre
  have hg : ∀ w ∈ wG, w.before _ s = true := fun w h => hts w (List.mem_cons_of_mem _ h)
  have hown : s.vm.findClass RX7 = some m.cls := findClass_of_methodNamed B.named
  have hlocks := B.notSynchronized
  have hS : va_S (mmA ad) s.heap s.heap [] := va_S.rf
  have hl := lv_entry ([.ref (ad 0), .int a0, .int b0, .int c0]) (n := 4) (Nat.le_of_ble_eq_true rfl)
  rw [lg_entry_eq]
  generalize (lg_sl ([.ref (ad 0), .int a0, .int b0, .int c0]) ++ List.replicate (4 - (lg_sl ([.ref (ad 0), .int a0, .int b0, .int c0])).length) Slot.unset).toArray = ls at hl ⊢
  have hl : lv_has ls 4 [(0, .ref (ad 0)), (1, .int a0), (2, .int b0), (3, .int c0)] := hl
  refine lp_cut (J := 63) (nL := 4) (LV := [(0, .ref (ad 0)), (1, .int a0), (2, .int b0), (3, .int c0)]) (st := [.int (m_waveT σ a0 b0 c0), .ref (ad 0)]) (fun ls hl => ?_) (fun hcut63 => ?_)
  · have hl : lv_has ls 4 [(0, .ref (ad 0)), (1, .int a0), (2, .int b0), (3, .int c0)] := hl
    refine pp_put (D := G) (ci := 7) (v := .int (m_waveT σ a0 b0 c0)) (ty := .int) (C := RX7) (T := TX7) (N := 33) hx hb hg hinX7 tyX7 tyX7_ok nmX7 hown hK hP (mm_D hJ) hS 0 ml_obj rfl 0 (by decide) (hg _ qF_X7_98) (fun _ h9 => h9) rfl (by decide +kernel) rfl rfl (Nat.le_of_ble_eq_true rfl) (ms_thrown) dX7_wave_63 (fun H locs hP hS => ?_)
    obtain ⟨σ1, eσ1⟩ : ∃ z, z = up σ 0 0 (m_waveT σ a0 b0 c0) := ⟨_, rfl⟩
    rw [← eσ1] at hP
    have hIσ1 : MInv σ1 := by rw [eσ1]; exact minv_up (by decide) hI
    refine lv_aload_n hx hb dX7_wave_66 rfl (lv_at hl 0 rfl) ?_
    refine va_get (D := G) (ci := 7) (v := .int (σ1 0 0)) (C := RX7) (T := TX7) (N := 33) hx hb hg hinX7 hown hK hP 0 ml_obj rfl 0 (by decide) (hg _ qF_X7_98) (fun _ h9 => h9) rfl dX7_wave_67 ?_
    refine lv_if_ne (tgt := 113) hx hb dX7_wave_70 (by decide) (fun c_70 => ?_) (fun c_70 => ?_)
    · -- ifne taken
      exact W.vret hx hb hr (fun t ht hW => ⟨⟨σ1, rfl, by subst eσ1; simp only [m_waveS, if_neg c_70], by rw [ht]; exact hP, va_K.moved hW.alike hK⟩, hS.F ht⟩) hS.2.2 dX7_wave_113
    · -- ifne not taken
      refine lv_aload_n hx hb dX7_wave_73 rfl (lv_at hl 0 rfl) ?_
      refine va_get (D := G) (ci := 7) (v := .ref (ad 18)) (C := RX7) (T := TX7) (N := 33) hx hb hg hinX7 hown hK hP 0 ml_obj rfl 20 (by decide) (hg _ qF_X7_62) (fun _ h9 => h9) rfl dX7_wave_74 ?_
      refine lv_aload_n hx hb dX7_wave_77 rfl (lv_at hl 0 rfl) ?_
      refine va_get (D := G) (ci := 7) (v := .int (σ1 19 0)) (C := RX7) (T := TX7) (N := 33) hx hb hg hinX7 hown hK hP 0 ml_obj rfl 19 (by decide) (hg _ qF_X7_126) (fun _ h9 => h9) rfl dX7_wave_78 ?_
      refine lv_iload_n hx hb dX7_wave_81 rfl (lv_at hl 1 rfl) ?_
      refine pp_iast (x := a0) hx hb hK hP (mm_D hJ) hS 18 0 ml_wavePlace rfl (waves_in hIσ1 (by rw [eσ1, up_row (by decide)]; exact waveT_ne (by rw [eσ1, up_eq] at c_70; exact c_70))) (ms_wavePlace) dX7_wave_82 (fun H locs hP hS => ?_)
      obtain ⟨σ2, eσ2⟩ : ∃ z, z = up σ1 20 (nx (σ1 19 0)) a0 := ⟨_, rfl⟩
      rw [← eσ2] at hP
      have hIσ2 : MInv σ2 := by rw [eσ2]; exact minv_up (by decide) hIσ1
      refine lv_aload_n hx hb dX7_wave_83 rfl (lv_at hl 0 rfl) ?_
      refine va_get (D := G) (ci := 7) (v := .ref (ad 19)) (C := RX7) (T := TX7) (N := 33) hx hb hg hinX7 hown hK hP 0 ml_obj rfl 21 (by decide) (hg _ qF_X7_65) (fun _ h9 => h9) rfl dX7_wave_84 ?_
      refine lv_aload_n hx hb dX7_wave_87 rfl (lv_at hl 0 rfl) ?_
      refine va_get (D := G) (ci := 7) (v := .int (σ2 19 0)) (C := RX7) (T := TX7) (N := 33) hx hb hg hinX7 hown hK hP 0 ml_obj rfl 19 (by decide) (hg _ qF_X7_126) (fun _ h9 => h9) rfl dX7_wave_88 ?_
      refine lv_iload_n hx hb dX7_wave_91 rfl (lv_at hl 2 rfl) ?_
      refine pp_iast (x := b0) hx hb hK hP (mm_D hJ) hS 19 0 ml_waveMany rfl (waves_in hIσ2 (by rw [eσ2, up_row (by decide), eσ1, up_row (by decide)]; exact waveT_ne (by rw [eσ1, up_eq] at c_70; exact c_70))) (ms_waveMany) dX7_wave_92 (fun H locs hP hS => ?_)
      obtain ⟨σ3, eσ3⟩ : ∃ z, z = up σ2 21 (nx (σ2 19 0)) b0 := ⟨_, rfl⟩
      rw [← eσ3] at hP
      have hIσ3 : MInv σ3 := by rw [eσ3]; exact minv_up (by decide) hIσ2
      refine lv_aload_n hx hb dX7_wave_93 rfl (lv_at hl 0 rfl) ?_
      refine va_get (D := G) (ci := 7) (v := .ref (ad 20)) (C := RX7) (T := TX7) (N := 33) hx hb hg hinX7 hown hK hP 0 ml_obj rfl 22 (by decide) (hg _ qF_X7_68) (fun _ h9 => h9) rfl dX7_wave_94 ?_
      refine lv_aload_n hx hb dX7_wave_97 rfl (lv_at hl 0 rfl) ?_
      refine va_get (D := G) (ci := 7) (v := .int (σ3 19 0)) (C := RX7) (T := TX7) (N := 33) hx hb hg hinX7 hown hK hP 0 ml_obj rfl 19 (by decide) (hg _ qF_X7_126) (fun _ h9 => h9) rfl dX7_wave_98 ?_
      refine lv_iload_n hx hb dX7_wave_101 rfl (lv_at hl 3 rfl) ?_
      refine pp_iast (x := c0) hx hb hK hP (mm_D hJ) hS 20 0 ml_waveDay rfl (waves_in hIσ3 (by rw [eσ3, up_row (by decide), eσ2, up_row (by decide), eσ1, up_row (by decide)]; exact waveT_ne (by rw [eσ1, up_eq] at c_70; exact c_70))) (ms_waveDay) dX7_wave_102 (fun H locs hP hS => ?_)
      obtain ⟨σ4, eσ4⟩ : ∃ z, z = up σ3 22 (nx (σ3 19 0)) c0 := ⟨_, rfl⟩
      rw [← eσ4] at hP
      have hIσ4 : MInv σ4 := by rw [eσ4]; exact minv_up (by decide) hIσ3
      refine lv_aload_n hx hb dX7_wave_103 rfl (lv_at hl 0 rfl) ?_
      refine lv_dup hx hb dX7_wave_104 rfl ?_
      refine va_get (D := G) (ci := 7) (v := .int (σ4 19 0)) (C := RX7) (T := TX7) (N := 33) hx hb hg hinX7 hown hK hP 0 ml_obj rfl 19 (by decide) (hg _ qF_X7_126) (fun _ h9 => h9) rfl dX7_wave_105 ?_
      refine lv_iconst (v := 1) hx hb dX7_wave_108 (by decide) ?_
      refine lv_iadd hx hb dX7_wave_109 ?_
      refine pp_put (D := G) (ci := 7) (v := .int ((σ4 19 0) + 1)) (ty := .int) (C := RX7) (T := TX7) (N := 33) hx hb hg hinX7 tyX7 tyX7_ok nmX7 hown hK hP (mm_D hJ) hS 0 ml_obj rfl 19 (by decide) (hg _ qF_X7_126) (fun _ h9 => h9) rfl (by decide +kernel) rfl rfl (Nat.le_of_ble_eq_true rfl) (ms_waves) dX7_wave_110 (fun H locs hP hS => ?_)
      obtain ⟨σ5, eσ5⟩ : ∃ z, z = up σ4 19 0 ((σ4 19 0) + 1) := ⟨_, rfl⟩
      rw [← eσ5] at hP
      exact W.vret hx hb hr (fun t ht hW => ⟨⟨σ5, rfl, by subst eσ1 eσ2 eσ3 eσ4 eσ5; simp only [m_waveS, if_pos c_70], by rw [ht]; exact hP, va_K.moved hW.alike hK⟩, hS.F ht⟩) hS.2.2 dX7_wave_113
  · -- to the cut
    refine lv_aload_n hx hb dX7_wave_0 rfl (lv_at hl 0 rfl) ?_
    refine lv_iload_n hx hb dX7_wave_1 rfl (lv_at hl 1 rfl) ?_
    refine vp_callSi (W.runS (As := [.int a0]) (rest := [.ref (ad 0)]) ⟨hx, hb, hml, hown, hg⟩ (m_ReplenishRulesModel_isPlace l a0) (cwS 1 hg (gS qM_X7_106 qT_X7_isPlace qN_X7 kX7_isPlace) rfl rfl rfl (by decide +kernel) ⟨Nat.le_of_ble_eq_true rfl, Nat.le_of_ble_eq_true rfl⟩) ⟨fun _ _ _ _ q => q, fun _ _ _ => ⟨rfl, trivial⟩⟩ rfl rfl hl.1 rfl (lv_room (Nat.le_of_ble_eq_true rfl)) dX7_wave_2 ⟨Nat.le_of_ble_eq_true rfl, Nat.le_of_ble_eq_true rfl⟩) (nm_e ?_)
    refine lv_if_eq (tgt := 32) hx hb dX7_wave_5 (by decide) (fun c_5 => ?_) (fun c_5 => ?_)
    · -- ifeq taken
      refine lv_iconst (v := 1) hx hb dX7_wave_32 (by decide) ?_
      refine lv_goto (tgt := 63) hx hb dX7_wave_33 (by decide) ?_
      exact lp_topi (show m_waveT σ a0 b0 c0 = 1 from by simp only [m_waveT, if_pos c_5]) (hcut63 ls (lv_sub hl [0, 1, 2, 3] rfl))
    · -- ifeq not taken
      refine lv_iload_n hx hb dX7_wave_8 rfl (lv_at hl 2 rfl) ?_
      refine lv_iconst (v := 1) hx hb dX7_wave_9 (by decide) ?_
      refine lv_ldc (v := 100000) hx hb hown (hg _ qC_X7_110) dX7_wave_10 ?_
      refine vp_callSi (W.runS (As := [.int b0, .int 1, .int 100000]) (rest := [.ref (ad 0)]) ⟨hx, hb, hml, hown, hg⟩ (m_ReplenishRulesModel_in l b0 1 100000) (cwS 3 hg (gS qM_X7_102 qT_X7_in qN_X7 kX7_in) rfl rfl rfl (by decide +kernel) ⟨Nat.le_of_ble_eq_true rfl, Nat.le_of_ble_eq_true rfl⟩) ⟨fun _ _ _ _ q => q, fun _ _ _ => ⟨rfl, trivial⟩⟩ rfl rfl hl.1 rfl (lv_room (Nat.le_of_ble_eq_true rfl)) dX7_wave_12 ⟨Nat.le_of_ble_eq_true rfl, Nat.le_of_ble_eq_true rfl⟩) (nm_e ?_)
      refine lv_if_eq (tgt := 32) hx hb dX7_wave_15 (by decide) (fun c_15 => ?_) (fun c_15 => ?_)
      · -- ifeq taken
        refine lv_iconst (v := 1) hx hb dX7_wave_32 (by decide) ?_
        refine lv_goto (tgt := 63) hx hb dX7_wave_33 (by decide) ?_
        exact lp_topi (show m_waveT σ a0 b0 c0 = 1 from by simp only [m_waveT, if_neg c_5, if_pos c_15]) (hcut63 ls (lv_sub hl [0, 1, 2, 3] rfl))
      · -- ifeq not taken
        refine lv_iload_n hx hb dX7_wave_18 rfl (lv_at hl 3 rfl) ?_
        refine lv_aload_n hx hb dX7_wave_19 rfl (lv_at hl 0 rfl) ?_
        refine va_get (D := G) (ci := 7) (v := .int (σ 18 0)) (C := RX7) (T := TX7) (N := 33) hx hb hg hinX7 hown hK hP 0 ml_obj rfl 18 (by decide) (hg _ qF_X7_123) (fun _ h9 => h9) rfl dX7_wave_20 ?_
        refine lv_sipush (v := 399) hx hb dX7_wave_23 (by decide) ?_
        refine vp_callSi (W.runS (As := [.int c0, .int (σ 18 0), .int 399]) (rest := [.ref (ad 0)]) ⟨hx, hb, hml, hown, hg⟩ (m_ReplenishRulesModel_in l c0 (σ 18 0) 399) (cwS 3 hg (gS qM_X7_102 qT_X7_in qN_X7 kX7_in) rfl rfl rfl (by decide +kernel) ⟨Nat.le_of_ble_eq_true rfl, Nat.le_of_ble_eq_true rfl⟩) ⟨fun _ _ _ _ q => q, fun _ _ _ => ⟨rfl, trivial⟩⟩ rfl rfl hl.1 rfl (lv_room (Nat.le_of_ble_eq_true rfl)) dX7_wave_26 ⟨Nat.le_of_ble_eq_true rfl, Nat.le_of_ble_eq_true rfl⟩) (nm_e ?_)
        refine lv_if_ne (tgt := 36) hx hb dX7_wave_29 (by decide) (fun c_29 => ?_) (fun c_29 => ?_)
        · -- ifne taken
          refine lv_aload_n hx hb dX7_wave_36 rfl (lv_at hl 0 rfl) ?_
          refine va_get (D := G) (ci := 7) (v := .ref (ad 6)) (C := RX7) (T := TX7) (N := 33) hx hb hg hinX7 hown hK hP 0 ml_obj rfl 6 (by decide) (hg _ qF_X7_25) (fun _ h9 => h9) rfl dX7_wave_37 ?_
          refine lv_iload_n hx hb dX7_wave_40 rfl (lv_at hl 1 rfl) ?_
          refine va_zald hx hb hK hP 6 1 ml_isFace rfl (isP c_5) dX7_wave_41 ?_
          refine lv_if_ne (tgt := 49) hx hb dX7_wave_42 (by decide) (fun c_42 => ?_) (fun c_42 => ?_)
          · -- ifne taken
            refine lv_aload_n hx hb dX7_wave_49 rfl (lv_at hl 0 rfl) ?_
            refine va_get (D := G) (ci := 7) (v := .int (σ 19 0)) (C := RX7) (T := TX7) (N := 33) hx hb hg hinX7 hown hK hP 0 ml_obj rfl 19 (by decide) (hg _ qF_X7_126) (fun _ h9 => h9) rfl dX7_wave_50 ?_
            refine lv_bipush (v := 30) hx hb dX7_wave_53 (by decide) ?_
            refine lv_icmp_ne (tgt := 62) hx hb dX7_wave_55 (by decide) (fun c_55 => ?_) (fun c_55 => ?_)
            · -- if_icmpne taken
              refine lv_iconst (v := 0) hx hb dX7_wave_62 (by decide) ?_
              exact lp_topi (show m_waveT σ a0 b0 c0 = 0 from by simp only [m_waveT, if_neg c_5, if_neg c_15, if_neg c_29, if_neg c_42, if_neg c_55]) (hcut63 ls (lv_sub hl [0, 1, 2, 3] rfl))
            · -- if_icmpne not taken
              refine lv_iconst (v := 3) hx hb dX7_wave_58 (by decide) ?_
              refine lv_goto (tgt := 63) hx hb dX7_wave_59 (by decide) ?_
              exact lp_topi (show m_waveT σ a0 b0 c0 = 3 from by simp only [m_waveT, if_neg c_5, if_neg c_15, if_neg c_29, if_neg c_42, if_pos c_55]) (hcut63 ls (lv_sub hl [0, 1, 2, 3] rfl))
          · -- ifne not taken
            refine lv_iconst (v := 2) hx hb dX7_wave_45 (by decide) ?_
            refine lv_goto (tgt := 63) hx hb dX7_wave_46 (by decide) ?_
            exact lp_topi (show m_waveT σ a0 b0 c0 = 2 from by simp only [m_waveT, if_neg c_5, if_neg c_15, if_neg c_29, if_pos c_42]) (hcut63 ls (lv_sub hl [0, 1, 2, 3] rfl))
        · -- ifne not taken
          refine lv_iconst (v := 1) hx hb dX7_wave_32 (by decide) ?_
          refine lv_goto (tgt := 63) hx hb dX7_wave_33 (by decide) ?_
          exact lp_topi (show m_waveT σ a0 b0 c0 = 1 from by simp only [m_waveT, if_neg c_5, if_neg c_15, if_pos c_29]) (hcut63 ls (lv_sub hl [0, 1, 2, 3] rfl))

set_option maxHeartbeats 4000000 in
set_option maxRecDepth 100000 in
theorem m_ReplenishRulesModel_open (l : Launch) (G : va_G) (cA : Nat → ClassId) (ad : Nat → Nat) (σ : St) (hJ : mm_inj ad) (a0 : Int32) (b0 : Int32) : Met l yX7_open (wX7_open :: wG) ({ frames := 1, cells := 0, slots := 0, locals := 22 }) (va_Pc [.ref (ad 0), .int a0, .int b0] (mmW G cA ad σ)) (va_Qv (fun σ' => σ' = m_openS σ a0 b0) (mmW G cA ad) (mmA ad)) 0 0 (mmA ad) := by
  refine Met.ofW (cc := cX7_open) (maxL := 3) (ret := none) (by decide) rfl ?_
  intro p e s m args below meth c s₁ B hml hv
  obtain ⟨rfl, hP, hK⟩ := hv
  have hx := B.exec
  have hb := B.bytes
  have hr := B.returns
  have hts := atoms_spec (ws := wX7_open :: wG) B.pre
  have hg : ∀ w ∈ wG, w.before _ s = true := fun w h => hts w (List.mem_cons_of_mem _ h)
  have hown : s.vm.findClass RX7 = some m.cls := findClass_of_methodNamed B.named
  have hlocks := B.notSynchronized
  have hS : va_S (mmA ad) s.heap s.heap [] := va_S.rf
  have hl := lv_entry ([.ref (ad 0), .int a0, .int b0]) (n := 3) (Nat.le_of_ble_eq_true rfl)
  rw [lg_entry_eq]
  generalize (lg_sl ([.ref (ad 0), .int a0, .int b0]) ++ List.replicate (3 - (lg_sl ([.ref (ad 0), .int a0, .int b0])).length) Slot.unset).toArray = ls at hl ⊢
  have hl : lv_has ls 3 [(0, .ref (ad 0)), (1, .int a0), (2, .int b0)] := hl
  refine lp_cut (J := 29) (nL := 3) (LV := [(0, .ref (ad 0)), (1, .int a0), (2, .int b0)]) (st := [.int (m_openT σ a0), .ref (ad 0)]) (fun ls hl => ?_) (fun hcut29 => ?_)
  · have hl : lv_has ls 3 [(0, .ref (ad 0)), (1, .int a0), (2, .int b0)] := hl
    refine pp_put (D := G) (ci := 7) (v := .int (m_openT σ a0)) (ty := .int) (C := RX7) (T := TX7) (N := 33) hx hb hg hinX7 tyX7 tyX7_ok nmX7 hown hK hP (mm_D hJ) hS 0 ml_obj rfl 0 (by decide) (hg _ qF_X7_98) (fun _ h9 => h9) rfl (by decide +kernel) rfl rfl (Nat.le_of_ble_eq_true rfl) (ms_thrown) dX7_open_29 (fun H locs hP hS => ?_)
    obtain ⟨σ1, eσ1⟩ : ∃ z, z = up σ 0 0 (m_openT σ a0) := ⟨_, rfl⟩
    rw [← eσ1] at hP
    refine lv_aload_n hx hb dX7_open_32 rfl (lv_at hl 0 rfl) ?_
    refine va_get (D := G) (ci := 7) (v := .int (σ1 0 0)) (C := RX7) (T := TX7) (N := 33) hx hb hg hinX7 hown hK hP 0 ml_obj rfl 0 (by decide) (hg _ qF_X7_98) (fun _ h9 => h9) rfl dX7_open_33 ?_
    refine lv_if_ne (tgt := 54) hx hb dX7_open_36 (by decide) (fun c_36 => ?_) (fun c_36 => ?_)
    · -- ifne taken
      exact W.vret hx hb hr (fun t ht hW => ⟨⟨σ1, rfl, by subst eσ1; simp only [m_openS, if_neg c_36], by rw [ht]; exact hP, va_K.moved hW.alike hK⟩, hS.F ht⟩) hS.2.2 dX7_open_54
    · -- ifne not taken
      refine lv_aload_n hx hb dX7_open_39 rfl (lv_at hl 0 rfl) ?_
      refine va_get (D := G) (ci := 7) (v := .ref (ad 11)) (C := RX7) (T := TX7) (N := 33) hx hb hg hinX7 hown hK hP 0 ml_obj rfl 11 (by decide) (hg _ qF_X7_41) (fun _ h9 => h9) rfl dX7_open_40 ?_
      refine lv_iload_n hx hb dX7_open_43 rfl (lv_at hl 1 rfl) ?_
      refine lv_iload_n hx hb dX7_open_44 rfl (lv_at hl 2 rfl) ?_
      refine lv_if_ne (tgt := 52) hx hb dX7_open_45 (by decide) (fun c_45 => ?_) (fun c_45 => ?_)
      · -- ifne taken
        refine lv_iconst (v := 0) hx hb dX7_open_52 (by decide) ?_
        refine pp_zast (x := 0) hx hb hK hP (mm_D hJ) hS 11 1 ml_closed rfl (by decide) (openT_in (by rw [eσ1, up_eq] at c_36; exact c_36)) (ms_closed) dX7_open_53 (fun H locs hP hS => ?_)
        obtain ⟨σ2, eσ2⟩ : ∃ z, z = up σ1 11 (nx a0) 0 := ⟨_, rfl⟩
        rw [← eσ2] at hP
        exact W.vret hx hb hr (fun t ht hW => ⟨⟨σ2, rfl, by subst eσ1 eσ2; simp only [m_openS, if_pos c_36, if_neg c_45], by rw [ht]; exact hP, va_K.moved hW.alike hK⟩, hS.F ht⟩) hS.2.2 dX7_open_54
      · -- ifne not taken
        refine lv_iconst (v := 1) hx hb dX7_open_48 (by decide) ?_
        refine lv_goto (tgt := 53) hx hb dX7_open_49 (by decide) ?_
        refine pp_zast (x := 1) hx hb hK hP (mm_D hJ) hS 11 1 ml_closed rfl (by decide) (openT_in (by rw [eσ1, up_eq] at c_36; exact c_36)) (ms_closed) dX7_open_53 (fun H locs hP hS => ?_)
        obtain ⟨σ2, eσ2⟩ : ∃ z, z = up σ1 11 (nx a0) 1 := ⟨_, rfl⟩
        rw [← eσ2] at hP
        exact W.vret hx hb hr (fun t ht hW => ⟨⟨σ2, rfl, by subst eσ1 eσ2; simp only [m_openS, if_pos c_36, if_pos c_45], by rw [ht]; exact hP, va_K.moved hW.alike hK⟩, hS.F ht⟩) hS.2.2 dX7_open_54
  · -- to the cut
    refine lv_aload_n hx hb dX7_open_0 rfl (lv_at hl 0 rfl) ?_
    refine lv_iload_n hx hb dX7_open_1 rfl (lv_at hl 1 rfl) ?_
    refine lv_iconst (v := 0) hx hb dX7_open_2 (by decide) ?_
    refine lv_sipush (v := 399) hx hb dX7_open_3 (by decide) ?_
    refine vp_callSi (W.runS (As := [.int a0, .int 0, .int 399]) (rest := [.ref (ad 0)]) ⟨hx, hb, hml, hown, hg⟩ (m_ReplenishRulesModel_in l a0 0 399) (cwS 3 hg (gS qM_X7_102 qT_X7_in qN_X7 kX7_in) rfl rfl rfl (by decide +kernel) ⟨Nat.le_of_ble_eq_true rfl, Nat.le_of_ble_eq_true rfl⟩) ⟨fun _ _ _ _ q => q, fun _ _ _ => ⟨rfl, trivial⟩⟩ rfl rfl hl.1 rfl (lv_room (Nat.le_of_ble_eq_true rfl)) dX7_open_6 ⟨Nat.le_of_ble_eq_true rfl, Nat.le_of_ble_eq_true rfl⟩) (nm_e ?_)
    refine lv_if_ne (tgt := 16) hx hb dX7_open_9 (by decide) (fun c_9 => ?_) (fun c_9 => ?_)
    · -- ifne taken
      refine lv_iload_n hx hb dX7_open_16 rfl (lv_at hl 1 rfl) ?_
      refine lv_aload_n hx hb dX7_open_17 rfl (lv_at hl 0 rfl) ?_
      refine va_get (D := G) (ci := 7) (v := .int (σ 18 0)) (C := RX7) (T := TX7) (N := 33) hx hb hg hinX7 hown hK hP 0 ml_obj rfl 18 (by decide) (hg _ qF_X7_123) (fun _ h9 => h9) rfl dX7_open_18 ?_
      refine lv_icmp_ge (tgt := 28) hx hb dX7_open_21 (by decide) (fun c_21 => ?_) (fun c_21 => ?_)
      · -- if_icmpge taken
        refine lv_iconst (v := 0) hx hb dX7_open_28 (by decide) ?_
        exact lp_topi (show m_openT σ a0 = 0 from by simp only [m_openT, if_neg c_9, if_pos c_21]) (hcut29 ls (lv_sub hl [0, 1, 2] rfl))
      · -- if_icmpge not taken
        refine lv_iconst (v := 2) hx hb dX7_open_24 (by decide) ?_
        refine lv_goto (tgt := 29) hx hb dX7_open_25 (by decide) ?_
        exact lp_topi (show m_openT σ a0 = 2 from by simp only [m_openT, if_neg c_9, if_neg c_21]) (hcut29 ls (lv_sub hl [0, 1, 2] rfl))
    · -- ifne not taken
      refine lv_iconst (v := 1) hx hb dX7_open_12 (by decide) ?_
      refine lv_goto (tgt := 29) hx hb dX7_open_13 (by decide) ?_
      exact lp_topi (show m_openT σ a0 = 1 from by simp only [m_openT, if_pos c_9]) (hcut29 ls (lv_sub hl [0, 1, 2] rfl))

set_option maxHeartbeats 4000000 in
set_option maxRecDepth 100000 in
theorem m_ReplenishRulesModel_day (l : Launch) (G : va_G) (cA : Nat → ClassId) (ad : Nat → Nat) (σ : St) (hJ : mm_inj ad) (a0 : Int32) : Met l yX7_day (wX7_day :: wG) ({ frames := 1, cells := 0, slots := 0, locals := 22 }) (va_Pc [.ref (ad 0), .int a0] (mmW G cA ad σ)) (va_Qv (fun σ' => σ' = m_dayS σ a0) (mmW G cA ad) (mmA ad)) 0 0 (mmA ad) := by
  refine Met.ofW (cc := cX7_day) (maxL := 2) (ret := none) (by decide) rfl ?_
  intro p e s m args below meth c s₁ B hml hv
  obtain ⟨rfl, hP, hK⟩ := hv
  have hx := B.exec
  have hb := B.bytes
  have hr := B.returns
  have hts := atoms_spec (ws := wX7_day :: wG) B.pre
  have hg : ∀ w ∈ wG, w.before _ s = true := fun w h => hts w (List.mem_cons_of_mem _ h)
  have hown : s.vm.findClass RX7 = some m.cls := findClass_of_methodNamed B.named
  have hlocks := B.notSynchronized
  have hS : va_S (mmA ad) s.heap s.heap [] := va_S.rf
  have hl := lv_entry ([.ref (ad 0), .int a0]) (n := 2) (Nat.le_of_ble_eq_true rfl)
  rw [lg_entry_eq]
  generalize (lg_sl ([.ref (ad 0), .int a0]) ++ List.replicate (2 - (lg_sl ([.ref (ad 0), .int a0])).length) Slot.unset).toArray = ls at hl ⊢
  have hl : lv_has ls 2 [(0, .ref (ad 0)), (1, .int a0)] := hl
  refine lp_cut (J := 20) (nL := 2) (LV := [(0, .ref (ad 0)), (1, .int a0)]) (st := [.int (m_dayT σ a0), .ref (ad 0)]) (fun ls hl => ?_) (fun hcut20 => ?_)
  · have hl : lv_has ls 2 [(0, .ref (ad 0)), (1, .int a0)] := hl
    refine pp_put (D := G) (ci := 7) (v := .int (m_dayT σ a0)) (ty := .int) (C := RX7) (T := TX7) (N := 33) hx hb hg hinX7 tyX7 tyX7_ok nmX7 hown hK hP (mm_D hJ) hS 0 ml_obj rfl 0 (by decide) (hg _ qF_X7_98) (fun _ h9 => h9) rfl (by decide +kernel) rfl rfl (Nat.le_of_ble_eq_true rfl) (ms_thrown) dX7_day_20 (fun H locs hP hS => ?_)
    obtain ⟨σ1, eσ1⟩ : ∃ z, z = up σ 0 0 (m_dayT σ a0) := ⟨_, rfl⟩
    rw [← eσ1] at hP
    refine lv_aload_n hx hb dX7_day_23 rfl (lv_at hl 0 rfl) ?_
    refine va_get (D := G) (ci := 7) (v := .int (σ1 0 0)) (C := RX7) (T := TX7) (N := 33) hx hb hg hinX7 hown hK hP 0 ml_obj rfl 0 (by decide) (hg _ qF_X7_98) (fun _ h9 => h9) rfl dX7_day_24 ?_
    refine lv_if_ne (tgt := 35) hx hb dX7_day_27 (by decide) (fun c_27 => ?_) (fun c_27 => ?_)
    · -- ifne taken
      exact W.vret hx hb hr (fun t ht hW => ⟨⟨σ1, rfl, by subst eσ1; simp only [m_dayS, if_neg c_27], by rw [ht]; exact hP, va_K.moved hW.alike hK⟩, hS.F ht⟩) hS.2.2 dX7_day_35
    · -- ifne not taken
      refine lv_aload_n hx hb dX7_day_30 rfl (lv_at hl 0 rfl) ?_
      refine lv_iload_n hx hb dX7_day_31 rfl (lv_at hl 1 rfl) ?_
      refine pp_put (D := G) (ci := 7) (v := .int a0) (ty := .int) (C := RX7) (T := TX7) (N := 33) hx hb hg hinX7 tyX7 tyX7_ok nmX7 hown hK hP (mm_D hJ) hS 0 ml_obj rfl 18 (by decide) (hg _ qF_X7_123) (fun _ h9 => h9) rfl (by decide +kernel) rfl rfl (Nat.le_of_ble_eq_true rfl) (ms_today) dX7_day_32 (fun H locs hP hS => ?_)
      obtain ⟨σ2, eσ2⟩ : ∃ z, z = up σ1 18 0 a0 := ⟨_, rfl⟩
      rw [← eσ2] at hP
      exact W.vret hx hb hr (fun t ht hW => ⟨⟨σ2, rfl, by subst eσ1 eσ2; simp only [m_dayS, if_pos c_27], by rw [ht]; exact hP, va_K.moved hW.alike hK⟩, hS.F ht⟩) hS.2.2 dX7_day_35
  · -- to the cut
    refine lv_aload_n hx hb dX7_day_0 rfl (lv_at hl 0 rfl) ?_
    refine lv_iload_n hx hb dX7_day_1 rfl (lv_at hl 1 rfl) ?_
    refine lv_aload_n hx hb dX7_day_2 rfl (lv_at hl 0 rfl) ?_
    refine va_get (D := G) (ci := 7) (v := .int (σ 18 0)) (C := RX7) (T := TX7) (N := 33) hx hb hg hinX7 hown hK hP 0 ml_obj rfl 18 (by decide) (hg _ qF_X7_123) (fun _ h9 => h9) rfl dX7_day_3 ?_
    refine lv_sipush (v := 399) hx hb dX7_day_6 (by decide) ?_
    refine vp_callSi (W.runS (As := [.int a0, .int (σ 18 0), .int 399]) (rest := [.ref (ad 0)]) ⟨hx, hb, hml, hown, hg⟩ (m_ReplenishRulesModel_in l a0 (σ 18 0) 399) (cwS 3 hg (gS qM_X7_102 qT_X7_in qN_X7 kX7_in) rfl rfl rfl (by decide +kernel) ⟨Nat.le_of_ble_eq_true rfl, Nat.le_of_ble_eq_true rfl⟩) ⟨fun _ _ _ _ q => q, fun _ _ _ => ⟨rfl, trivial⟩⟩ rfl rfl hl.1 rfl (lv_room (Nat.le_of_ble_eq_true rfl)) dX7_day_9 ⟨Nat.le_of_ble_eq_true rfl, Nat.le_of_ble_eq_true rfl⟩) (nm_e ?_)
    refine lv_if_eq (tgt := 19) hx hb dX7_day_12 (by decide) (fun c_12 => ?_) (fun c_12 => ?_)
    · -- ifeq taken
      refine lv_iconst (v := 1) hx hb dX7_day_19 (by decide) ?_
      exact lp_topi (show m_dayT σ a0 = 1 from by simp only [m_dayT, if_pos c_12]) (hcut20 ls (lv_sub hl [0, 1] rfl))
    · -- ifeq not taken
      refine lv_iconst (v := 0) hx hb dX7_day_15 (by decide) ?_
      refine lv_goto (tgt := 20) hx hb dX7_day_16 (by decide) ?_
      exact lp_topi (show m_dayT σ a0 = 0 from by simp only [m_dayT, if_neg c_12]) (hcut20 ls (lv_sub hl [0, 1] rfl))

set_option maxHeartbeats 4000000 in
set_option maxRecDepth 100000 in
theorem m_ReplenishRulesModel_sum (l : Launch) (G : va_G) (cA : Nat → ClassId) (ad : Nat → Nat) (σ : St) (hI : MInv σ) (a0 : Int32) (b0 : Int32) (c0 : Int32) (hp0 : vp_in a0 16) (hp1 : ¬ b0 < 0) : Met l yX7_sum (wX7_sum :: wG) ({ frames := 0, cells := 0, slots := 0, locals := 0 }) (va_Pc [.ref (ad 0), .int a0, .int b0, .int c0] (mmW G cA ad σ)) (vp_Si (fun r => r = m_sum σ a0 b0 c0)) 0 0 (fun _ => False) := by
  refine Met.ofW (cc := cX7_sum) (maxL := 6) (ret := (some .int)) (by decide) rfl ?_
  intro p e s m args below meth c s₁ B hml hv
  obtain ⟨rfl, hP, hK⟩ := hv
  have hx := B.exec
  have hb := B.bytes
  have hr := B.returns
  have hts := atoms_spec (ws := wX7_sum :: wG) B.pre
  have hg : ∀ w ∈ wG, w.before _ s = true := fun w h => hts w (List.mem_cons_of_mem _ h)
  have hown : s.vm.findClass RX7 = some m.cls := findClass_of_methodNamed B.named
  have hlocks := B.notSynchronized
  have hl := lv_entry ([.ref (ad 0), .int a0, .int b0, .int c0]) (n := 6) (Nat.le_of_ble_eq_true rfl)
  rw [lg_entry_eq]
  generalize (lg_sl ([.ref (ad 0), .int a0, .int b0, .int c0]) ++ List.replicate (6 - (lg_sl ([.ref (ad 0), .int a0, .int b0, .int c0])).length) Slot.unset).toArray = ls at hl ⊢
  have hl : lv_has ls 6 [(0, .ref (ad 0)), (1, .int a0), (2, .int b0), (3, .int c0)] := hl
  refine lv_iconst (v := 0) hx hb dX7_sum_0 (by decide) ?_
  refine lv_istore (lv' := [(4, .int 0), (0, .ref (ad 0)), (1, .int a0), (2, .int b0), (3, .int c0)]) hx hb dX7_sum_1 hl (by decide) rfl (fun ls hl => ?_)
  refine lv_aload_n hx hb dX7_sum_3 rfl (lv_at hl 1 rfl) ?_
  refine va_get (D := G) (ci := 7) (v := .int (σ 18 0)) (C := RX7) (T := TX7) (N := 33) hx hb hg hinX7 hown hK hP 0 ml_obj rfl 18 (by decide) (hg _ qF_X7_123) (fun _ h9 => h9) rfl dX7_sum_4 ?_
  refine lv_iconst (v := 1) hx hb dX7_sum_7 (by decide) ?_
  refine lv_isub hx hb dX7_sum_8 ?_
  refine lv_topi (fun y_9 ey_9 => ?_)
  obtain rfl : y_9 = m_d σ 0 := ey_9.trans (m_d_0.symm)
  refine lv_istore (lv' := [(5, .int (m_d σ 0)), (4, .int 0), (0, .ref (ad 0)), (1, .int a0), (2, .int b0), (3, .int c0)]) hx hb dX7_sum_9 hl (by decide) rfl (fun ls hl => ?_)
  refine lp_ro (f := m_sumF σ a0 c0) (t := m_cnt σ b0) (nL := 6) (fun k a => [(5, .int (m_d σ k)), (4, .int a), (0, .ref (ad 0)), (1, .int a0), (2, .int b0), (3, .int c0)]) (m_cnt σ b0) 0 0 (Nat.zero_add _) ?_ ?_ ls (lv_sub hl [0, 1, 2, 3, 4, 5] rfl)
  · intro k a hk IH ls hl
    have hl : lv_has ls 6 [(5, .int (m_d σ k)), (4, .int a), (0, .ref (ad 0)), (1, .int a0), (2, .int b0), (3, .int c0)] := hl
    refine lv_iload hx hb dX7_sum_11 (lv_at hl 0 rfl) ?_
    refine lv_if_lt (tgt := 69) hx hb dX7_sum_13 (by decide) (fun c_13 => ?_) (fun c_13 => ?_)
    · -- iflt taken
      exact absurd c_13 (m_d_pos (minv_today hI) hk)
    · -- iflt not taken
      refine lv_iload hx hb dX7_sum_16 (lv_at hl 0 rfl) ?_
      refine lv_aload_n hx hb dX7_sum_18 rfl (lv_at hl 2 rfl) ?_
      refine va_get (D := G) (ci := 7) (v := .int (σ 18 0)) (C := RX7) (T := TX7) (N := 33) hx hb hg hinX7 hown hK hP 0 ml_obj rfl 18 (by decide) (hg _ qF_X7_123) (fun _ h9 => h9) rfl dX7_sum_19 ?_
      refine lv_iload_n hx hb dX7_sum_22 rfl (lv_at hl 4 rfl) ?_
      refine lv_isub hx hb dX7_sum_23 ?_
      refine lv_icmp_lt (tgt := 69) hx hb dX7_sum_24 (by decide) (fun c_24 => ?_) (fun c_24 => ?_)
      · -- if_icmplt taken
        exact absurd c_24 (m_d_ge (minv_today hI) hp1 hk)
      · -- if_icmplt not taken
        refine lv_iload hx hb dX7_sum_27 (lv_at hl 1 rfl) ?_
        refine lv_iload_n hx hb dX7_sum_29 rfl (lv_at hl 5 rfl) ?_
        refine lv_if_eq (tgt := 47) hx hb dX7_sum_30 (by decide) (fun c_30 => ?_) (fun c_30 => ?_)
        · -- ifeq taken
          refine lv_aload_n hx hb dX7_sum_47 rfl (lv_at hl 2 rfl) ?_
          refine va_get (D := G) (ci := 7) (v := .ref (ad 12)) (C := RX7) (T := TX7) (N := 33) hx hb hg hinX7 hown hK hP 0 ml_obj rfl 12 (by decide) (hg _ qF_X7_44) (fun _ h9 => h9) rfl dX7_sum_48 ?_
          refine lv_sipush (v := 400) hx hb dX7_sum_51 (by decide) ?_
          refine lv_iload_n hx hb dX7_sum_54 rfl (lv_at hl 3 rfl) ?_
          refine lv_imul hx hb dX7_sum_55 ?_
          refine lv_iload hx hb dX7_sum_56 (lv_at hl 0 rfl) ?_
          refine lv_iadd hx hb dX7_sum_58 ?_
          refine va_iald hx hb hK hP 12 0 ml_used rfl (mix_in hp0 (m_d_in (minv_today hI) hk)) dX7_sum_59 ?_
          refine lv_iadd hx hb dX7_sum_60 ?_
          refine lv_istore (lv' := [(4, .int (a + (σ 12 (nx ((400 * a0) + (m_d σ k)))))), (5, .int (m_d σ k)), (0, .ref (ad 0)), (1, .int a0), (2, .int b0), (3, .int c0)]) hx hb dX7_sum_61 hl (by decide) rfl (fun ls hl => ?_)
          refine lv_iinc (v := m_d σ (k + 1)) (lv' := [(5, .int (m_d σ (k + 1))), (4, .int (a + (σ 12 (nx ((400 * a0) + (m_d σ k)))))), (0, .ref (ad 0)), (1, .int a0), (2, .int b0), (3, .int c0)]) hx hb dX7_sum_63 hl (k := 1) rfl m_d_1 (by decide) rfl (fun ls hl => ?_)
          refine lv_goto (tgt := 11) hx hb dX7_sum_66 (by decide) ?_
          refine IH ls ?_
          show lv_has ls 6 [(5, .int (m_d σ (k + 1))), (4, .int ((m_sumF σ a0 c0) k a)), (0, .ref (ad 0)), (1, .int a0), (2, .int b0), (3, .int c0)]
          rw [show (m_sumF σ a0 c0) k a = a + (σ 12 (nx ((400 * a0) + (m_d σ k)))) from by simp only [m_sumF, if_neg c_13, if_neg c_24, if_pos c_30]]
          exact lv_sub hl [0, 1, 2, 3, 4, 5] rfl
        · -- ifeq not taken
          refine lv_aload_n hx hb dX7_sum_33 rfl (lv_at hl 2 rfl) ?_
          refine va_get (D := G) (ci := 7) (v := .ref (ad 11)) (C := RX7) (T := TX7) (N := 33) hx hb hg hinX7 hown hK hP 0 ml_obj rfl 11 (by decide) (hg _ qF_X7_41) (fun _ h9 => h9) rfl dX7_sum_34 ?_
          refine lv_iload hx hb dX7_sum_37 (lv_at hl 0 rfl) ?_
          refine va_zald hx hb hK hP 11 1 ml_closed rfl (m_d_in (minv_today hI) hk) dX7_sum_39 ?_
          refine lv_if_eq (tgt := 47) hx hb dX7_sum_40 (by decide) (fun c_40 => ?_) (fun c_40 => ?_)
          · -- ifeq taken
            refine lv_aload_n hx hb dX7_sum_47 rfl (lv_at hl 2 rfl) ?_
            refine va_get (D := G) (ci := 7) (v := .ref (ad 12)) (C := RX7) (T := TX7) (N := 33) hx hb hg hinX7 hown hK hP 0 ml_obj rfl 12 (by decide) (hg _ qF_X7_44) (fun _ h9 => h9) rfl dX7_sum_48 ?_
            refine lv_sipush (v := 400) hx hb dX7_sum_51 (by decide) ?_
            refine lv_iload_n hx hb dX7_sum_54 rfl (lv_at hl 3 rfl) ?_
            refine lv_imul hx hb dX7_sum_55 ?_
            refine lv_iload hx hb dX7_sum_56 (lv_at hl 0 rfl) ?_
            refine lv_iadd hx hb dX7_sum_58 ?_
            refine va_iald hx hb hK hP 12 0 ml_used rfl (mix_in hp0 (m_d_in (minv_today hI) hk)) dX7_sum_59 ?_
            refine lv_iadd hx hb dX7_sum_60 ?_
            refine lv_istore (lv' := [(4, .int (a + (σ 12 (nx ((400 * a0) + (m_d σ k)))))), (5, .int (m_d σ k)), (0, .ref (ad 0)), (1, .int a0), (2, .int b0), (3, .int c0)]) hx hb dX7_sum_61 hl (by decide) rfl (fun ls hl => ?_)
            refine lv_iinc (v := m_d σ (k + 1)) (lv' := [(5, .int (m_d σ (k + 1))), (4, .int (a + (σ 12 (nx ((400 * a0) + (m_d σ k)))))), (0, .ref (ad 0)), (1, .int a0), (2, .int b0), (3, .int c0)]) hx hb dX7_sum_63 hl (k := 1) rfl m_d_1 (by decide) rfl (fun ls hl => ?_)
            refine lv_goto (tgt := 11) hx hb dX7_sum_66 (by decide) ?_
            refine IH ls ?_
            show lv_has ls 6 [(5, .int (m_d σ (k + 1))), (4, .int ((m_sumF σ a0 c0) k a)), (0, .ref (ad 0)), (1, .int a0), (2, .int b0), (3, .int c0)]
            rw [show (m_sumF σ a0 c0) k a = a + (σ 12 (nx ((400 * a0) + (m_d σ k)))) from by simp only [m_sumF, if_neg c_13, if_neg c_24, if_neg c_30, if_pos c_40]]
            exact lv_sub hl [0, 1, 2, 3, 4, 5] rfl
          · -- ifeq not taken
            refine lv_iconst (v := 0) hx hb dX7_sum_43 (by decide) ?_
            refine lv_goto (tgt := 60) hx hb dX7_sum_44 (by decide) ?_
            refine lv_iadd hx hb dX7_sum_60 ?_
            refine lv_istore (lv' := [(4, .int (a + 0)), (5, .int (m_d σ k)), (0, .ref (ad 0)), (1, .int a0), (2, .int b0), (3, .int c0)]) hx hb dX7_sum_61 hl (by decide) rfl (fun ls hl => ?_)
            refine lv_iinc (v := m_d σ (k + 1)) (lv' := [(5, .int (m_d σ (k + 1))), (4, .int (a + 0)), (0, .ref (ad 0)), (1, .int a0), (2, .int b0), (3, .int c0)]) hx hb dX7_sum_63 hl (k := 1) rfl m_d_1 (by decide) rfl (fun ls hl => ?_)
            refine lv_goto (tgt := 11) hx hb dX7_sum_66 (by decide) ?_
            refine IH ls ?_
            show lv_has ls 6 [(5, .int (m_d σ (k + 1))), (4, .int ((m_sumF σ a0 c0) k a)), (0, .ref (ad 0)), (1, .int a0), (2, .int b0), (3, .int c0)]
            rw [show (m_sumF σ a0 c0) k a = a + 0 from by simp only [m_sumF, if_neg c_13, if_neg c_24, if_neg c_30, if_neg c_40]]
            exact lv_sub hl [0, 1, 2, 3, 4, 5] rfl
  · intro ls hl
    have hl : lv_has ls 6 [(5, .int (m_d σ (m_cnt σ b0))), (4, .int (foldN (m_sumF σ a0 c0) (m_cnt σ b0) 0 0)), (0, .ref (ad 0)), (1, .int a0), (2, .int b0), (3, .int c0)] := hl
    refine lv_iload hx hb dX7_sum_11 (lv_at hl 0 rfl) ?_
    refine lv_if_lt (tgt := 69) hx hb dX7_sum_13 (by decide) (fun c_13 => ?_) (fun c_13 => ?_)
    · -- iflt taken
      refine lv_iload hx hb dX7_sum_69 (lv_at hl 1 rfl) ?_
      exact W.iret (v := foldN (m_sumF σ a0 c0) (m_cnt σ b0) 0 0) hx hb hr (fun t ht hW => ⟨_, rfl, rfl, ht⟩) (fun _ h => nomatch h) dX7_sum_71
    · -- iflt not taken
      refine lv_iload hx hb dX7_sum_16 (lv_at hl 0 rfl) ?_
      refine lv_aload_n hx hb dX7_sum_18 rfl (lv_at hl 2 rfl) ?_
      refine va_get (D := G) (ci := 7) (v := .int (σ 18 0)) (C := RX7) (T := TX7) (N := 33) hx hb hg hinX7 hown hK hP 0 ml_obj rfl 18 (by decide) (hg _ qF_X7_123) (fun _ h9 => h9) rfl dX7_sum_19 ?_
      refine lv_iload_n hx hb dX7_sum_22 rfl (lv_at hl 4 rfl) ?_
      refine lv_isub hx hb dX7_sum_23 ?_
      refine lv_icmp_lt (tgt := 69) hx hb dX7_sum_24 (by decide) (fun c_24 => ?_) (fun c_24 => ?_)
      · -- if_icmplt taken
        refine lv_iload hx hb dX7_sum_69 (lv_at hl 1 rfl) ?_
        exact W.iret (v := foldN (m_sumF σ a0 c0) (m_cnt σ b0) 0 0) hx hb hr (fun t ht hW => ⟨_, rfl, rfl, ht⟩) (fun _ h => nomatch h) dX7_sum_71
      · -- if_icmplt not taken
        exact absurd (m_d_end (minv_today hI) hp1 c_13) c_24
