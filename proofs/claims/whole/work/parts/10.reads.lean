set_option maxHeartbeats 4000000 in
set_option maxRecDepth 100000 in
theorem m_Place_isFace (l : Launch) (G : va_G) (cA : Nat → ClassId) (ad : Nat → Nat) (σ : St) (a0 : Nat) (ha0 : a0 < 16) : Met l yX2_isFace (wX2_isFace :: wG) ({ frames := 0, cells := 0, slots := 0, locals := 0 }) (va_Pc [.ref (ad a0)] (rrW G cA ad σ)) (vp_Si (fun r => r = c_isFace σ a0)) 0 0 (fun _ => False) := by
  refine Met.ofW (cc := cX2_isFace) (maxL := 1) (ret := (some .boolean)) (by decide) rfl ?_
  intro p e s m args below meth c s₁ B hml hv
  obtain ⟨rfl, hP, hK⟩ := hv
  have hx := B.exec
  have hb := B.bytes
  have hr := B.returns
  have hts := atoms_spec (ws := wX2_isFace :: wG) B.pre
  have hg : ∀ w ∈ wG, w.before _ s = true := fun w h => hts w (List.mem_cons_of_mem _ h)
  have hown : s.vm.findClass RX2 = some m.cls := findClass_of_methodNamed B.named
  have hlocks := B.notSynchronized
  have hl := lv_entry ([.ref (ad a0)]) (n := 1) (Nat.le_of_ble_eq_true rfl)
  rw [lg_entry_eq]
  generalize (lg_sl ([.ref (ad a0)]) ++ List.replicate (1 - (lg_sl ([.ref (ad a0)])).length) Slot.unset).toArray = ls at hl ⊢
  have hl : lv_has ls 1 [(0, .ref (ad a0))] := hl
  refine lv_aload_n hx hb dX2_isFace_0 rfl (lv_at hl 0 rfl) ?_
  refine va_get (D := G) (ci := 2) (v := .int (σ 5 a0)) (C := RX2) (T := TX2) (N := 13) hx hb hg hinX2 hown hK hP a0 (rl_Place ha0) rfl 7 (by decide) (hg _ qF_X2_31) (fun _ h9 => h9) rfl dX2_isFace_1 ?_
  refine lv_iconst (v := (-1)) hx hb dX2_isFace_4 (by decide) ?_
  refine lv_icmp_eq (tgt := 12) hx hb dX2_isFace_5 (by decide) (fun c_5 => ?_) (fun c_5 => ?_)
  · -- if_icmpeq taken
    refine lv_iconst (v := 0) hx hb dX2_isFace_12 (by decide) ?_
    exact W.zret (v := 0) (ty := .boolean) hx hb hr (by decide) (fun t ht hW => ⟨_, rfl, by simp only [c_isFace, if_pos c_5], ht⟩) (fun _ h => nomatch h) dX2_isFace_13
  · -- if_icmpeq not taken
    refine lv_iconst (v := 1) hx hb dX2_isFace_8 (by decide) ?_
    refine lv_goto (tgt := 13) hx hb dX2_isFace_9 (by decide) ?_
    exact W.zret (v := 1) (ty := .boolean) hx hb hr (by decide) (fun t ht hW => ⟨_, rfl, by simp only [c_isFace, if_neg c_5], ht⟩) (fun _ h => nomatch h) dX2_isFace_13

set_option maxHeartbeats 4000000 in
set_option maxRecDepth 100000 in
theorem m_Place_isFaceOfAnother (l : Launch) (G : va_G) (cA : Nat → ClassId) (ad : Nat → Nat) (σ : St) (a0 : Nat) (ha0 : a0 < 16) (b0 : Int32) : Met l yX2_isFaceOfAnother (wX2_isFaceOfAnother :: wG) ({ frames := 1, cells := 0, slots := 0, locals := 20 }) (va_Pc [.ref (ad a0), .int b0] (rrW G cA ad σ)) (vp_Si (fun r => r = c_isFaceOfAnother σ a0 b0)) 0 0 (fun _ => False) := by
  refine Met.ofW (cc := cX2_isFaceOfAnother) (maxL := 2) (ret := (some .boolean)) (by decide) rfl ?_
  intro p e s m args below meth c s₁ B hml hv
  obtain ⟨rfl, hP, hK⟩ := hv
  have hx := B.exec
  have hb := B.bytes
  have hr := B.returns
  have hts := atoms_spec (ws := wX2_isFaceOfAnother :: wG) B.pre
  have hg : ∀ w ∈ wG, w.before _ s = true := fun w h => hts w (List.mem_cons_of_mem _ h)
  have hown : s.vm.findClass RX2 = some m.cls := findClass_of_methodNamed B.named
  have hlocks := B.notSynchronized
  have hl := lv_entry ([.ref (ad a0), .int b0]) (n := 2) (Nat.le_of_ble_eq_true rfl)
  rw [lg_entry_eq]
  generalize (lg_sl ([.ref (ad a0), .int b0]) ++ List.replicate (2 - (lg_sl ([.ref (ad a0), .int b0])).length) Slot.unset).toArray = ls at hl ⊢
  have hl : lv_has ls 2 [(0, .ref (ad a0)), (1, .int b0)] := hl
  refine lv_aload_n hx hb dX2_isFaceOfAnother_0 rfl (lv_at hl 0 rfl) ?_
  refine vp_callSi (W.runV (As := []) (rest := []) ⟨hx, hb, hml, hown, hg⟩ (m_Place_isFace l G cA ad σ a0 ha0) (cwV 0 hg (gV qM_X2_52 qI_X2_isFace qS_X2_isFace qN_X2 kX2_isFace) rfl rfl rfl (by decide +kernel) ⟨Nat.le_of_ble_eq_true rfl, Nat.le_of_ble_eq_true rfl⟩) (rr_pv hK hP (va_recv hK hP (ci := 2) (q0 := a0) rfl (rl_Place ha0))) rfl rfl hl.1 rfl (lv_room (Nat.le_of_ble_eq_true rfl)) dX2_isFaceOfAnother_1 ⟨Nat.le_of_ble_eq_true rfl, Nat.le_of_ble_eq_true rfl⟩) (nm_e ?_)
  refine lv_if_eq (tgt := 19) hx hb dX2_isFaceOfAnother_4 (by decide) (fun c_4 => ?_) (fun c_4 => ?_)
  · -- ifeq taken
    refine lv_iconst (v := 0) hx hb dX2_isFaceOfAnother_19 (by decide) ?_
    exact W.zret (v := 0) (ty := .boolean) hx hb hr (by decide) (fun t ht hW => ⟨_, rfl, by simp only [c_isFaceOfAnother, if_pos c_4], ht⟩) (fun _ h => nomatch h) dX2_isFaceOfAnother_20
  · -- ifeq not taken
    refine lv_aload_n hx hb dX2_isFaceOfAnother_7 rfl (lv_at hl 0 rfl) ?_
    refine va_get (D := G) (ci := 2) (v := .int (σ 5 a0)) (C := RX2) (T := TX2) (N := 13) hx hb hg hinX2 hown hK hP a0 (rl_Place ha0) rfl 7 (by decide) (hg _ qF_X2_31) (fun _ h9 => h9) rfl dX2_isFaceOfAnother_8 ?_
    refine lv_iload_n hx hb dX2_isFaceOfAnother_11 rfl (lv_at hl 1 rfl) ?_
    refine lv_icmp_eq (tgt := 19) hx hb dX2_isFaceOfAnother_12 (by decide) (fun c_12 => ?_) (fun c_12 => ?_)
    · -- if_icmpeq taken
      refine lv_iconst (v := 0) hx hb dX2_isFaceOfAnother_19 (by decide) ?_
      exact W.zret (v := 0) (ty := .boolean) hx hb hr (by decide) (fun t ht hW => ⟨_, rfl, by simp only [c_isFaceOfAnother, if_neg c_4, if_pos c_12], ht⟩) (fun _ h => nomatch h) dX2_isFaceOfAnother_20
    · -- if_icmpeq not taken
      refine lv_iconst (v := 1) hx hb dX2_isFaceOfAnother_15 (by decide) ?_
      refine lv_goto (tgt := 20) hx hb dX2_isFaceOfAnother_16 (by decide) ?_
      exact W.zret (v := 1) (ty := .boolean) hx hb hr (by decide) (fun t ht hW => ⟨_, rfl, by simp only [c_isFaceOfAnother, if_neg c_4, if_neg c_12], ht⟩) (fun _ h => nomatch h) dX2_isFaceOfAnother_20

set_option maxHeartbeats 4000000 in
set_option maxRecDepth 100000 in
theorem m_Place_isReserveOf (l : Launch) (G : va_G) (cA : Nat → ClassId) (ad : Nat → Nat) (σ : St) (a0 : Nat) (ha0 : a0 < 16) (b0 : Int32) : Met l yX2_isReserveOf (wX2_isReserveOf :: wG) ({ frames := 1, cells := 0, slots := 0, locals := 20 }) (va_Pc [.ref (ad a0), .int b0] (rrW G cA ad σ)) (vp_Si (fun r => r = c_isReserveOf σ a0 b0)) 0 0 (fun _ => False) := by
  refine Met.ofW (cc := cX2_isReserveOf) (maxL := 2) (ret := (some .boolean)) (by decide) rfl ?_
  intro p e s m args below meth c s₁ B hml hv
  obtain ⟨rfl, hP, hK⟩ := hv
  have hx := B.exec
  have hb := B.bytes
  have hr := B.returns
  have hts := atoms_spec (ws := wX2_isReserveOf :: wG) B.pre
  have hg : ∀ w ∈ wG, w.before _ s = true := fun w h => hts w (List.mem_cons_of_mem _ h)
  have hown : s.vm.findClass RX2 = some m.cls := findClass_of_methodNamed B.named
  have hlocks := B.notSynchronized
  have hl := lv_entry ([.ref (ad a0), .int b0]) (n := 2) (Nat.le_of_ble_eq_true rfl)
  rw [lg_entry_eq]
  generalize (lg_sl ([.ref (ad a0), .int b0]) ++ List.replicate (2 - (lg_sl ([.ref (ad a0), .int b0])).length) Slot.unset).toArray = ls at hl ⊢
  have hl : lv_has ls 2 [(0, .ref (ad a0)), (1, .int b0)] := hl
  refine lv_aload_n hx hb dX2_isReserveOf_0 rfl (lv_at hl 0 rfl) ?_
  refine vp_callSi (W.runV (As := []) (rest := []) ⟨hx, hb, hml, hown, hg⟩ (m_Place_isFace l G cA ad σ a0 ha0) (cwV 0 hg (gV qM_X2_52 qI_X2_isFace qS_X2_isFace qN_X2 kX2_isFace) rfl rfl rfl (by decide +kernel) ⟨Nat.le_of_ble_eq_true rfl, Nat.le_of_ble_eq_true rfl⟩) (rr_pv hK hP (va_recv hK hP (ci := 2) (q0 := a0) rfl (rl_Place ha0))) rfl rfl hl.1 rfl (lv_room (Nat.le_of_ble_eq_true rfl)) dX2_isReserveOf_1 ⟨Nat.le_of_ble_eq_true rfl, Nat.le_of_ble_eq_true rfl⟩) (nm_e ?_)
  refine lv_if_ne (tgt := 19) hx hb dX2_isReserveOf_4 (by decide) (fun c_4 => ?_) (fun c_4 => ?_)
  · -- ifne taken
    refine lv_iconst (v := 0) hx hb dX2_isReserveOf_19 (by decide) ?_
    exact W.zret (v := 0) (ty := .boolean) hx hb hr (by decide) (fun t ht hW => ⟨_, rfl, by simp only [c_isReserveOf, if_neg c_4], ht⟩) (fun _ h => nomatch h) dX2_isReserveOf_20
  · -- ifne not taken
    refine lv_aload_n hx hb dX2_isReserveOf_7 rfl (lv_at hl 0 rfl) ?_
    refine va_get (D := G) (ci := 2) (v := .int (σ 4 a0)) (C := RX2) (T := TX2) (N := 13) hx hb hg hinX2 hown hK hP a0 (rl_Place ha0) rfl 6 (by decide) (hg _ qF_X2_28) (fun _ h9 => h9) rfl dX2_isReserveOf_8 ?_
    refine lv_iload_n hx hb dX2_isReserveOf_11 rfl (lv_at hl 1 rfl) ?_
    refine lv_icmp_ne (tgt := 19) hx hb dX2_isReserveOf_12 (by decide) (fun c_12 => ?_) (fun c_12 => ?_)
    · -- if_icmpne taken
      refine lv_iconst (v := 0) hx hb dX2_isReserveOf_19 (by decide) ?_
      exact W.zret (v := 0) (ty := .boolean) hx hb hr (by decide) (fun t ht hW => ⟨_, rfl, by simp only [c_isReserveOf, if_pos c_4, if_neg c_12], ht⟩) (fun _ h => nomatch h) dX2_isReserveOf_20
    · -- if_icmpne not taken
      refine lv_iconst (v := 1) hx hb dX2_isReserveOf_15 (by decide) ?_
      refine lv_goto (tgt := 20) hx hb dX2_isReserveOf_16 (by decide) ?_
      exact W.zret (v := 1) (ty := .boolean) hx hb hr (by decide) (fun t ht hW => ⟨_, rfl, by simp only [c_isReserveOf, if_pos c_4, if_pos c_12], ht⟩) (fun _ h => nomatch h) dX2_isReserveOf_20

set_option maxHeartbeats 4000000 in
set_option maxRecDepth 100000 in
theorem m_Place_holdsAnother (l : Launch) (G : va_G) (cA : Nat → ClassId) (ad : Nat → Nat) (σ : St) (a0 : Nat) (ha0 : a0 < 16) (b0 : Int32) : Met l yX2_holdsAnother (wX2_holdsAnother :: wG) ({ frames := 0, cells := 0, slots := 0, locals := 0 }) (va_Pc [.ref (ad a0), .int b0] (rrW G cA ad σ)) (vp_Si (fun r => r = c_holdsAnother σ a0 b0)) 0 0 (fun _ => False) := by
  refine Met.ofW (cc := cX2_holdsAnother) (maxL := 2) (ret := (some .boolean)) (by decide) rfl ?_
  intro p e s m args below meth c s₁ B hml hv
  obtain ⟨rfl, hP, hK⟩ := hv
  have hx := B.exec
  have hb := B.bytes
  have hr := B.returns
  have hts := atoms_spec (ws := wX2_holdsAnother :: wG) B.pre
  have hg : ∀ w ∈ wG, w.before _ s = true := fun w h => hts w (List.mem_cons_of_mem _ h)
  have hown : s.vm.findClass RX2 = some m.cls := findClass_of_methodNamed B.named
  have hlocks := B.notSynchronized
  have hl := lv_entry ([.ref (ad a0), .int b0]) (n := 2) (Nat.le_of_ble_eq_true rfl)
  rw [lg_entry_eq]
  generalize (lg_sl ([.ref (ad a0), .int b0]) ++ List.replicate (2 - (lg_sl ([.ref (ad a0), .int b0])).length) Slot.unset).toArray = ls at hl ⊢
  have hl : lv_has ls 2 [(0, .ref (ad a0)), (1, .int b0)] := hl
  refine lv_aload_n hx hb dX2_holdsAnother_0 rfl (lv_at hl 0 rfl) ?_
  refine va_get (D := G) (ci := 2) (v := .int (σ 4 a0)) (C := RX2) (T := TX2) (N := 13) hx hb hg hinX2 hown hK hP a0 (rl_Place ha0) rfl 6 (by decide) (hg _ qF_X2_28) (fun _ h9 => h9) rfl dX2_holdsAnother_1 ?_
  refine lv_iconst (v := (-1)) hx hb dX2_holdsAnother_4 (by decide) ?_
  refine lv_icmp_eq (tgt := 20) hx hb dX2_holdsAnother_5 (by decide) (fun c_5 => ?_) (fun c_5 => ?_)
  · -- if_icmpeq taken
    refine lv_iconst (v := 0) hx hb dX2_holdsAnother_20 (by decide) ?_
    exact W.zret (v := 0) (ty := .boolean) hx hb hr (by decide) (fun t ht hW => ⟨_, rfl, by simp only [c_holdsAnother, if_pos c_5], ht⟩) (fun _ h => nomatch h) dX2_holdsAnother_21
  · -- if_icmpeq not taken
    refine lv_aload_n hx hb dX2_holdsAnother_8 rfl (lv_at hl 0 rfl) ?_
    refine va_get (D := G) (ci := 2) (v := .int (σ 4 a0)) (C := RX2) (T := TX2) (N := 13) hx hb hg hinX2 hown hK hP a0 (rl_Place ha0) rfl 6 (by decide) (hg _ qF_X2_28) (fun _ h9 => h9) rfl dX2_holdsAnother_9 ?_
    refine lv_iload_n hx hb dX2_holdsAnother_12 rfl (lv_at hl 1 rfl) ?_
    refine lv_icmp_eq (tgt := 20) hx hb dX2_holdsAnother_13 (by decide) (fun c_13 => ?_) (fun c_13 => ?_)
    · -- if_icmpeq taken
      refine lv_iconst (v := 0) hx hb dX2_holdsAnother_20 (by decide) ?_
      exact W.zret (v := 0) (ty := .boolean) hx hb hr (by decide) (fun t ht hW => ⟨_, rfl, by simp only [c_holdsAnother, if_neg c_5, if_pos c_13], ht⟩) (fun _ h => nomatch h) dX2_holdsAnother_21
    · -- if_icmpeq not taken
      refine lv_iconst (v := 1) hx hb dX2_holdsAnother_16 (by decide) ?_
      refine lv_goto (tgt := 21) hx hb dX2_holdsAnother_17 (by decide) ?_
      exact W.zret (v := 1) (ty := .boolean) hx hb hr (by decide) (fun t ht hW => ⟨_, rfl, by simp only [c_holdsAnother, if_neg c_5, if_neg c_13], ht⟩) (fun _ h => nomatch h) dX2_holdsAnother_21

set_option maxHeartbeats 4000000 in
set_option maxRecDepth 100000 in
theorem m_Place_space (l : Launch) (G : va_G) (cA : Nat → ClassId) (ad : Nat → Nat) (σ : St) (a0 : Nat) (ha0 : a0 < 16) : Met l yX2_space (wX2_space :: wG) ({ frames := 0, cells := 0, slots := 0, locals := 0 }) (va_Pc [.ref (ad a0)] (rrW G cA ad σ)) (vp_Si (fun r => r = c_space σ a0)) 0 0 (fun _ => False) := by
  refine Met.ofW (cc := cX2_space) (maxL := 1) (ret := (some .int)) (by decide) rfl ?_
  intro p e s m args below meth c s₁ B hml hv
  obtain ⟨rfl, hP, hK⟩ := hv
  have hx := B.exec
  have hb := B.bytes
  have hr := B.returns
  have hts := atoms_spec (ws := wX2_space :: wG) B.pre
  have hg : ∀ w ∈ wG, w.before _ s = true := fun w h => hts w (List.mem_cons_of_mem _ h)
  have hown : s.vm.findClass RX2 = some m.cls := findClass_of_methodNamed B.named
  have hlocks := B.notSynchronized
  have hl := lv_entry ([.ref (ad a0)]) (n := 1) (Nat.le_of_ble_eq_true rfl)
  rw [lg_entry_eq]
  generalize (lg_sl ([.ref (ad a0)]) ++ List.replicate (1 - (lg_sl ([.ref (ad a0)])).length) Slot.unset).toArray = ls at hl ⊢
  have hl : lv_has ls 1 [(0, .ref (ad a0))] := hl
  refine lv_aload_n hx hb dX2_space_0 rfl (lv_at hl 0 rfl) ?_
  refine va_get (D := G) (ci := 2) (v := .int (σ 0 a0)) (C := RX2) (T := TX2) (N := 13) hx hb hg hinX2 hown hK hP a0 (rl_Place ha0) rfl 2 (by decide) (hg _ qF_X2_15) (fun _ h9 => h9) rfl dX2_space_1 ?_
  refine lv_aload_n hx hb dX2_space_4 rfl (lv_at hl 0 rfl) ?_
  refine va_get (D := G) (ci := 2) (v := .int (σ 2 a0)) (C := RX2) (T := TX2) (N := 13) hx hb hg hinX2 hown hK hP a0 (rl_Place ha0) rfl 4 (by decide) (hg _ qF_X2_22) (fun _ h9 => h9) rfl dX2_space_5 ?_
  refine lv_isub hx hb dX2_space_8 ?_
  exact W.iret (v := (σ 0 a0) - (σ 2 a0)) hx hb hr (fun t ht hW => ⟨_, rfl, rfl, ht⟩) (fun _ h => nomatch h) dX2_space_9

set_option maxHeartbeats 4000000 in
set_option maxRecDepth 100000 in
theorem m_Place_notHeld (l : Launch) (G : va_G) (cA : Nat → ClassId) (ad : Nat → Nat) (σ : St) (a0 : Nat) (ha0 : a0 < 16) : Met l yX2_notHeld (wX2_notHeld :: wG) ({ frames := 0, cells := 0, slots := 0, locals := 0 }) (va_Pc [.ref (ad a0)] (rrW G cA ad σ)) (vp_Si (fun r => r = c_notHeld σ a0)) 0 0 (fun _ => False) := by
  refine Met.ofW (cc := cX2_notHeld) (maxL := 1) (ret := (some .int)) (by decide) rfl ?_
  intro p e s m args below meth c s₁ B hml hv
  obtain ⟨rfl, hP, hK⟩ := hv
  have hx := B.exec
  have hb := B.bytes
  have hr := B.returns
  have hts := atoms_spec (ws := wX2_notHeld :: wG) B.pre
  have hg : ∀ w ∈ wG, w.before _ s = true := fun w h => hts w (List.mem_cons_of_mem _ h)
  have hown : s.vm.findClass RX2 = some m.cls := findClass_of_methodNamed B.named
  have hlocks := B.notSynchronized
  have hl := lv_entry ([.ref (ad a0)]) (n := 1) (Nat.le_of_ble_eq_true rfl)
  rw [lg_entry_eq]
  generalize (lg_sl ([.ref (ad a0)]) ++ List.replicate (1 - (lg_sl ([.ref (ad a0)])).length) Slot.unset).toArray = ls at hl ⊢
  have hl : lv_has ls 1 [(0, .ref (ad a0))] := hl
  refine lv_aload_n hx hb dX2_notHeld_0 rfl (lv_at hl 0 rfl) ?_
  refine va_get (D := G) (ci := 2) (v := .int (σ 2 a0)) (C := RX2) (T := TX2) (N := 13) hx hb hg hinX2 hown hK hP a0 (rl_Place ha0) rfl 4 (by decide) (hg _ qF_X2_22) (fun _ h9 => h9) rfl dX2_notHeld_1 ?_
  refine lv_aload_n hx hb dX2_notHeld_4 rfl (lv_at hl 0 rfl) ?_
  refine va_get (D := G) (ci := 2) (v := .int (σ 3 a0)) (C := RX2) (T := TX2) (N := 13) hx hb hg hinX2 hown hK hP a0 (rl_Place ha0) rfl 5 (by decide) (hg _ qF_X2_25) (fun _ h9 => h9) rfl dX2_notHeld_5 ?_
  refine lv_isub hx hb dX2_notHeld_8 ?_
  exact W.iret (v := (σ 2 a0) - (σ 3 a0)) hx hb hr (fun t ht hW => ⟨_, rfl, rfl, ht⟩) (fun _ h => nomatch h) dX2_notHeld_9

set_option maxHeartbeats 4000000 in
set_option maxRecDepth 100000 in
theorem m_Place_free (l : Launch) (G : va_G) (cA : Nat → ClassId) (ad : Nat → Nat) (σ : St) (a0 : Nat) (ha0 : a0 < 16) : Met l yX2_free (wX2_free :: wG) ({ frames := 1, cells := 0, slots := 0, locals := 20 }) (va_Pc [.ref (ad a0)] (rrW G cA ad σ)) (vp_Si (fun r => r = c_free σ a0)) 0 0 (fun _ => False) := by
  refine Met.ofW (cc := cX2_free) (maxL := 1) (ret := (some .int)) (by decide) rfl ?_
  intro p e s m args below meth c s₁ B hml hv
  obtain ⟨rfl, hP, hK⟩ := hv
  have hx := B.exec
  have hb := B.bytes
  have hr := B.returns
  have hts := atoms_spec (ws := wX2_free :: wG) B.pre
  have hg : ∀ w ∈ wG, w.before _ s = true := fun w h => hts w (List.mem_cons_of_mem _ h)
  have hown : s.vm.findClass RX2 = some m.cls := findClass_of_methodNamed B.named
  have hlocks := B.notSynchronized
  have hl := lv_entry ([.ref (ad a0)]) (n := 1) (Nat.le_of_ble_eq_true rfl)
  rw [lg_entry_eq]
  generalize (lg_sl ([.ref (ad a0)]) ++ List.replicate (1 - (lg_sl ([.ref (ad a0)])).length) Slot.unset).toArray = ls at hl ⊢
  have hl : lv_has ls 1 [(0, .ref (ad a0))] := hl
  refine lv_aload_n hx hb dX2_free_0 rfl (lv_at hl 0 rfl) ?_
  refine vp_callSi (W.runV (As := []) (rest := []) ⟨hx, hb, hml, hown, hg⟩ (m_Place_notHeld l G cA ad σ a0 ha0) (cwV 0 hg (gV qM_X2_56 qI_X2_notHeld qS_X2_notHeld qN_X2 kX2_notHeld) rfl rfl rfl (by decide +kernel) ⟨Nat.le_of_ble_eq_true rfl, Nat.le_of_ble_eq_true rfl⟩) (rr_pv hK hP (va_recv hK hP (ci := 2) (q0 := a0) rfl (rl_Place ha0))) rfl rfl hl.1 rfl (lv_room (Nat.le_of_ble_eq_true rfl)) dX2_free_1 ⟨Nat.le_of_ble_eq_true rfl, Nat.le_of_ble_eq_true rfl⟩) (nm_e ?_)
  refine lv_aload_n hx hb dX2_free_4 rfl (lv_at hl 0 rfl) ?_
  refine va_get (D := G) (ci := 2) (v := .int (σ 8 a0)) (C := RX2) (T := TX2) (N := 13) hx hb hg hinX2 hown hK hP a0 (rl_Place ha0) rfl 10 (by decide) (hg _ qF_X2_40) (fun _ h9 => h9) rfl dX2_free_5 ?_
  refine lv_isub hx hb dX2_free_8 ?_
  exact W.iret (v := (c_notHeld σ a0) - (σ 8 a0)) hx hb hr (fun t ht hW => ⟨_, rfl, rfl, ht⟩) (fun _ h => nomatch h) dX2_free_9

set_option maxHeartbeats 4000000 in
set_option maxRecDepth 100000 in
theorem m_Rule_kindOn (l : Launch) (G : va_G) (cA : Nat → ClassId) (ad : Nat → Nat) (σ : St) (a0 : Nat) (ha0 : a0 < 4) (b0 : Int32) : Met l yX4_kindOn (wX4_kindOn :: wG) ({ frames := 0, cells := 0, slots := 0, locals := 0 }) (va_Pc [.ref (ad (32 + a0)), .int b0] (rrW G cA ad σ)) (vp_Si (fun r => r = c_kindOn σ a0 b0)) 0 0 (fun _ => False) := by
  refine Met.ofW (cc := cX4_kindOn) (maxL := 2) (ret := (some .int)) (by decide) rfl ?_
  intro p e s m args below meth c s₁ B hml hv
  obtain ⟨rfl, hP, hK⟩ := hv
  have hx := B.exec
  have hb := B.bytes
  have hr := B.returns
  have hts := atoms_spec (ws := wX4_kindOn :: wG) B.pre
  have hg : ∀ w ∈ wG, w.before _ s = true := fun w h => hts w (List.mem_cons_of_mem _ h)
  have hown : s.vm.findClass RX4 = some m.cls := findClass_of_methodNamed B.named
  have hlocks := B.notSynchronized
  have hl := lv_entry ([.ref (ad (32 + a0)), .int b0]) (n := 2) (Nat.le_of_ble_eq_true rfl)
  rw [lg_entry_eq]
  generalize (lg_sl ([.ref (ad (32 + a0)), .int b0]) ++ List.replicate (2 - (lg_sl ([.ref (ad (32 + a0)), .int b0])).length) Slot.unset).toArray = ls at hl ⊢
  have hl : lv_has ls 2 [(0, .ref (ad (32 + a0))), (1, .int b0)] := hl
  refine lv_iload_n hx hb dX4_kindOn_0 rfl (lv_at hl 1 rfl) ?_
  refine lv_aload_n hx hb dX4_kindOn_1 rfl (lv_at hl 0 rfl) ?_
  refine va_get (D := G) (ci := 4) (v := .int (σ 22 a0)) (C := RX4) (T := TX4) (N := 3) hx hb hg hinX4 hown hK hP (32 + a0) (rl_Rule ha0) rfl 2 (by decide) (hg _ qF_X4_18) (fun _ h9 => h9) rfl dX4_kindOn_2 ?_
  refine lv_icmp_le (tgt := 12) hx hb dX4_kindOn_5 (by decide) (fun c_5 => ?_) (fun c_5 => ?_)
  · -- if_icmple taken
    refine lv_aload_n hx hb dX4_kindOn_12 rfl (lv_at hl 0 rfl) ?_
    refine va_get (D := G) (ci := 4) (v := .int (σ 20 a0)) (C := RX4) (T := TX4) (N := 3) hx hb hg hinX4 hown hK hP (32 + a0) (rl_Rule ha0) rfl 0 (by decide) (hg _ qF_X4_9) (fun _ h9 => h9) rfl dX4_kindOn_13 ?_
    exact W.iret (v := σ 20 a0) hx hb hr (fun t ht hW => ⟨_, rfl, by simp only [c_kindOn, if_pos c_5], ht⟩) (fun _ h => nomatch h) dX4_kindOn_16
  · -- if_icmple not taken
    refine lv_iconst (v := 0) hx hb dX4_kindOn_8 (by decide) ?_
    refine lv_goto (tgt := 16) hx hb dX4_kindOn_9 (by decide) ?_
    exact W.iret (v := 0) hx hb hr (fun t ht hW => ⟨_, rfl, by simp only [c_kindOn, if_neg c_5], ht⟩) (fun _ h => nomatch h) dX4_kindOn_16

set_option maxHeartbeats 4000000 in
set_option maxRecDepth 100000 in
theorem m_Rule_aheadOn (l : Launch) (G : va_G) (cA : Nat → ClassId) (ad : Nat → Nat) (σ : St) (a0 : Nat) (ha0 : a0 < 4) (b0 : Int32) : Met l yX4_aheadOn (wX4_aheadOn :: wG) ({ frames := 0, cells := 0, slots := 0, locals := 0 }) (va_Pc [.ref (ad (32 + a0)), .int b0] (rrW G cA ad σ)) (vp_Si (fun r => r = c_aheadOn σ a0 b0)) 0 0 (fun _ => False) := by
  refine Met.ofW (cc := cX4_aheadOn) (maxL := 2) (ret := (some .int)) (by decide) rfl ?_
  intro p e s m args below meth c s₁ B hml hv
  obtain ⟨rfl, hP, hK⟩ := hv
  have hx := B.exec
  have hb := B.bytes
  have hr := B.returns
  have hts := atoms_spec (ws := wX4_aheadOn :: wG) B.pre
  have hg : ∀ w ∈ wG, w.before _ s = true := fun w h => hts w (List.mem_cons_of_mem _ h)
  have hown : s.vm.findClass RX4 = some m.cls := findClass_of_methodNamed B.named
  have hlocks := B.notSynchronized
  have hl := lv_entry ([.ref (ad (32 + a0)), .int b0]) (n := 2) (Nat.le_of_ble_eq_true rfl)
  rw [lg_entry_eq]
  generalize (lg_sl ([.ref (ad (32 + a0)), .int b0]) ++ List.replicate (2 - (lg_sl ([.ref (ad (32 + a0)), .int b0])).length) Slot.unset).toArray = ls at hl ⊢
  have hl : lv_has ls 2 [(0, .ref (ad (32 + a0))), (1, .int b0)] := hl
  refine lv_iload_n hx hb dX4_aheadOn_0 rfl (lv_at hl 1 rfl) ?_
  refine lv_aload_n hx hb dX4_aheadOn_1 rfl (lv_at hl 0 rfl) ?_
  refine va_get (D := G) (ci := 4) (v := .int (σ 22 a0)) (C := RX4) (T := TX4) (N := 3) hx hb hg hinX4 hown hK hP (32 + a0) (rl_Rule ha0) rfl 2 (by decide) (hg _ qF_X4_18) (fun _ h9 => h9) rfl dX4_aheadOn_2 ?_
  refine lv_icmp_le (tgt := 12) hx hb dX4_aheadOn_5 (by decide) (fun c_5 => ?_) (fun c_5 => ?_)
  · -- if_icmple taken
    refine lv_aload_n hx hb dX4_aheadOn_12 rfl (lv_at hl 0 rfl) ?_
    refine va_get (D := G) (ci := 4) (v := .int (σ 21 a0)) (C := RX4) (T := TX4) (N := 3) hx hb hg hinX4 hown hK hP (32 + a0) (rl_Rule ha0) rfl 1 (by decide) (hg _ qF_X4_15) (fun _ h9 => h9) rfl dX4_aheadOn_13 ?_
    exact W.iret (v := σ 21 a0) hx hb hr (fun t ht hW => ⟨_, rfl, by simp only [c_aheadOn, if_pos c_5], ht⟩) (fun _ h => nomatch h) dX4_aheadOn_16
  · -- if_icmple not taken
    refine lv_iconst (v := 1) hx hb dX4_aheadOn_8 (by decide) ?_
    refine lv_goto (tgt := 16) hx hb dX4_aheadOn_9 (by decide) ?_
    exact W.iret (v := 1) hx hb hr (fun t ht hW => ⟨_, rfl, by simp only [c_aheadOn, if_neg c_5], ht⟩) (fun _ h => nomatch h) dX4_aheadOn_16

set_option maxHeartbeats 4000000 in
set_option maxRecDepth 100000 in
theorem m_Calendar_isOpen (l : Launch) (G : va_G) (cA : Nat → ClassId) (ad : Nat → Nat) (σ : St) (a0 : Int32) (hp0 : vp_in a0 400) : Met l yX0_isOpen (wX0_isOpen :: wG) ({ frames := 0, cells := 0, slots := 0, locals := 0 }) (va_Pc [.ref (ad 72), .int a0] (rrW G cA ad σ)) (vp_Si (fun r => r = c_isOpen σ a0)) 0 0 (fun _ => False) := by
  refine Met.ofW (cc := cX0_isOpen) (maxL := 2) (ret := (some .boolean)) (by decide) rfl ?_
  intro p e s m args below meth c s₁ B hml hv
  obtain ⟨rfl, hP, hK⟩ := hv
  have hx := B.exec
  have hb := B.bytes
  have hr := B.returns
  have hts := atoms_spec (ws := wX0_isOpen :: wG) B.pre
  have hg : ∀ w ∈ wG, w.before _ s = true := fun w h => hts w (List.mem_cons_of_mem _ h)
  have hown : s.vm.findClass RX0 = some m.cls := findClass_of_methodNamed B.named
  have hlocks := B.notSynchronized
  have hl := lv_entry ([.ref (ad 72), .int a0]) (n := 2) (Nat.le_of_ble_eq_true rfl)
  rw [lg_entry_eq]
  generalize (lg_sl ([.ref (ad 72), .int a0]) ++ List.replicate (2 - (lg_sl ([.ref (ad 72), .int a0])).length) Slot.unset).toArray = ls at hl ⊢
  have hl : lv_has ls 2 [(0, .ref (ad 72)), (1, .int a0)] := hl
  refine lv_aload_n hx hb dX0_isOpen_0 rfl (lv_at hl 0 rfl) ?_
  refine va_get (D := G) (ci := 0) (v := .ref (ad 73)) (C := RX0) (T := TX0) (N := 2) hx hb hg hinX0 hown hK hP 72 rl_Calendar rfl 0 (by decide) (hg _ qF_X0_9) (fun _ h9 => h9) rfl dX0_isOpen_1 ?_
  refine lv_iload_n hx hb dX0_isOpen_4 rfl (lv_at hl 1 rfl) ?_
  refine va_zald hx hb hK hP 73 1 rl_closedA rfl hp0 dX0_isOpen_5 ?_
  refine lv_if_ne (tgt := 13) hx hb dX0_isOpen_6 (by decide) (fun c_6 => ?_) (fun c_6 => ?_)
  · -- ifne taken
    refine lv_iconst (v := 0) hx hb dX0_isOpen_13 (by decide) ?_
    exact W.zret (v := 0) (ty := .boolean) hx hb hr (by decide) (fun t ht hW => ⟨_, rfl, by simp only [c_isOpen, if_neg c_6], ht⟩) (fun _ h => nomatch h) dX0_isOpen_14
  · -- ifne not taken
    refine lv_iconst (v := 1) hx hb dX0_isOpen_9 (by decide) ?_
    refine lv_goto (tgt := 14) hx hb dX0_isOpen_10 (by decide) ?_
    exact W.zret (v := 1) (ty := .boolean) hx hb hr (by decide) (fun t ht hW => ⟨_, rfl, by simp only [c_isOpen, if_pos c_6], ht⟩) (fun _ h => nomatch h) dX0_isOpen_14

set_option maxHeartbeats 4000000 in
set_option maxRecDepth 100000 in
theorem m_Calendar_month (l : Launch) (G : va_G) (cA : Nat → ClassId) (ad : Nat → Nat) (σ : St) : Met l yX0_month (wX0_month :: wG) ({ frames := 0, cells := 0, slots := 0, locals := 0 }) (va_Pc [.ref (ad 72)] (rrW G cA ad σ)) (vp_Si (fun r => r = c_month σ)) 0 0 (fun _ => False) := by
  refine Met.ofW (cc := cX0_month) (maxL := 1) (ret := (some .int)) (by decide) rfl ?_
  intro p e s m args below meth c s₁ B hml hv
  obtain ⟨rfl, hP, hK⟩ := hv
  have hx := B.exec
  have hb := B.bytes
  have hr := B.returns
  have hts := atoms_spec (ws := wX0_month :: wG) B.pre
  have hg : ∀ w ∈ wG, w.before _ s = true := fun w h => hts w (List.mem_cons_of_mem _ h)
  have hown : s.vm.findClass RX0 = some m.cls := findClass_of_methodNamed B.named
  have hlocks := B.notSynchronized
  have hl := lv_entry ([.ref (ad 72)]) (n := 1) (Nat.le_of_ble_eq_true rfl)
  rw [lg_entry_eq]
  generalize (lg_sl ([.ref (ad 72)]) ++ List.replicate (1 - (lg_sl ([.ref (ad 72)])).length) Slot.unset).toArray = ls at hl ⊢
  have hl : lv_has ls 1 [(0, .ref (ad 72))] := hl
  refine lv_aload_n hx hb dX0_month_0 rfl (lv_at hl 0 rfl) ?_
  refine va_get (D := G) (ci := 0) (v := .int (σ 40 0)) (C := RX0) (T := TX0) (N := 2) hx hb hg hinX0 hown hK hP 72 rl_Calendar rfl 1 (by decide) (hg _ qF_X0_15) (fun _ h9 => h9) rfl dX0_month_1 ?_
  refine lv_bipush (v := 30) hx hb dX0_month_4 (by decide) ?_
  refine lv_idiv hx hb dX0_month_6 (by decide) ?_
  refine lv_bipush (v := 12) hx hb dX0_month_7 (by decide) ?_
  refine lv_irem hx hb dX0_month_9 (by decide) ?_
  exact W.iret (v := ((σ 40 0) / 30) - ((σ 40 0) / 30) / 12 * 12) hx hb hr (fun t ht hW => ⟨_, rfl, rfl, ht⟩) (fun _ h => nomatch h) dX0_month_10

set_option maxHeartbeats 4000000 in
set_option maxRecDepth 100000 in
theorem m_Calendar_firstOf (l : Launch) (G : va_G) (cA : Nat → ClassId) (ad : Nat → Nat) (σ : St) (a0 : Int32) : Met l yX0_firstOf (wX0_firstOf :: wG) ({ frames := 0, cells := 0, slots := 0, locals := 0 }) (va_Pc [.ref (ad 72), .int a0] (rrW G cA ad σ)) (vp_Si (fun r => r = c_firstOf σ a0)) 0 0 (fun _ => False) := by
  refine Met.ofW (cc := cX0_firstOf) (maxL := 2) (ret := (some .int)) (by decide) rfl ?_
  intro p e s m args below meth c s₁ B hml hv
  obtain ⟨rfl, hP, hK⟩ := hv
  have hx := B.exec
  have hb := B.bytes
  have hr := B.returns
  have hts := atoms_spec (ws := wX0_firstOf :: wG) B.pre
  have hg : ∀ w ∈ wG, w.before _ s = true := fun w h => hts w (List.mem_cons_of_mem _ h)
  have hown : s.vm.findClass RX0 = some m.cls := findClass_of_methodNamed B.named
  have hlocks := B.notSynchronized
  have hl := lv_entry ([.ref (ad 72), .int a0]) (n := 2) (Nat.le_of_ble_eq_true rfl)
  rw [lg_entry_eq]
  generalize (lg_sl ([.ref (ad 72), .int a0]) ++ List.replicate (2 - (lg_sl ([.ref (ad 72), .int a0])).length) Slot.unset).toArray = ls at hl ⊢
  have hl : lv_has ls 2 [(0, .ref (ad 72)), (1, .int a0)] := hl
  refine lv_aload_n hx hb dX0_firstOf_0 rfl (lv_at hl 0 rfl) ?_
  refine va_get (D := G) (ci := 0) (v := .int (σ 40 0)) (C := RX0) (T := TX0) (N := 2) hx hb hg hinX0 hown hK hP 72 rl_Calendar rfl 1 (by decide) (hg _ qF_X0_15) (fun _ h9 => h9) rfl dX0_firstOf_1 ?_
  refine lv_iload_n hx hb dX0_firstOf_4 rfl (lv_at hl 1 rfl) ?_
  refine lv_icmp_le (tgt := 17) hx hb dX0_firstOf_5 (by decide) (fun c_5 => ?_) (fun c_5 => ?_)
  · -- if_icmple taken
    refine lv_iconst (v := 0) hx hb dX0_firstOf_17 (by decide) ?_
    exact W.iret (v := 0) hx hb hr (fun t ht hW => ⟨_, rfl, by simp only [c_firstOf, if_pos c_5], ht⟩) (fun _ h => nomatch h) dX0_firstOf_18
  · -- if_icmple not taken
    refine lv_aload_n hx hb dX0_firstOf_8 rfl (lv_at hl 0 rfl) ?_
    refine va_get (D := G) (ci := 0) (v := .int (σ 40 0)) (C := RX0) (T := TX0) (N := 2) hx hb hg hinX0 hown hK hP 72 rl_Calendar rfl 1 (by decide) (hg _ qF_X0_15) (fun _ h9 => h9) rfl dX0_firstOf_9 ?_
    refine lv_iload_n hx hb dX0_firstOf_12 rfl (lv_at hl 1 rfl) ?_
    refine lv_isub hx hb dX0_firstOf_13 ?_
    refine lv_goto (tgt := 18) hx hb dX0_firstOf_14 (by decide) ?_
    exact W.iret (v := (σ 40 0) - a0) hx hb hr (fun t ht hW => ⟨_, rfl, by simp only [c_firstOf, if_neg c_5], ht⟩) (fun _ h => nomatch h) dX0_firstOf_18

set_option maxHeartbeats 4000000 in
set_option maxRecDepth 100000 in
theorem m_Calendar_openDays (l : Launch) (G : va_G) (cA : Nat → ClassId) (ad : Nat → Nat) (σ : St) (a0 : Int32) (hp0 : vp_in (σ 40 0) 400) (hp1 : ¬ a0 < 0) : Met l yX0_openDays (wX0_openDays :: wG) ({ frames := 1, cells := 0, slots := 0, locals := 21 }) (va_Pc [.ref (ad 72), .int a0] (rrW G cA ad σ)) (vp_Si (fun r => r = c_openDays σ a0)) 0 0 (fun _ => False) := by
  refine Met.ofW (cc := cX0_openDays) (maxL := 4) (ret := (some .int)) (by decide) rfl ?_
  intro p e s m args below meth c s₁ B hml hv
  obtain ⟨rfl, hP, hK⟩ := hv
  have hx := B.exec
  have hb := B.bytes
  have hr := B.returns
  have hts := atoms_spec (ws := wX0_openDays :: wG) B.pre
  have hg : ∀ w ∈ wG, w.before _ s = true := fun w h => hts w (List.mem_cons_of_mem _ h)
  have hown : s.vm.findClass RX0 = some m.cls := findClass_of_methodNamed B.named
  have hlocks := B.notSynchronized
  have hl := lv_entry ([.ref (ad 72), .int a0]) (n := 4) (Nat.le_of_ble_eq_true rfl)
  rw [lg_entry_eq]
  generalize (lg_sl ([.ref (ad 72), .int a0]) ++ List.replicate (4 - (lg_sl ([.ref (ad 72), .int a0])).length) Slot.unset).toArray = ls at hl ⊢
  have hl : lv_has ls 4 [(0, .ref (ad 72)), (1, .int a0)] := hl
  refine lv_iconst (v := 0) hx hb dX0_openDays_0 (by decide) ?_
  refine lv_istore_n (lv' := [(2, .int 0), (0, .ref (ad 72)), (1, .int a0)]) hx hb dX0_openDays_1 rfl hl (by decide) rfl (fun ls hl => ?_)
  refine lv_aload_n hx hb dX0_openDays_2 rfl (lv_at hl 1 rfl) ?_
  refine lv_iload_n hx hb dX0_openDays_3 rfl (lv_at hl 2 rfl) ?_
  refine vp_callSi (W.runV (As := [.int a0]) (rest := []) ⟨hx, hb, hml, hown, hg⟩ (m_Calendar_firstOf l G cA ad σ a0) (cwV 1 hg (gV qM_X0_19 qI_X0_firstOf qS_X0_firstOf qN_X0 kX0_firstOf) rfl rfl rfl (by decide +kernel) ⟨Nat.le_of_ble_eq_true rfl, Nat.le_of_ble_eq_true rfl⟩) (rr_pv hK hP (va_recv hK hP (ci := 0) (q0 := 72) rfl rl_Calendar)) rfl rfl hl.1 rfl (lv_room (Nat.le_of_ble_eq_true rfl)) dX0_openDays_4 ⟨Nat.le_of_ble_eq_true rfl, Nat.le_of_ble_eq_true rfl⟩) (nm_e ?_)
  refine lv_topi (fun y_7 ey_7 => ?_)
  obtain rfl : y_7 = nI (nx (c_firstOf σ a0)) := ey_7.trans ((nI_nx (firstOf_pos (vp_pos hp0) hp1)).symm)
  refine lv_istore_n (lv' := [(3, .int (nI (nx (c_firstOf σ a0)))), (2, .int 0), (0, .ref (ad 72)), (1, .int a0)]) hx hb dX0_openDays_7 rfl hl (by decide) rfl (fun ls hl => ?_)
  refine lp_ro (f := c_openF σ) (t := nx (σ 40 0)) (nL := 4) (fun k a => [(3, .int (nI k)), (2, .int a), (0, .ref (ad 72)), (1, .int a0)]) (nx (σ 40 0) - nx (c_firstOf σ a0)) (nx (c_firstOf σ a0)) 0 (Nat.add_sub_cancel' (firstOf_le (vp_pos hp0) hp1)) ?_ ?_ ls (lv_sub hl [0, 1, 2, 3] rfl)
  · intro k a hk IH ls hl
    have hl : lv_has ls 4 [(3, .int (nI k)), (2, .int a), (0, .ref (ad 72)), (1, .int a0)] := hl
    refine lv_iload_n hx hb dX0_openDays_8 rfl (lv_at hl 0 rfl) ?_
    refine lv_aload_n hx hb dX0_openDays_9 rfl (lv_at hl 2 rfl) ?_
    refine va_get (D := G) (ci := 0) (v := .int (σ 40 0)) (C := RX0) (T := TX0) (N := 2) hx hb hg hinX0 hown hK hP 72 rl_Calendar rfl 1 (by decide) (hg _ qF_X0_15) (fun _ h9 => h9) rfl dX0_openDays_10 ?_
    refine lv_icmp_ge (tgt := 33) hx hb dX0_openDays_13 (by decide) (fun c_13 => ?_) (fun c_13 => ?_)
    · -- if_icmpge taken
      exact absurd c_13 (nx_nle (vp_pos hp0) hk)
    · -- if_icmpge not taken
      refine lv_aload_n hx hb dX0_openDays_16 rfl (lv_at hl 2 rfl) ?_
      refine lv_iload_n hx hb dX0_openDays_17 rfl (lv_at hl 0 rfl) ?_
      refine vp_callSi (W.runV (As := [.int (nI k)]) (rest := []) ⟨hx, hb, hml, hown, hg⟩ (m_Calendar_isOpen l G cA ad σ (nI k) (day_in hp0 hk)) (cwV 1 hg (gV qM_X0_23 qI_X0_isOpen qS_X0_isOpen qN_X0 kX0_isOpen) rfl rfl rfl (by decide +kernel) ⟨Nat.le_of_ble_eq_true rfl, Nat.le_of_ble_eq_true rfl⟩) (rr_pv hK hP (va_recv hK hP (ci := 0) (q0 := 72) rfl rl_Calendar)) rfl rfl hl.1 rfl (lv_room (Nat.le_of_ble_eq_true rfl)) dX0_openDays_18 ⟨Nat.le_of_ble_eq_true rfl, Nat.le_of_ble_eq_true rfl⟩) (nm_e ?_)
      refine lv_if_eq (tgt := 27) hx hb dX0_openDays_21 (by decide) (fun c_21 => ?_) (fun c_21 => ?_)
      · -- ifeq taken
        refine lv_iinc (v := nI (k + 1)) (lv' := [(3, .int (nI (k + 1))), (2, .int a), (0, .ref (ad 72)), (1, .int a0)]) hx hb dX0_openDays_27 hl (k := 0) rfl (nI_1 k) (by decide) rfl (fun ls hl => ?_)
        refine lv_goto (tgt := 8) hx hb dX0_openDays_30 (by decide) ?_
        refine IH ls ?_
        show lv_has ls 4 [(3, .int (nI (k + 1))), (2, .int ((c_openF σ) k a)), (0, .ref (ad 72)), (1, .int a0)]
        rw [show (c_openF σ) k a = a from by simp only [c_openF, if_neg c_13, if_pos c_21]]
        exact lv_sub hl [0, 1, 2, 3] rfl
      · -- ifeq not taken
        refine lv_iinc (v := a + 1) (lv' := [(2, .int (a + 1)), (3, .int (nI k)), (0, .ref (ad 72)), (1, .int a0)]) hx hb dX0_openDays_24 hl (k := 1) rfl rfl (by decide) rfl (fun ls hl => ?_)
        refine lv_iinc (v := nI (k + 1)) (lv' := [(3, .int (nI (k + 1))), (2, .int (a + 1)), (0, .ref (ad 72)), (1, .int a0)]) hx hb dX0_openDays_27 hl (k := 1) rfl (nI_1 k) (by decide) rfl (fun ls hl => ?_)
        refine lv_goto (tgt := 8) hx hb dX0_openDays_30 (by decide) ?_
        refine IH ls ?_
        show lv_has ls 4 [(3, .int (nI (k + 1))), (2, .int ((c_openF σ) k a)), (0, .ref (ad 72)), (1, .int a0)]
        rw [show (c_openF σ) k a = a + 1 from by simp only [c_openF, if_neg c_13, if_neg c_21]]
        exact lv_sub hl [0, 1, 2, 3] rfl
  · intro ls hl
    have hl : lv_has ls 4 [(3, .int (nI (nx (σ 40 0)))), (2, .int (foldN (c_openF σ) (nx (σ 40 0) - nx (c_firstOf σ a0)) (nx (c_firstOf σ a0)) 0)), (0, .ref (ad 72)), (1, .int a0)] := hl
    refine lv_iload_n hx hb dX0_openDays_8 rfl (lv_at hl 0 rfl) ?_
    refine lv_aload_n hx hb dX0_openDays_9 rfl (lv_at hl 2 rfl) ?_
    refine va_get (D := G) (ci := 0) (v := .int (σ 40 0)) (C := RX0) (T := TX0) (N := 2) hx hb hg hinX0 hown hK hP 72 rl_Calendar rfl 1 (by decide) (hg _ qF_X0_15) (fun _ h9 => h9) rfl dX0_openDays_10 ?_
    refine lv_icmp_ge (tgt := 33) hx hb dX0_openDays_13 (by decide) (fun c_13 => ?_) (fun c_13 => ?_)
    · -- if_icmpge taken
      refine lv_iload_n hx hb dX0_openDays_33 rfl (lv_at hl 1 rfl) ?_
      exact W.iret (v := foldN (c_openF σ) (nx (σ 40 0) - nx (c_firstOf σ a0)) (nx (c_firstOf σ a0)) 0) hx hb hr (fun t ht hW => ⟨_, rfl, rfl, ht⟩) (fun _ h => nomatch h) dX0_openDays_34
    · -- if_icmpge not taken
      exact absurd (nx_le (vp_pos hp0)) c_13

set_option maxHeartbeats 4000000 in
set_option maxRecDepth 100000 in
theorem m_Waves_neededOf (l : Launch) (G : va_G) (cA : Nat → ClassId) (ad : Nat → Nat) (σ : St) (a0 : Int32) (b0 : Int32) (c0 : Int32) (hp0 : ¬ σ 41 0 < 0) (hp1 : nx (σ 41 0) ≤ 30) : Met l yX5_neededOf (wX5_neededOf :: wG) ({ frames := 0, cells := 0, slots := 0, locals := 0 }) (va_Pc [.ref (ad 74), .int a0, .int b0, .int c0] (rrW G cA ad σ)) (vp_Sl (fun r => r = c_neededOf σ a0 b0 c0)) 0 0 (fun _ => False) := by
  refine Met.ofW (cc := cX5_neededOf) (maxL := 7) (ret := (some .long)) (by decide) rfl ?_
  intro p e s m args below meth c s₁ B hml hv
  obtain ⟨rfl, hP, hK⟩ := hv
  have hx := B.exec
  have hb := B.bytes
  have hr := B.returns
  have hts := atoms_spec (ws := wX5_neededOf :: wG) B.pre
  have hg : ∀ w ∈ wG, w.before _ s = true := fun w h => hts w (List.mem_cons_of_mem _ h)
  have hown : s.vm.findClass RX5 = some m.cls := findClass_of_methodNamed B.named
  have hlocks := B.notSynchronized
  have hl := lv_entry ([.ref (ad 74), .int a0, .int b0, .int c0]) (n := 7) (Nat.le_of_ble_eq_true rfl)
  rw [lg_entry_eq]
  generalize (lg_sl ([.ref (ad 74), .int a0, .int b0, .int c0]) ++ List.replicate (7 - (lg_sl ([.ref (ad 74), .int a0, .int b0, .int c0])).length) Slot.unset).toArray = ls at hl ⊢
  have hl : lv_has ls 7 [(0, .ref (ad 74)), (1, .int a0), (2, .int b0), (3, .int c0)] := hl
  refine lv_lconst (v := 0) hx hb dX5_neededOf_0 (by decide) ?_
  refine lv_lstore (lv' := [(4, .long 0), (0, .ref (ad 74)), (1, .int a0), (2, .int b0), (3, .int c0)]) hx hb dX5_neededOf_1 hl (by decide) rfl (fun ls hl => ?_)
  refine lv_iconst (v := 0) hx hb dX5_neededOf_3 (by decide) ?_
  refine lv_topi (fun y_4 ey_4 => ?_)
  obtain rfl : y_4 = nI 0 := ey_4.trans (nI_0.symm)
  refine lv_istore (lv' := [(6, .int (nI 0)), (4, .long 0), (0, .ref (ad 74)), (1, .int a0), (2, .int b0), (3, .int c0)]) hx hb dX5_neededOf_4 hl (by decide) rfl (fun ls hl => ?_)
  refine lp_ro (f := c_needF σ a0 b0 c0) (t := nx (σ 41 0)) (nL := 7) (fun k a => [(6, .int (nI k)), (4, .long a), (0, .ref (ad 74)), (1, .int a0), (2, .int b0), (3, .int c0)]) (nx (σ 41 0)) 0 0 (Nat.zero_add _) ?_ ?_ ls (lv_sub hl [0, 1, 2, 3, 4, 5] rfl)
  · intro k a hk IH ls hl
    have hl : lv_has ls 7 [(6, .int (nI k)), (4, .long a), (0, .ref (ad 74)), (1, .int a0), (2, .int b0), (3, .int c0)] := hl
    refine lv_iload hx hb dX5_neededOf_6 (lv_at hl 0 rfl) ?_
    refine lv_aload_n hx hb dX5_neededOf_8 rfl (lv_at hl 2 rfl) ?_
    refine va_get (D := G) (ci := 5) (v := .int (σ 41 0)) (C := RX5) (T := TX5) (N := 4) hx hb hg hinX5 hown hK hP 74 rl_Waves rfl 3 (by decide) (hg _ qF_X5_21) (fun _ h9 => h9) rfl dX5_neededOf_9 ?_
    refine lv_icmp_ge (tgt := 67) hx hb dX5_neededOf_12 (by decide) (fun c_12 => ?_) (fun c_12 => ?_)
    · -- if_icmpge taken
      exact absurd c_12 (nx_nle hp0 hk)
    · -- if_icmpge not taken
      refine lv_aload_n hx hb dX5_neededOf_15 rfl (lv_at hl 2 rfl) ?_
      refine va_get (D := G) (ci := 5) (v := .ref (ad 75)) (C := RX5) (T := TX5) (N := 4) hx hb hg hinX5 hown hK hP 74 rl_Waves rfl 0 (by decide) (hg _ qF_X5_9) (fun _ h9 => h9) rfl dX5_neededOf_16 ?_
      refine lv_iload hx hb dX5_neededOf_19 (lv_at hl 0 rfl) ?_
      refine va_iald hx hb hK hP 75 0 rl_facesA rfl (vp_in_nI (Nat.lt_of_lt_of_le hk hp1) (by decide)) dX5_neededOf_21 ?_
      refine lv_iload_n hx hb dX5_neededOf_22 rfl (lv_at hl 3 rfl) ?_
      refine lv_icmp_ne (tgt := 61) hx hb dX5_neededOf_23 (by decide) (fun c_23 => ?_) (fun c_23 => ?_)
      · -- if_icmpne taken
        refine lv_iinc (v := nI (k + 1)) (lv' := [(6, .int (nI (k + 1))), (4, .long a), (0, .ref (ad 74)), (1, .int a0), (2, .int b0), (3, .int c0)]) hx hb dX5_neededOf_61 hl (k := 0) rfl (nI_1 k) (by decide) rfl (fun ls hl => ?_)
        refine lv_goto (tgt := 6) hx hb dX5_neededOf_64 (by decide) ?_
        refine IH ls ?_
        show lv_has ls 7 [(6, .int (nI (k + 1))), (4, .long ((c_needF σ a0 b0 c0) k a)), (0, .ref (ad 74)), (1, .int a0), (2, .int b0), (3, .int c0)]
        rw [show (c_needF σ a0 b0 c0) k a = a from by simp only [c_needF, if_neg c_12, if_neg c_23]]
        exact lv_sub hl [0, 1, 2, 3, 4, 5] rfl
      · -- if_icmpne not taken
        refine lv_aload_n hx hb dX5_neededOf_26 rfl (lv_at hl 2 rfl) ?_
        refine va_get (D := G) (ci := 5) (v := .ref (ad 77)) (C := RX5) (T := TX5) (N := 4) hx hb hg hinX5 hown hK hP 74 rl_Waves rfl 2 (by decide) (hg _ qF_X5_18) (fun _ h9 => h9) rfl dX5_neededOf_27 ?_
        refine lv_iload hx hb dX5_neededOf_30 (lv_at hl 0 rfl) ?_
        refine va_iald hx hb hK hP 77 0 rl_daysA rfl (vp_in_nI (Nat.lt_of_lt_of_le hk hp1) (by decide)) dX5_neededOf_32 ?_
        refine lv_iload_n hx hb dX5_neededOf_33 rfl (lv_at hl 4 rfl) ?_
        refine lv_icmp_lt (tgt := 61) hx hb dX5_neededOf_34 (by decide) (fun c_34 => ?_) (fun c_34 => ?_)
        · -- if_icmplt taken
          refine lv_iinc (v := nI (k + 1)) (lv' := [(6, .int (nI (k + 1))), (4, .long a), (0, .ref (ad 74)), (1, .int a0), (2, .int b0), (3, .int c0)]) hx hb dX5_neededOf_61 hl (k := 0) rfl (nI_1 k) (by decide) rfl (fun ls hl => ?_)
          refine lv_goto (tgt := 6) hx hb dX5_neededOf_64 (by decide) ?_
          refine IH ls ?_
          show lv_has ls 7 [(6, .int (nI (k + 1))), (4, .long ((c_needF σ a0 b0 c0) k a)), (0, .ref (ad 74)), (1, .int a0), (2, .int b0), (3, .int c0)]
          rw [show (c_needF σ a0 b0 c0) k a = a from by simp only [c_needF, if_neg c_12, if_pos c_23, if_pos c_34]]
          exact lv_sub hl [0, 1, 2, 3, 4, 5] rfl
        · -- if_icmplt not taken
          refine lv_aload_n hx hb dX5_neededOf_37 rfl (lv_at hl 2 rfl) ?_
          refine va_get (D := G) (ci := 5) (v := .ref (ad 77)) (C := RX5) (T := TX5) (N := 4) hx hb hg hinX5 hown hK hP 74 rl_Waves rfl 2 (by decide) (hg _ qF_X5_18) (fun _ h9 => h9) rfl dX5_neededOf_38 ?_
          refine lv_iload hx hb dX5_neededOf_41 (lv_at hl 0 rfl) ?_
          refine va_iald hx hb hK hP 77 0 rl_daysA rfl (vp_in_nI (Nat.lt_of_lt_of_le hk hp1) (by decide)) dX5_neededOf_43 ?_
          refine lv_iload_n hx hb dX5_neededOf_44 rfl (lv_at hl 5 rfl) ?_
          refine lv_icmp_gt (tgt := 61) hx hb dX5_neededOf_45 (by decide) (fun c_45 => ?_) (fun c_45 => ?_)
          · -- if_icmpgt taken
            refine lv_iinc (v := nI (k + 1)) (lv' := [(6, .int (nI (k + 1))), (4, .long a), (0, .ref (ad 74)), (1, .int a0), (2, .int b0), (3, .int c0)]) hx hb dX5_neededOf_61 hl (k := 0) rfl (nI_1 k) (by decide) rfl (fun ls hl => ?_)
            refine lv_goto (tgt := 6) hx hb dX5_neededOf_64 (by decide) ?_
            refine IH ls ?_
            show lv_has ls 7 [(6, .int (nI (k + 1))), (4, .long ((c_needF σ a0 b0 c0) k a)), (0, .ref (ad 74)), (1, .int a0), (2, .int b0), (3, .int c0)]
            rw [show (c_needF σ a0 b0 c0) k a = a from by simp only [c_needF, if_neg c_12, if_pos c_23, if_neg c_34, if_pos c_45]]
            exact lv_sub hl [0, 1, 2, 3, 4, 5] rfl
          · -- if_icmpgt not taken
            refine lv_lload hx hb dX5_neededOf_48 (lv_at hl 1 rfl) ?_
            refine lv_aload_n hx hb dX5_neededOf_50 rfl (lv_at hl 2 rfl) ?_
            refine va_get (D := G) (ci := 5) (v := .ref (ad 76)) (C := RX5) (T := TX5) (N := 4) hx hb hg hinX5 hown hK hP 74 rl_Waves rfl 1 (by decide) (hg _ qF_X5_15) (fun _ h9 => h9) rfl dX5_neededOf_51 ?_
            refine lv_iload hx hb dX5_neededOf_54 (lv_at hl 0 rfl) ?_
            refine va_iald hx hb hK hP 76 0 rl_wpiecesA rfl (vp_in_nI (Nat.lt_of_lt_of_le hk hp1) (by decide)) dX5_neededOf_56 ?_
            refine lv_i2l (v := (σ 35 (nx (nI k))).toInt64) hx hb dX5_neededOf_57 rfl ?_
            refine lv_ladd hx hb dX5_neededOf_58 ?_
            refine lv_lstore (lv' := [(4, .long (a + ((σ 35 (nx (nI k))).toInt64))), (6, .int (nI k)), (0, .ref (ad 74)), (1, .int a0), (2, .int b0), (3, .int c0)]) hx hb dX5_neededOf_59 hl (by decide) rfl (fun ls hl => ?_)
            refine lv_iinc (v := nI (k + 1)) (lv' := [(6, .int (nI (k + 1))), (4, .long (a + ((σ 35 (nx (nI k))).toInt64))), (0, .ref (ad 74)), (1, .int a0), (2, .int b0), (3, .int c0)]) hx hb dX5_neededOf_61 hl (k := 1) rfl (nI_1 k) (by decide) rfl (fun ls hl => ?_)
            refine lv_goto (tgt := 6) hx hb dX5_neededOf_64 (by decide) ?_
            refine IH ls ?_
            show lv_has ls 7 [(6, .int (nI (k + 1))), (4, .long ((c_needF σ a0 b0 c0) k a)), (0, .ref (ad 74)), (1, .int a0), (2, .int b0), (3, .int c0)]
            rw [show (c_needF σ a0 b0 c0) k a = a + ((σ 35 (nx (nI k))).toInt64) from by simp only [c_needF, if_neg c_12, if_pos c_23, if_neg c_34, if_neg c_45]]
            exact lv_sub hl [0, 1, 2, 3, 4, 5] rfl
  · intro ls hl
    have hl : lv_has ls 7 [(6, .int (nI (nx (σ 41 0)))), (4, .long (foldN (c_needF σ a0 b0 c0) (nx (σ 41 0)) 0 0)), (0, .ref (ad 74)), (1, .int a0), (2, .int b0), (3, .int c0)] := hl
    refine lv_iload hx hb dX5_neededOf_6 (lv_at hl 0 rfl) ?_
    refine lv_aload_n hx hb dX5_neededOf_8 rfl (lv_at hl 2 rfl) ?_
    refine va_get (D := G) (ci := 5) (v := .int (σ 41 0)) (C := RX5) (T := TX5) (N := 4) hx hb hg hinX5 hown hK hP 74 rl_Waves rfl 3 (by decide) (hg _ qF_X5_21) (fun _ h9 => h9) rfl dX5_neededOf_9 ?_
    refine lv_icmp_ge (tgt := 67) hx hb dX5_neededOf_12 (by decide) (fun c_12 => ?_) (fun c_12 => ?_)
    · -- if_icmpge taken
      refine lv_lload hx hb dX5_neededOf_67 (lv_at hl 1 rfl) ?_
      exact W.lret (v := foldN (c_needF σ a0 b0 c0) (nx (σ 41 0)) 0 0) hx hb hr (fun t ht hW => ⟨_, rfl, rfl, ht⟩) (fun _ h => nomatch h) dX5_neededOf_69
    · -- if_icmpge not taken
      exact absurd (nx_le hp0) c_12

set_option maxHeartbeats 4000000 in
set_option maxRecDepth 100000 in
theorem m_Place_tell (l : Launch) (G : va_G) (cA : Nat → ClassId) (ad : Nat → Nat) (σ : St) (a0 : Nat) (ha0 : a0 < 16) (b0 : Int32) : Met l yX2_tell (wX2_tell :: wG) ({ frames := 1, cells := 0, slots := 0, locals := 20 }) (va_Pc [.ref (ad a0), .int b0] (rrW G cA ad σ)) (vp_Si (fun r => r = c_tell σ a0 b0)) 0 0 (fun _ => False) := by
  refine Met.ofW (cc := cX2_tell) (maxL := 2) (ret := (some .int)) (by decide) rfl ?_
  intro p e s m args below meth c s₁ B hml hv
  obtain ⟨rfl, hP, hK⟩ := hv
  have hx := B.exec
  have hb := B.bytes
  have hr := B.returns
  have hts := atoms_spec (ws := wX2_tell :: wG) B.pre
  have hg : ∀ w ∈ wG, w.before _ s = true := fun w h => hts w (List.mem_cons_of_mem _ h)
  have hown : s.vm.findClass RX2 = some m.cls := findClass_of_methodNamed B.named
  have hlocks := B.notSynchronized
  have hl := lv_entry ([.ref (ad a0), .int b0]) (n := 2) (Nat.le_of_ble_eq_true rfl)
  rw [lg_entry_eq]
  generalize (lg_sl ([.ref (ad a0), .int b0]) ++ List.replicate (2 - (lg_sl ([.ref (ad a0), .int b0])).length) Slot.unset).toArray = ls at hl ⊢
  have hl : lv_has ls 2 [(0, .ref (ad a0)), (1, .int b0)] := hl
  refine lv_iload_n hx hb dX2_tell_0 rfl (lv_at hl 1 rfl) ?_
  by_cases c_1_0 : b0 = 0
  · refine lv_tableIn (tgt := 36) hx hb dX2_tell_1 (by rw [c_1_0]; decide) (by rw [c_1_0]; decide) (by rw [c_1_0]; rfl) (by decide) ?_
    refine lv_aload_n hx hb dX2_tell_36 rfl (lv_at hl 0 rfl) ?_
    refine va_get (D := G) (ci := 2) (v := .int (σ 2 a0)) (C := RX2) (T := TX2) (N := 13) hx hb hg hinX2 hown hK hP a0 (rl_Place ha0) rfl 4 (by decide) (hg _ qF_X2_22) (fun _ h9 => h9) rfl dX2_tell_37 ?_
    exact W.iret (v := σ 2 a0) hx hb hr (fun t ht hW => ⟨_, rfl, by simp only [c_tell, if_pos c_1_0], ht⟩) (fun _ h => nomatch h) dX2_tell_40
  by_cases c_1_1 : b0 = 1
  · refine lv_tableIn (tgt := 41) hx hb dX2_tell_1 (by rw [c_1_1]; decide) (by rw [c_1_1]; decide) (by rw [c_1_1]; rfl) (by decide) ?_
    refine lv_aload_n hx hb dX2_tell_41 rfl (lv_at hl 0 rfl) ?_
    refine va_get (D := G) (ci := 2) (v := .int (σ 3 a0)) (C := RX2) (T := TX2) (N := 13) hx hb hg hinX2 hown hK hP a0 (rl_Place ha0) rfl 5 (by decide) (hg _ qF_X2_25) (fun _ h9 => h9) rfl dX2_tell_42 ?_
    exact W.iret (v := σ 3 a0) hx hb hr (fun t ht hW => ⟨_, rfl, by simp only [c_tell, if_neg c_1_0, if_pos c_1_1], ht⟩) (fun _ h => nomatch h) dX2_tell_45
  by_cases c_1_2 : b0 = 2
  · refine lv_tableIn (tgt := 46) hx hb dX2_tell_1 (by rw [c_1_2]; decide) (by rw [c_1_2]; decide) (by rw [c_1_2]; rfl) (by decide) ?_
    refine lv_aload_n hx hb dX2_tell_46 rfl (lv_at hl 0 rfl) ?_
    refine va_get (D := G) (ci := 2) (v := .int (σ 4 a0)) (C := RX2) (T := TX2) (N := 13) hx hb hg hinX2 hown hK hP a0 (rl_Place ha0) rfl 6 (by decide) (hg _ qF_X2_28) (fun _ h9 => h9) rfl dX2_tell_47 ?_
    exact W.iret (v := σ 4 a0) hx hb hr (fun t ht hW => ⟨_, rfl, by simp only [c_tell, if_neg c_1_0, if_neg c_1_1, if_pos c_1_2], ht⟩) (fun _ h => nomatch h) dX2_tell_50
  by_cases c_1_3 : b0 = 3
  · refine lv_tableIn (tgt := 51) hx hb dX2_tell_1 (by rw [c_1_3]; decide) (by rw [c_1_3]; decide) (by rw [c_1_3]; rfl) (by decide) ?_
    refine lv_aload_n hx hb dX2_tell_51 rfl (lv_at hl 0 rfl) ?_
    refine vp_callSi (W.runV (As := []) (rest := []) ⟨hx, hb, hml, hown, hg⟩ (m_Place_isFace l G cA ad σ a0 ha0) (cwV 0 hg (gV qM_X2_52 qI_X2_isFace qS_X2_isFace qN_X2 kX2_isFace) rfl rfl rfl (by decide +kernel) ⟨Nat.le_of_ble_eq_true rfl, Nat.le_of_ble_eq_true rfl⟩) (rr_pv hK hP (va_recv hK hP (ci := 2) (q0 := a0) rfl (rl_Place ha0))) rfl rfl hl.1 rfl (lv_room (Nat.le_of_ble_eq_true rfl)) dX2_tell_52 ⟨Nat.le_of_ble_eq_true rfl, Nat.le_of_ble_eq_true rfl⟩) (nm_e ?_)
    refine lv_if_eq (tgt := 62) hx hb dX2_tell_55 (by decide) (fun c_55 => ?_) (fun c_55 => ?_)
    · -- ifeq taken
      refine lv_iconst (v := 0) hx hb dX2_tell_62 (by decide) ?_
      exact W.iret (v := 0) hx hb hr (fun t ht hW => ⟨_, rfl, by simp only [c_tell, if_neg c_1_0, if_neg c_1_1, if_neg c_1_2, if_pos c_1_3, if_pos c_55], ht⟩) (fun _ h => nomatch h) dX2_tell_63
    · -- ifeq not taken
      refine lv_iconst (v := 1) hx hb dX2_tell_58 (by decide) ?_
      refine lv_goto (tgt := 63) hx hb dX2_tell_59 (by decide) ?_
      exact W.iret (v := 1) hx hb hr (fun t ht hW => ⟨_, rfl, by simp only [c_tell, if_neg c_1_0, if_neg c_1_1, if_neg c_1_2, if_pos c_1_3, if_neg c_55], ht⟩) (fun _ h => nomatch h) dX2_tell_63
  by_cases c_1_4 : b0 = 4
  · refine lv_tableIn (tgt := 64) hx hb dX2_tell_1 (by rw [c_1_4]; decide) (by rw [c_1_4]; decide) (by rw [c_1_4]; rfl) (by decide) ?_
    refine lv_aload_n hx hb dX2_tell_64 rfl (lv_at hl 0 rfl) ?_
    refine va_get (D := G) (ci := 2) (v := .int (σ 6 a0)) (C := RX2) (T := TX2) (N := 13) hx hb hg hinX2 hown hK hP a0 (rl_Place ha0) rfl 8 (by decide) (hg _ qF_X2_34) (fun _ h9 => h9) rfl dX2_tell_65 ?_
    exact W.iret (v := σ 6 a0) hx hb hr (fun t ht hW => ⟨_, rfl, by simp only [c_tell, if_neg c_1_0, if_neg c_1_1, if_neg c_1_2, if_neg c_1_3, if_pos c_1_4], ht⟩) (fun _ h => nomatch h) dX2_tell_68
  refine lv_tableOut (tgt := 69) hx hb dX2_tell_1 (by have z0 := lv_neT c_1_0 (a := 0) rfl; have z1 := lv_neT c_1_1 (a := 1) rfl; have z2 := lv_neT c_1_2 (a := 2) rfl; have z3 := lv_neT c_1_3 (a := 3) rfl; have z4 := lv_neT c_1_4 (a := 4) rfl; omega) (by decide) ?_
  refine lv_aload_n hx hb dX2_tell_69 rfl (lv_at hl 0 rfl) ?_
  refine va_get (D := G) (ci := 2) (v := .int (σ 7 a0)) (C := RX2) (T := TX2) (N := 13) hx hb hg hinX2 hown hK hP a0 (rl_Place ha0) rfl 9 (by decide) (hg _ qF_X2_37) (fun _ h9 => h9) rfl dX2_tell_70 ?_
  exact W.iret (v := σ 7 a0) hx hb hr (fun t ht hW => ⟨_, rfl, by simp only [c_tell, if_neg c_1_0, if_neg c_1_1, if_neg c_1_2, if_neg c_1_3, if_neg c_1_4], ht⟩) (fun _ h => nomatch h) dX2_tell_73

set_option maxHeartbeats 4000000 in
set_option maxRecDepth 100000 in
theorem m_Move_tell (l : Launch) (G : va_G) (cA : Nat → ClassId) (ad : Nat → Nat) (σ : St) (a0 : Nat) (ha0 : a0 < 30) (b0 : Int32) : Met l yX1_tell (wX1_tell :: wG) ({ frames := 0, cells := 0, slots := 0, locals := 0 }) (va_Pc [.ref (ad (36 + a0)), .int b0] (rrW G cA ad σ)) (vp_Si (fun r => r = c_mtell σ a0 b0)) 0 0 (fun _ => False) := by
  refine Met.ofW (cc := cX1_tell) (maxL := 2) (ret := (some .int)) (by decide) rfl ?_
  intro p e s m args below meth c s₁ B hml hv
  obtain ⟨rfl, hP, hK⟩ := hv
  have hx := B.exec
  have hb := B.bytes
  have hr := B.returns
  have hts := atoms_spec (ws := wX1_tell :: wG) B.pre
  have hg : ∀ w ∈ wG, w.before _ s = true := fun w h => hts w (List.mem_cons_of_mem _ h)
  have hown : s.vm.findClass RX1 = some m.cls := findClass_of_methodNamed B.named
  have hlocks := B.notSynchronized
  have hl := lv_entry ([.ref (ad (36 + a0)), .int b0]) (n := 2) (Nat.le_of_ble_eq_true rfl)
  rw [lg_entry_eq]
  generalize (lg_sl ([.ref (ad (36 + a0)), .int b0]) ++ List.replicate (2 - (lg_sl ([.ref (ad (36 + a0)), .int b0])).length) Slot.unset).toArray = ls at hl ⊢
  have hl : lv_has ls 2 [(0, .ref (ad (36 + a0))), (1, .int b0)] := hl
  refine lv_iload_n hx hb dX1_tell_0 rfl (lv_at hl 1 rfl) ?_
  by_cases c_1_0 : b0 = 0
  · refine lv_tableIn (tgt := 40) hx hb dX1_tell_1 (by rw [c_1_0]; decide) (by rw [c_1_0]; decide) (by rw [c_1_0]; rfl) (by decide) ?_
    refine lv_aload_n hx hb dX1_tell_40 rfl (lv_at hl 0 rfl) ?_
    refine va_get (D := G) (ci := 1) (v := .int (σ 50 a0)) (C := RX1) (T := TX1) (N := 7) hx hb hg hinX1 hown hK hP (36 + a0) (rl_Move ha0) rfl 0 (by decide) (hg _ qF_X1_7) (fun _ h9 => h9) rfl dX1_tell_41 ?_
    exact W.iret (v := σ 50 a0) hx hb hr (fun t ht hW => ⟨_, rfl, by simp only [c_mtell, if_pos c_1_0], ht⟩) (fun _ h => nomatch h) dX1_tell_44
  by_cases c_1_1 : b0 = 1
  · refine lv_tableIn (tgt := 45) hx hb dX1_tell_1 (by rw [c_1_1]; decide) (by rw [c_1_1]; decide) (by rw [c_1_1]; rfl) (by decide) ?_
    refine lv_aload_n hx hb dX1_tell_45 rfl (lv_at hl 0 rfl) ?_
    refine va_get (D := G) (ci := 1) (v := .int (σ 51 a0)) (C := RX1) (T := TX1) (N := 7) hx hb hg hinX1 hown hK hP (36 + a0) (rl_Move ha0) rfl 1 (by decide) (hg _ qF_X1_13) (fun _ h9 => h9) rfl dX1_tell_46 ?_
    exact W.iret (v := σ 51 a0) hx hb hr (fun t ht hW => ⟨_, rfl, by simp only [c_mtell, if_neg c_1_0, if_pos c_1_1], ht⟩) (fun _ h => nomatch h) dX1_tell_49
  by_cases c_1_2 : b0 = 2
  · refine lv_tableIn (tgt := 50) hx hb dX1_tell_1 (by rw [c_1_2]; decide) (by rw [c_1_2]; decide) (by rw [c_1_2]; rfl) (by decide) ?_
    refine lv_aload_n hx hb dX1_tell_50 rfl (lv_at hl 0 rfl) ?_
    refine va_get (D := G) (ci := 1) (v := .int (σ 52 a0)) (C := RX1) (T := TX1) (N := 7) hx hb hg hinX1 hown hK hP (36 + a0) (rl_Move ha0) rfl 2 (by decide) (hg _ qF_X1_16) (fun _ h9 => h9) rfl dX1_tell_51 ?_
    exact W.iret (v := σ 52 a0) hx hb hr (fun t ht hW => ⟨_, rfl, by simp only [c_mtell, if_neg c_1_0, if_neg c_1_1, if_pos c_1_2], ht⟩) (fun _ h => nomatch h) dX1_tell_54
  by_cases c_1_3 : b0 = 3
  · refine lv_tableIn (tgt := 55) hx hb dX1_tell_1 (by rw [c_1_3]; decide) (by rw [c_1_3]; decide) (by rw [c_1_3]; rfl) (by decide) ?_
    refine lv_aload_n hx hb dX1_tell_55 rfl (lv_at hl 0 rfl) ?_
    refine va_get (D := G) (ci := 1) (v := .int (σ 53 a0)) (C := RX1) (T := TX1) (N := 7) hx hb hg hinX1 hown hK hP (36 + a0) (rl_Move ha0) rfl 3 (by decide) (hg _ qF_X1_19) (fun _ h9 => h9) rfl dX1_tell_56 ?_
    exact W.iret (v := σ 53 a0) hx hb hr (fun t ht hW => ⟨_, rfl, by simp only [c_mtell, if_neg c_1_0, if_neg c_1_1, if_neg c_1_2, if_pos c_1_3], ht⟩) (fun _ h => nomatch h) dX1_tell_59
  by_cases c_1_4 : b0 = 4
  · refine lv_tableIn (tgt := 60) hx hb dX1_tell_1 (by rw [c_1_4]; decide) (by rw [c_1_4]; decide) (by rw [c_1_4]; rfl) (by decide) ?_
    refine lv_aload_n hx hb dX1_tell_60 rfl (lv_at hl 0 rfl) ?_
    refine va_get (D := G) (ci := 1) (v := .int (σ 54 a0)) (C := RX1) (T := TX1) (N := 7) hx hb hg hinX1 hown hK hP (36 + a0) (rl_Move ha0) rfl 4 (by decide) (hg _ qF_X1_22) (fun _ h9 => h9) rfl dX1_tell_61 ?_
    exact W.iret (v := σ 54 a0) hx hb hr (fun t ht hW => ⟨_, rfl, by simp only [c_mtell, if_neg c_1_0, if_neg c_1_1, if_neg c_1_2, if_neg c_1_3, if_pos c_1_4], ht⟩) (fun _ h => nomatch h) dX1_tell_64
  by_cases c_1_5 : b0 = 5
  · refine lv_tableIn (tgt := 65) hx hb dX1_tell_1 (by rw [c_1_5]; decide) (by rw [c_1_5]; decide) (by rw [c_1_5]; rfl) (by decide) ?_
    refine lv_aload_n hx hb dX1_tell_65 rfl (lv_at hl 0 rfl) ?_
    refine va_get (D := G) (ci := 1) (v := .int (σ 55 a0)) (C := RX1) (T := TX1) (N := 7) hx hb hg hinX1 hown hK hP (36 + a0) (rl_Move ha0) rfl 5 (by decide) (hg _ qF_X1_25) (fun _ h9 => h9) rfl dX1_tell_66 ?_
    refine lv_if_eq (tgt := 76) hx hb dX1_tell_69 (by decide) (fun c_69 => ?_) (fun c_69 => ?_)
    · -- ifeq taken
      refine lv_iconst (v := 0) hx hb dX1_tell_76 (by decide) ?_
      exact W.iret (v := 0) hx hb hr (fun t ht hW => ⟨_, rfl, by simp only [c_mtell, if_neg c_1_0, if_neg c_1_1, if_neg c_1_2, if_neg c_1_3, if_neg c_1_4, if_pos c_1_5, if_pos c_69], ht⟩) (fun _ h => nomatch h) dX1_tell_77
    · -- ifeq not taken
      refine lv_iconst (v := 1) hx hb dX1_tell_72 (by decide) ?_
      refine lv_goto (tgt := 77) hx hb dX1_tell_73 (by decide) ?_
      exact W.iret (v := 1) hx hb hr (fun t ht hW => ⟨_, rfl, by simp only [c_mtell, if_neg c_1_0, if_neg c_1_1, if_neg c_1_2, if_neg c_1_3, if_neg c_1_4, if_pos c_1_5, if_neg c_69], ht⟩) (fun _ h => nomatch h) dX1_tell_77
  refine lv_tableOut (tgt := 78) hx hb dX1_tell_1 (by have z0 := lv_neT c_1_0 (a := 0) rfl; have z1 := lv_neT c_1_1 (a := 1) rfl; have z2 := lv_neT c_1_2 (a := 2) rfl; have z3 := lv_neT c_1_3 (a := 3) rfl; have z4 := lv_neT c_1_4 (a := 4) rfl; have z5 := lv_neT c_1_5 (a := 5) rfl; omega) (by decide) ?_
  refine lv_aload_n hx hb dX1_tell_78 rfl (lv_at hl 0 rfl) ?_
  refine va_get (D := G) (ci := 1) (v := .int (σ 56 a0)) (C := RX1) (T := TX1) (N := 7) hx hb hg hinX1 hown hK hP (36 + a0) (rl_Move ha0) rfl 6 (by decide) (hg _ qF_X1_29) (fun _ h9 => h9) rfl dX1_tell_79 ?_
  refine lv_if_eq (tgt := 89) hx hb dX1_tell_82 (by decide) (fun c_82 => ?_) (fun c_82 => ?_)
  · -- ifeq taken
    refine lv_iconst (v := 0) hx hb dX1_tell_89 (by decide) ?_
    exact W.iret (v := 0) hx hb hr (fun t ht hW => ⟨_, rfl, by simp only [c_mtell, if_neg c_1_0, if_neg c_1_1, if_neg c_1_2, if_neg c_1_3, if_neg c_1_4, if_neg c_1_5, if_pos c_82], ht⟩) (fun _ h => nomatch h) dX1_tell_90
  · -- ifeq not taken
    refine lv_iconst (v := 1) hx hb dX1_tell_85 (by decide) ?_
    refine lv_goto (tgt := 90) hx hb dX1_tell_86 (by decide) ?_
    exact W.iret (v := 1) hx hb hr (fun t ht hW => ⟨_, rfl, by simp only [c_mtell, if_neg c_1_0, if_neg c_1_1, if_neg c_1_2, if_neg c_1_3, if_neg c_1_4, if_neg c_1_5, if_neg c_82], ht⟩) (fun _ h => nomatch h) dX1_tell_90

set_option maxHeartbeats 4000000 in
set_option maxRecDepth 100000 in
theorem m_ReplenishRules_usedOnAllDays (l : Launch) (G : va_G) (cA : Nat → ClassId) (ad : Nat → Nat) (σ : St) (a0 : Nat) (ha0 : a0 < 16) (b0 : Int32) (hp0 : vp_in (σ 40 0) 400) (hp1 : ¬ b0 < 0) : Met l yX6_usedOnAllDays (wX6_usedOnAllDays :: wG) ({ frames := 1, cells := 0, slots := 0, locals := 21 }) (va_Pc [.ref (ad 66), .ref (ad a0), .int b0] (rrW G cA ad σ)) (vp_Sl (fun r => r = c_usedAll σ a0 b0)) 0 0 (fun _ => False) := by
  refine Met.ofW (cc := cX6_usedOnAllDays) (maxL := 6) (ret := (some .long)) (by decide) rfl ?_
  intro p e s m args below meth c s₁ B hml hv
  obtain ⟨rfl, hP, hK⟩ := hv
  have hx := B.exec
  have hb := B.bytes
  have hr := B.returns
  have hts := atoms_spec (ws := wX6_usedOnAllDays :: wG) B.pre
  have hg : ∀ w ∈ wG, w.before _ s = true := fun w h => hts w (List.mem_cons_of_mem _ h)
  have hown : s.vm.findClass RX6 = some m.cls := findClass_of_methodNamed B.named
  have hlocks := B.notSynchronized
  have hl := lv_entry ([.ref (ad 66), .ref (ad a0), .int b0]) (n := 6) (Nat.le_of_ble_eq_true rfl)
  rw [lg_entry_eq]
  generalize (lg_sl ([.ref (ad 66), .ref (ad a0), .int b0]) ++ List.replicate (6 - (lg_sl ([.ref (ad 66), .ref (ad a0), .int b0])).length) Slot.unset).toArray = ls at hl ⊢
  have hl : lv_has ls 6 [(0, .ref (ad 66)), (1, .ref (ad a0)), (2, .int b0)] := hl
  refine lv_lconst (v := 0) hx hb dX6_usedOnAllDays_0 (by decide) ?_
  refine lv_lstore_n (lv' := [(3, .long 0), (0, .ref (ad 66)), (1, .ref (ad a0)), (2, .int b0)]) hx hb dX6_usedOnAllDays_1 rfl hl (by decide) rfl (fun ls hl => ?_)
  refine lv_aload_n hx hb dX6_usedOnAllDays_2 rfl (lv_at hl 1 rfl) ?_
  refine va_get (D := G) (ci := 6) (v := .ref (ad 72)) (C := RX6) (T := TX6) (N := 8) hx hb hg hinX6 hown hK hP 66 rl_main rfl 5 (by decide) (hg _ qF_X6_34) (fun _ h9 => h9) rfl dX6_usedOnAllDays_3 ?_
  refine lv_iload_n hx hb dX6_usedOnAllDays_6 rfl (lv_at hl 3 rfl) ?_
  refine vp_callSi (W.runV (As := [.int b0]) (rest := []) ⟨hx, hb, hml, hown, hg⟩ (m_Calendar_firstOf l G cA ad σ b0) (cwV 1 hg (gV qM_X6_254 qI_X0_firstOf qS_X0_firstOf qN_X0 kX0_firstOf) rfl rfl rfl (by decide +kernel) ⟨Nat.le_of_ble_eq_true rfl, Nat.le_of_ble_eq_true rfl⟩) (rr_pv hK hP (va_recv hK hP (ci := 0) (q0 := 72) rfl rl_Calendar)) rfl rfl hl.1 rfl (lv_room (Nat.le_of_ble_eq_true rfl)) dX6_usedOnAllDays_7 ⟨Nat.le_of_ble_eq_true rfl, Nat.le_of_ble_eq_true rfl⟩) (nm_e ?_)
  refine lv_topi (fun y_10 ey_10 => ?_)
  obtain rfl : y_10 = nI (nx (c_firstOf σ b0)) := ey_10.trans ((nI_nx (firstOf_pos (vp_pos hp0) hp1)).symm)
  refine lv_istore (lv' := [(5, .int (nI (nx (c_firstOf σ b0)))), (3, .long 0), (0, .ref (ad 66)), (1, .ref (ad a0)), (2, .int b0)]) hx hb dX6_usedOnAllDays_10 hl (by decide) rfl (fun ls hl => ?_)
  refine lp_ro (f := c_usedAllF σ a0) (t := nx (σ 40 0)) (nL := 6) (fun k a => [(5, .int (nI k)), (3, .long a), (0, .ref (ad 66)), (1, .ref (ad a0)), (2, .int b0)]) (nx (σ 40 0) - nx (c_firstOf σ b0)) (nx (c_firstOf σ b0)) 0 (Nat.add_sub_cancel' (firstOf_le (vp_pos hp0) hp1)) ?_ ?_ ls (lv_sub hl [0, 1, 2, 3, 4] rfl)
  · intro k a hk IH ls hl
    have hl : lv_has ls 6 [(5, .int (nI k)), (3, .long a), (0, .ref (ad 66)), (1, .ref (ad a0)), (2, .int b0)] := hl
    refine lv_iload hx hb dX6_usedOnAllDays_12 (lv_at hl 0 rfl) ?_
    refine lv_aload_n hx hb dX6_usedOnAllDays_14 rfl (lv_at hl 2 rfl) ?_
    refine va_get (D := G) (ci := 6) (v := .ref (ad 72)) (C := RX6) (T := TX6) (N := 8) hx hb hg hinX6 hown hK hP 66 rl_main rfl 5 (by decide) (hg _ qF_X6_34) (fun _ h9 => h9) rfl dX6_usedOnAllDays_15 ?_
    refine va_get (D := G) (ci := 0) (v := .int (σ 40 0)) (C := RX0) (T := TX0) (N := 2) hx hb hg hinX0 hown hK hP 72 rl_Calendar rfl 1 (by decide) (hg _ qF_X6_125) (fun _ h9 => h9) rfl dX6_usedOnAllDays_18 ?_
    refine lv_icmp_ge (tgt := 41) hx hb dX6_usedOnAllDays_21 (by decide) (fun c_21 => ?_) (fun c_21 => ?_)
    · -- if_icmpge taken
      exact absurd c_21 (nx_nle (vp_pos hp0) hk)
    · -- if_icmpge not taken
      refine lv_lload_n hx hb dX6_usedOnAllDays_24 rfl (lv_at hl 1 rfl) ?_
      refine lv_aload_n hx hb dX6_usedOnAllDays_25 rfl (lv_at hl 3 rfl) ?_
      refine va_get (D := G) (ci := 2) (v := .ref (ad (16 + a0))) (C := RX2) (T := TX2) (N := 13) hx hb hg hinX2 hown hK hP a0 (rl_Place ha0) rfl 1 (by decide) (hg _ qF_X6_122) (fun _ h9 => h9) rfl dX6_usedOnAllDays_26 ?_
      refine lv_iload hx hb dX6_usedOnAllDays_29 (lv_at hl 0 rfl) ?_
      refine va_iald hx hb hK hP (16 + a0) 0 (rl_Used ha0) rfl (day_in hp0 hk) dX6_usedOnAllDays_31 ?_
      refine lv_i2l (v := (σ (100 + a0) (nx (nI k))).toInt64) hx hb dX6_usedOnAllDays_32 rfl ?_
      refine lv_ladd hx hb dX6_usedOnAllDays_33 ?_
      refine lv_lstore_n (lv' := [(3, .long (a + ((σ (100 + a0) (nx (nI k))).toInt64))), (5, .int (nI k)), (0, .ref (ad 66)), (1, .ref (ad a0)), (2, .int b0)]) hx hb dX6_usedOnAllDays_34 rfl hl (by decide) rfl (fun ls hl => ?_)
      refine lv_iinc (v := nI (k + 1)) (lv' := [(5, .int (nI (k + 1))), (3, .long (a + ((σ (100 + a0) (nx (nI k))).toInt64))), (0, .ref (ad 66)), (1, .ref (ad a0)), (2, .int b0)]) hx hb dX6_usedOnAllDays_35 hl (k := 1) rfl (nI_1 k) (by decide) rfl (fun ls hl => ?_)
      refine lv_goto (tgt := 12) hx hb dX6_usedOnAllDays_38 (by decide) ?_
      refine IH ls ?_
      show lv_has ls 6 [(5, .int (nI (k + 1))), (3, .long ((c_usedAllF σ a0) k a)), (0, .ref (ad 66)), (1, .ref (ad a0)), (2, .int b0)]
      rw [show (c_usedAllF σ a0) k a = a + ((σ (100 + a0) (nx (nI k))).toInt64) from by simp only [c_usedAllF, if_neg c_21]]
      exact lv_sub hl [0, 1, 2, 3, 4] rfl
  · intro ls hl
    have hl : lv_has ls 6 [(5, .int (nI (nx (σ 40 0)))), (3, .long (foldN (c_usedAllF σ a0) (nx (σ 40 0) - nx (c_firstOf σ b0)) (nx (c_firstOf σ b0)) 0)), (0, .ref (ad 66)), (1, .ref (ad a0)), (2, .int b0)] := hl
    refine lv_iload hx hb dX6_usedOnAllDays_12 (lv_at hl 0 rfl) ?_
    refine lv_aload_n hx hb dX6_usedOnAllDays_14 rfl (lv_at hl 2 rfl) ?_
    refine va_get (D := G) (ci := 6) (v := .ref (ad 72)) (C := RX6) (T := TX6) (N := 8) hx hb hg hinX6 hown hK hP 66 rl_main rfl 5 (by decide) (hg _ qF_X6_34) (fun _ h9 => h9) rfl dX6_usedOnAllDays_15 ?_
    refine va_get (D := G) (ci := 0) (v := .int (σ 40 0)) (C := RX0) (T := TX0) (N := 2) hx hb hg hinX0 hown hK hP 72 rl_Calendar rfl 1 (by decide) (hg _ qF_X6_125) (fun _ h9 => h9) rfl dX6_usedOnAllDays_18 ?_
    refine lv_icmp_ge (tgt := 41) hx hb dX6_usedOnAllDays_21 (by decide) (fun c_21 => ?_) (fun c_21 => ?_)
    · -- if_icmpge taken
      refine lv_lload_n hx hb dX6_usedOnAllDays_41 rfl (lv_at hl 1 rfl) ?_
      exact W.lret (v := foldN (c_usedAllF σ a0) (nx (σ 40 0) - nx (c_firstOf σ b0)) (nx (c_firstOf σ b0)) 0) hx hb hr (fun t ht hW => ⟨_, rfl, rfl, ht⟩) (fun _ h => nomatch h) dX6_usedOnAllDays_42
    · -- if_icmpge not taken
      exact absurd (nx_le (vp_pos hp0)) c_21

set_option maxHeartbeats 4000000 in
set_option maxRecDepth 100000 in
theorem m_ReplenishRules_usedOnPastDays (l : Launch) (G : va_G) (cA : Nat → ClassId) (ad : Nat → Nat) (σ : St) (a0 : Nat) (ha0 : a0 < 16) (hp0 : vp_in (σ 40 0) 400) : Met l yX6_usedOnPastDays (wX6_usedOnPastDays :: wG) ({ frames := 1, cells := 0, slots := 0, locals := 21 }) (va_Pc [.ref (ad 66), .ref (ad a0)] (rrW G cA ad σ)) (vp_Sl (fun r => r = c_usedPast σ a0)) 0 0 (fun _ => False) := by
  refine Met.ofW (cc := cX6_usedOnPastDays) (maxL := 5) (ret := (some .long)) (by decide) rfl ?_
  intro p e s m args below meth c s₁ B hml hv
  obtain ⟨rfl, hP, hK⟩ := hv
  have hx := B.exec
  have hb := B.bytes
  have hr := B.returns
  have hts := atoms_spec (ws := wX6_usedOnPastDays :: wG) B.pre
  have hg : ∀ w ∈ wG, w.before _ s = true := fun w h => hts w (List.mem_cons_of_mem _ h)
  have hown : s.vm.findClass RX6 = some m.cls := findClass_of_methodNamed B.named
  have hlocks := B.notSynchronized
  have hl := lv_entry ([.ref (ad 66), .ref (ad a0)]) (n := 5) (Nat.le_of_ble_eq_true rfl)
  rw [lg_entry_eq]
  generalize (lg_sl ([.ref (ad 66), .ref (ad a0)]) ++ List.replicate (5 - (lg_sl ([.ref (ad 66), .ref (ad a0)])).length) Slot.unset).toArray = ls at hl ⊢
  have hl : lv_has ls 5 [(0, .ref (ad 66)), (1, .ref (ad a0))] := hl
  refine lv_lconst (v := 0) hx hb dX6_usedOnPastDays_0 (by decide) ?_
  refine lv_lstore_n (lv' := [(2, .long 0), (0, .ref (ad 66)), (1, .ref (ad a0))]) hx hb dX6_usedOnPastDays_1 rfl hl (by decide) rfl (fun ls hl => ?_)
  refine lv_aload_n hx hb dX6_usedOnPastDays_2 rfl (lv_at hl 1 rfl) ?_
  refine va_get (D := G) (ci := 6) (v := .ref (ad 72)) (C := RX6) (T := TX6) (N := 8) hx hb hg hinX6 hown hK hP 66 rl_main rfl 5 (by decide) (hg _ qF_X6_34) (fun _ h9 => h9) rfl dX6_usedOnPastDays_3 ?_
  refine lv_bipush (v := 28) hx hb dX6_usedOnPastDays_6 (by decide) ?_
  refine vp_callSi (W.runV (As := [.int 28]) (rest := []) ⟨hx, hb, hml, hown, hg⟩ (m_Calendar_firstOf l G cA ad σ 28) (cwV 1 hg (gV qM_X6_254 qI_X0_firstOf qS_X0_firstOf qN_X0 kX0_firstOf) rfl rfl rfl (by decide +kernel) ⟨Nat.le_of_ble_eq_true rfl, Nat.le_of_ble_eq_true rfl⟩) (rr_pv hK hP (va_recv hK hP (ci := 0) (q0 := 72) rfl rl_Calendar)) rfl rfl hl.1 rfl (lv_room (Nat.le_of_ble_eq_true rfl)) dX6_usedOnPastDays_8 ⟨Nat.le_of_ble_eq_true rfl, Nat.le_of_ble_eq_true rfl⟩) (nm_e ?_)
  refine lv_topi (fun y_11 ey_11 => ?_)
  obtain rfl : y_11 = nI (nx (c_firstOf σ 28)) := ey_11.trans ((nI_nx (firstOf_pos (vp_pos hp0) (by decide))).symm)
  refine lv_istore (lv' := [(4, .int (nI (nx (c_firstOf σ 28)))), (2, .long 0), (0, .ref (ad 66)), (1, .ref (ad a0))]) hx hb dX6_usedOnPastDays_11 hl (by decide) rfl (fun ls hl => ?_)
  refine lp_ro (f := c_usedPastF σ a0) (t := nx (σ 40 0)) (nL := 5) (fun k a => [(4, .int (nI k)), (2, .long a), (0, .ref (ad 66)), (1, .ref (ad a0))]) (nx (σ 40 0) - nx (c_firstOf σ 28)) (nx (c_firstOf σ 28)) 0 (Nat.add_sub_cancel' (firstOf_le (vp_pos hp0) (by decide))) ?_ ?_ ls (lv_sub hl [0, 1, 2, 3] rfl)
  · intro k a hk IH ls hl
    have hl : lv_has ls 5 [(4, .int (nI k)), (2, .long a), (0, .ref (ad 66)), (1, .ref (ad a0))] := hl
    refine lv_iload hx hb dX6_usedOnPastDays_13 (lv_at hl 0 rfl) ?_
    refine lv_aload_n hx hb dX6_usedOnPastDays_15 rfl (lv_at hl 2 rfl) ?_
    refine va_get (D := G) (ci := 6) (v := .ref (ad 72)) (C := RX6) (T := TX6) (N := 8) hx hb hg hinX6 hown hK hP 66 rl_main rfl 5 (by decide) (hg _ qF_X6_34) (fun _ h9 => h9) rfl dX6_usedOnPastDays_16 ?_
    refine va_get (D := G) (ci := 0) (v := .int (σ 40 0)) (C := RX0) (T := TX0) (N := 2) hx hb hg hinX0 hown hK hP 72 rl_Calendar rfl 1 (by decide) (hg _ qF_X6_125) (fun _ h9 => h9) rfl dX6_usedOnPastDays_19 ?_
    refine lv_icmp_ge (tgt := 54) hx hb dX6_usedOnPastDays_22 (by decide) (fun c_22 => ?_) (fun c_22 => ?_)
    · -- if_icmpge taken
      exact absurd c_22 (nx_nle (vp_pos hp0) hk)
    · -- if_icmpge not taken
      refine lv_aload_n hx hb dX6_usedOnPastDays_25 rfl (lv_at hl 2 rfl) ?_
      refine va_get (D := G) (ci := 6) (v := .ref (ad 72)) (C := RX6) (T := TX6) (N := 8) hx hb hg hinX6 hown hK hP 66 rl_main rfl 5 (by decide) (hg _ qF_X6_34) (fun _ h9 => h9) rfl dX6_usedOnPastDays_26 ?_
      refine lv_iload hx hb dX6_usedOnPastDays_29 (lv_at hl 0 rfl) ?_
      refine vp_callSi (W.runV (As := [.int (nI k)]) (rest := []) ⟨hx, hb, hml, hown, hg⟩ (m_Calendar_isOpen l G cA ad σ (nI k) (day_in hp0 hk)) (cwV 1 hg (gV qM_X6_191 qI_X0_isOpen qS_X0_isOpen qN_X0 kX0_isOpen) rfl rfl rfl (by decide +kernel) ⟨Nat.le_of_ble_eq_true rfl, Nat.le_of_ble_eq_true rfl⟩) (rr_pv hK hP (va_recv hK hP (ci := 0) (q0 := 72) rfl rl_Calendar)) rfl rfl hl.1 rfl (lv_room (Nat.le_of_ble_eq_true rfl)) dX6_usedOnPastDays_31 ⟨Nat.le_of_ble_eq_true rfl, Nat.le_of_ble_eq_true rfl⟩) (nm_e ?_)
      refine lv_if_eq (tgt := 48) hx hb dX6_usedOnPastDays_34 (by decide) (fun c_34 => ?_) (fun c_34 => ?_)
      · -- ifeq taken
        refine lv_iinc (v := nI (k + 1)) (lv' := [(4, .int (nI (k + 1))), (2, .long a), (0, .ref (ad 66)), (1, .ref (ad a0))]) hx hb dX6_usedOnPastDays_48 hl (k := 0) rfl (nI_1 k) (by decide) rfl (fun ls hl => ?_)
        refine lv_goto (tgt := 13) hx hb dX6_usedOnPastDays_51 (by decide) ?_
        refine IH ls ?_
        show lv_has ls 5 [(4, .int (nI (k + 1))), (2, .long ((c_usedPastF σ a0) k a)), (0, .ref (ad 66)), (1, .ref (ad a0))]
        rw [show (c_usedPastF σ a0) k a = a from by simp only [c_usedPastF, if_neg c_22, if_pos c_34]]
        exact lv_sub hl [0, 1, 2, 3] rfl
      · -- ifeq not taken
        refine lv_lload_n hx hb dX6_usedOnPastDays_37 rfl (lv_at hl 1 rfl) ?_
        refine lv_aload_n hx hb dX6_usedOnPastDays_38 rfl (lv_at hl 3 rfl) ?_
        refine va_get (D := G) (ci := 2) (v := .ref (ad (16 + a0))) (C := RX2) (T := TX2) (N := 13) hx hb hg hinX2 hown hK hP a0 (rl_Place ha0) rfl 1 (by decide) (hg _ qF_X6_122) (fun _ h9 => h9) rfl dX6_usedOnPastDays_39 ?_
        refine lv_iload hx hb dX6_usedOnPastDays_42 (lv_at hl 0 rfl) ?_
        refine va_iald hx hb hK hP (16 + a0) 0 (rl_Used ha0) rfl (day_in hp0 hk) dX6_usedOnPastDays_44 ?_
        refine lv_i2l (v := (σ (100 + a0) (nx (nI k))).toInt64) hx hb dX6_usedOnPastDays_45 rfl ?_
        refine lv_ladd hx hb dX6_usedOnPastDays_46 ?_
        refine lv_lstore_n (lv' := [(2, .long (a + ((σ (100 + a0) (nx (nI k))).toInt64))), (4, .int (nI k)), (0, .ref (ad 66)), (1, .ref (ad a0))]) hx hb dX6_usedOnPastDays_47 rfl hl (by decide) rfl (fun ls hl => ?_)
        refine lv_iinc (v := nI (k + 1)) (lv' := [(4, .int (nI (k + 1))), (2, .long (a + ((σ (100 + a0) (nx (nI k))).toInt64))), (0, .ref (ad 66)), (1, .ref (ad a0))]) hx hb dX6_usedOnPastDays_48 hl (k := 1) rfl (nI_1 k) (by decide) rfl (fun ls hl => ?_)
        refine lv_goto (tgt := 13) hx hb dX6_usedOnPastDays_51 (by decide) ?_
        refine IH ls ?_
        show lv_has ls 5 [(4, .int (nI (k + 1))), (2, .long ((c_usedPastF σ a0) k a)), (0, .ref (ad 66)), (1, .ref (ad a0))]
        rw [show (c_usedPastF σ a0) k a = a + ((σ (100 + a0) (nx (nI k))).toInt64) from by simp only [c_usedPastF, if_neg c_22, if_neg c_34]]
        exact lv_sub hl [0, 1, 2, 3] rfl
  · intro ls hl
    have hl : lv_has ls 5 [(4, .int (nI (nx (σ 40 0)))), (2, .long (foldN (c_usedPastF σ a0) (nx (σ 40 0) - nx (c_firstOf σ 28)) (nx (c_firstOf σ 28)) 0)), (0, .ref (ad 66)), (1, .ref (ad a0))] := hl
    refine lv_iload hx hb dX6_usedOnPastDays_13 (lv_at hl 0 rfl) ?_
    refine lv_aload_n hx hb dX6_usedOnPastDays_15 rfl (lv_at hl 2 rfl) ?_
    refine va_get (D := G) (ci := 6) (v := .ref (ad 72)) (C := RX6) (T := TX6) (N := 8) hx hb hg hinX6 hown hK hP 66 rl_main rfl 5 (by decide) (hg _ qF_X6_34) (fun _ h9 => h9) rfl dX6_usedOnPastDays_16 ?_
    refine va_get (D := G) (ci := 0) (v := .int (σ 40 0)) (C := RX0) (T := TX0) (N := 2) hx hb hg hinX0 hown hK hP 72 rl_Calendar rfl 1 (by decide) (hg _ qF_X6_125) (fun _ h9 => h9) rfl dX6_usedOnPastDays_19 ?_
    refine lv_icmp_ge (tgt := 54) hx hb dX6_usedOnPastDays_22 (by decide) (fun c_22 => ?_) (fun c_22 => ?_)
    · -- if_icmpge taken
      refine lv_lload_n hx hb dX6_usedOnPastDays_54 rfl (lv_at hl 1 rfl) ?_
      exact W.lret (v := foldN (c_usedPastF σ a0) (nx (σ 40 0) - nx (c_firstOf σ 28)) (nx (c_firstOf σ 28)) 0) hx hb hr (fun t ht hW => ⟨_, rfl, rfl, ht⟩) (fun _ h => nomatch h) dX6_usedOnPastDays_55
    · -- if_icmpge not taken
      exact absurd (nx_le (vp_pos hp0)) c_22

set_option maxHeartbeats 4000000 in
set_option maxRecDepth 100000 in
theorem m_ReplenishRules_fadingUse (l : Launch) (G : va_G) (cA : Nat → ClassId) (ad : Nat → Nat) (σ : St) (a0 : Nat) (ha0 : a0 < 16) (hp0 : vp_in (σ 40 0) 400) : Met l yX6_fadingUse (wX6_fadingUse :: wG) ({ frames := 1, cells := 0, slots := 0, locals := 21 }) (va_Pc [.ref (ad 66), .ref (ad a0)] (rrW G cA ad σ)) (vp_Sl (fun r => r = c_fade σ a0)) 0 0 (fun _ => False) := by
  refine Met.ofW (cc := cX6_fadingUse) (maxL := 5) (ret := (some .long)) (by decide) rfl ?_
  intro p e s m args below meth c s₁ B hml hv
  obtain ⟨rfl, hP, hK⟩ := hv
  have hx := B.exec
  have hb := B.bytes
  have hr := B.returns
  have hts := atoms_spec (ws := wX6_fadingUse :: wG) B.pre
  have hg : ∀ w ∈ wG, w.before _ s = true := fun w h => hts w (List.mem_cons_of_mem _ h)
  have hown : s.vm.findClass RX6 = some m.cls := findClass_of_methodNamed B.named
  have hlocks := B.notSynchronized
  have hl := lv_entry ([.ref (ad 66), .ref (ad a0)]) (n := 5) (Nat.le_of_ble_eq_true rfl)
  rw [lg_entry_eq]
  generalize (lg_sl ([.ref (ad 66), .ref (ad a0)]) ++ List.replicate (5 - (lg_sl ([.ref (ad 66), .ref (ad a0)])).length) Slot.unset).toArray = ls at hl ⊢
  have hl : lv_has ls 5 [(0, .ref (ad 66)), (1, .ref (ad a0))] := hl
  refine lv_lconst (v := 0) hx hb dX6_fadingUse_0 (by decide) ?_
  refine lv_lstore_n (lv' := [(2, .long 0), (0, .ref (ad 66)), (1, .ref (ad a0))]) hx hb dX6_fadingUse_1 rfl hl (by decide) rfl (fun ls hl => ?_)
  refine lv_aload_n hx hb dX6_fadingUse_2 rfl (lv_at hl 1 rfl) ?_
  refine va_get (D := G) (ci := 6) (v := .ref (ad 72)) (C := RX6) (T := TX6) (N := 8) hx hb hg hinX6 hown hK hP 66 rl_main rfl 5 (by decide) (hg _ qF_X6_34) (fun _ h9 => h9) rfl dX6_fadingUse_3 ?_
  refine lv_bipush (v := 28) hx hb dX6_fadingUse_6 (by decide) ?_
  refine vp_callSi (W.runV (As := [.int 28]) (rest := []) ⟨hx, hb, hml, hown, hg⟩ (m_Calendar_firstOf l G cA ad σ 28) (cwV 1 hg (gV qM_X6_254 qI_X0_firstOf qS_X0_firstOf qN_X0 kX0_firstOf) rfl rfl rfl (by decide +kernel) ⟨Nat.le_of_ble_eq_true rfl, Nat.le_of_ble_eq_true rfl⟩) (rr_pv hK hP (va_recv hK hP (ci := 0) (q0 := 72) rfl rl_Calendar)) rfl rfl hl.1 rfl (lv_room (Nat.le_of_ble_eq_true rfl)) dX6_fadingUse_8 ⟨Nat.le_of_ble_eq_true rfl, Nat.le_of_ble_eq_true rfl⟩) (nm_e ?_)
  refine lv_topi (fun y_11 ey_11 => ?_)
  obtain rfl : y_11 = nI (nx (c_firstOf σ 28)) := ey_11.trans ((nI_nx (firstOf_pos (vp_pos hp0) (by decide))).symm)
  refine lv_istore (lv' := [(4, .int (nI (nx (c_firstOf σ 28)))), (2, .long 0), (0, .ref (ad 66)), (1, .ref (ad a0))]) hx hb dX6_fadingUse_11 hl (by decide) rfl (fun ls hl => ?_)
  refine lp_ro (f := c_fadeF σ a0) (t := nx (σ 40 0)) (nL := 5) (fun k a => [(4, .int (nI k)), (2, .long a), (0, .ref (ad 66)), (1, .ref (ad a0))]) (nx (σ 40 0) - nx (c_firstOf σ 28)) (nx (c_firstOf σ 28)) 0 (Nat.add_sub_cancel' (firstOf_le (vp_pos hp0) (by decide))) ?_ ?_ ls (lv_sub hl [0, 1, 2, 3] rfl)
  · intro k a hk IH ls hl
    have hl : lv_has ls 5 [(4, .int (nI k)), (2, .long a), (0, .ref (ad 66)), (1, .ref (ad a0))] := hl
    refine lv_iload hx hb dX6_fadingUse_13 (lv_at hl 0 rfl) ?_
    refine lv_aload_n hx hb dX6_fadingUse_15 rfl (lv_at hl 2 rfl) ?_
    refine va_get (D := G) (ci := 6) (v := .ref (ad 72)) (C := RX6) (T := TX6) (N := 8) hx hb hg hinX6 hown hK hP 66 rl_main rfl 5 (by decide) (hg _ qF_X6_34) (fun _ h9 => h9) rfl dX6_fadingUse_16 ?_
    refine va_get (D := G) (ci := 0) (v := .int (σ 40 0)) (C := RX0) (T := TX0) (N := 2) hx hb hg hinX0 hown hK hP 72 rl_Calendar rfl 1 (by decide) (hg _ qF_X6_125) (fun _ h9 => h9) rfl dX6_fadingUse_19 ?_
    refine lv_icmp_ge (tgt := 66) hx hb dX6_fadingUse_22 (by decide) (fun c_22 => ?_) (fun c_22 => ?_)
    · -- if_icmpge taken
      exact absurd c_22 (nx_nle (vp_pos hp0) hk)
    · -- if_icmpge not taken
      refine lv_aload_n hx hb dX6_fadingUse_25 rfl (lv_at hl 2 rfl) ?_
      refine va_get (D := G) (ci := 6) (v := .ref (ad 72)) (C := RX6) (T := TX6) (N := 8) hx hb hg hinX6 hown hK hP 66 rl_main rfl 5 (by decide) (hg _ qF_X6_34) (fun _ h9 => h9) rfl dX6_fadingUse_26 ?_
      refine lv_iload hx hb dX6_fadingUse_29 (lv_at hl 0 rfl) ?_
      refine vp_callSi (W.runV (As := [.int (nI k)]) (rest := []) ⟨hx, hb, hml, hown, hg⟩ (m_Calendar_isOpen l G cA ad σ (nI k) (day_in hp0 hk)) (cwV 1 hg (gV qM_X6_191 qI_X0_isOpen qS_X0_isOpen qN_X0 kX0_isOpen) rfl rfl rfl (by decide +kernel) ⟨Nat.le_of_ble_eq_true rfl, Nat.le_of_ble_eq_true rfl⟩) (rr_pv hK hP (va_recv hK hP (ci := 0) (q0 := 72) rfl rl_Calendar)) rfl rfl hl.1 rfl (lv_room (Nat.le_of_ble_eq_true rfl)) dX6_fadingUse_31 ⟨Nat.le_of_ble_eq_true rfl, Nat.le_of_ble_eq_true rfl⟩) (nm_e ?_)
      refine lv_if_eq (tgt := 60) hx hb dX6_fadingUse_34 (by decide) (fun c_34 => ?_) (fun c_34 => ?_)
      · -- ifeq taken
        refine lv_iinc (v := nI (k + 1)) (lv' := [(4, .int (nI (k + 1))), (2, .long a), (0, .ref (ad 66)), (1, .ref (ad a0))]) hx hb dX6_fadingUse_60 hl (k := 0) rfl (nI_1 k) (by decide) rfl (fun ls hl => ?_)
        refine lv_goto (tgt := 13) hx hb dX6_fadingUse_63 (by decide) ?_
        refine IH ls ?_
        show lv_has ls 5 [(4, .int (nI (k + 1))), (2, .long ((c_fadeF σ a0) k a)), (0, .ref (ad 66)), (1, .ref (ad a0))]
        rw [show (c_fadeF σ a0) k a = a from by simp only [c_fadeF, if_neg c_22, if_pos c_34]]
        exact lv_sub hl [0, 1, 2, 3] rfl
      · -- ifeq not taken
        refine lv_ldc2 (v := 7) hx hb hown (hg _ qD_X6_257) dX6_fadingUse_37 ?_
        refine lv_lload_n hx hb dX6_fadingUse_40 rfl (lv_at hl 1 rfl) ?_
        refine lv_lmul hx hb dX6_fadingUse_41 ?_
        refine lv_ldc2 (v := 1000) hx hb hown (hg _ qD_X6_259) dX6_fadingUse_42 ?_
        refine lv_aload_n hx hb dX6_fadingUse_45 rfl (lv_at hl 3 rfl) ?_
        refine va_get (D := G) (ci := 2) (v := .ref (ad (16 + a0))) (C := RX2) (T := TX2) (N := 13) hx hb hg hinX2 hown hK hP a0 (rl_Place ha0) rfl 1 (by decide) (hg _ qF_X6_122) (fun _ h9 => h9) rfl dX6_fadingUse_46 ?_
        refine lv_iload hx hb dX6_fadingUse_49 (lv_at hl 0 rfl) ?_
        refine va_iald hx hb hK hP (16 + a0) 0 (rl_Used ha0) rfl (day_in hp0 hk) dX6_fadingUse_51 ?_
        refine lv_i2l (v := (σ (100 + a0) (nx (nI k))).toInt64) hx hb dX6_fadingUse_52 rfl ?_
        refine lv_lmul hx hb dX6_fadingUse_53 ?_
        refine lv_ladd hx hb dX6_fadingUse_54 ?_
        refine lv_ldc2 (v := 8) hx hb hown (hg _ qD_X6_261) dX6_fadingUse_55 ?_
        refine lv_ldiv hx hb dX6_fadingUse_58 (by decide) ?_
        refine lv_lstore_n (lv' := [(2, .long (((7 * a) + (1000 * ((σ (100 + a0) (nx (nI k))).toInt64))) / 8)), (4, .int (nI k)), (0, .ref (ad 66)), (1, .ref (ad a0))]) hx hb dX6_fadingUse_59 rfl hl (by decide) rfl (fun ls hl => ?_)
        refine lv_iinc (v := nI (k + 1)) (lv' := [(4, .int (nI (k + 1))), (2, .long (((7 * a) + (1000 * ((σ (100 + a0) (nx (nI k))).toInt64))) / 8)), (0, .ref (ad 66)), (1, .ref (ad a0))]) hx hb dX6_fadingUse_60 hl (k := 1) rfl (nI_1 k) (by decide) rfl (fun ls hl => ?_)
        refine lv_goto (tgt := 13) hx hb dX6_fadingUse_63 (by decide) ?_
        refine IH ls ?_
        show lv_has ls 5 [(4, .int (nI (k + 1))), (2, .long ((c_fadeF σ a0) k a)), (0, .ref (ad 66)), (1, .ref (ad a0))]
        rw [show (c_fadeF σ a0) k a = ((7 * a) + (1000 * ((σ (100 + a0) (nx (nI k))).toInt64))) / 8 from by simp only [c_fadeF, if_neg c_22, if_neg c_34]]
        exact lv_sub hl [0, 1, 2, 3] rfl
  · intro ls hl
    have hl : lv_has ls 5 [(4, .int (nI (nx (σ 40 0)))), (2, .long (foldN (c_fadeF σ a0) (nx (σ 40 0) - nx (c_firstOf σ 28)) (nx (c_firstOf σ 28)) 0)), (0, .ref (ad 66)), (1, .ref (ad a0))] := hl
    refine lv_iload hx hb dX6_fadingUse_13 (lv_at hl 0 rfl) ?_
    refine lv_aload_n hx hb dX6_fadingUse_15 rfl (lv_at hl 2 rfl) ?_
    refine va_get (D := G) (ci := 6) (v := .ref (ad 72)) (C := RX6) (T := TX6) (N := 8) hx hb hg hinX6 hown hK hP 66 rl_main rfl 5 (by decide) (hg _ qF_X6_34) (fun _ h9 => h9) rfl dX6_fadingUse_16 ?_
    refine va_get (D := G) (ci := 0) (v := .int (σ 40 0)) (C := RX0) (T := TX0) (N := 2) hx hb hg hinX0 hown hK hP 72 rl_Calendar rfl 1 (by decide) (hg _ qF_X6_125) (fun _ h9 => h9) rfl dX6_fadingUse_19 ?_
    refine lv_icmp_ge (tgt := 66) hx hb dX6_fadingUse_22 (by decide) (fun c_22 => ?_) (fun c_22 => ?_)
    · -- if_icmpge taken
      refine lv_lload_n hx hb dX6_fadingUse_66 rfl (lv_at hl 1 rfl) ?_
      exact W.lret (v := foldN (c_fadeF σ a0) (nx (σ 40 0) - nx (c_firstOf σ 28)) (nx (c_firstOf σ 28)) 0) hx hb hr (fun t ht hW => ⟨_, rfl, rfl, ht⟩) (fun _ h => nomatch h) dX6_fadingUse_67
    · -- if_icmpge not taken
      exact absurd (nx_le (vp_pos hp0)) c_22

set_option maxHeartbeats 4000000 in
set_option maxRecDepth 100000 in
theorem m_ReplenishRules_divideUp (l : Launch) (a0 : Int64) (b0 : Int64) : Met l yX6_divideUp (wX6_divideUp :: wG) ({ frames := 0, cells := 0, slots := 0, locals := 0 }) (va_Pc [.long a0, .long b0] (fun _ => True)) (vp_Sl (fun r => r = c_divideUp a0 b0)) 0 0 (fun _ => False) := by
  refine Met.ofW (cc := cX6_divideUp) (maxL := 4) (ret := (some .long)) (by decide) rfl ?_
  intro p e s m args below meth c s₁ B hml hv
  obtain ⟨rfl, -⟩ := hv
  have hx := B.exec
  have hb := B.bytes
  have hr := B.returns
  have hts := atoms_spec (ws := wX6_divideUp :: wG) B.pre
  have hg : ∀ w ∈ wG, w.before _ s = true := fun w h => hts w (List.mem_cons_of_mem _ h)
  have hown : s.vm.findClass RX6 = some m.cls := findClass_of_methodNamed B.named
  have hlocks := B.notSynchronized
  have hl := lv_entry ([.long a0, .long b0]) (n := 4) (Nat.le_of_ble_eq_true rfl)
  rw [lg_entry_eq]
  generalize (lg_sl ([.long a0, .long b0]) ++ List.replicate (4 - (lg_sl ([.long a0, .long b0])).length) Slot.unset).toArray = ls at hl ⊢
  have hl : lv_has ls 4 [(0, .long a0), (2, .long b0)] := hl
  refine lv_lload_n hx hb dX6_divideUp_0 rfl (lv_at hl 1 rfl) ?_
  refine lv_lconst (v := 0) hx hb dX6_divideUp_1 (by decide) ?_
  refine W.lcmp hx hb dX6_divideUp_2 ?_
  refine lv_if_gt (tgt := 8) hx hb dX6_divideUp_3 (by decide) (fun c_3 => ?_) (fun c_3 => ?_)
  · -- ifgt taken
    refine lv_lload_n hx hb dX6_divideUp_8 rfl (lv_at hl 0 rfl) ?_
    refine lv_lload_n hx hb dX6_divideUp_9 rfl (lv_at hl 1 rfl) ?_
    refine lv_ladd hx hb dX6_divideUp_10 ?_
    refine lv_lconst (v := 1) hx hb dX6_divideUp_11 (by decide) ?_
    refine lv_lsub hx hb dX6_divideUp_12 ?_
    refine lv_lload_n hx hb dX6_divideUp_13 rfl (lv_at hl 1 rfl) ?_
    refine lv_ldiv hx hb dX6_divideUp_14 (cmp_pos_ne c_3) ?_
    exact W.lret (v := ((a0 + b0) - 1) / b0) hx hb hr (fun t ht hW => ⟨_, rfl, by simp only [c_divideUp, if_pos c_3], ht⟩) (fun _ h => nomatch h) dX6_divideUp_15
  · -- ifgt not taken
    refine lv_lconst (v := 0) hx hb dX6_divideUp_6 (by decide) ?_
    exact W.lret (v := 0) hx hb hr (fun t ht hW => ⟨_, rfl, by simp only [c_divideUp, if_neg c_3], ht⟩) (fun _ h => nomatch h) dX6_divideUp_7

set_option maxHeartbeats 4000000 in
set_option maxRecDepth 100000 in
theorem m_ReplenishRules_inFullCases (l : Launch) (a0 : Int32) (b0 : Int32) (c0 : Int32) : Met l yX6_inFullCases (wX6_inFullCases :: wG) ({ frames := 0, cells := 0, slots := 0, locals := 0 }) (va_Pc [.int a0, .int b0, .int c0] (fun _ => True)) (vp_Si (fun r => r = c_inFullCases a0 b0 c0)) 0 0 (fun _ => False) := by
  refine Met.ofW (cc := cX6_inFullCases) (maxL := 6) (ret := (some .int)) (by decide) rfl ?_
  intro p e s m args below meth c s₁ B hml hv
  obtain ⟨rfl, -⟩ := hv
  have hx := B.exec
  have hb := B.bytes
  have hr := B.returns
  have hts := atoms_spec (ws := wX6_inFullCases :: wG) B.pre
  have hg : ∀ w ∈ wG, w.before _ s = true := fun w h => hts w (List.mem_cons_of_mem _ h)
  have hown : s.vm.findClass RX6 = some m.cls := findClass_of_methodNamed B.named
  have hlocks := B.notSynchronized
  have hl := lv_entry ([.int a0, .int b0, .int c0]) (n := 6) (Nat.le_of_ble_eq_true rfl)
  rw [lg_entry_eq]
  generalize (lg_sl ([.int a0, .int b0, .int c0]) ++ List.replicate (6 - (lg_sl ([.int a0, .int b0, .int c0])).length) Slot.unset).toArray = ls at hl ⊢
  have hl : lv_has ls 6 [(0, .int a0), (1, .int b0), (2, .int c0)] := hl
  refine lv_iload_n hx hb dX6_inFullCases_0 rfl (lv_at hl 1 rfl) ?_
  refine lv_iconst (v := 1) hx hb dX6_inFullCases_1 (by decide) ?_
  refine lv_icmp_gt (tgt := 7) hx hb dX6_inFullCases_2 (by decide) (fun c_2 => ?_) (fun c_2 => ?_)
  · -- if_icmpgt taken
    refine lv_iload_n hx hb dX6_inFullCases_7 rfl (lv_at hl 0 rfl) ?_
    refine lv_iload_n hx hb dX6_inFullCases_8 rfl (lv_at hl 1 rfl) ?_
    refine lv_irem hx hb dX6_inFullCases_9 (one_lt_ne c_2) ?_
    refine lv_istore_n (lv' := [(3, .int (a0 - a0 / b0 * b0)), (0, .int a0), (1, .int b0), (2, .int c0)]) hx hb dX6_inFullCases_10 rfl hl (by decide) rfl (fun ls hl => ?_)
    refine lv_iload_n hx hb dX6_inFullCases_11 rfl (lv_at hl 0 rfl) ?_
    refine lv_if_ne (tgt := 17) hx hb dX6_inFullCases_12 (by decide) (fun c_12 => ?_) (fun c_12 => ?_)
    · -- ifne taken
      refine lv_iload_n hx hb dX6_inFullCases_17 rfl (lv_at hl 1 rfl) ?_
      refine lv_iload_n hx hb dX6_inFullCases_18 rfl (lv_at hl 0 rfl) ?_
      refine lv_isub hx hb dX6_inFullCases_19 ?_
      refine lv_istore (lv' := [(4, .int (a0 - (a0 - a0 / b0 * b0))), (3, .int (a0 - a0 / b0 * b0)), (0, .int a0), (1, .int b0), (2, .int c0)]) hx hb dX6_inFullCases_20 hl (by decide) rfl (fun ls hl => ?_)
      refine lv_iload hx hb dX6_inFullCases_22 (lv_at hl 0 rfl) ?_
      refine lv_iload_n hx hb dX6_inFullCases_24 rfl (lv_at hl 3 rfl) ?_
      refine lv_iadd hx hb dX6_inFullCases_25 ?_
      refine lv_istore (lv' := [(5, .int ((a0 - (a0 - a0 / b0 * b0)) + b0)), (4, .int (a0 - (a0 - a0 / b0 * b0))), (3, .int (a0 - a0 / b0 * b0)), (0, .int a0), (1, .int b0), (2, .int c0)]) hx hb dX6_inFullCases_26 hl (by decide) rfl (fun ls hl => ?_)
      refine lv_iload hx hb dX6_inFullCases_28 (lv_at hl 0 rfl) ?_
      refine lv_iload_n hx hb dX6_inFullCases_30 rfl (lv_at hl 5 rfl) ?_
      refine lv_icmp_gt (tgt := 39) hx hb dX6_inFullCases_31 (by decide) (fun c_31 => ?_) (fun c_31 => ?_)
      · -- if_icmpgt taken
        refine lv_iload hx hb dX6_inFullCases_39 (lv_at hl 1 rfl) ?_
        exact W.iret (v := a0 - (a0 - a0 / b0 * b0)) hx hb hr (fun t ht hW => ⟨_, rfl, by simp only [c_inFullCases, if_pos c_2, if_neg c_12, if_pos c_31], ht⟩) (fun _ h => nomatch h) dX6_inFullCases_41
      · -- if_icmpgt not taken
        refine lv_iload hx hb dX6_inFullCases_34 (lv_at hl 0 rfl) ?_
        refine lv_goto (tgt := 41) hx hb dX6_inFullCases_36 (by decide) ?_
        exact W.iret (v := (a0 - (a0 - a0 / b0 * b0)) + b0) hx hb hr (fun t ht hW => ⟨_, rfl, by simp only [c_inFullCases, if_pos c_2, if_neg c_12, if_neg c_31], ht⟩) (fun _ h => nomatch h) dX6_inFullCases_41
    · -- ifne not taken
      refine lv_iload_n hx hb dX6_inFullCases_15 rfl (lv_at hl 1 rfl) ?_
      exact W.iret (v := a0) hx hb hr (fun t ht hW => ⟨_, rfl, by simp only [c_inFullCases, if_pos c_2, if_pos c_12], ht⟩) (fun _ h => nomatch h) dX6_inFullCases_16
  · -- if_icmpgt not taken
    refine lv_iload_n hx hb dX6_inFullCases_5 rfl (lv_at hl 0 rfl) ?_
    exact W.iret (v := a0) hx hb hr (fun t ht hW => ⟨_, rfl, by simp only [c_inFullCases, if_neg c_2], ht⟩) (fun _ h => nomatch h) dX6_inFullCases_6

set_option maxHeartbeats 4000000 in
set_option maxRecDepth 100000 in
theorem m_ReplenishRules_forecastOf (l : Launch) (G : va_G) (cA : Nat → ClassId) (ad : Nat → Nat) (σ : St) (hI : Inv σ) (a0 : Nat) (ha0 : a0 < 16) : Met l yX6_forecastOf (wX6_forecastOf :: wG) ({ frames := 2, cells := 0, slots := 0, locals := 45 }) (va_Pc [.ref (ad 66), .ref (ad a0)] (rrW G cA ad σ)) (vp_Sl (fun r => r = c_forecastOf σ a0)) 0 0 (fun _ => False) := by
  refine Met.ofW (cc := cX6_forecastOf) (maxL := 9) (ret := (some .long)) (by decide) rfl ?_
  intro p e s m args below meth c s₁ B hml hv
  obtain ⟨rfl, hP, hK⟩ := hv
  have hx := B.exec
  have hb := B.bytes
  have hr := B.returns
  have hts := atoms_spec (ws := wX6_forecastOf :: wG) B.pre
  have hg : ∀ w ∈ wG, w.before _ s = true := fun w h => hts w (List.mem_cons_of_mem _ h)
  have hown : s.vm.findClass RX6 = some m.cls := findClass_of_methodNamed B.named
  have hlocks := B.notSynchronized
  have hl := lv_entry ([.ref (ad 66), .ref (ad a0)]) (n := 9) (Nat.le_of_ble_eq_true rfl)
  rw [lg_entry_eq]
  generalize (lg_sl ([.ref (ad 66), .ref (ad a0)]) ++ List.replicate (9 - (lg_sl ([.ref (ad 66), .ref (ad a0)])).length) Slot.unset).toArray = ls at hl ⊢
  have hl : lv_has ls 9 [(0, .ref (ad 66)), (1, .ref (ad a0))] := hl
  refine lv_aload_n hx hb dX6_forecastOf_0 rfl (lv_at hl 0 rfl) ?_
  refine va_get (D := G) (ci := 6) (v := .ref (ad 68)) (C := RX6) (T := TX6) (N := 8) hx hb hg hinX6 hown hK hP 66 rl_main rfl 1 (by decide) (hg _ qF_X6_17) (fun _ h9 => h9) rfl dX6_forecastOf_1 ?_
  refine lv_aload_n hx hb dX6_forecastOf_4 rfl (lv_at hl 1 rfl) ?_
  refine va_get (D := G) (ci := 2) (v := .int (σ 1 a0)) (C := RX2) (T := TX2) (N := 13) hx hb hg hinX2 hown hK hP a0 (rl_Place ha0) rfl 3 (by decide) (hg _ qF_X6_82) (fun _ h9 => h9) rfl dX6_forecastOf_5 ?_
  refine va_aldq hx hb hK hP 68 3 rl_rulesA rfl (inv_zone hI ha0) dX6_forecastOf_8 ?_
  show W _ _ _ _ _ _ _ _ _ _ _ _ _ _ _ (F0 m _ ls (.ref (ad (32 + nx (σ 1 a0))) :: []))
  refine lv_astore_n (lv' := [(2, .ref (ad (32 + nx (σ 1 a0)))), (0, .ref (ad 66)), (1, .ref (ad a0))]) hx hb dX6_forecastOf_9 rfl hl (by decide) rfl (fun ls hl => ?_)
  refine lv_aload_n hx hb dX6_forecastOf_10 rfl (lv_at hl 0 rfl) ?_
  refine lv_aload_n hx hb dX6_forecastOf_11 rfl (lv_at hl 1 rfl) ?_
  refine va_get (D := G) (ci := 6) (v := .ref (ad 72)) (C := RX6) (T := TX6) (N := 8) hx hb hg hinX6 hown hK hP 66 rl_main rfl 5 (by decide) (hg _ qF_X6_34) (fun _ h9 => h9) rfl dX6_forecastOf_12 ?_
  refine va_get (D := G) (ci := 0) (v := .int (σ 40 0)) (C := RX0) (T := TX0) (N := 2) hx hb hg hinX0 hown hK hP 72 rl_Calendar rfl 1 (by decide) (hg _ qF_X6_125) (fun _ h9 => h9) rfl dX6_forecastOf_15 ?_
  refine vp_callSi (W.runV (As := [.int (σ 40 0)]) (rest := []) ⟨hx, hb, hml, hown, hg⟩ (m_Rule_kindOn l G cA ad σ (nx (σ 1 a0)) (vp_lt (inv_zone hI ha0)) (σ 40 0)) (cwV 1 hg (gV qM_X6_263 qI_X4_kindOn qS_X4_kindOn qN_X4 kX4_kindOn) rfl rfl rfl (by decide +kernel) ⟨Nat.le_of_ble_eq_true rfl, Nat.le_of_ble_eq_true rfl⟩) (rr_pv hK hP (va_recv hK hP (ci := 4) (q0 := (32 + (nx (σ 1 a0)))) rfl (rl_Rule (vp_lt (inv_zone hI ha0))))) rfl rfl hl.1 rfl (lv_room (Nat.le_of_ble_eq_true rfl)) dX6_forecastOf_18 ⟨Nat.le_of_ble_eq_true rfl, Nat.le_of_ble_eq_true rfl⟩) (nm_e ?_)
  refine lv_istore_n (lv' := [(3, .int (c_kindOn σ (nx (σ 1 a0)) (σ 40 0))), (2, .ref (ad (32 + nx (σ 1 a0)))), (0, .ref (ad 66)), (1, .ref (ad a0))]) hx hb dX6_forecastOf_21 rfl hl (by decide) rfl (fun ls hl => ?_)
  refine lv_aload_n hx hb dX6_forecastOf_22 rfl (lv_at hl 2 rfl) ?_
  refine va_get (D := G) (ci := 6) (v := .ref (ad 72)) (C := RX6) (T := TX6) (N := 8) hx hb hg hinX6 hown hK hP 66 rl_main rfl 5 (by decide) (hg _ qF_X6_34) (fun _ h9 => h9) rfl dX6_forecastOf_23 ?_
  refine vp_callSi (W.runV (As := []) (rest := []) ⟨hx, hb, hml, hown, hg⟩ (m_Calendar_month l G cA ad σ) (cwV 0 hg (gV qM_X6_266 qI_X0_month qS_X0_month qN_X0 kX0_month) rfl rfl rfl (by decide +kernel) ⟨Nat.le_of_ble_eq_true rfl, Nat.le_of_ble_eq_true rfl⟩) (rr_pv hK hP (va_recv hK hP (ci := 0) (q0 := 72) rfl rl_Calendar)) rfl rfl hl.1 rfl (lv_room (Nat.le_of_ble_eq_true rfl)) dX6_forecastOf_26 ⟨Nat.le_of_ble_eq_true rfl, Nat.le_of_ble_eq_true rfl⟩) (nm_e ?_)
  refine lv_istore (lv' := [(4, .int (c_month σ)), (3, .int (c_kindOn σ (nx (σ 1 a0)) (σ 40 0))), (2, .ref (ad (32 + nx (σ 1 a0)))), (0, .ref (ad 66)), (1, .ref (ad a0))]) hx hb dX6_forecastOf_29 hl (by decide) rfl (fun ls hl => ?_)
  refine lv_aload_n hx hb dX6_forecastOf_31 rfl (lv_at hl 2 rfl) ?_
  refine lv_aload_n hx hb dX6_forecastOf_32 rfl (lv_at hl 3 rfl) ?_
  refine va_get (D := G) (ci := 6) (v := .ref (ad 72)) (C := RX6) (T := TX6) (N := 8) hx hb hg hinX6 hown hK hP 66 rl_main rfl 5 (by decide) (hg _ qF_X6_34) (fun _ h9 => h9) rfl dX6_forecastOf_33 ?_
  refine va_get (D := G) (ci := 0) (v := .int (σ 40 0)) (C := RX0) (T := TX0) (N := 2) hx hb hg hinX0 hown hK hP 72 rl_Calendar rfl 1 (by decide) (hg _ qF_X6_125) (fun _ h9 => h9) rfl dX6_forecastOf_36 ?_
  refine vp_callSi (W.runV (As := [.int (σ 40 0)]) (rest := []) ⟨hx, hb, hml, hown, hg⟩ (m_Rule_aheadOn l G cA ad σ (nx (σ 1 a0)) (vp_lt (inv_zone hI ha0)) (σ 40 0)) (cwV 1 hg (gV qM_X6_269 qI_X4_aheadOn qS_X4_aheadOn qN_X4 kX4_aheadOn) rfl rfl rfl (by decide +kernel) ⟨Nat.le_of_ble_eq_true rfl, Nat.le_of_ble_eq_true rfl⟩) (rr_pv hK hP (va_recv hK hP (ci := 4) (q0 := (32 + (nx (σ 1 a0)))) rfl (rl_Rule (vp_lt (inv_zone hI ha0))))) rfl rfl hl.1 rfl (lv_room (Nat.le_of_ble_eq_true rfl)) dX6_forecastOf_39 ⟨Nat.le_of_ble_eq_true rfl, Nat.le_of_ble_eq_true rfl⟩) (nm_e ?_)
  refine lv_i2l (v := (c_aheadOn σ (nx (σ 1 a0)) (σ 40 0)).toInt64) hx hb dX6_forecastOf_42 rfl ?_
  refine lv_aload_n hx hb dX6_forecastOf_43 rfl (lv_at hl 3 rfl) ?_
  refine va_get (D := G) (ci := 6) (v := .ref (ad 70)) (C := RX6) (T := TX6) (N := 8) hx hb hg hinX6 hown hK hP 66 rl_main rfl 3 (by decide) (hg _ qF_X6_25) (fun _ h9 => h9) rfl dX6_forecastOf_44 ?_
  refine lv_iload hx hb dX6_forecastOf_47 (lv_at hl 0 rfl) ?_
  refine va_iald hx hb hK hP 70 0 rl_upsA rfl (month_in (inv_today hI)) dX6_forecastOf_49 ?_
  refine lv_i2l (v := (σ 31 (nx (c_month σ))).toInt64) hx hb dX6_forecastOf_50 rfl ?_
  refine lv_lmul hx hb dX6_forecastOf_51 ?_
  refine lv_lstore (lv' := [(5, .long (((c_aheadOn σ (nx (σ 1 a0)) (σ 40 0)).toInt64) * ((σ 31 (nx (c_month σ))).toInt64))), (4, .int (c_month σ)), (3, .int (c_kindOn σ (nx (σ 1 a0)) (σ 40 0))), (2, .ref (ad (32 + nx (σ 1 a0)))), (0, .ref (ad 66)), (1, .ref (ad a0))]) hx hb dX6_forecastOf_52 hl (by decide) rfl (fun ls hl => ?_)
  refine lv_iload_n hx hb dX6_forecastOf_54 rfl (lv_at hl 2 rfl) ?_
  refine lv_iconst (v := 1) hx hb dX6_forecastOf_55 (by decide) ?_
  refine lv_icmp_ne (tgt := 94) hx hb dX6_forecastOf_56 (by decide) (fun c_56 => ?_) (fun c_56 => ?_)
  · -- if_icmpne taken
    refine lv_iload_n hx hb dX6_forecastOf_94 rfl (lv_at hl 2 rfl) ?_
    refine lv_iconst (v := 2) hx hb dX6_forecastOf_95 (by decide) ?_
    refine lv_icmp_ne (tgt := 123) hx hb dX6_forecastOf_96 (by decide) (fun c_96 => ?_) (fun c_96 => ?_)
    · -- if_icmpne taken
      refine lv_lconst (v := 0) hx hb dX6_forecastOf_123 (by decide) ?_
      exact W.lret (v := 0) hx hb hr (fun t ht hW => ⟨_, rfl, by simp only [c_forecastOf, if_neg c_56, if_neg c_96], ht⟩) (fun _ h => nomatch h) dX6_forecastOf_124
    · -- if_icmpne not taken
      refine lv_aload_n hx hb dX6_forecastOf_99 rfl (lv_at hl 4 rfl) ?_
      refine lv_aload_n hx hb dX6_forecastOf_100 rfl (lv_at hl 5 rfl) ?_
      refine vp_callSl (W.runV (As := [.ref (ad a0)]) (rest := []) ⟨hx, hb, hml, hown, hg⟩ (m_ReplenishRules_fadingUse l G cA ad σ a0 ha0 (inv_today hI)) (cwV 1 hg (gV qM_X6_279 qI_X6_fadingUse qS_X6_fadingUse qN_X6 kX6_fadingUse) rfl rfl rfl (by decide +kernel) ⟨Nat.le_of_ble_eq_true rfl, Nat.le_of_ble_eq_true rfl⟩) (rr_pv hK hP (va_recv hK hP (ci := 6) (q0 := 66) rfl rl_main)) rfl rfl hl.1 rfl (lv_room (Nat.le_of_ble_eq_true rfl)) dX6_forecastOf_101 ⟨Nat.le_of_ble_eq_true rfl, Nat.le_of_ble_eq_true rfl⟩) (nm_e ?_)
      refine lv_lload hx hb dX6_forecastOf_104 (lv_at hl 0 rfl) ?_
      refine lv_lmul hx hb dX6_forecastOf_106 ?_
      refine lv_ldc2 (v := 1000) hx hb hown (hg _ qD_X6_259) dX6_forecastOf_107 ?_
      refine lv_aload_n hx hb dX6_forecastOf_110 rfl (lv_at hl 4 rfl) ?_
      refine va_get (D := G) (ci := 6) (v := .ref (ad 71)) (C := RX6) (T := TX6) (N := 8) hx hb hg hinX6 hown hK hP 66 rl_main rfl 4 (by decide) (hg _ qF_X6_28) (fun _ h9 => h9) rfl dX6_forecastOf_111 ?_
      refine lv_iload hx hb dX6_forecastOf_114 (lv_at hl 1 rfl) ?_
      refine va_iald hx hb hK hP 71 0 rl_downsA rfl (month_in (inv_today hI)) dX6_forecastOf_116 ?_
      refine lv_i2l (v := (σ 32 (nx (c_month σ))).toInt64) hx hb dX6_forecastOf_117 rfl ?_
      refine lv_lmul hx hb dX6_forecastOf_118 ?_
      refine vp_callSl (W.runS (As := [.long ((c_fade σ a0) * (((c_aheadOn σ (nx (σ 1 a0)) (σ 40 0)).toInt64) * ((σ 31 (nx (c_month σ))).toInt64))), .long (1000 * ((σ 32 (nx (c_month σ))).toInt64))]) (rest := []) ⟨hx, hb, hml, hown, hg⟩ (m_ReplenishRules_divideUp l ((c_fade σ a0) * (((c_aheadOn σ (nx (σ 1 a0)) (σ 40 0)).toInt64) * ((σ 31 (nx (c_month σ))).toInt64))) (1000 * ((σ 32 (nx (c_month σ))).toInt64))) (cwS 2 hg (gS qM_X6_275 qT_X6_divideUp qN_X6 kX6_divideUp) rfl rfl rfl (by decide +kernel) ⟨Nat.le_of_ble_eq_true rfl, Nat.le_of_ble_eq_true rfl⟩) ⟨fun _ _ _ _ q => q, fun _ _ _ => ⟨rfl, trivial⟩⟩ rfl rfl hl.1 rfl (lv_room (Nat.le_of_ble_eq_true rfl)) dX6_forecastOf_119 ⟨Nat.le_of_ble_eq_true rfl, Nat.le_of_ble_eq_true rfl⟩) (nm_e ?_)
      exact W.lret (v := c_divideUp ((c_fade σ a0) * (((c_aheadOn σ (nx (σ 1 a0)) (σ 40 0)).toInt64) * ((σ 31 (nx (c_month σ))).toInt64))) (1000 * ((σ 32 (nx (c_month σ))).toInt64))) hx hb hr (fun t ht hW => ⟨_, rfl, by simp only [c_forecastOf, if_neg c_56, if_pos c_96], ht⟩) (fun _ h => nomatch h) dX6_forecastOf_122
  · -- if_icmpne not taken
    refine lv_aload_n hx hb dX6_forecastOf_59 rfl (lv_at hl 4 rfl) ?_
    refine va_get (D := G) (ci := 6) (v := .ref (ad 72)) (C := RX6) (T := TX6) (N := 8) hx hb hg hinX6 hown hK hP 66 rl_main rfl 5 (by decide) (hg _ qF_X6_34) (fun _ h9 => h9) rfl dX6_forecastOf_60 ?_
    refine lv_bipush (v := 28) hx hb dX6_forecastOf_63 (by decide) ?_
    refine vp_callSi (W.runV (As := [.int 28]) (rest := []) ⟨hx, hb, hml, hown, hg⟩ (m_Calendar_openDays l G cA ad σ 28 (inv_today hI) (by decide)) (cwV 1 hg (gV qM_X6_167 qI_X0_openDays qS_X0_openDays qN_X0 kX0_openDays) rfl rfl rfl (by decide +kernel) ⟨Nat.le_of_ble_eq_true rfl, Nat.le_of_ble_eq_true rfl⟩) (rr_pv hK hP (va_recv hK hP (ci := 0) (q0 := 72) rfl rl_Calendar)) rfl rfl hl.1 rfl (lv_room (Nat.le_of_ble_eq_true rfl)) dX6_forecastOf_65 ⟨Nat.le_of_ble_eq_true rfl, Nat.le_of_ble_eq_true rfl⟩) (nm_e ?_)
    refine lv_i2l (v := (c_openDays σ 28).toInt64) hx hb dX6_forecastOf_68 rfl ?_
    refine lv_lstore (lv' := [(7, .long ((c_openDays σ 28).toInt64)), (5, .long (((c_aheadOn σ (nx (σ 1 a0)) (σ 40 0)).toInt64) * ((σ 31 (nx (c_month σ))).toInt64))), (4, .int (c_month σ)), (3, .int (c_kindOn σ (nx (σ 1 a0)) (σ 40 0))), (2, .ref (ad (32 + nx (σ 1 a0)))), (0, .ref (ad 66)), (1, .ref (ad a0))]) hx hb dX6_forecastOf_69 hl (by decide) rfl (fun ls hl => ?_)
    refine lv_aload_n hx hb dX6_forecastOf_71 rfl (lv_at hl 5 rfl) ?_
    refine lv_aload_n hx hb dX6_forecastOf_72 rfl (lv_at hl 6 rfl) ?_
    refine vp_callSl (W.runV (As := [.ref (ad a0)]) (rest := []) ⟨hx, hb, hml, hown, hg⟩ (m_ReplenishRules_usedOnPastDays l G cA ad σ a0 ha0 (inv_today hI)) (cwV 1 hg (gV qM_X6_272 qI_X6_usedOnPastDays qS_X6_usedOnPastDays qN_X6 kX6_usedOnPastDays) rfl rfl rfl (by decide +kernel) ⟨Nat.le_of_ble_eq_true rfl, Nat.le_of_ble_eq_true rfl⟩) (rr_pv hK hP (va_recv hK hP (ci := 6) (q0 := 66) rfl rl_main)) rfl rfl hl.1 rfl (lv_room (Nat.le_of_ble_eq_true rfl)) dX6_forecastOf_73 ⟨Nat.le_of_ble_eq_true rfl, Nat.le_of_ble_eq_true rfl⟩) (nm_e ?_)
    refine lv_lload hx hb dX6_forecastOf_76 (lv_at hl 1 rfl) ?_
    refine lv_lmul hx hb dX6_forecastOf_78 ?_
    refine lv_lload hx hb dX6_forecastOf_79 (lv_at hl 0 rfl) ?_
    refine lv_aload_n hx hb dX6_forecastOf_81 rfl (lv_at hl 5 rfl) ?_
    refine va_get (D := G) (ci := 6) (v := .ref (ad 71)) (C := RX6) (T := TX6) (N := 8) hx hb hg hinX6 hown hK hP 66 rl_main rfl 4 (by decide) (hg _ qF_X6_28) (fun _ h9 => h9) rfl dX6_forecastOf_82 ?_
    refine lv_iload hx hb dX6_forecastOf_85 (lv_at hl 2 rfl) ?_
    refine va_iald hx hb hK hP 71 0 rl_downsA rfl (month_in (inv_today hI)) dX6_forecastOf_87 ?_
    refine lv_i2l (v := (σ 32 (nx (c_month σ))).toInt64) hx hb dX6_forecastOf_88 rfl ?_
    refine lv_lmul hx hb dX6_forecastOf_89 ?_
    refine vp_callSl (W.runS (As := [.long ((c_usedPast σ a0) * (((c_aheadOn σ (nx (σ 1 a0)) (σ 40 0)).toInt64) * ((σ 31 (nx (c_month σ))).toInt64))), .long (((c_openDays σ 28).toInt64) * ((σ 32 (nx (c_month σ))).toInt64))]) (rest := []) ⟨hx, hb, hml, hown, hg⟩ (m_ReplenishRules_divideUp l ((c_usedPast σ a0) * (((c_aheadOn σ (nx (σ 1 a0)) (σ 40 0)).toInt64) * ((σ 31 (nx (c_month σ))).toInt64))) (((c_openDays σ 28).toInt64) * ((σ 32 (nx (c_month σ))).toInt64))) (cwS 2 hg (gS qM_X6_275 qT_X6_divideUp qN_X6 kX6_divideUp) rfl rfl rfl (by decide +kernel) ⟨Nat.le_of_ble_eq_true rfl, Nat.le_of_ble_eq_true rfl⟩) ⟨fun _ _ _ _ q => q, fun _ _ _ => ⟨rfl, trivial⟩⟩ rfl rfl hl.1 rfl (lv_room (Nat.le_of_ble_eq_true rfl)) dX6_forecastOf_90 ⟨Nat.le_of_ble_eq_true rfl, Nat.le_of_ble_eq_true rfl⟩) (nm_e ?_)
    exact W.lret (v := c_divideUp ((c_usedPast σ a0) * (((c_aheadOn σ (nx (σ 1 a0)) (σ 40 0)).toInt64) * ((σ 31 (nx (c_month σ))).toInt64))) (((c_openDays σ 28).toInt64) * ((σ 32 (nx (c_month σ))).toInt64))) hx hb hr (fun t ht hW => ⟨_, rfl, by simp only [c_forecastOf, if_pos c_56], ht⟩) (fun _ h => nomatch h) dX6_forecastOf_93

set_option maxHeartbeats 4000000 in
set_option maxRecDepth 100000 in
theorem m_ReplenishRules_needOf (l : Launch) (G : va_G) (cA : Nat → ClassId) (ad : Nat → Nat) (σ : St) (hI : Inv σ) (a0 : Nat) (ha0 : a0 < 16) : Met l yX6_needOf (wX6_needOf :: wG) ({ frames := 3, cells := 0, slots := 0, locals := 73 }) (va_Pc [.ref (ad 66), .ref (ad a0)] (rrW G cA ad σ)) (vp_Sl (fun r => r = c_needOf σ a0)) 0 0 (fun _ => False) := by
  refine Met.ofW (cc := cX6_needOf) (maxL := 6) (ret := (some .long)) (by decide) rfl ?_
  intro p e s m args below meth c s₁ B hml hv
  obtain ⟨rfl, hP, hK⟩ := hv
  have hx := B.exec
  have hb := B.bytes
  have hr := B.returns
  have hts := atoms_spec (ws := wX6_needOf :: wG) B.pre
  have hg : ∀ w ∈ wG, w.before _ s = true := fun w h => hts w (List.mem_cons_of_mem _ h)
  have hown : s.vm.findClass RX6 = some m.cls := findClass_of_methodNamed B.named
  have hlocks := B.notSynchronized
  have hl := lv_entry ([.ref (ad 66), .ref (ad a0)]) (n := 6) (Nat.le_of_ble_eq_true rfl)
  rw [lg_entry_eq]
  generalize (lg_sl ([.ref (ad 66), .ref (ad a0)]) ++ List.replicate (6 - (lg_sl ([.ref (ad 66), .ref (ad a0)])).length) Slot.unset).toArray = ls at hl ⊢
  have hl : lv_has ls 6 [(0, .ref (ad 66)), (1, .ref (ad a0))] := hl
  refine lv_aload_n hx hb dX6_needOf_0 rfl (lv_at hl 0 rfl) ?_
  refine va_get (D := G) (ci := 6) (v := .ref (ad 72)) (C := RX6) (T := TX6) (N := 8) hx hb hg hinX6 hown hK hP 66 rl_main rfl 5 (by decide) (hg _ qF_X6_34) (fun _ h9 => h9) rfl dX6_needOf_1 ?_
  refine va_get (D := G) (ci := 0) (v := .int (σ 40 0)) (C := RX0) (T := TX0) (N := 2) hx hb hg hinX0 hown hK hP 72 rl_Calendar rfl 1 (by decide) (hg _ qF_X6_125) (fun _ h9 => h9) rfl dX6_needOf_4 ?_
  refine lv_istore_n (lv' := [(2, .int (σ 40 0)), (0, .ref (ad 66)), (1, .ref (ad a0))]) hx hb dX6_needOf_7 rfl hl (by decide) rfl (fun ls hl => ?_)
  refine lv_iload_n hx hb dX6_needOf_8 rfl (lv_at hl 0 rfl) ?_
  refine lv_aload_n hx hb dX6_needOf_9 rfl (lv_at hl 1 rfl) ?_
  refine va_get (D := G) (ci := 6) (v := .ref (ad 68)) (C := RX6) (T := TX6) (N := 8) hx hb hg hinX6 hown hK hP 66 rl_main rfl 1 (by decide) (hg _ qF_X6_17) (fun _ h9 => h9) rfl dX6_needOf_10 ?_
  refine lv_aload_n hx hb dX6_needOf_13 rfl (lv_at hl 2 rfl) ?_
  refine va_get (D := G) (ci := 2) (v := .int (σ 1 a0)) (C := RX2) (T := TX2) (N := 13) hx hb hg hinX2 hown hK hP a0 (rl_Place ha0) rfl 3 (by decide) (hg _ qF_X6_82) (fun _ h9 => h9) rfl dX6_needOf_14 ?_
  refine va_aldq hx hb hK hP 68 3 rl_rulesA rfl (inv_zone hI ha0) dX6_needOf_17 ?_
  show W _ _ _ _ _ _ _ _ _ _ _ _ _ _ _ (F0 m _ ls (.ref (ad (32 + nx (σ 1 a0))) :: [.int (σ 40 0)]))
  refine lv_iload_n hx hb dX6_needOf_18 rfl (lv_at hl 0 rfl) ?_
  refine vp_callSi (W.runV (As := [.int (σ 40 0)]) (rest := [.int (σ 40 0)]) ⟨hx, hb, hml, hown, hg⟩ (m_Rule_aheadOn l G cA ad σ (nx (σ 1 a0)) (vp_lt (inv_zone hI ha0)) (σ 40 0)) (cwV 1 hg (gV qM_X6_269 qI_X4_aheadOn qS_X4_aheadOn qN_X4 kX4_aheadOn) rfl rfl rfl (by decide +kernel) ⟨Nat.le_of_ble_eq_true rfl, Nat.le_of_ble_eq_true rfl⟩) (rr_pv hK hP (va_recv hK hP (ci := 4) (q0 := (32 + (nx (σ 1 a0)))) rfl (rl_Rule (vp_lt (inv_zone hI ha0))))) rfl rfl hl.1 rfl (lv_room (Nat.le_of_ble_eq_true rfl)) dX6_needOf_19 ⟨Nat.le_of_ble_eq_true rfl, Nat.le_of_ble_eq_true rfl⟩) (nm_e ?_)
  refine lv_iadd hx hb dX6_needOf_22 ?_
  refine lv_istore_n (lv' := [(3, .int ((σ 40 0) + (c_aheadOn σ (nx (σ 1 a0)) (σ 40 0)))), (2, .int (σ 40 0)), (0, .ref (ad 66)), (1, .ref (ad a0))]) hx hb dX6_needOf_23 rfl hl (by decide) rfl (fun ls hl => ?_)
  refine lv_aload_n hx hb dX6_needOf_24 rfl (lv_at hl 2 rfl) ?_
  refine va_get (D := G) (ci := 6) (v := .ref (ad 74)) (C := RX6) (T := TX6) (N := 8) hx hb hg hinX6 hown hK hP 66 rl_main rfl 6 (by decide) (hg _ qF_X6_41) (fun _ h9 => h9) rfl dX6_needOf_25 ?_
  refine lv_aload_n hx hb dX6_needOf_28 rfl (lv_at hl 3 rfl) ?_
  refine va_get (D := G) (ci := 2) (v := .int (nI a0)) (C := RX2) (T := TX2) (N := 13) hx hb hg hinX2 hown hK hP a0 (rl_Place ha0) rfl 0 (by decide) (hg _ qF_X6_155) (fun _ h9 => h9) rfl dX6_needOf_29 ?_
  refine lv_iload_n hx hb dX6_needOf_32 rfl (lv_at hl 1 rfl) ?_
  refine lv_iload_n hx hb dX6_needOf_33 rfl (lv_at hl 0 rfl) ?_
  refine vp_callSl (W.runV (As := [.int (nI a0), .int (σ 40 0), .int ((σ 40 0) + (c_aheadOn σ (nx (σ 1 a0)) (σ 40 0)))]) (rest := []) ⟨hx, hb, hml, hown, hg⟩ (m_Waves_neededOf l G cA ad σ (nI a0) (σ 40 0) ((σ 40 0) + (c_aheadOn σ (nx (σ 1 a0)) (σ 40 0))) (inv_wc hI).1 (inv_wc hI).2) (cwV 3 hg (gV qM_X6_282 qI_X5_neededOf qS_X5_neededOf qN_X5 kX5_neededOf) rfl rfl rfl (by decide +kernel) ⟨Nat.le_of_ble_eq_true rfl, Nat.le_of_ble_eq_true rfl⟩) (rr_pv hK hP (va_recv hK hP (ci := 5) (q0 := 74) rfl rl_Waves)) rfl rfl hl.1 rfl (lv_room (Nat.le_of_ble_eq_true rfl)) dX6_needOf_34 ⟨Nat.le_of_ble_eq_true rfl, Nat.le_of_ble_eq_true rfl⟩) (nm_e ?_)
  refine lv_lstore (lv' := [(4, .long (c_neededOf σ (nI a0) (σ 40 0) ((σ 40 0) + (c_aheadOn σ (nx (σ 1 a0)) (σ 40 0))))), (3, .int ((σ 40 0) + (c_aheadOn σ (nx (σ 1 a0)) (σ 40 0)))), (2, .int (σ 40 0)), (0, .ref (ad 66)), (1, .ref (ad a0))]) hx hb dX6_needOf_37 hl (by decide) rfl (fun ls hl => ?_)
  refine lv_aload_n hx hb dX6_needOf_39 rfl (lv_at hl 4 rfl) ?_
  refine va_get (D := G) (ci := 2) (v := .int (σ 6 a0)) (C := RX2) (T := TX2) (N := 13) hx hb hg hinX2 hown hK hP a0 (rl_Place ha0) rfl 8 (by decide) (hg _ qF_X6_94) (fun _ h9 => h9) rfl dX6_needOf_40 ?_
  refine lv_i2l (v := (σ 6 a0).toInt64) hx hb dX6_needOf_43 rfl ?_
  refine lv_aload_n hx hb dX6_needOf_44 rfl (lv_at hl 3 rfl) ?_
  refine lv_aload_n hx hb dX6_needOf_45 rfl (lv_at hl 4 rfl) ?_
  refine vp_callSl (W.runV (As := [.ref (ad a0)]) (rest := [.long ((σ 6 a0).toInt64)]) ⟨hx, hb, hml, hown, hg⟩ (m_ReplenishRules_forecastOf l G cA ad σ hI a0 ha0) (cwV 1 hg (gV qM_X6_180 qI_X6_forecastOf qS_X6_forecastOf qN_X6 kX6_forecastOf) rfl rfl rfl (by decide +kernel) ⟨Nat.le_of_ble_eq_true rfl, Nat.le_of_ble_eq_true rfl⟩) (rr_pv hK hP (va_recv hK hP (ci := 6) (q0 := 66) rfl rl_main)) rfl rfl hl.1 rfl (lv_room (Nat.le_of_ble_eq_true rfl)) dX6_needOf_46 ⟨Nat.le_of_ble_eq_true rfl, Nat.le_of_ble_eq_true rfl⟩) (nm_e ?_)
  refine va_mmax_long hx hb (hml.trans hl.1.symm) hown (hg _ qM_X6_286) (hg _ qT_Math_max_l) (hg _ qN_Math) (hg _ qY_Math_max_l) (Nat.le_of_ble_eq_true rfl) (Nat.le_of_ble_eq_true rfl) (Nat.le_of_ble_eq_true rfl) (Nat.le_of_ble_eq_true rfl) dX6_needOf_49 ?_
  show W _ _ _ _ _ _ _ _ _ _ _ _ _ _ _ (F0 m 52 ls (.long (c_maxL ((σ 6 a0).toInt64) (c_forecastOf σ a0)) :: []))
  refine lv_lload hx hb dX6_needOf_52 (lv_at hl 0 rfl) ?_
  refine va_mmax_long hx hb (hml.trans hl.1.symm) hown (hg _ qM_X6_286) (hg _ qT_Math_max_l) (hg _ qN_Math) (hg _ qY_Math_max_l) (Nat.le_of_ble_eq_true rfl) (Nat.le_of_ble_eq_true rfl) (Nat.le_of_ble_eq_true rfl) (Nat.le_of_ble_eq_true rfl) dX6_needOf_54 ?_
  show W _ _ _ _ _ _ _ _ _ _ _ _ _ _ _ (F0 m 57 ls (.long (c_maxL (c_maxL ((σ 6 a0).toInt64) (c_forecastOf σ a0)) (c_neededOf σ (nI a0) (σ 40 0) ((σ 40 0) + (c_aheadOn σ (nx (σ 1 a0)) (σ 40 0))))) :: []))
  exact W.lret (v := c_maxL (c_maxL ((σ 6 a0).toInt64) (c_forecastOf σ a0)) (c_neededOf σ (nI a0) (σ 40 0) ((σ 40 0) + (c_aheadOn σ (nx (σ 1 a0)) (σ 40 0))))) hx hb hr (fun t ht hW => ⟨_, rfl, rfl, ht⟩) (fun _ h => nomatch h) dX6_needOf_57

set_option maxHeartbeats 4000000 in
set_option maxRecDepth 100000 in
theorem m_ReplenishRules_thresholdOf (l : Launch) (G : va_G) (cA : Nat → ClassId) (ad : Nat → Nat) (σ : St) (hI : Inv σ) (a0 : Nat) (ha0 : a0 < 16) : Met l yX6_thresholdOf (wX6_thresholdOf :: wG) ({ frames := 4, cells := 0, slots := 0, locals := 98 }) (va_Pc [.ref (ad 66), .ref (ad a0)] (rrW G cA ad σ)) (vp_Si (fun r => r = c_thresholdOf σ a0)) 0 0 (fun _ => False) := by
  refine Met.ofW (cc := cX6_thresholdOf) (maxL := 2) (ret := (some .int)) (by decide) rfl ?_
  intro p e s m args below meth c s₁ B hml hv
  obtain ⟨rfl, hP, hK⟩ := hv
  have hx := B.exec
  have hb := B.bytes
  have hr := B.returns
  have hts := atoms_spec (ws := wX6_thresholdOf :: wG) B.pre
  have hg : ∀ w ∈ wG, w.before _ s = true := fun w h => hts w (List.mem_cons_of_mem _ h)
  have hown : s.vm.findClass RX6 = some m.cls := findClass_of_methodNamed B.named
  have hlocks := B.notSynchronized
  have hl := lv_entry ([.ref (ad 66), .ref (ad a0)]) (n := 2) (Nat.le_of_ble_eq_true rfl)
  rw [lg_entry_eq]
  generalize (lg_sl ([.ref (ad 66), .ref (ad a0)]) ++ List.replicate (2 - (lg_sl ([.ref (ad 66), .ref (ad a0)])).length) Slot.unset).toArray = ls at hl ⊢
  have hl : lv_has ls 2 [(0, .ref (ad 66)), (1, .ref (ad a0))] := hl
  refine lv_aload_n hx hb dX6_thresholdOf_0 rfl (lv_at hl 0 rfl) ?_
  refine lv_aload_n hx hb dX6_thresholdOf_1 rfl (lv_at hl 1 rfl) ?_
  refine vp_callSl (W.runV (As := [.ref (ad a0)]) (rest := []) ⟨hx, hb, hml, hown, hg⟩ (m_ReplenishRules_needOf l G cA ad σ hI a0 ha0) (cwV 1 hg (gV qM_X6_188 qI_X6_needOf qS_X6_needOf qN_X6 kX6_needOf) rfl rfl rfl (by decide +kernel) ⟨Nat.le_of_ble_eq_true rfl, Nat.le_of_ble_eq_true rfl⟩) (rr_pv hK hP (va_recv hK hP (ci := 6) (q0 := 66) rfl rl_main)) rfl rfl hl.1 rfl (lv_room (Nat.le_of_ble_eq_true rfl)) dX6_thresholdOf_2 ⟨Nat.le_of_ble_eq_true rfl, Nat.le_of_ble_eq_true rfl⟩) (nm_e ?_)
  refine lv_aload_n hx hb dX6_thresholdOf_5 rfl (lv_at hl 1 rfl) ?_
  refine va_get (D := G) (ci := 2) (v := .int (σ 0 a0)) (C := RX2) (T := TX2) (N := 13) hx hb hg hinX2 hown hK hP a0 (rl_Place ha0) rfl 2 (by decide) (hg _ qF_X6_79) (fun _ h9 => h9) rfl dX6_thresholdOf_6 ?_
  refine lv_i2l (v := (σ 0 a0).toInt64) hx hb dX6_thresholdOf_9 rfl ?_
  refine va_mmin_long hx hb (hml.trans hl.1.symm) hown (hg _ qM_X6_291) (hg _ qT_Math_min_l) (hg _ qN_Math) (hg _ qY_Math_min_l) (Nat.le_of_ble_eq_true rfl) (Nat.le_of_ble_eq_true rfl) (Nat.le_of_ble_eq_true rfl) (Nat.le_of_ble_eq_true rfl) dX6_thresholdOf_10 ?_
  show W _ _ _ _ _ _ _ _ _ _ _ _ _ _ _ (F0 m 13 ls (.long (c_minL (c_needOf σ a0) ((σ 0 a0).toInt64)) :: []))
  refine lv_l2i (v := (c_minL (c_needOf σ a0) ((σ 0 a0).toInt64)).toInt32) hx hb dX6_thresholdOf_13 rfl ?_
  exact W.iret (v := (c_minL (c_needOf σ a0) ((σ 0 a0).toInt64)).toInt32) hx hb hr (fun t ht hW => ⟨_, rfl, rfl, ht⟩) (fun _ h => nomatch h) dX6_thresholdOf_14

set_option maxHeartbeats 4000000 in
set_option maxRecDepth 100000 in
theorem m_ReplenishRules_needTimeOf (l : Launch) (G : va_G) (cA : Nat → ClassId) (ad : Nat → Nat) (σ : St) (hI : Inv σ) (a0 : Nat) (ha0 : a0 < 16) : Met l yX6_needTimeOf (wX6_needTimeOf :: wG) ({ frames := 2, cells := 0, slots := 0, locals := 45 }) (va_Pc [.ref (ad 66), .ref (ad a0)] (rrW G cA ad σ)) (vp_Si (fun r => r = c_needTimeOf σ a0)) 0 0 (fun _ => False) := by
  refine Met.ofW (cc := cX6_needTimeOf) (maxL := 4) (ret := (some .int)) (by decide) rfl ?_
  intro p e s m args below meth c s₁ B hml hv
  obtain ⟨rfl, hP, hK⟩ := hv
  have hx := B.exec
  have hb := B.bytes
  have hr := B.returns
  have hts := atoms_spec (ws := wX6_needTimeOf :: wG) B.pre
  have hg : ∀ w ∈ wG, w.before _ s = true := fun w h => hts w (List.mem_cons_of_mem _ h)
  have hown : s.vm.findClass RX6 = some m.cls := findClass_of_methodNamed B.named
  have hlocks := B.notSynchronized
  have hl := lv_entry ([.ref (ad 66), .ref (ad a0)]) (n := 4) (Nat.le_of_ble_eq_true rfl)
  rw [lg_entry_eq]
  generalize (lg_sl ([.ref (ad 66), .ref (ad a0)]) ++ List.replicate (4 - (lg_sl ([.ref (ad 66), .ref (ad a0)])).length) Slot.unset).toArray = ls at hl ⊢
  have hl : lv_has ls 4 [(0, .ref (ad 66)), (1, .ref (ad a0))] := hl
  refine lv_aload_n hx hb dX6_needTimeOf_0 rfl (lv_at hl 0 rfl) ?_
  refine lv_aload_n hx hb dX6_needTimeOf_1 rfl (lv_at hl 1 rfl) ?_
  refine vp_callSl (W.runV (As := [.ref (ad a0)]) (rest := []) ⟨hx, hb, hml, hown, hg⟩ (m_ReplenishRules_usedOnPastDays l G cA ad σ a0 ha0 (inv_today hI)) (cwV 1 hg (gV qM_X6_272 qI_X6_usedOnPastDays qS_X6_usedOnPastDays qN_X6 kX6_usedOnPastDays) rfl rfl rfl (by decide +kernel) ⟨Nat.le_of_ble_eq_true rfl, Nat.le_of_ble_eq_true rfl⟩) (rr_pv hK hP (va_recv hK hP (ci := 6) (q0 := 66) rfl rl_main)) rfl rfl hl.1 rfl (lv_room (Nat.le_of_ble_eq_true rfl)) dX6_needTimeOf_2 ⟨Nat.le_of_ble_eq_true rfl, Nat.le_of_ble_eq_true rfl⟩) (nm_e ?_)
  refine lv_lstore_n (lv' := [(2, .long (c_usedPast σ a0)), (0, .ref (ad 66)), (1, .ref (ad a0))]) hx hb dX6_needTimeOf_5 rfl hl (by decide) rfl (fun ls hl => ?_)
  refine lv_lload_n hx hb dX6_needTimeOf_6 rfl (lv_at hl 0 rfl) ?_
  refine lv_lconst (v := 0) hx hb dX6_needTimeOf_7 (by decide) ?_
  refine W.lcmp hx hb dX6_needTimeOf_8 ?_
  refine lv_if_ne (tgt := 16) hx hb dX6_needTimeOf_9 (by decide) (fun c_9 => ?_) (fun c_9 => ?_)
  · -- ifne taken
    refine lv_aload_n hx hb dX6_needTimeOf_16 rfl (lv_at hl 2 rfl) ?_
    refine va_get (D := G) (ci := 2) (v := .int (σ 2 a0)) (C := RX2) (T := TX2) (N := 13) hx hb hg hinX2 hown hK hP a0 (rl_Place ha0) rfl 4 (by decide) (hg _ qF_X6_65) (fun _ h9 => h9) rfl dX6_needTimeOf_17 ?_
    refine lv_i2l (v := (σ 2 a0).toInt64) hx hb dX6_needTimeOf_20 rfl ?_
    refine lv_aload_n hx hb dX6_needTimeOf_21 rfl (lv_at hl 1 rfl) ?_
    refine va_get (D := G) (ci := 6) (v := .ref (ad 72)) (C := RX6) (T := TX6) (N := 8) hx hb hg hinX6 hown hK hP 66 rl_main rfl 5 (by decide) (hg _ qF_X6_34) (fun _ h9 => h9) rfl dX6_needTimeOf_22 ?_
    refine lv_bipush (v := 28) hx hb dX6_needTimeOf_25 (by decide) ?_
    refine vp_callSi (W.runV (As := [.int 28]) (rest := [.long ((σ 2 a0).toInt64)]) ⟨hx, hb, hml, hown, hg⟩ (m_Calendar_openDays l G cA ad σ 28 (inv_today hI) (by decide)) (cwV 1 hg (gV qM_X6_167 qI_X0_openDays qS_X0_openDays qN_X0 kX0_openDays) rfl rfl rfl (by decide +kernel) ⟨Nat.le_of_ble_eq_true rfl, Nat.le_of_ble_eq_true rfl⟩) (rr_pv hK hP (va_recv hK hP (ci := 0) (q0 := 72) rfl rl_Calendar)) rfl rfl hl.1 rfl (lv_room (Nat.le_of_ble_eq_true rfl)) dX6_needTimeOf_27 ⟨Nat.le_of_ble_eq_true rfl, Nat.le_of_ble_eq_true rfl⟩) (nm_e ?_)
    refine lv_i2l (v := (c_openDays σ 28).toInt64) hx hb dX6_needTimeOf_30 rfl ?_
    refine lv_lmul hx hb dX6_needTimeOf_31 ?_
    refine lv_lload_n hx hb dX6_needTimeOf_32 rfl (lv_at hl 0 rfl) ?_
    refine lv_ldiv hx hb dX6_needTimeOf_33 (cmp_ne c_9) ?_
    refine lv_l2i (v := ((((σ 2 a0).toInt64) * ((c_openDays σ 28).toInt64)) / (c_usedPast σ a0)).toInt32) hx hb dX6_needTimeOf_34 rfl ?_
    exact W.iret (v := ((((σ 2 a0).toInt64) * ((c_openDays σ 28).toInt64)) / (c_usedPast σ a0)).toInt32) hx hb hr (fun t ht hW => ⟨_, rfl, by simp only [c_needTimeOf, if_neg c_9], ht⟩) (fun _ h => nomatch h) dX6_needTimeOf_35
  · -- ifne not taken
    refine lv_sipush (v := 9999) hx hb dX6_needTimeOf_12 (by decide) ?_
    exact W.iret (v := 9999) hx hb hr (fun t ht hW => ⟨_, rfl, by simp only [c_needTimeOf, if_pos c_9], ht⟩) (fun _ h => nomatch h) dX6_needTimeOf_15

set_option maxHeartbeats 4000000 in
set_option maxRecDepth 100000 in
theorem m_ReplenishRules_wantedBy (l : Launch) (G : va_G) (cA : Nat → ClassId) (ad : Nat → Nat) (σ : St) (a0 : Nat) (ha0 : a0 < 16) (b0 : Int32) (hp0 : vp_in (σ 5 a0) 8) : Met l yX6_wantedBy (wX6_wantedBy :: wG) ({ frames := 1, cells := 0, slots := 0, locals := 25 }) (va_Pc [.ref (ad 66), .ref (ad a0), .int b0] (rrW G cA ad σ)) (vp_Si (fun r => r = c_wantedBy σ a0 b0)) 0 0 (fun _ => False) := by
  refine Met.ofW (cc := cX6_wantedBy) (maxL := 4) (ret := (some .int)) (by decide) rfl ?_
  intro p e s m args below meth c s₁ B hml hv
  obtain ⟨rfl, hP, hK⟩ := hv
  have hx := B.exec
  have hb := B.bytes
  have hr := B.returns
  have hts := atoms_spec (ws := wX6_wantedBy :: wG) B.pre
  have hg : ∀ w ∈ wG, w.before _ s = true := fun w h => hts w (List.mem_cons_of_mem _ h)
  have hown : s.vm.findClass RX6 = some m.cls := findClass_of_methodNamed B.named
  have hlocks := B.notSynchronized
  have hl := lv_entry ([.ref (ad 66), .ref (ad a0), .int b0]) (n := 4) (Nat.le_of_ble_eq_true rfl)
  rw [lg_entry_eq]
  generalize (lg_sl ([.ref (ad 66), .ref (ad a0), .int b0]) ++ List.replicate (4 - (lg_sl ([.ref (ad 66), .ref (ad a0), .int b0])).length) Slot.unset).toArray = ls at hl ⊢
  have hl : lv_has ls 4 [(0, .ref (ad 66)), (1, .ref (ad a0)), (2, .int b0)] := hl
  refine lv_aload_n hx hb dX6_wantedBy_0 rfl (lv_at hl 1 rfl) ?_
  refine va_get (D := G) (ci := 2) (v := .int (σ 2 a0)) (C := RX2) (T := TX2) (N := 13) hx hb hg hinX2 hown hK hP a0 (rl_Place ha0) rfl 4 (by decide) (hg _ qF_X6_65) (fun _ h9 => h9) rfl dX6_wantedBy_1 ?_
  refine lv_iload_n hx hb dX6_wantedBy_4 rfl (lv_at hl 2 rfl) ?_
  refine lv_icmp_lt (tgt := 10) hx hb dX6_wantedBy_5 (by decide) (fun c_5 => ?_) (fun c_5 => ?_)
  · -- if_icmplt taken
    refine lv_aload_n hx hb dX6_wantedBy_10 rfl (lv_at hl 1 rfl) ?_
    refine va_get (D := G) (ci := 2) (v := .int (σ 7 a0)) (C := RX2) (T := TX2) (N := 13) hx hb hg hinX2 hown hK hP a0 (rl_Place ha0) rfl 9 (by decide) (hg _ qF_X6_69) (fun _ h9 => h9) rfl dX6_wantedBy_11 ?_
    refine lv_iload_n hx hb dX6_wantedBy_14 rfl (lv_at hl 2 rfl) ?_
    refine va_mmax hx hb (hml.trans hl.1.symm) hown (hg _ qM_X6_310) (hg _ qT_Math_max_i) (hg _ qN_Math) (hg _ qY_Math_max_i) (Nat.le_of_ble_eq_true rfl) (Nat.le_of_ble_eq_true rfl) (Nat.le_of_ble_eq_true rfl) (Nat.le_of_ble_eq_true rfl) dX6_wantedBy_15 ?_
    show W _ _ _ _ _ _ _ _ _ _ _ _ _ _ _ (F0 m 18 ls (.int (c_maxI (σ 7 a0) b0) :: []))
    refine lv_aload_n hx hb dX6_wantedBy_18 rfl (lv_at hl 1 rfl) ?_
    refine va_get (D := G) (ci := 2) (v := .int (σ 2 a0)) (C := RX2) (T := TX2) (N := 13) hx hb hg hinX2 hown hK hP a0 (rl_Place ha0) rfl 4 (by decide) (hg _ qF_X6_65) (fun _ h9 => h9) rfl dX6_wantedBy_19 ?_
    refine lv_isub hx hb dX6_wantedBy_22 ?_
    refine lv_istore_n (lv' := [(3, .int ((c_maxI (σ 7 a0) b0) - (σ 2 a0))), (0, .ref (ad 66)), (1, .ref (ad a0)), (2, .int b0)]) hx hb dX6_wantedBy_23 rfl hl (by decide) rfl (fun ls hl => ?_)
    refine lv_iload_n hx hb dX6_wantedBy_24 rfl (lv_at hl 0 rfl) ?_
    refine lv_aload_n hx hb dX6_wantedBy_25 rfl (lv_at hl 1 rfl) ?_
    refine va_get (D := G) (ci := 6) (v := .ref (ad 69)) (C := RX6) (T := TX6) (N := 8) hx hb hg hinX6 hown hK hP 66 rl_main rfl 2 (by decide) (hg _ qF_X6_21) (fun _ h9 => h9) rfl dX6_wantedBy_26 ?_
    refine lv_aload_n hx hb dX6_wantedBy_29 rfl (lv_at hl 2 rfl) ?_
    refine va_get (D := G) (ci := 2) (v := .int (σ 5 a0)) (C := RX2) (T := TX2) (N := 13) hx hb hg hinX2 hown hK hP a0 (rl_Place ha0) rfl 7 (by decide) (hg _ qF_X6_91) (fun _ h9 => h9) rfl dX6_wantedBy_30 ?_
    refine va_iald hx hb hK hP 69 0 rl_casesA rfl hp0 dX6_wantedBy_33 ?_
    refine lv_aload_n hx hb dX6_wantedBy_34 rfl (lv_at hl 2 rfl) ?_
    refine vp_callSi (W.runV (As := []) (rest := [.int (σ 30 (nx (σ 5 a0))), .int ((c_maxI (σ 7 a0) b0) - (σ 2 a0))]) ⟨hx, hb, hml, hown, hg⟩ (m_Place_space l G cA ad σ a0 ha0) (cwV 0 hg (gV qM_X6_243 qI_X2_space qS_X2_space qN_X2 kX2_space) rfl rfl rfl (by decide +kernel) ⟨Nat.le_of_ble_eq_true rfl, Nat.le_of_ble_eq_true rfl⟩) (rr_pv hK hP (va_recv hK hP (ci := 2) (q0 := a0) rfl (rl_Place ha0))) rfl rfl hl.1 rfl (lv_room (Nat.le_of_ble_eq_true rfl)) dX6_wantedBy_35 ⟨Nat.le_of_ble_eq_true rfl, Nat.le_of_ble_eq_true rfl⟩) (nm_e ?_)
    refine vp_callSi (W.runS (As := [.int ((c_maxI (σ 7 a0) b0) - (σ 2 a0)), .int (σ 30 (nx (σ 5 a0))), .int (c_space σ a0)]) (rest := []) ⟨hx, hb, hml, hown, hg⟩ (m_ReplenishRules_inFullCases l ((c_maxI (σ 7 a0) b0) - (σ 2 a0)) (σ 30 (nx (σ 5 a0))) (c_space σ a0)) (cwS 3 hg (gS qM_X6_313 qT_X6_inFullCases qN_X6 kX6_inFullCases) rfl rfl rfl (by decide +kernel) ⟨Nat.le_of_ble_eq_true rfl, Nat.le_of_ble_eq_true rfl⟩) ⟨fun _ _ _ _ q => q, fun _ _ _ => ⟨rfl, trivial⟩⟩ rfl rfl hl.1 rfl (lv_room (Nat.le_of_ble_eq_true rfl)) dX6_wantedBy_38 ⟨Nat.le_of_ble_eq_true rfl, Nat.le_of_ble_eq_true rfl⟩) (nm_e ?_)
    exact W.iret (v := c_inFullCases ((c_maxI (σ 7 a0) b0) - (σ 2 a0)) (σ 30 (nx (σ 5 a0))) (c_space σ a0)) hx hb hr (fun t ht hW => ⟨_, rfl, by simp only [c_wantedBy, if_pos c_5], ht⟩) (fun _ h => nomatch h) dX6_wantedBy_41
  · -- if_icmplt not taken
    refine lv_iconst (v := 0) hx hb dX6_wantedBy_8 (by decide) ?_
    exact W.iret (v := 0) hx hb hr (fun t ht hW => ⟨_, rfl, by simp only [c_wantedBy, if_neg c_5], ht⟩) (fun _ h => nomatch h) dX6_wantedBy_9
