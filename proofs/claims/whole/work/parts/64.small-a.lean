set_option maxHeartbeats 4000000 in
set_option maxRecDepth 100000 in
theorem l_place (l : Launch) (hl9 : l.stackTraces = false) (G : va_G) (cA : Nat → ClassId) (ad : Nat → Nat) (σ : St) (hJ : rr_inj ad) (a0 : Int32) (b0 : Int32) (c0 : Int32) : Met l yL_place (wL_place :: wG) { frames := 10, cells := 5, slots := 30, locals := 200 } (va_Pc [.ref (ad 66), .int a0, .int b0, .int c0] (lxV G cA ad σ)) (lqV G cA ad (c_placeK σ a0 b0 c0) (if c_placeK σ a0 b0 c0 = 0 then c_placeS σ a0 b0 c0 else σ)) 5 30 (rrA ad) := by
  refine va_MetW (cc := cL_place) (maxL := 5) (ret := some .int) (hh := hL_place) (by decide) rfl ?_
  intro p e s m args below meth c s₁ B hml hv
  obtain ⟨rfl, hX, hA9⟩ := hv
  have hx := B.exec
  have hb := B.bytes
  have hr := B.returns
  have hts := atoms_spec (ws := wL_place :: wG) B.pre
  have hg : ∀ w ∈ wG, w.before _ s = true := fun w h => hts w (List.mem_cons_of_mem _ h)
  have hown : s.vm.findClass RL = some m.cls := findClass_of_methodNamed B.named
  have htab := ct_tab (Stand.of_body B) B.named (hts _ List.mem_cons_self)
  have hl := lv_entry ([.ref (ad 66), .int a0, .int b0, .int c0]) (n := 5) (Nat.le_of_ble_eq_true rfl)
  rw [lg_entry_eq]
  generalize (lg_sl ([.ref (ad 66), .int a0, .int b0, .int c0]) ++ List.replicate (5 - (lg_sl ([.ref (ad 66), .int a0, .int b0, .int c0])).length) Slot.unset).toArray = ls at hl ⊢
  have hl : lv_has ls 5 [(0, .ref (ad 66)), (1, .int a0), (2, .int b0), (3, .int c0)] := hl
  refine lv_aload_n hx hb dL_place_0 rfl (lv_at hl 0 rfl) ?_
  refine lv_iload_n hx hb dL_place_1 rfl (lv_at hl 1 rfl) ?_
  refine lv_iload_n hx hb dL_place_2 rfl (lv_at hl 2 rfl) ?_
  refine lv_iload_n hx hb dL_place_3 rfl (lv_at hl 3 rfl) ?_
  rcases rn_place σ a0 b0 c0 with hk | hk | hk
  · refine ct_callV (h := 0) (As := [.int a0, .int b0, .int c0]) (rest := []) ⟨hx, hb, hml, hown, hg⟩ (m_ReplenishRules_place l hl9 G cA ad σ hJ a0 b0 c0) (cwV 3 hg (gV qM_L_7 qI_X6_place qS_X6_place qN_X6 kX6_place) rfl rfl rfl (by decide +kernel) ⟨Nat.le_of_ble_eq_true rfl, Nat.le_of_ble_eq_true rfl⟩) hX hA9 htab (va_recv hX.2.1 hX.1 (ci := 6) (q0 := 66) rfl rl_main) rfl hl.1 rfl (lv_room (Nat.le_of_ble_eq_true rfl)) dL_place_4 ⟨Nat.le_of_ble_eq_true rfl, Nat.le_of_ble_eq_true rfl⟩ (by rw [hk]; decide) (fun h9 => absurd hk h9) (fun _ v τ H locs hr8 hP hS => ?_) (fun h9 => absurd hk h9)
    obtain ⟨rfl, hτ9⟩ := hr8
    rw [hτ9] at hP
    refine W.eq (g2 := F0 m 7 ls []) rfl ?_
    refine lv_goto (tgt := 18) hx hb dL_place_7 (by decide) ?_
    refine lv_iconst (v := 0) hx hb dL_place_18 (by decide) ?_
    refine W.widen (k := 5) (n := 30) (Nat.le_of_ble_eq_true rfl) (Nat.le_of_ble_eq_true rfl) ?_
    exact W.iret (v := 0) hx hb hr (fun t ht hW => ⟨⟨0, _, rfl, ⟨by rw [hk]; rfl, (if_pos hk).symm⟩, by rw [ht]; exact hP, va_K.moved hW.alike hX.2.1⟩, hS.F ht⟩) hS.2.2 dL_place_19
  · refine ct_callV (h := 10) (As := [.int a0, .int b0, .int c0]) (rest := []) ⟨hx, hb, hml, hown, hg⟩ (m_ReplenishRules_place l hl9 G cA ad σ hJ a0 b0 c0) (cwV 3 hg (gV qM_L_7 qI_X6_place qS_X6_place qN_X6 kX6_place) rfl rfl rfl (by decide +kernel) ⟨Nat.le_of_ble_eq_true rfl, Nat.le_of_ble_eq_true rfl⟩) hX hA9 htab (va_recv hX.2.1 hX.1 (ci := 6) (q0 := 66) rfl rl_main) rfl hl.1 rfl (lv_room (Nat.le_of_ble_eq_true rfl)) dL_place_4 ⟨Nat.le_of_ble_eq_true rfl, Nat.le_of_ble_eq_true rfl⟩ (by rw [hk]; decide) (fun _ pl hpl o ho9 => by rw [hk] at ho9; exact ct_take (K := 1) hpl hA9 hown rfl (by decide) (hg _ qK_L_13) ho9 ⟨by decide, by decide⟩) (fun h9 => absurd (h9.symm.trans hk) (by decide)) (fun _ q H locs hP hS => ?_)
    refine lv_astore (lv' := [(4, .ref q), (0, .ref (ad 66)), (1, .int a0), (2, .int b0), (3, .int c0)]) hx hb dL_place_10 hl (by decide) rfl (fun ls hl => ?_)
    refine lv_iconst (v := 1) hx hb dL_place_12 (by decide) ?_
    refine W.widen (k := 5) (n := 30) (Nat.le_of_ble_eq_true rfl) (Nat.le_of_ble_eq_true rfl) ?_
    exact W.iret (v := 1) hx hb hr (fun t ht hW => ⟨⟨1, _, rfl, ⟨by rw [hk]; rfl, (if_neg (by rw [hk]; decide)).symm⟩, by rw [ht]; exact hP, va_K.moved hW.alike hX.2.1⟩, hS.F ht⟩) hS.2.2 dL_place_13
  · refine ct_callV (h := 14) (As := [.int a0, .int b0, .int c0]) (rest := []) ⟨hx, hb, hml, hown, hg⟩ (m_ReplenishRules_place l hl9 G cA ad σ hJ a0 b0 c0) (cwV 3 hg (gV qM_L_7 qI_X6_place qS_X6_place qN_X6 kX6_place) rfl rfl rfl (by decide +kernel) ⟨Nat.le_of_ble_eq_true rfl, Nat.le_of_ble_eq_true rfl⟩) hX hA9 htab (va_recv hX.2.1 hX.1 (ci := 6) (q0 := 66) rfl rl_main) rfl hl.1 rfl (lv_room (Nat.le_of_ble_eq_true rfl)) dL_place_4 ⟨Nat.le_of_ble_eq_true rfl, Nat.le_of_ble_eq_true rfl⟩ (by rw [hk]; decide) (fun _ pl hpl o ho9 => by rw [hk] at ho9; exact ct_pass (K := 2) (j := 1) hpl hA9 hown rfl (by decide) (hg _ qK_L_13) ho9 ⟨by decide, by decide⟩ ⟨by decide, by decide⟩ (by decide) (ct_take (K := 2) hpl hA9 hown rfl (by decide) (hg _ qK_L_15) ho9 ⟨by decide, by decide⟩)) (fun h9 => absurd (h9.symm.trans hk) (by decide)) (fun _ q H locs hP hS => ?_)
    refine lv_astore (lv' := [(4, .ref q), (0, .ref (ad 66)), (1, .int a0), (2, .int b0), (3, .int c0)]) hx hb dL_place_14 hl (by decide) rfl (fun ls hl => ?_)
    refine lv_iconst (v := 2) hx hb dL_place_16 (by decide) ?_
    refine W.widen (k := 5) (n := 30) (Nat.le_of_ble_eq_true rfl) (Nat.le_of_ble_eq_true rfl) ?_
    exact W.iret (v := 2) hx hb hr (fun t ht hW => ⟨⟨2, _, rfl, ⟨by rw [hk]; rfl, (if_neg (by rw [hk]; decide)).symm⟩, by rw [ht]; exact hP, va_K.moved hW.alike hX.2.1⟩, hS.F ht⟩) hS.2.2 dL_place_17

set_option maxHeartbeats 4000000 in
set_option maxRecDepth 100000 in
theorem l_face (l : Launch) (hl9 : l.stackTraces = false) (G : va_G) (cA : Nat → ClassId) (ad : Nat → Nat) (σ : St) (hJ : rr_inj ad) (a0 : Int32) (b0 : Int32) (c0 : Int32) (d0 : Int32) : Met l yL_face (wL_face :: wG) { frames := 10, cells := 5, slots := 30, locals := 200 } (va_Pc [.ref (ad 66), .int a0, .int b0, .int c0, .int d0] (lxV G cA ad σ)) (lqV G cA ad (c_faceK σ a0 b0 c0 d0) (if c_faceK σ a0 b0 c0 d0 = 0 then c_faceS σ a0 b0 c0 d0 else σ)) 5 30 (rrA ad) := by
  refine va_MetW (cc := cL_face) (maxL := 6) (ret := some .int) (hh := hL_face) (by decide) rfl ?_
  intro p e s m args below meth c s₁ B hml hv
  obtain ⟨rfl, hX, hA9⟩ := hv
  have hx := B.exec
  have hb := B.bytes
  have hr := B.returns
  have hts := atoms_spec (ws := wL_face :: wG) B.pre
  have hg : ∀ w ∈ wG, w.before _ s = true := fun w h => hts w (List.mem_cons_of_mem _ h)
  have hown : s.vm.findClass RL = some m.cls := findClass_of_methodNamed B.named
  have htab := ct_tab (Stand.of_body B) B.named (hts _ List.mem_cons_self)
  have hl := lv_entry ([.ref (ad 66), .int a0, .int b0, .int c0, .int d0]) (n := 6) (Nat.le_of_ble_eq_true rfl)
  rw [lg_entry_eq]
  generalize (lg_sl ([.ref (ad 66), .int a0, .int b0, .int c0, .int d0]) ++ List.replicate (6 - (lg_sl ([.ref (ad 66), .int a0, .int b0, .int c0, .int d0])).length) Slot.unset).toArray = ls at hl ⊢
  have hl : lv_has ls 6 [(0, .ref (ad 66)), (1, .int a0), (2, .int b0), (3, .int c0), (4, .int d0)] := hl
  refine lv_aload_n hx hb dL_face_0 rfl (lv_at hl 0 rfl) ?_
  refine lv_iload_n hx hb dL_face_1 rfl (lv_at hl 1 rfl) ?_
  refine lv_iload_n hx hb dL_face_2 rfl (lv_at hl 2 rfl) ?_
  refine lv_iload_n hx hb dL_face_3 rfl (lv_at hl 3 rfl) ?_
  refine lv_iload hx hb dL_face_4 (lv_at hl 4 rfl) ?_
  rcases rn_face σ a0 b0 c0 d0 with hk | hk | hk
  · refine ct_callV (h := 0) (As := [.int a0, .int b0, .int c0, .int d0]) (rest := []) ⟨hx, hb, hml, hown, hg⟩ (m_ReplenishRules_face l hl9 G cA ad σ hJ a0 b0 c0 d0) (cwV 4 hg (gV qM_L_17 qI_X6_face qS_X6_face qN_X6 kX6_face) rfl rfl rfl (by decide +kernel) ⟨Nat.le_of_ble_eq_true rfl, Nat.le_of_ble_eq_true rfl⟩) hX hA9 htab (va_recv hX.2.1 hX.1 (ci := 6) (q0 := 66) rfl rl_main) rfl hl.1 rfl (lv_room (Nat.le_of_ble_eq_true rfl)) dL_face_6 ⟨Nat.le_of_ble_eq_true rfl, Nat.le_of_ble_eq_true rfl⟩ (by rw [hk]; decide) (fun h9 => absurd hk h9) (fun _ v τ H locs hr8 hP hS => ?_) (fun h9 => absurd hk h9)
    obtain ⟨rfl, hτ9⟩ := hr8
    rw [hτ9] at hP
    refine W.eq (g2 := F0 m 9 ls []) rfl ?_
    refine lv_goto (tgt := 20) hx hb dL_face_9 (by decide) ?_
    refine lv_iconst (v := 0) hx hb dL_face_20 (by decide) ?_
    refine W.widen (k := 5) (n := 30) (Nat.le_of_ble_eq_true rfl) (Nat.le_of_ble_eq_true rfl) ?_
    exact W.iret (v := 0) hx hb hr (fun t ht hW => ⟨⟨0, _, rfl, ⟨by rw [hk]; rfl, (if_pos hk).symm⟩, by rw [ht]; exact hP, va_K.moved hW.alike hX.2.1⟩, hS.F ht⟩) hS.2.2 dL_face_21
  · refine ct_callV (h := 12) (As := [.int a0, .int b0, .int c0, .int d0]) (rest := []) ⟨hx, hb, hml, hown, hg⟩ (m_ReplenishRules_face l hl9 G cA ad σ hJ a0 b0 c0 d0) (cwV 4 hg (gV qM_L_17 qI_X6_face qS_X6_face qN_X6 kX6_face) rfl rfl rfl (by decide +kernel) ⟨Nat.le_of_ble_eq_true rfl, Nat.le_of_ble_eq_true rfl⟩) hX hA9 htab (va_recv hX.2.1 hX.1 (ci := 6) (q0 := 66) rfl rl_main) rfl hl.1 rfl (lv_room (Nat.le_of_ble_eq_true rfl)) dL_face_6 ⟨Nat.le_of_ble_eq_true rfl, Nat.le_of_ble_eq_true rfl⟩ (by rw [hk]; decide) (fun _ pl hpl o ho9 => by rw [hk] at ho9; exact ct_take (K := 1) hpl hA9 hown rfl (by decide) (hg _ qK_L_13) ho9 ⟨by decide, by decide⟩) (fun h9 => absurd (h9.symm.trans hk) (by decide)) (fun _ q H locs hP hS => ?_)
    refine lv_astore (lv' := [(5, .ref q), (0, .ref (ad 66)), (1, .int a0), (2, .int b0), (3, .int c0), (4, .int d0)]) hx hb dL_face_12 hl (by decide) rfl (fun ls hl => ?_)
    refine lv_iconst (v := 1) hx hb dL_face_14 (by decide) ?_
    refine W.widen (k := 5) (n := 30) (Nat.le_of_ble_eq_true rfl) (Nat.le_of_ble_eq_true rfl) ?_
    exact W.iret (v := 1) hx hb hr (fun t ht hW => ⟨⟨1, _, rfl, ⟨by rw [hk]; rfl, (if_neg (by rw [hk]; decide)).symm⟩, by rw [ht]; exact hP, va_K.moved hW.alike hX.2.1⟩, hS.F ht⟩) hS.2.2 dL_face_15
  · refine ct_callV (h := 16) (As := [.int a0, .int b0, .int c0, .int d0]) (rest := []) ⟨hx, hb, hml, hown, hg⟩ (m_ReplenishRules_face l hl9 G cA ad σ hJ a0 b0 c0 d0) (cwV 4 hg (gV qM_L_17 qI_X6_face qS_X6_face qN_X6 kX6_face) rfl rfl rfl (by decide +kernel) ⟨Nat.le_of_ble_eq_true rfl, Nat.le_of_ble_eq_true rfl⟩) hX hA9 htab (va_recv hX.2.1 hX.1 (ci := 6) (q0 := 66) rfl rl_main) rfl hl.1 rfl (lv_room (Nat.le_of_ble_eq_true rfl)) dL_face_6 ⟨Nat.le_of_ble_eq_true rfl, Nat.le_of_ble_eq_true rfl⟩ (by rw [hk]; decide) (fun _ pl hpl o ho9 => by rw [hk] at ho9; exact ct_pass (K := 2) (j := 1) hpl hA9 hown rfl (by decide) (hg _ qK_L_13) ho9 ⟨by decide, by decide⟩ ⟨by decide, by decide⟩ (by decide) (ct_take (K := 2) hpl hA9 hown rfl (by decide) (hg _ qK_L_15) ho9 ⟨by decide, by decide⟩)) (fun h9 => absurd (h9.symm.trans hk) (by decide)) (fun _ q H locs hP hS => ?_)
    refine lv_astore (lv' := [(5, .ref q), (0, .ref (ad 66)), (1, .int a0), (2, .int b0), (3, .int c0), (4, .int d0)]) hx hb dL_face_16 hl (by decide) rfl (fun ls hl => ?_)
    refine lv_iconst (v := 2) hx hb dL_face_18 (by decide) ?_
    refine W.widen (k := 5) (n := 30) (Nat.le_of_ble_eq_true rfl) (Nat.le_of_ble_eq_true rfl) ?_
    exact W.iret (v := 2) hx hb hr (fun t ht hW => ⟨⟨2, _, rfl, ⟨by rw [hk]; rfl, (if_neg (by rw [hk]; decide)).symm⟩, by rw [ht]; exact hP, va_K.moved hW.alike hX.2.1⟩, hS.F ht⟩) hS.2.2 dL_face_19

set_option maxHeartbeats 4000000 in
set_option maxRecDepth 100000 in
theorem l_put (l : Launch) (hl9 : l.stackTraces = false) (G : va_G) (cA : Nat → ClassId) (ad : Nat → Nat) (σ : St) (hJ : rr_inj ad) (a0 : Int32) (b0 : Int32) (c0 : Int32) : Met l yL_put (wL_put :: wG) { frames := 10, cells := 5, slots := 30, locals := 200 } (va_Pc [.ref (ad 66), .int a0, .int b0, .int c0] (lxV G cA ad σ)) (lqV G cA ad (c_putK σ a0 b0 c0) (if c_putK σ a0 b0 c0 = 0 then c_putS σ a0 b0 c0 else σ)) 5 30 (rrA ad) := by
  refine va_MetW (cc := cL_put) (maxL := 5) (ret := some .int) (hh := hL_put) (by decide) rfl ?_
  intro p e s m args below meth c s₁ B hml hv
  obtain ⟨rfl, hX, hA9⟩ := hv
  have hx := B.exec
  have hb := B.bytes
  have hr := B.returns
  have hts := atoms_spec (ws := wL_put :: wG) B.pre
  have hg : ∀ w ∈ wG, w.before _ s = true := fun w h => hts w (List.mem_cons_of_mem _ h)
  have hown : s.vm.findClass RL = some m.cls := findClass_of_methodNamed B.named
  have htab := ct_tab (Stand.of_body B) B.named (hts _ List.mem_cons_self)
  have hl := lv_entry ([.ref (ad 66), .int a0, .int b0, .int c0]) (n := 5) (Nat.le_of_ble_eq_true rfl)
  rw [lg_entry_eq]
  generalize (lg_sl ([.ref (ad 66), .int a0, .int b0, .int c0]) ++ List.replicate (5 - (lg_sl ([.ref (ad 66), .int a0, .int b0, .int c0])).length) Slot.unset).toArray = ls at hl ⊢
  have hl : lv_has ls 5 [(0, .ref (ad 66)), (1, .int a0), (2, .int b0), (3, .int c0)] := hl
  refine lv_aload_n hx hb dL_put_0 rfl (lv_at hl 0 rfl) ?_
  refine lv_iload_n hx hb dL_put_1 rfl (lv_at hl 1 rfl) ?_
  refine lv_iload_n hx hb dL_put_2 rfl (lv_at hl 2 rfl) ?_
  refine lv_iload_n hx hb dL_put_3 rfl (lv_at hl 3 rfl) ?_
  rcases rn_put σ a0 b0 c0 with hk | hk | hk | hk
  · refine ct_callV (h := 0) (As := [.int a0, .int b0, .int c0]) (rest := []) ⟨hx, hb, hml, hown, hg⟩ (m_ReplenishRules_put l hl9 G cA ad σ hJ a0 b0 c0) (cwV 3 hg (gV qM_L_21 qI_X6_put qS_X6_put qN_X6 kX6_put) rfl rfl rfl (by decide +kernel) ⟨Nat.le_of_ble_eq_true rfl, Nat.le_of_ble_eq_true rfl⟩) hX hA9 htab (va_recv hX.2.1 hX.1 (ci := 6) (q0 := 66) rfl rl_main) rfl hl.1 rfl (lv_room (Nat.le_of_ble_eq_true rfl)) dL_put_4 ⟨Nat.le_of_ble_eq_true rfl, Nat.le_of_ble_eq_true rfl⟩ (by rw [hk]; decide) (fun h9 => absurd hk h9) (fun _ v τ H locs hr8 hP hS => ?_) (fun h9 => absurd hk h9)
    obtain ⟨rfl, hτ9⟩ := hr8
    rw [hτ9] at hP
    refine W.eq (g2 := F0 m 7 ls []) rfl ?_
    refine lv_goto (tgt := 22) hx hb dL_put_7 (by decide) ?_
    refine lv_iconst (v := 0) hx hb dL_put_22 (by decide) ?_
    refine W.widen (k := 5) (n := 30) (Nat.le_of_ble_eq_true rfl) (Nat.le_of_ble_eq_true rfl) ?_
    exact W.iret (v := 0) hx hb hr (fun t ht hW => ⟨⟨0, _, rfl, ⟨by rw [hk]; rfl, (if_pos hk).symm⟩, by rw [ht]; exact hP, va_K.moved hW.alike hX.2.1⟩, hS.F ht⟩) hS.2.2 dL_put_23
  · refine ct_callV (h := 10) (As := [.int a0, .int b0, .int c0]) (rest := []) ⟨hx, hb, hml, hown, hg⟩ (m_ReplenishRules_put l hl9 G cA ad σ hJ a0 b0 c0) (cwV 3 hg (gV qM_L_21 qI_X6_put qS_X6_put qN_X6 kX6_put) rfl rfl rfl (by decide +kernel) ⟨Nat.le_of_ble_eq_true rfl, Nat.le_of_ble_eq_true rfl⟩) hX hA9 htab (va_recv hX.2.1 hX.1 (ci := 6) (q0 := 66) rfl rl_main) rfl hl.1 rfl (lv_room (Nat.le_of_ble_eq_true rfl)) dL_put_4 ⟨Nat.le_of_ble_eq_true rfl, Nat.le_of_ble_eq_true rfl⟩ (by rw [hk]; decide) (fun _ pl hpl o ho9 => by rw [hk] at ho9; exact ct_take (K := 1) hpl hA9 hown rfl (by decide) (hg _ qK_L_13) ho9 ⟨by decide, by decide⟩) (fun h9 => absurd (h9.symm.trans hk) (by decide)) (fun _ q H locs hP hS => ?_)
    refine lv_astore (lv' := [(4, .ref q), (0, .ref (ad 66)), (1, .int a0), (2, .int b0), (3, .int c0)]) hx hb dL_put_10 hl (by decide) rfl (fun ls hl => ?_)
    refine lv_iconst (v := 1) hx hb dL_put_12 (by decide) ?_
    refine W.widen (k := 5) (n := 30) (Nat.le_of_ble_eq_true rfl) (Nat.le_of_ble_eq_true rfl) ?_
    exact W.iret (v := 1) hx hb hr (fun t ht hW => ⟨⟨1, _, rfl, ⟨by rw [hk]; rfl, (if_neg (by rw [hk]; decide)).symm⟩, by rw [ht]; exact hP, va_K.moved hW.alike hX.2.1⟩, hS.F ht⟩) hS.2.2 dL_put_13
  · refine ct_callV (h := 14) (As := [.int a0, .int b0, .int c0]) (rest := []) ⟨hx, hb, hml, hown, hg⟩ (m_ReplenishRules_put l hl9 G cA ad σ hJ a0 b0 c0) (cwV 3 hg (gV qM_L_21 qI_X6_put qS_X6_put qN_X6 kX6_put) rfl rfl rfl (by decide +kernel) ⟨Nat.le_of_ble_eq_true rfl, Nat.le_of_ble_eq_true rfl⟩) hX hA9 htab (va_recv hX.2.1 hX.1 (ci := 6) (q0 := 66) rfl rl_main) rfl hl.1 rfl (lv_room (Nat.le_of_ble_eq_true rfl)) dL_put_4 ⟨Nat.le_of_ble_eq_true rfl, Nat.le_of_ble_eq_true rfl⟩ (by rw [hk]; decide) (fun _ pl hpl o ho9 => by rw [hk] at ho9; exact ct_pass (K := 2) (j := 1) hpl hA9 hown rfl (by decide) (hg _ qK_L_13) ho9 ⟨by decide, by decide⟩ ⟨by decide, by decide⟩ (by decide) (ct_take (K := 2) hpl hA9 hown rfl (by decide) (hg _ qK_L_15) ho9 ⟨by decide, by decide⟩)) (fun h9 => absurd (h9.symm.trans hk) (by decide)) (fun _ q H locs hP hS => ?_)
    refine lv_astore (lv' := [(4, .ref q), (0, .ref (ad 66)), (1, .int a0), (2, .int b0), (3, .int c0)]) hx hb dL_put_14 hl (by decide) rfl (fun ls hl => ?_)
    refine lv_iconst (v := 2) hx hb dL_put_16 (by decide) ?_
    refine W.widen (k := 5) (n := 30) (Nat.le_of_ble_eq_true rfl) (Nat.le_of_ble_eq_true rfl) ?_
    exact W.iret (v := 2) hx hb hr (fun t ht hW => ⟨⟨2, _, rfl, ⟨by rw [hk]; rfl, (if_neg (by rw [hk]; decide)).symm⟩, by rw [ht]; exact hP, va_K.moved hW.alike hX.2.1⟩, hS.F ht⟩) hS.2.2 dL_put_17
  · refine ct_callV (h := 18) (As := [.int a0, .int b0, .int c0]) (rest := []) ⟨hx, hb, hml, hown, hg⟩ (m_ReplenishRules_put l hl9 G cA ad σ hJ a0 b0 c0) (cwV 3 hg (gV qM_L_21 qI_X6_put qS_X6_put qN_X6 kX6_put) rfl rfl rfl (by decide +kernel) ⟨Nat.le_of_ble_eq_true rfl, Nat.le_of_ble_eq_true rfl⟩) hX hA9 htab (va_recv hX.2.1 hX.1 (ci := 6) (q0 := 66) rfl rl_main) rfl hl.1 rfl (lv_room (Nat.le_of_ble_eq_true rfl)) dL_put_4 ⟨Nat.le_of_ble_eq_true rfl, Nat.le_of_ble_eq_true rfl⟩ (by rw [hk]; decide) (fun _ pl hpl o ho9 => by rw [hk] at ho9; exact ct_pass (K := 3) (j := 1) hpl hA9 hown rfl (by decide) (hg _ qK_L_13) ho9 ⟨by decide, by decide⟩ ⟨by decide, by decide⟩ (by decide) (ct_pass (K := 3) (j := 2) hpl hA9 hown rfl (by decide) (hg _ qK_L_15) ho9 ⟨by decide, by decide⟩ ⟨by decide, by decide⟩ (by decide) (ct_take (K := 3) hpl hA9 hown rfl (by decide) (hg _ qK_L_24) ho9 ⟨by decide, by decide⟩))) (fun h9 => absurd (h9.symm.trans hk) (by decide)) (fun _ q H locs hP hS => ?_)
    refine lv_astore (lv' := [(4, .ref q), (0, .ref (ad 66)), (1, .int a0), (2, .int b0), (3, .int c0)]) hx hb dL_put_18 hl (by decide) rfl (fun ls hl => ?_)
    refine lv_iconst (v := 3) hx hb dL_put_20 (by decide) ?_
    refine W.widen (k := 5) (n := 30) (Nat.le_of_ble_eq_true rfl) (Nat.le_of_ble_eq_true rfl) ?_
    exact W.iret (v := 3) hx hb hr (fun t ht hW => ⟨⟨3, _, rfl, ⟨by rw [hk]; rfl, (if_neg (by rw [hk]; decide)).symm⟩, by rw [ht]; exact hP, va_K.moved hW.alike hX.2.1⟩, hS.F ht⟩) hS.2.2 dL_put_21

set_option maxHeartbeats 4000000 in
set_option maxRecDepth 100000 in
theorem l_use (l : Launch) (hl9 : l.stackTraces = false) (G : va_G) (cA : Nat → ClassId) (ad : Nat → Nat) (σ : St) (hJ : rr_inj ad) (hI : Inv σ) (a0 : Int32) (b0 : Int32) : Met l yL_use (wL_use :: wG) { frames := 10, cells := 5, slots := 30, locals := 200 } (va_Pc [.ref (ad 66), .int a0, .int b0] (lxV G cA ad σ)) (lqV G cA ad (c_useK σ a0 b0) (if c_useK σ a0 b0 = 0 then c_useS σ a0 b0 else σ)) 5 30 (rrA ad) := by
  refine va_MetW (cc := cL_use) (maxL := 4) (ret := some .int) (hh := hL_use) (by decide) rfl ?_
  intro p e s m args below meth c s₁ B hml hv
  obtain ⟨rfl, hX, hA9⟩ := hv
  have hx := B.exec
  have hb := B.bytes
  have hr := B.returns
  have hts := atoms_spec (ws := wL_use :: wG) B.pre
  have hg : ∀ w ∈ wG, w.before _ s = true := fun w h => hts w (List.mem_cons_of_mem _ h)
  have hown : s.vm.findClass RL = some m.cls := findClass_of_methodNamed B.named
  have htab := ct_tab (Stand.of_body B) B.named (hts _ List.mem_cons_self)
  have hl := lv_entry ([.ref (ad 66), .int a0, .int b0]) (n := 4) (Nat.le_of_ble_eq_true rfl)
  rw [lg_entry_eq]
  generalize (lg_sl ([.ref (ad 66), .int a0, .int b0]) ++ List.replicate (4 - (lg_sl ([.ref (ad 66), .int a0, .int b0])).length) Slot.unset).toArray = ls at hl ⊢
  have hl : lv_has ls 4 [(0, .ref (ad 66)), (1, .int a0), (2, .int b0)] := hl
  refine lv_aload_n hx hb dL_use_0 rfl (lv_at hl 0 rfl) ?_
  refine lv_iload_n hx hb dL_use_1 rfl (lv_at hl 1 rfl) ?_
  refine lv_iload_n hx hb dL_use_2 rfl (lv_at hl 2 rfl) ?_
  rcases rn_use σ a0 b0 with hk | hk | hk
  · refine ct_callV (h := 0) (As := [.int a0, .int b0]) (rest := []) ⟨hx, hb, hml, hown, hg⟩ (m_ReplenishRules_use l hl9 G cA ad σ hJ hI a0 b0) (cwV 2 hg (gV qM_L_26 qI_X6_use qS_X6_use qN_X6 kX6_use) rfl rfl rfl (by decide +kernel) ⟨Nat.le_of_ble_eq_true rfl, Nat.le_of_ble_eq_true rfl⟩) hX hA9 htab (va_recv hX.2.1 hX.1 (ci := 6) (q0 := 66) rfl rl_main) rfl hl.1 rfl (lv_room (Nat.le_of_ble_eq_true rfl)) dL_use_3 ⟨Nat.le_of_ble_eq_true rfl, Nat.le_of_ble_eq_true rfl⟩ (by rw [hk]; decide) (fun h9 => absurd hk h9) (fun _ v τ H locs hr8 hP hS => ?_) (fun h9 => absurd hk h9)
    obtain ⟨rfl, hτ9⟩ := hr8
    rw [hτ9] at hP
    refine W.eq (g2 := F0 m 6 ls []) rfl ?_
    refine lv_goto (tgt := 15) hx hb dL_use_6 (by decide) ?_
    refine lv_iconst (v := 0) hx hb dL_use_15 (by decide) ?_
    refine W.widen (k := 5) (n := 30) (Nat.le_of_ble_eq_true rfl) (Nat.le_of_ble_eq_true rfl) ?_
    exact W.iret (v := 0) hx hb hr (fun t ht hW => ⟨⟨0, _, rfl, ⟨by rw [hk]; rfl, (if_pos hk).symm⟩, by rw [ht]; exact hP, va_K.moved hW.alike hX.2.1⟩, hS.F ht⟩) hS.2.2 dL_use_16
  · refine ct_callV (h := 9) (As := [.int a0, .int b0]) (rest := []) ⟨hx, hb, hml, hown, hg⟩ (m_ReplenishRules_use l hl9 G cA ad σ hJ hI a0 b0) (cwV 2 hg (gV qM_L_26 qI_X6_use qS_X6_use qN_X6 kX6_use) rfl rfl rfl (by decide +kernel) ⟨Nat.le_of_ble_eq_true rfl, Nat.le_of_ble_eq_true rfl⟩) hX hA9 htab (va_recv hX.2.1 hX.1 (ci := 6) (q0 := 66) rfl rl_main) rfl hl.1 rfl (lv_room (Nat.le_of_ble_eq_true rfl)) dL_use_3 ⟨Nat.le_of_ble_eq_true rfl, Nat.le_of_ble_eq_true rfl⟩ (by rw [hk]; decide) (fun _ pl hpl o ho9 => by rw [hk] at ho9; exact ct_take (K := 1) hpl hA9 hown rfl (by decide) (hg _ qK_L_13) ho9 ⟨by decide, by decide⟩) (fun h9 => absurd (h9.symm.trans hk) (by decide)) (fun _ q H locs hP hS => ?_)
    refine lv_astore_n (lv' := [(3, .ref q), (0, .ref (ad 66)), (1, .int a0), (2, .int b0)]) hx hb dL_use_9 rfl hl (by decide) rfl (fun ls hl => ?_)
    refine lv_iconst (v := 1) hx hb dL_use_10 (by decide) ?_
    refine W.widen (k := 5) (n := 30) (Nat.le_of_ble_eq_true rfl) (Nat.le_of_ble_eq_true rfl) ?_
    exact W.iret (v := 1) hx hb hr (fun t ht hW => ⟨⟨1, _, rfl, ⟨by rw [hk]; rfl, (if_neg (by rw [hk]; decide)).symm⟩, by rw [ht]; exact hP, va_K.moved hW.alike hX.2.1⟩, hS.F ht⟩) hS.2.2 dL_use_11
  · refine ct_callV (h := 12) (As := [.int a0, .int b0]) (rest := []) ⟨hx, hb, hml, hown, hg⟩ (m_ReplenishRules_use l hl9 G cA ad σ hJ hI a0 b0) (cwV 2 hg (gV qM_L_26 qI_X6_use qS_X6_use qN_X6 kX6_use) rfl rfl rfl (by decide +kernel) ⟨Nat.le_of_ble_eq_true rfl, Nat.le_of_ble_eq_true rfl⟩) hX hA9 htab (va_recv hX.2.1 hX.1 (ci := 6) (q0 := 66) rfl rl_main) rfl hl.1 rfl (lv_room (Nat.le_of_ble_eq_true rfl)) dL_use_3 ⟨Nat.le_of_ble_eq_true rfl, Nat.le_of_ble_eq_true rfl⟩ (by rw [hk]; decide) (fun _ pl hpl o ho9 => by rw [hk] at ho9; exact ct_pass (K := 2) (j := 1) hpl hA9 hown rfl (by decide) (hg _ qK_L_13) ho9 ⟨by decide, by decide⟩ ⟨by decide, by decide⟩ (by decide) (ct_take (K := 2) hpl hA9 hown rfl (by decide) (hg _ qK_L_15) ho9 ⟨by decide, by decide⟩)) (fun h9 => absurd (h9.symm.trans hk) (by decide)) (fun _ q H locs hP hS => ?_)
    refine lv_astore_n (lv' := [(3, .ref q), (0, .ref (ad 66)), (1, .int a0), (2, .int b0)]) hx hb dL_use_12 rfl hl (by decide) rfl (fun ls hl => ?_)
    refine lv_iconst (v := 2) hx hb dL_use_13 (by decide) ?_
    refine W.widen (k := 5) (n := 30) (Nat.le_of_ble_eq_true rfl) (Nat.le_of_ble_eq_true rfl) ?_
    exact W.iret (v := 2) hx hb hr (fun t ht hW => ⟨⟨2, _, rfl, ⟨by rw [hk]; rfl, (if_neg (by rw [hk]; decide)).symm⟩, by rw [ht]; exact hP, va_K.moved hW.alike hX.2.1⟩, hS.F ht⟩) hS.2.2 dL_use_14

set_option maxHeartbeats 4000000 in
set_option maxRecDepth 100000 in
theorem l_hold (l : Launch) (hl9 : l.stackTraces = false) (G : va_G) (cA : Nat → ClassId) (ad : Nat → Nat) (σ : St) (hJ : rr_inj ad) (a0 : Int32) (b0 : Int32) : Met l yL_hold (wL_hold :: wG) { frames := 10, cells := 5, slots := 30, locals := 200 } (va_Pc [.ref (ad 66), .int a0, .int b0] (lxV G cA ad σ)) (lqV G cA ad (c_holdK σ a0 b0) (if c_holdK σ a0 b0 = 0 then c_holdS σ a0 b0 else σ)) 5 30 (rrA ad) := by
  refine va_MetW (cc := cL_hold) (maxL := 4) (ret := some .int) (hh := hL_hold) (by decide) rfl ?_
  intro p e s m args below meth c s₁ B hml hv
  obtain ⟨rfl, hX, hA9⟩ := hv
  have hx := B.exec
  have hb := B.bytes
  have hr := B.returns
  have hts := atoms_spec (ws := wL_hold :: wG) B.pre
  have hg : ∀ w ∈ wG, w.before _ s = true := fun w h => hts w (List.mem_cons_of_mem _ h)
  have hown : s.vm.findClass RL = some m.cls := findClass_of_methodNamed B.named
  have htab := ct_tab (Stand.of_body B) B.named (hts _ List.mem_cons_self)
  have hl := lv_entry ([.ref (ad 66), .int a0, .int b0]) (n := 4) (Nat.le_of_ble_eq_true rfl)
  rw [lg_entry_eq]
  generalize (lg_sl ([.ref (ad 66), .int a0, .int b0]) ++ List.replicate (4 - (lg_sl ([.ref (ad 66), .int a0, .int b0])).length) Slot.unset).toArray = ls at hl ⊢
  have hl : lv_has ls 4 [(0, .ref (ad 66)), (1, .int a0), (2, .int b0)] := hl
  refine lv_aload_n hx hb dL_hold_0 rfl (lv_at hl 0 rfl) ?_
  refine lv_iload_n hx hb dL_hold_1 rfl (lv_at hl 1 rfl) ?_
  refine lv_iload_n hx hb dL_hold_2 rfl (lv_at hl 2 rfl) ?_
  rcases rn_hold σ a0 b0 with hk | hk | hk
  · refine ct_callV (h := 0) (As := [.int a0, .int b0]) (rest := []) ⟨hx, hb, hml, hown, hg⟩ (m_ReplenishRules_hold l hl9 G cA ad σ hJ a0 b0) (cwV 2 hg (gV qM_L_30 qI_X6_hold qS_X6_hold qN_X6 kX6_hold) rfl rfl rfl (by decide +kernel) ⟨Nat.le_of_ble_eq_true rfl, Nat.le_of_ble_eq_true rfl⟩) hX hA9 htab (va_recv hX.2.1 hX.1 (ci := 6) (q0 := 66) rfl rl_main) rfl hl.1 rfl (lv_room (Nat.le_of_ble_eq_true rfl)) dL_hold_3 ⟨Nat.le_of_ble_eq_true rfl, Nat.le_of_ble_eq_true rfl⟩ (by rw [hk]; decide) (fun h9 => absurd hk h9) (fun _ v τ H locs hr8 hP hS => ?_) (fun h9 => absurd hk h9)
    obtain ⟨rfl, hτ9⟩ := hr8
    rw [hτ9] at hP
    refine W.eq (g2 := F0 m 6 ls []) rfl ?_
    refine lv_goto (tgt := 15) hx hb dL_hold_6 (by decide) ?_
    refine lv_iconst (v := 0) hx hb dL_hold_15 (by decide) ?_
    refine W.widen (k := 5) (n := 30) (Nat.le_of_ble_eq_true rfl) (Nat.le_of_ble_eq_true rfl) ?_
    exact W.iret (v := 0) hx hb hr (fun t ht hW => ⟨⟨0, _, rfl, ⟨by rw [hk]; rfl, (if_pos hk).symm⟩, by rw [ht]; exact hP, va_K.moved hW.alike hX.2.1⟩, hS.F ht⟩) hS.2.2 dL_hold_16
  · refine ct_callV (h := 9) (As := [.int a0, .int b0]) (rest := []) ⟨hx, hb, hml, hown, hg⟩ (m_ReplenishRules_hold l hl9 G cA ad σ hJ a0 b0) (cwV 2 hg (gV qM_L_30 qI_X6_hold qS_X6_hold qN_X6 kX6_hold) rfl rfl rfl (by decide +kernel) ⟨Nat.le_of_ble_eq_true rfl, Nat.le_of_ble_eq_true rfl⟩) hX hA9 htab (va_recv hX.2.1 hX.1 (ci := 6) (q0 := 66) rfl rl_main) rfl hl.1 rfl (lv_room (Nat.le_of_ble_eq_true rfl)) dL_hold_3 ⟨Nat.le_of_ble_eq_true rfl, Nat.le_of_ble_eq_true rfl⟩ (by rw [hk]; decide) (fun _ pl hpl o ho9 => by rw [hk] at ho9; exact ct_take (K := 1) hpl hA9 hown rfl (by decide) (hg _ qK_L_13) ho9 ⟨by decide, by decide⟩) (fun h9 => absurd (h9.symm.trans hk) (by decide)) (fun _ q H locs hP hS => ?_)
    refine lv_astore_n (lv' := [(3, .ref q), (0, .ref (ad 66)), (1, .int a0), (2, .int b0)]) hx hb dL_hold_9 rfl hl (by decide) rfl (fun ls hl => ?_)
    refine lv_iconst (v := 1) hx hb dL_hold_10 (by decide) ?_
    refine W.widen (k := 5) (n := 30) (Nat.le_of_ble_eq_true rfl) (Nat.le_of_ble_eq_true rfl) ?_
    exact W.iret (v := 1) hx hb hr (fun t ht hW => ⟨⟨1, _, rfl, ⟨by rw [hk]; rfl, (if_neg (by rw [hk]; decide)).symm⟩, by rw [ht]; exact hP, va_K.moved hW.alike hX.2.1⟩, hS.F ht⟩) hS.2.2 dL_hold_11
  · refine ct_callV (h := 12) (As := [.int a0, .int b0]) (rest := []) ⟨hx, hb, hml, hown, hg⟩ (m_ReplenishRules_hold l hl9 G cA ad σ hJ a0 b0) (cwV 2 hg (gV qM_L_30 qI_X6_hold qS_X6_hold qN_X6 kX6_hold) rfl rfl rfl (by decide +kernel) ⟨Nat.le_of_ble_eq_true rfl, Nat.le_of_ble_eq_true rfl⟩) hX hA9 htab (va_recv hX.2.1 hX.1 (ci := 6) (q0 := 66) rfl rl_main) rfl hl.1 rfl (lv_room (Nat.le_of_ble_eq_true rfl)) dL_hold_3 ⟨Nat.le_of_ble_eq_true rfl, Nat.le_of_ble_eq_true rfl⟩ (by rw [hk]; decide) (fun _ pl hpl o ho9 => by rw [hk] at ho9; exact ct_pass (K := 2) (j := 1) hpl hA9 hown rfl (by decide) (hg _ qK_L_13) ho9 ⟨by decide, by decide⟩ ⟨by decide, by decide⟩ (by decide) (ct_take (K := 2) hpl hA9 hown rfl (by decide) (hg _ qK_L_15) ho9 ⟨by decide, by decide⟩)) (fun h9 => absurd (h9.symm.trans hk) (by decide)) (fun _ q H locs hP hS => ?_)
    refine lv_astore_n (lv' := [(3, .ref q), (0, .ref (ad 66)), (1, .int a0), (2, .int b0)]) hx hb dL_hold_12 rfl hl (by decide) rfl (fun ls hl => ?_)
    refine lv_iconst (v := 2) hx hb dL_hold_13 (by decide) ?_
    refine W.widen (k := 5) (n := 30) (Nat.le_of_ble_eq_true rfl) (Nat.le_of_ble_eq_true rfl) ?_
    exact W.iret (v := 2) hx hb hr (fun t ht hW => ⟨⟨2, _, rfl, ⟨by rw [hk]; rfl, (if_neg (by rw [hk]; decide)).symm⟩, by rw [ht]; exact hP, va_K.moved hW.alike hX.2.1⟩, hS.F ht⟩) hS.2.2 dL_hold_14

set_option maxHeartbeats 4000000 in
set_option maxRecDepth 100000 in
theorem l_cases (l : Launch) (hl9 : l.stackTraces = false) (G : va_G) (cA : Nat → ClassId) (ad : Nat → Nat) (σ : St) (hJ : rr_inj ad) (a0 : Int32) (b0 : Int32) : Met l yL_cases (wL_cases :: wG) { frames := 10, cells := 5, slots := 30, locals := 200 } (va_Pc [.ref (ad 66), .int a0, .int b0] (lxV G cA ad σ)) (lqV G cA ad (c_casesK a0 b0) (if c_casesK a0 b0 = 0 then c_casesS σ a0 b0 else σ)) 5 30 (rrA ad) := by
  refine va_MetW (cc := cL_cases) (maxL := 4) (ret := some .int) (hh := hL_cases) (by decide) rfl ?_
  intro p e s m args below meth c s₁ B hml hv
  obtain ⟨rfl, hX, hA9⟩ := hv
  have hx := B.exec
  have hb := B.bytes
  have hr := B.returns
  have hts := atoms_spec (ws := wL_cases :: wG) B.pre
  have hg : ∀ w ∈ wG, w.before _ s = true := fun w h => hts w (List.mem_cons_of_mem _ h)
  have hown : s.vm.findClass RL = some m.cls := findClass_of_methodNamed B.named
  have htab := ct_tab (Stand.of_body B) B.named (hts _ List.mem_cons_self)
  have hl := lv_entry ([.ref (ad 66), .int a0, .int b0]) (n := 4) (Nat.le_of_ble_eq_true rfl)
  rw [lg_entry_eq]
  generalize (lg_sl ([.ref (ad 66), .int a0, .int b0]) ++ List.replicate (4 - (lg_sl ([.ref (ad 66), .int a0, .int b0])).length) Slot.unset).toArray = ls at hl ⊢
  have hl : lv_has ls 4 [(0, .ref (ad 66)), (1, .int a0), (2, .int b0)] := hl
  refine lv_aload_n hx hb dL_cases_0 rfl (lv_at hl 0 rfl) ?_
  refine lv_iload_n hx hb dL_cases_1 rfl (lv_at hl 1 rfl) ?_
  refine lv_iload_n hx hb dL_cases_2 rfl (lv_at hl 2 rfl) ?_
  rcases rn_cases a0 b0 with hk | hk
  · refine ct_callV (h := 0) (As := [.int a0, .int b0]) (rest := []) ⟨hx, hb, hml, hown, hg⟩ (m_ReplenishRules_cases l hl9 G cA ad σ hJ a0 b0) (cwV 2 hg (gV qM_L_33 qI_X6_cases qS_X6_cases qN_X6 kX6_cases) rfl rfl rfl (by decide +kernel) ⟨Nat.le_of_ble_eq_true rfl, Nat.le_of_ble_eq_true rfl⟩) hX hA9 htab (va_recv hX.2.1 hX.1 (ci := 6) (q0 := 66) rfl rl_main) rfl hl.1 rfl (lv_room (Nat.le_of_ble_eq_true rfl)) dL_cases_3 ⟨Nat.le_of_ble_eq_true rfl, Nat.le_of_ble_eq_true rfl⟩ (by rw [hk]; decide) (fun h9 => absurd hk h9) (fun _ v τ H locs hr8 hP hS => ?_) (fun h9 => absurd hk h9)
    obtain ⟨rfl, hτ9⟩ := hr8
    rw [hτ9] at hP
    refine W.eq (g2 := F0 m 6 ls []) rfl ?_
    refine lv_goto (tgt := 12) hx hb dL_cases_6 (by decide) ?_
    refine lv_iconst (v := 0) hx hb dL_cases_12 (by decide) ?_
    refine W.widen (k := 5) (n := 30) (Nat.le_of_ble_eq_true rfl) (Nat.le_of_ble_eq_true rfl) ?_
    exact W.iret (v := 0) hx hb hr (fun t ht hW => ⟨⟨0, _, rfl, ⟨by rw [hk]; rfl, (if_pos hk).symm⟩, by rw [ht]; exact hP, va_K.moved hW.alike hX.2.1⟩, hS.F ht⟩) hS.2.2 dL_cases_13
  · refine ct_callV (h := 9) (As := [.int a0, .int b0]) (rest := []) ⟨hx, hb, hml, hown, hg⟩ (m_ReplenishRules_cases l hl9 G cA ad σ hJ a0 b0) (cwV 2 hg (gV qM_L_33 qI_X6_cases qS_X6_cases qN_X6 kX6_cases) rfl rfl rfl (by decide +kernel) ⟨Nat.le_of_ble_eq_true rfl, Nat.le_of_ble_eq_true rfl⟩) hX hA9 htab (va_recv hX.2.1 hX.1 (ci := 6) (q0 := 66) rfl rl_main) rfl hl.1 rfl (lv_room (Nat.le_of_ble_eq_true rfl)) dL_cases_3 ⟨Nat.le_of_ble_eq_true rfl, Nat.le_of_ble_eq_true rfl⟩ (by rw [hk]; decide) (fun _ pl hpl o ho9 => by rw [hk] at ho9; exact ct_take (K := 1) hpl hA9 hown rfl (by decide) (hg _ qK_L_13) ho9 ⟨by decide, by decide⟩) (fun h9 => absurd (h9.symm.trans hk) (by decide)) (fun _ q H locs hP hS => ?_)
    refine lv_astore_n (lv' := [(3, .ref q), (0, .ref (ad 66)), (1, .int a0), (2, .int b0)]) hx hb dL_cases_9 rfl hl (by decide) rfl (fun ls hl => ?_)
    refine lv_iconst (v := 1) hx hb dL_cases_10 (by decide) ?_
    refine W.widen (k := 5) (n := 30) (Nat.le_of_ble_eq_true rfl) (Nat.le_of_ble_eq_true rfl) ?_
    exact W.iret (v := 1) hx hb hr (fun t ht hW => ⟨⟨1, _, rfl, ⟨by rw [hk]; rfl, (if_neg (by rw [hk]; decide)).symm⟩, by rw [ht]; exact hP, va_K.moved hW.alike hX.2.1⟩, hS.F ht⟩) hS.2.2 dL_cases_11

set_option maxHeartbeats 4000000 in
set_option maxRecDepth 100000 in
theorem l_rule (l : Launch) (hl9 : l.stackTraces = false) (G : va_G) (cA : Nat → ClassId) (ad : Nat → Nat) (σ : St) (hJ : rr_inj ad) (a0 : Int32) (b0 : Int32) (c0 : Int32) (d0 : Int32) : Met l yL_rule (wL_rule :: wG) { frames := 10, cells := 5, slots := 30, locals := 200 } (va_Pc [.ref (ad 66), .int a0, .int b0, .int c0, .int d0] (lxV G cA ad σ)) (lqV G cA ad (c_ruleK a0 b0 c0 d0) (if c_ruleK a0 b0 c0 d0 = 0 then c_ruleS σ a0 b0 c0 d0 else σ)) 5 30 (rrA ad) := by
  refine va_MetW (cc := cL_rule) (maxL := 6) (ret := some .int) (hh := hL_rule) (by decide) rfl ?_
  intro p e s m args below meth c s₁ B hml hv
  obtain ⟨rfl, hX, hA9⟩ := hv
  have hx := B.exec
  have hb := B.bytes
  have hr := B.returns
  have hts := atoms_spec (ws := wL_rule :: wG) B.pre
  have hg : ∀ w ∈ wG, w.before _ s = true := fun w h => hts w (List.mem_cons_of_mem _ h)
  have hown : s.vm.findClass RL = some m.cls := findClass_of_methodNamed B.named
  have htab := ct_tab (Stand.of_body B) B.named (hts _ List.mem_cons_self)
  have hl := lv_entry ([.ref (ad 66), .int a0, .int b0, .int c0, .int d0]) (n := 6) (Nat.le_of_ble_eq_true rfl)
  rw [lg_entry_eq]
  generalize (lg_sl ([.ref (ad 66), .int a0, .int b0, .int c0, .int d0]) ++ List.replicate (6 - (lg_sl ([.ref (ad 66), .int a0, .int b0, .int c0, .int d0])).length) Slot.unset).toArray = ls at hl ⊢
  have hl : lv_has ls 6 [(0, .ref (ad 66)), (1, .int a0), (2, .int b0), (3, .int c0), (4, .int d0)] := hl
  refine lv_aload_n hx hb dL_rule_0 rfl (lv_at hl 0 rfl) ?_
  refine lv_iload_n hx hb dL_rule_1 rfl (lv_at hl 1 rfl) ?_
  refine lv_iload_n hx hb dL_rule_2 rfl (lv_at hl 2 rfl) ?_
  refine lv_iload_n hx hb dL_rule_3 rfl (lv_at hl 3 rfl) ?_
  refine lv_iload hx hb dL_rule_4 (lv_at hl 4 rfl) ?_
  rcases rn_rule a0 b0 c0 d0 with hk | hk
  · refine ct_callV (h := 0) (As := [.int a0, .int b0, .int c0, .int d0]) (rest := []) ⟨hx, hb, hml, hown, hg⟩ (m_ReplenishRules_rule l hl9 G cA ad σ hJ a0 b0 c0 d0) (cwV 4 hg (gV qM_L_36 qI_X6_rule qS_X6_rule qN_X6 kX6_rule) rfl rfl rfl (by decide +kernel) ⟨Nat.le_of_ble_eq_true rfl, Nat.le_of_ble_eq_true rfl⟩) hX hA9 htab (va_recv hX.2.1 hX.1 (ci := 6) (q0 := 66) rfl rl_main) rfl hl.1 rfl (lv_room (Nat.le_of_ble_eq_true rfl)) dL_rule_6 ⟨Nat.le_of_ble_eq_true rfl, Nat.le_of_ble_eq_true rfl⟩ (by rw [hk]; decide) (fun h9 => absurd hk h9) (fun _ v τ H locs hr8 hP hS => ?_) (fun h9 => absurd hk h9)
    obtain ⟨rfl, hτ9⟩ := hr8
    rw [hτ9] at hP
    refine W.eq (g2 := F0 m 9 ls []) rfl ?_
    refine lv_goto (tgt := 16) hx hb dL_rule_9 (by decide) ?_
    refine lv_iconst (v := 0) hx hb dL_rule_16 (by decide) ?_
    refine W.widen (k := 5) (n := 30) (Nat.le_of_ble_eq_true rfl) (Nat.le_of_ble_eq_true rfl) ?_
    exact W.iret (v := 0) hx hb hr (fun t ht hW => ⟨⟨0, _, rfl, ⟨by rw [hk]; rfl, (if_pos hk).symm⟩, by rw [ht]; exact hP, va_K.moved hW.alike hX.2.1⟩, hS.F ht⟩) hS.2.2 dL_rule_17
  · refine ct_callV (h := 12) (As := [.int a0, .int b0, .int c0, .int d0]) (rest := []) ⟨hx, hb, hml, hown, hg⟩ (m_ReplenishRules_rule l hl9 G cA ad σ hJ a0 b0 c0 d0) (cwV 4 hg (gV qM_L_36 qI_X6_rule qS_X6_rule qN_X6 kX6_rule) rfl rfl rfl (by decide +kernel) ⟨Nat.le_of_ble_eq_true rfl, Nat.le_of_ble_eq_true rfl⟩) hX hA9 htab (va_recv hX.2.1 hX.1 (ci := 6) (q0 := 66) rfl rl_main) rfl hl.1 rfl (lv_room (Nat.le_of_ble_eq_true rfl)) dL_rule_6 ⟨Nat.le_of_ble_eq_true rfl, Nat.le_of_ble_eq_true rfl⟩ (by rw [hk]; decide) (fun _ pl hpl o ho9 => by rw [hk] at ho9; exact ct_take (K := 1) hpl hA9 hown rfl (by decide) (hg _ qK_L_13) ho9 ⟨by decide, by decide⟩) (fun h9 => absurd (h9.symm.trans hk) (by decide)) (fun _ q H locs hP hS => ?_)
    refine lv_astore (lv' := [(5, .ref q), (0, .ref (ad 66)), (1, .int a0), (2, .int b0), (3, .int c0), (4, .int d0)]) hx hb dL_rule_12 hl (by decide) rfl (fun ls hl => ?_)
    refine lv_iconst (v := 1) hx hb dL_rule_14 (by decide) ?_
    refine W.widen (k := 5) (n := 30) (Nat.le_of_ble_eq_true rfl) (Nat.le_of_ble_eq_true rfl) ?_
    exact W.iret (v := 1) hx hb hr (fun t ht hW => ⟨⟨1, _, rfl, ⟨by rw [hk]; rfl, (if_neg (by rw [hk]; decide)).symm⟩, by rw [ht]; exact hP, va_K.moved hW.alike hX.2.1⟩, hS.F ht⟩) hS.2.2 dL_rule_15

set_option maxHeartbeats 4000000 in
set_option maxRecDepth 100000 in
theorem l_factor (l : Launch) (hl9 : l.stackTraces = false) (G : va_G) (cA : Nat → ClassId) (ad : Nat → Nat) (σ : St) (hJ : rr_inj ad) (a0 : Int32) (b0 : Int32) (c0 : Int32) : Met l yL_factor (wL_factor :: wG) { frames := 10, cells := 5, slots := 30, locals := 200 } (va_Pc [.ref (ad 66), .int a0, .int b0, .int c0] (lxV G cA ad σ)) (lqV G cA ad (c_factorK a0 b0 c0) (if c_factorK a0 b0 c0 = 0 then c_factorS σ a0 b0 c0 else σ)) 5 30 (rrA ad) := by
  refine va_MetW (cc := cL_factor) (maxL := 5) (ret := some .int) (hh := hL_factor) (by decide) rfl ?_
  intro p e s m args below meth c s₁ B hml hv
  obtain ⟨rfl, hX, hA9⟩ := hv
  have hx := B.exec
  have hb := B.bytes
  have hr := B.returns
  have hts := atoms_spec (ws := wL_factor :: wG) B.pre
  have hg : ∀ w ∈ wG, w.before _ s = true := fun w h => hts w (List.mem_cons_of_mem _ h)
  have hown : s.vm.findClass RL = some m.cls := findClass_of_methodNamed B.named
  have htab := ct_tab (Stand.of_body B) B.named (hts _ List.mem_cons_self)
  have hl := lv_entry ([.ref (ad 66), .int a0, .int b0, .int c0]) (n := 5) (Nat.le_of_ble_eq_true rfl)
  rw [lg_entry_eq]
  generalize (lg_sl ([.ref (ad 66), .int a0, .int b0, .int c0]) ++ List.replicate (5 - (lg_sl ([.ref (ad 66), .int a0, .int b0, .int c0])).length) Slot.unset).toArray = ls at hl ⊢
  have hl : lv_has ls 5 [(0, .ref (ad 66)), (1, .int a0), (2, .int b0), (3, .int c0)] := hl
  refine lv_aload_n hx hb dL_factor_0 rfl (lv_at hl 0 rfl) ?_
  refine lv_iload_n hx hb dL_factor_1 rfl (lv_at hl 1 rfl) ?_
  refine lv_iload_n hx hb dL_factor_2 rfl (lv_at hl 2 rfl) ?_
  refine lv_iload_n hx hb dL_factor_3 rfl (lv_at hl 3 rfl) ?_
  rcases rn_factor a0 b0 c0 with hk | hk
  · refine ct_callV (h := 0) (As := [.int a0, .int b0, .int c0]) (rest := []) ⟨hx, hb, hml, hown, hg⟩ (m_ReplenishRules_factor l hl9 G cA ad σ hJ a0 b0 c0) (cwV 3 hg (gV qM_L_39 qI_X6_factor qS_X6_factor qN_X6 kX6_factor) rfl rfl rfl (by decide +kernel) ⟨Nat.le_of_ble_eq_true rfl, Nat.le_of_ble_eq_true rfl⟩) hX hA9 htab (va_recv hX.2.1 hX.1 (ci := 6) (q0 := 66) rfl rl_main) rfl hl.1 rfl (lv_room (Nat.le_of_ble_eq_true rfl)) dL_factor_4 ⟨Nat.le_of_ble_eq_true rfl, Nat.le_of_ble_eq_true rfl⟩ (by rw [hk]; decide) (fun h9 => absurd hk h9) (fun _ v τ H locs hr8 hP hS => ?_) (fun h9 => absurd hk h9)
    obtain ⟨rfl, hτ9⟩ := hr8
    rw [hτ9] at hP
    refine W.eq (g2 := F0 m 7 ls []) rfl ?_
    refine lv_goto (tgt := 14) hx hb dL_factor_7 (by decide) ?_
    refine lv_iconst (v := 0) hx hb dL_factor_14 (by decide) ?_
    refine W.widen (k := 5) (n := 30) (Nat.le_of_ble_eq_true rfl) (Nat.le_of_ble_eq_true rfl) ?_
    exact W.iret (v := 0) hx hb hr (fun t ht hW => ⟨⟨0, _, rfl, ⟨by rw [hk]; rfl, (if_pos hk).symm⟩, by rw [ht]; exact hP, va_K.moved hW.alike hX.2.1⟩, hS.F ht⟩) hS.2.2 dL_factor_15
  · refine ct_callV (h := 10) (As := [.int a0, .int b0, .int c0]) (rest := []) ⟨hx, hb, hml, hown, hg⟩ (m_ReplenishRules_factor l hl9 G cA ad σ hJ a0 b0 c0) (cwV 3 hg (gV qM_L_39 qI_X6_factor qS_X6_factor qN_X6 kX6_factor) rfl rfl rfl (by decide +kernel) ⟨Nat.le_of_ble_eq_true rfl, Nat.le_of_ble_eq_true rfl⟩) hX hA9 htab (va_recv hX.2.1 hX.1 (ci := 6) (q0 := 66) rfl rl_main) rfl hl.1 rfl (lv_room (Nat.le_of_ble_eq_true rfl)) dL_factor_4 ⟨Nat.le_of_ble_eq_true rfl, Nat.le_of_ble_eq_true rfl⟩ (by rw [hk]; decide) (fun _ pl hpl o ho9 => by rw [hk] at ho9; exact ct_take (K := 1) hpl hA9 hown rfl (by decide) (hg _ qK_L_13) ho9 ⟨by decide, by decide⟩) (fun h9 => absurd (h9.symm.trans hk) (by decide)) (fun _ q H locs hP hS => ?_)
    refine lv_astore (lv' := [(4, .ref q), (0, .ref (ad 66)), (1, .int a0), (2, .int b0), (3, .int c0)]) hx hb dL_factor_10 hl (by decide) rfl (fun ls hl => ?_)
    refine lv_iconst (v := 1) hx hb dL_factor_12 (by decide) ?_
    refine W.widen (k := 5) (n := 30) (Nat.le_of_ble_eq_true rfl) (Nat.le_of_ble_eq_true rfl) ?_
    exact W.iret (v := 1) hx hb hr (fun t ht hW => ⟨⟨1, _, rfl, ⟨by rw [hk]; rfl, (if_neg (by rw [hk]; decide)).symm⟩, by rw [ht]; exact hP, va_K.moved hW.alike hX.2.1⟩, hS.F ht⟩) hS.2.2 dL_factor_13

set_option maxHeartbeats 4000000 in
set_option maxRecDepth 100000 in
theorem l_wave (l : Launch) (hl9 : l.stackTraces = false) (G : va_G) (cA : Nat → ClassId) (ad : Nat → Nat) (σ : St) (hJ : rr_inj ad) (hI : Inv σ) (a0 : Int32) (b0 : Int32) (c0 : Int32) : Met l yL_wave (wL_wave :: wG) { frames := 10, cells := 5, slots := 30, locals := 200 } (va_Pc [.ref (ad 66), .int a0, .int b0, .int c0] (lxV G cA ad σ)) (lqV G cA ad (c_waveK σ a0 b0 c0) (if c_waveK σ a0 b0 c0 = 0 then c_waveS σ a0 b0 c0 else σ)) 5 30 (rrA ad) := by
  refine va_MetW (cc := cL_wave) (maxL := 5) (ret := some .int) (hh := hL_wave) (by decide) rfl ?_
  intro p e s m args below meth c s₁ B hml hv
  obtain ⟨rfl, hX, hA9⟩ := hv
  have hx := B.exec
  have hb := B.bytes
  have hr := B.returns
  have hts := atoms_spec (ws := wL_wave :: wG) B.pre
  have hg : ∀ w ∈ wG, w.before _ s = true := fun w h => hts w (List.mem_cons_of_mem _ h)
  have hown : s.vm.findClass RL = some m.cls := findClass_of_methodNamed B.named
  have htab := ct_tab (Stand.of_body B) B.named (hts _ List.mem_cons_self)
  have hl := lv_entry ([.ref (ad 66), .int a0, .int b0, .int c0]) (n := 5) (Nat.le_of_ble_eq_true rfl)
  rw [lg_entry_eq]
  generalize (lg_sl ([.ref (ad 66), .int a0, .int b0, .int c0]) ++ List.replicate (5 - (lg_sl ([.ref (ad 66), .int a0, .int b0, .int c0])).length) Slot.unset).toArray = ls at hl ⊢
  have hl : lv_has ls 5 [(0, .ref (ad 66)), (1, .int a0), (2, .int b0), (3, .int c0)] := hl
  refine lv_aload_n hx hb dL_wave_0 rfl (lv_at hl 0 rfl) ?_
  refine lv_iload_n hx hb dL_wave_1 rfl (lv_at hl 1 rfl) ?_
  refine lv_iload_n hx hb dL_wave_2 rfl (lv_at hl 2 rfl) ?_
  refine lv_iload_n hx hb dL_wave_3 rfl (lv_at hl 3 rfl) ?_
  rcases rn_wave σ a0 b0 c0 with hk | hk | hk | hk
  · refine ct_callV (h := 0) (As := [.int a0, .int b0, .int c0]) (rest := []) ⟨hx, hb, hml, hown, hg⟩ (m_ReplenishRules_wave l hl9 G cA ad σ hJ hI a0 b0 c0) (cwV 3 hg (gV qM_L_42 qI_X6_wave qS_X6_wave qN_X6 kX6_wave) rfl rfl rfl (by decide +kernel) ⟨Nat.le_of_ble_eq_true rfl, Nat.le_of_ble_eq_true rfl⟩) hX hA9 htab (va_recv hX.2.1 hX.1 (ci := 6) (q0 := 66) rfl rl_main) rfl hl.1 rfl (lv_room (Nat.le_of_ble_eq_true rfl)) dL_wave_4 ⟨Nat.le_of_ble_eq_true rfl, Nat.le_of_ble_eq_true rfl⟩ (by rw [hk]; decide) (fun h9 => absurd hk h9) (fun _ v τ H locs hr8 hP hS => ?_) (fun h9 => absurd hk h9)
    obtain ⟨rfl, hτ9⟩ := hr8
    rw [hτ9] at hP
    refine W.eq (g2 := F0 m 7 ls []) rfl ?_
    refine lv_goto (tgt := 22) hx hb dL_wave_7 (by decide) ?_
    refine lv_iconst (v := 0) hx hb dL_wave_22 (by decide) ?_
    refine W.widen (k := 5) (n := 30) (Nat.le_of_ble_eq_true rfl) (Nat.le_of_ble_eq_true rfl) ?_
    exact W.iret (v := 0) hx hb hr (fun t ht hW => ⟨⟨0, _, rfl, ⟨by rw [hk]; rfl, (if_pos hk).symm⟩, by rw [ht]; exact hP, va_K.moved hW.alike hX.2.1⟩, hS.F ht⟩) hS.2.2 dL_wave_23
  · refine ct_callV (h := 10) (As := [.int a0, .int b0, .int c0]) (rest := []) ⟨hx, hb, hml, hown, hg⟩ (m_ReplenishRules_wave l hl9 G cA ad σ hJ hI a0 b0 c0) (cwV 3 hg (gV qM_L_42 qI_X6_wave qS_X6_wave qN_X6 kX6_wave) rfl rfl rfl (by decide +kernel) ⟨Nat.le_of_ble_eq_true rfl, Nat.le_of_ble_eq_true rfl⟩) hX hA9 htab (va_recv hX.2.1 hX.1 (ci := 6) (q0 := 66) rfl rl_main) rfl hl.1 rfl (lv_room (Nat.le_of_ble_eq_true rfl)) dL_wave_4 ⟨Nat.le_of_ble_eq_true rfl, Nat.le_of_ble_eq_true rfl⟩ (by rw [hk]; decide) (fun _ pl hpl o ho9 => by rw [hk] at ho9; exact ct_take (K := 1) hpl hA9 hown rfl (by decide) (hg _ qK_L_13) ho9 ⟨by decide, by decide⟩) (fun h9 => absurd (h9.symm.trans hk) (by decide)) (fun _ q H locs hP hS => ?_)
    refine lv_astore (lv' := [(4, .ref q), (0, .ref (ad 66)), (1, .int a0), (2, .int b0), (3, .int c0)]) hx hb dL_wave_10 hl (by decide) rfl (fun ls hl => ?_)
    refine lv_iconst (v := 1) hx hb dL_wave_12 (by decide) ?_
    refine W.widen (k := 5) (n := 30) (Nat.le_of_ble_eq_true rfl) (Nat.le_of_ble_eq_true rfl) ?_
    exact W.iret (v := 1) hx hb hr (fun t ht hW => ⟨⟨1, _, rfl, ⟨by rw [hk]; rfl, (if_neg (by rw [hk]; decide)).symm⟩, by rw [ht]; exact hP, va_K.moved hW.alike hX.2.1⟩, hS.F ht⟩) hS.2.2 dL_wave_13
  · refine ct_callV (h := 14) (As := [.int a0, .int b0, .int c0]) (rest := []) ⟨hx, hb, hml, hown, hg⟩ (m_ReplenishRules_wave l hl9 G cA ad σ hJ hI a0 b0 c0) (cwV 3 hg (gV qM_L_42 qI_X6_wave qS_X6_wave qN_X6 kX6_wave) rfl rfl rfl (by decide +kernel) ⟨Nat.le_of_ble_eq_true rfl, Nat.le_of_ble_eq_true rfl⟩) hX hA9 htab (va_recv hX.2.1 hX.1 (ci := 6) (q0 := 66) rfl rl_main) rfl hl.1 rfl (lv_room (Nat.le_of_ble_eq_true rfl)) dL_wave_4 ⟨Nat.le_of_ble_eq_true rfl, Nat.le_of_ble_eq_true rfl⟩ (by rw [hk]; decide) (fun _ pl hpl o ho9 => by rw [hk] at ho9; exact ct_pass (K := 2) (j := 1) hpl hA9 hown rfl (by decide) (hg _ qK_L_13) ho9 ⟨by decide, by decide⟩ ⟨by decide, by decide⟩ (by decide) (ct_take (K := 2) hpl hA9 hown rfl (by decide) (hg _ qK_L_15) ho9 ⟨by decide, by decide⟩)) (fun h9 => absurd (h9.symm.trans hk) (by decide)) (fun _ q H locs hP hS => ?_)
    refine lv_astore (lv' := [(4, .ref q), (0, .ref (ad 66)), (1, .int a0), (2, .int b0), (3, .int c0)]) hx hb dL_wave_14 hl (by decide) rfl (fun ls hl => ?_)
    refine lv_iconst (v := 2) hx hb dL_wave_16 (by decide) ?_
    refine W.widen (k := 5) (n := 30) (Nat.le_of_ble_eq_true rfl) (Nat.le_of_ble_eq_true rfl) ?_
    exact W.iret (v := 2) hx hb hr (fun t ht hW => ⟨⟨2, _, rfl, ⟨by rw [hk]; rfl, (if_neg (by rw [hk]; decide)).symm⟩, by rw [ht]; exact hP, va_K.moved hW.alike hX.2.1⟩, hS.F ht⟩) hS.2.2 dL_wave_17
  · refine ct_callV (h := 18) (As := [.int a0, .int b0, .int c0]) (rest := []) ⟨hx, hb, hml, hown, hg⟩ (m_ReplenishRules_wave l hl9 G cA ad σ hJ hI a0 b0 c0) (cwV 3 hg (gV qM_L_42 qI_X6_wave qS_X6_wave qN_X6 kX6_wave) rfl rfl rfl (by decide +kernel) ⟨Nat.le_of_ble_eq_true rfl, Nat.le_of_ble_eq_true rfl⟩) hX hA9 htab (va_recv hX.2.1 hX.1 (ci := 6) (q0 := 66) rfl rl_main) rfl hl.1 rfl (lv_room (Nat.le_of_ble_eq_true rfl)) dL_wave_4 ⟨Nat.le_of_ble_eq_true rfl, Nat.le_of_ble_eq_true rfl⟩ (by rw [hk]; decide) (fun _ pl hpl o ho9 => by rw [hk] at ho9; exact ct_pass (K := 3) (j := 1) hpl hA9 hown rfl (by decide) (hg _ qK_L_13) ho9 ⟨by decide, by decide⟩ ⟨by decide, by decide⟩ (by decide) (ct_pass (K := 3) (j := 2) hpl hA9 hown rfl (by decide) (hg _ qK_L_15) ho9 ⟨by decide, by decide⟩ ⟨by decide, by decide⟩ (by decide) (ct_take (K := 3) hpl hA9 hown rfl (by decide) (hg _ qK_L_24) ho9 ⟨by decide, by decide⟩))) (fun h9 => absurd (h9.symm.trans hk) (by decide)) (fun _ q H locs hP hS => ?_)
    refine lv_astore (lv' := [(4, .ref q), (0, .ref (ad 66)), (1, .int a0), (2, .int b0), (3, .int c0)]) hx hb dL_wave_18 hl (by decide) rfl (fun ls hl => ?_)
    refine lv_iconst (v := 3) hx hb dL_wave_20 (by decide) ?_
    refine W.widen (k := 5) (n := 30) (Nat.le_of_ble_eq_true rfl) (Nat.le_of_ble_eq_true rfl) ?_
    exact W.iret (v := 3) hx hb hr (fun t ht hW => ⟨⟨3, _, rfl, ⟨by rw [hk]; rfl, (if_neg (by rw [hk]; decide)).symm⟩, by rw [ht]; exact hP, va_K.moved hW.alike hX.2.1⟩, hS.F ht⟩) hS.2.2 dL_wave_21

set_option maxHeartbeats 4000000 in
set_option maxRecDepth 100000 in
theorem l_open (l : Launch) (hl9 : l.stackTraces = false) (G : va_G) (cA : Nat → ClassId) (ad : Nat → Nat) (σ : St) (hJ : rr_inj ad) (a0 : Int32) (b0 : Int32) : Met l yL_open (wL_open :: wG) { frames := 10, cells := 5, slots := 30, locals := 200 } (va_Pc [.ref (ad 66), .int a0, .int b0] (lxV G cA ad σ)) (lqV G cA ad (c_openK σ a0) (if c_openK σ a0 = 0 then c_openS σ a0 b0 else σ)) 5 30 (rrA ad) := by
  refine va_MetW (cc := cL_open) (maxL := 4) (ret := some .int) (hh := hL_open) (by decide) rfl ?_
  intro p e s m args below meth c s₁ B hml hv
  obtain ⟨rfl, hX, hA9⟩ := hv
  have hx := B.exec
  have hb := B.bytes
  have hr := B.returns
  have hts := atoms_spec (ws := wL_open :: wG) B.pre
  have hg : ∀ w ∈ wG, w.before _ s = true := fun w h => hts w (List.mem_cons_of_mem _ h)
  have hown : s.vm.findClass RL = some m.cls := findClass_of_methodNamed B.named
  have htab := ct_tab (Stand.of_body B) B.named (hts _ List.mem_cons_self)
  have hl := lv_entry ([.ref (ad 66), .int a0, .int b0]) (n := 4) (Nat.le_of_ble_eq_true rfl)
  rw [lg_entry_eq]
  generalize (lg_sl ([.ref (ad 66), .int a0, .int b0]) ++ List.replicate (4 - (lg_sl ([.ref (ad 66), .int a0, .int b0])).length) Slot.unset).toArray = ls at hl ⊢
  have hl : lv_has ls 4 [(0, .ref (ad 66)), (1, .int a0), (2, .int b0)] := hl
  refine lv_aload_n hx hb dL_open_0 rfl (lv_at hl 0 rfl) ?_
  refine lv_iload_n hx hb dL_open_1 rfl (lv_at hl 1 rfl) ?_
  refine lv_iload_n hx hb dL_open_2 rfl (lv_at hl 2 rfl) ?_
  rcases rn_open σ a0 with hk | hk | hk
  · refine ct_callV (h := 0) (As := [.int a0, .int b0]) (rest := []) ⟨hx, hb, hml, hown, hg⟩ (m_ReplenishRules_open l hl9 G cA ad σ hJ a0 b0) (cwV 2 hg (gV qM_L_45 qI_X6_open qS_X6_open qN_X6 kX6_open) rfl rfl rfl (by decide +kernel) ⟨Nat.le_of_ble_eq_true rfl, Nat.le_of_ble_eq_true rfl⟩) hX hA9 htab (va_recv hX.2.1 hX.1 (ci := 6) (q0 := 66) rfl rl_main) rfl hl.1 rfl (lv_room (Nat.le_of_ble_eq_true rfl)) dL_open_3 ⟨Nat.le_of_ble_eq_true rfl, Nat.le_of_ble_eq_true rfl⟩ (by rw [hk]; decide) (fun h9 => absurd hk h9) (fun _ v τ H locs hr8 hP hS => ?_) (fun h9 => absurd hk h9)
    obtain ⟨rfl, hτ9⟩ := hr8
    rw [hτ9] at hP
    refine W.eq (g2 := F0 m 6 ls []) rfl ?_
    refine lv_goto (tgt := 15) hx hb dL_open_6 (by decide) ?_
    refine lv_iconst (v := 0) hx hb dL_open_15 (by decide) ?_
    refine W.widen (k := 5) (n := 30) (Nat.le_of_ble_eq_true rfl) (Nat.le_of_ble_eq_true rfl) ?_
    exact W.iret (v := 0) hx hb hr (fun t ht hW => ⟨⟨0, _, rfl, ⟨by rw [hk]; rfl, (if_pos hk).symm⟩, by rw [ht]; exact hP, va_K.moved hW.alike hX.2.1⟩, hS.F ht⟩) hS.2.2 dL_open_16
  · refine ct_callV (h := 9) (As := [.int a0, .int b0]) (rest := []) ⟨hx, hb, hml, hown, hg⟩ (m_ReplenishRules_open l hl9 G cA ad σ hJ a0 b0) (cwV 2 hg (gV qM_L_45 qI_X6_open qS_X6_open qN_X6 kX6_open) rfl rfl rfl (by decide +kernel) ⟨Nat.le_of_ble_eq_true rfl, Nat.le_of_ble_eq_true rfl⟩) hX hA9 htab (va_recv hX.2.1 hX.1 (ci := 6) (q0 := 66) rfl rl_main) rfl hl.1 rfl (lv_room (Nat.le_of_ble_eq_true rfl)) dL_open_3 ⟨Nat.le_of_ble_eq_true rfl, Nat.le_of_ble_eq_true rfl⟩ (by rw [hk]; decide) (fun _ pl hpl o ho9 => by rw [hk] at ho9; exact ct_take (K := 1) hpl hA9 hown rfl (by decide) (hg _ qK_L_13) ho9 ⟨by decide, by decide⟩) (fun h9 => absurd (h9.symm.trans hk) (by decide)) (fun _ q H locs hP hS => ?_)
    refine lv_astore_n (lv' := [(3, .ref q), (0, .ref (ad 66)), (1, .int a0), (2, .int b0)]) hx hb dL_open_9 rfl hl (by decide) rfl (fun ls hl => ?_)
    refine lv_iconst (v := 1) hx hb dL_open_10 (by decide) ?_
    refine W.widen (k := 5) (n := 30) (Nat.le_of_ble_eq_true rfl) (Nat.le_of_ble_eq_true rfl) ?_
    exact W.iret (v := 1) hx hb hr (fun t ht hW => ⟨⟨1, _, rfl, ⟨by rw [hk]; rfl, (if_neg (by rw [hk]; decide)).symm⟩, by rw [ht]; exact hP, va_K.moved hW.alike hX.2.1⟩, hS.F ht⟩) hS.2.2 dL_open_11
  · refine ct_callV (h := 12) (As := [.int a0, .int b0]) (rest := []) ⟨hx, hb, hml, hown, hg⟩ (m_ReplenishRules_open l hl9 G cA ad σ hJ a0 b0) (cwV 2 hg (gV qM_L_45 qI_X6_open qS_X6_open qN_X6 kX6_open) rfl rfl rfl (by decide +kernel) ⟨Nat.le_of_ble_eq_true rfl, Nat.le_of_ble_eq_true rfl⟩) hX hA9 htab (va_recv hX.2.1 hX.1 (ci := 6) (q0 := 66) rfl rl_main) rfl hl.1 rfl (lv_room (Nat.le_of_ble_eq_true rfl)) dL_open_3 ⟨Nat.le_of_ble_eq_true rfl, Nat.le_of_ble_eq_true rfl⟩ (by rw [hk]; decide) (fun _ pl hpl o ho9 => by rw [hk] at ho9; exact ct_pass (K := 2) (j := 1) hpl hA9 hown rfl (by decide) (hg _ qK_L_13) ho9 ⟨by decide, by decide⟩ ⟨by decide, by decide⟩ (by decide) (ct_take (K := 2) hpl hA9 hown rfl (by decide) (hg _ qK_L_15) ho9 ⟨by decide, by decide⟩)) (fun h9 => absurd (h9.symm.trans hk) (by decide)) (fun _ q H locs hP hS => ?_)
    refine lv_astore_n (lv' := [(3, .ref q), (0, .ref (ad 66)), (1, .int a0), (2, .int b0)]) hx hb dL_open_12 rfl hl (by decide) rfl (fun ls hl => ?_)
    refine lv_iconst (v := 2) hx hb dL_open_13 (by decide) ?_
    refine W.widen (k := 5) (n := 30) (Nat.le_of_ble_eq_true rfl) (Nat.le_of_ble_eq_true rfl) ?_
    exact W.iret (v := 2) hx hb hr (fun t ht hW => ⟨⟨2, _, rfl, ⟨by rw [hk]; rfl, (if_neg (by rw [hk]; decide)).symm⟩, by rw [ht]; exact hP, va_K.moved hW.alike hX.2.1⟩, hS.F ht⟩) hS.2.2 dL_open_14

set_option maxHeartbeats 4000000 in
set_option maxRecDepth 100000 in
theorem l_day (l : Launch) (hl9 : l.stackTraces = false) (G : va_G) (cA : Nat → ClassId) (ad : Nat → Nat) (σ : St) (hJ : rr_inj ad) (a0 : Int32) : Met l yL_day (wL_day :: wG) { frames := 10, cells := 5, slots := 30, locals := 200 } (va_Pc [.ref (ad 66), .int a0] (lxV G cA ad σ)) (lqV G cA ad (c_dayK σ a0) (if c_dayK σ a0 = 0 then c_dayS σ a0 else σ)) 5 30 (rrA ad) := by
  refine va_MetW (cc := cL_day) (maxL := 3) (ret := some .int) (hh := hL_day) (by decide) rfl ?_
  intro p e s m args below meth c s₁ B hml hv
  obtain ⟨rfl, hX, hA9⟩ := hv
  have hx := B.exec
  have hb := B.bytes
  have hr := B.returns
  have hts := atoms_spec (ws := wL_day :: wG) B.pre
  have hg : ∀ w ∈ wG, w.before _ s = true := fun w h => hts w (List.mem_cons_of_mem _ h)
  have hown : s.vm.findClass RL = some m.cls := findClass_of_methodNamed B.named
  have htab := ct_tab (Stand.of_body B) B.named (hts _ List.mem_cons_self)
  have hl := lv_entry ([.ref (ad 66), .int a0]) (n := 3) (Nat.le_of_ble_eq_true rfl)
  rw [lg_entry_eq]
  generalize (lg_sl ([.ref (ad 66), .int a0]) ++ List.replicate (3 - (lg_sl ([.ref (ad 66), .int a0])).length) Slot.unset).toArray = ls at hl ⊢
  have hl : lv_has ls 3 [(0, .ref (ad 66)), (1, .int a0)] := hl
  refine lv_aload_n hx hb dL_day_0 rfl (lv_at hl 0 rfl) ?_
  refine lv_iload_n hx hb dL_day_1 rfl (lv_at hl 1 rfl) ?_
  rcases rn_day σ a0 with hk | hk
  · refine ct_callV (h := 0) (As := [.int a0]) (rest := []) ⟨hx, hb, hml, hown, hg⟩ (m_ReplenishRules_day l hl9 G cA ad σ hJ a0) (cwV 1 hg (gV qM_L_49 qI_X6_day qS_X6_day qN_X6 kX6_day) rfl rfl rfl (by decide +kernel) ⟨Nat.le_of_ble_eq_true rfl, Nat.le_of_ble_eq_true rfl⟩) hX hA9 htab (va_recv hX.2.1 hX.1 (ci := 6) (q0 := 66) rfl rl_main) rfl hl.1 rfl (lv_room (Nat.le_of_ble_eq_true rfl)) dL_day_2 ⟨Nat.le_of_ble_eq_true rfl, Nat.le_of_ble_eq_true rfl⟩ (by rw [hk]; decide) (fun h9 => absurd hk h9) (fun _ v τ H locs hr8 hP hS => ?_) (fun h9 => absurd hk h9)
    obtain ⟨rfl, hτ9⟩ := hr8
    rw [hτ9] at hP
    refine W.eq (g2 := F0 m 5 ls []) rfl ?_
    refine lv_goto (tgt := 11) hx hb dL_day_5 (by decide) ?_
    refine lv_iconst (v := 0) hx hb dL_day_11 (by decide) ?_
    refine W.widen (k := 5) (n := 30) (Nat.le_of_ble_eq_true rfl) (Nat.le_of_ble_eq_true rfl) ?_
    exact W.iret (v := 0) hx hb hr (fun t ht hW => ⟨⟨0, _, rfl, ⟨by rw [hk]; rfl, (if_pos hk).symm⟩, by rw [ht]; exact hP, va_K.moved hW.alike hX.2.1⟩, hS.F ht⟩) hS.2.2 dL_day_12
  · refine ct_callV (h := 8) (As := [.int a0]) (rest := []) ⟨hx, hb, hml, hown, hg⟩ (m_ReplenishRules_day l hl9 G cA ad σ hJ a0) (cwV 1 hg (gV qM_L_49 qI_X6_day qS_X6_day qN_X6 kX6_day) rfl rfl rfl (by decide +kernel) ⟨Nat.le_of_ble_eq_true rfl, Nat.le_of_ble_eq_true rfl⟩) hX hA9 htab (va_recv hX.2.1 hX.1 (ci := 6) (q0 := 66) rfl rl_main) rfl hl.1 rfl (lv_room (Nat.le_of_ble_eq_true rfl)) dL_day_2 ⟨Nat.le_of_ble_eq_true rfl, Nat.le_of_ble_eq_true rfl⟩ (by rw [hk]; decide) (fun _ pl hpl o ho9 => by rw [hk] at ho9; exact ct_take (K := 1) hpl hA9 hown rfl (by decide) (hg _ qK_L_13) ho9 ⟨by decide, by decide⟩) (fun h9 => absurd (h9.symm.trans hk) (by decide)) (fun _ q H locs hP hS => ?_)
    refine lv_astore_n (lv' := [(2, .ref q), (0, .ref (ad 66)), (1, .int a0)]) hx hb dL_day_8 rfl hl (by decide) rfl (fun ls hl => ?_)
    refine lv_iconst (v := 1) hx hb dL_day_9 (by decide) ?_
    refine W.widen (k := 5) (n := 30) (Nat.le_of_ble_eq_true rfl) (Nat.le_of_ble_eq_true rfl) ?_
    exact W.iret (v := 1) hx hb hr (fun t ht hW => ⟨⟨1, _, rfl, ⟨by rw [hk]; rfl, (if_neg (by rw [hk]; decide)).symm⟩, by rw [ht]; exact hP, va_K.moved hW.alike hX.2.1⟩, hS.F ht⟩) hS.2.2 dL_day_10

set_option maxHeartbeats 4000000 in
set_option maxRecDepth 100000 in
theorem l_mean (l : Launch) (hl9 : l.stackTraces = false) (G : va_G) (cA : Nat → ClassId) (ad : Nat → Nat) (σ : St) (hJ : rr_inj ad) (hI : Inv σ) (a0 : Int32) (b0 : Int32) (qo : Nat) (cJ : ClassId) (z : Int64) : Met l yL_mean (wL_mean :: wG) { frames := 10, cells := 5, slots := 30, locals := 200 } (va_Pc [.ref (ad 66), .int a0, .int b0, .ref qo] (lxL G cA ad σ qo cJ z)) (lqL G cA ad qo cJ (cdE (c_meanK σ a0 b0)) σ ((c_meanR σ a0 b0).toInt64)) 5 30 (oA ad qo) := by
  refine va_MetW (cc := cL_mean) (maxL := 5) (ret := some .int) (hh := hL_mean) (by decide) rfl ?_
  intro p e s m args below meth c s₁ B hml hv
  obtain ⟨rfl, hX, hA9, ho, hoT, hoA⟩ := hv
  have hx := B.exec
  have hb := B.bytes
  have hr := B.returns
  have hts := atoms_spec (ws := wL_mean :: wG) B.pre
  have hg : ∀ w ∈ wG, w.before _ s = true := fun w h => hts w (List.mem_cons_of_mem _ h)
  have hown : s.vm.findClass RL = some m.cls := findClass_of_methodNamed B.named
  have htab := ct_tab (Stand.of_body B) B.named (hts _ List.mem_cons_self)
  have hl := lv_entry ([.ref (ad 66), .int a0, .int b0, .ref qo]) (n := 5) (Nat.le_of_ble_eq_true rfl)
  rw [lg_entry_eq]
  generalize (lg_sl ([.ref (ad 66), .int a0, .int b0, .ref qo]) ++ List.replicate (5 - (lg_sl ([.ref (ad 66), .int a0, .int b0, .ref qo])).length) Slot.unset).toArray = ls at hl ⊢
  have hl : lv_has ls 5 [(0, .ref (ad 66)), (1, .int a0), (2, .int b0), (3, .ref qo)] := hl
  refine lv_aload_n hx hb dL_mean_0 rfl (lv_at hl 3 rfl) ?_
  refine lv_iconst (v := 0) hx hb dL_mean_1 (by decide) ?_
  refine lv_aload_n hx hb dL_mean_2 rfl (lv_at hl 0 rfl) ?_
  refine lv_iload_n hx hb dL_mean_3 rfl (lv_at hl 1 rfl) ?_
  refine lv_iload_n hx hb dL_mean_4 rfl (lv_at hl 2 rfl) ?_
  rcases rn_mean σ a0 b0 with hk | hk | hk | hk
  · refine ct_callV (h := 0) (As := [.int a0, .int b0]) (rest := [.int 0, .ref qo]) ⟨hx, hb, hml, hown, hg⟩ (m_ReplenishRules_mean l hl9 G cA ad σ hJ hI a0 b0) (cwV 2 hg (gV qM_L_53 qI_X6_mean qS_X6_mean qN_X6 kX6_mean) rfl rfl rfl (by decide +kernel) ⟨Nat.le_of_ble_eq_true rfl, Nat.le_of_ble_eq_true rfl⟩) hX hA9 htab (va_recv hX.2.1 hX.1 (ci := 6) (q0 := 66) rfl rl_main) rfl hl.1 rfl (lv_room (Nat.le_of_ble_eq_true rfl)) dL_mean_5 ⟨Nat.le_of_ble_eq_true rfl, Nat.le_of_ble_eq_true rfl⟩ (by rw [hk]; decide) (fun h9 => absurd hk h9) (fun _ v τ H locs hr8 hP hS => ?_) (fun h9 => absurd hk h9)
    have ho := oKeep ho hoA hS
    have hS := oS (qo := qo) hS
    obtain ⟨rfl, hτ9⟩ := hr8
    rw [hτ9] at hP
    refine W.eq (g2 := F0 m 8 ls [.int (c_meanR σ a0 b0), .int 0, .ref qo]) rfl ?_
    refine lv_i2l (v := (c_meanR σ a0 b0).toInt64) hx hb dL_mean_8 rfl ?_
    refine o_st (x := (c_meanR σ a0 b0).toInt64) hx hb hoT ho hP hoA hS dL_mean_9 (fun H locs hP ho hS => ?_)
    refine lv_goto (tgt := 25) hx hb dL_mean_10 (by decide) ?_
    refine lv_iconst (v := 0) hx hb dL_mean_25 (by decide) ?_
    refine W.widen (k := 5) (n := 30) (Nat.le_of_ble_eq_true rfl) (Nat.le_of_ble_eq_true rfl) ?_
    exact W.iret (v := 0) hx hb hr (fun t ht hW => ⟨⟨0, (σ, (c_meanR σ a0 b0).toInt64), rfl, ⟨by rw [hk]; rfl, rfl, fun _ => rfl⟩, ⟨by rw [ht]; exact hP, va_K.moved hW.alike hX.2.1⟩, by rw [ht]; exact ho⟩, hS.F ht⟩) hS.2.2 dL_mean_26
  · refine ct_callV (h := 13) (As := [.int a0, .int b0]) (rest := [.int 0, .ref qo]) ⟨hx, hb, hml, hown, hg⟩ (m_ReplenishRules_mean l hl9 G cA ad σ hJ hI a0 b0) (cwV 2 hg (gV qM_L_53 qI_X6_mean qS_X6_mean qN_X6 kX6_mean) rfl rfl rfl (by decide +kernel) ⟨Nat.le_of_ble_eq_true rfl, Nat.le_of_ble_eq_true rfl⟩) hX hA9 htab (va_recv hX.2.1 hX.1 (ci := 6) (q0 := 66) rfl rl_main) rfl hl.1 rfl (lv_room (Nat.le_of_ble_eq_true rfl)) dL_mean_5 ⟨Nat.le_of_ble_eq_true rfl, Nat.le_of_ble_eq_true rfl⟩ (by rw [hk]; decide) (fun _ pl hpl o ho9 => by rw [hk] at ho9; exact ct_take (K := 1) hpl hA9 hown rfl (by decide) (hg _ qK_L_13) ho9 ⟨by decide, by decide⟩) (fun h9 => absurd (h9.symm.trans hk) (by decide)) (fun _ q H locs hP hS => ?_)
    have ho := oKeep ho hoA hS
    have hS := oS (qo := qo) hS
    refine lv_astore (lv' := [(4, .ref q), (0, .ref (ad 66)), (1, .int a0), (2, .int b0), (3, .ref qo)]) hx hb dL_mean_13 hl (by decide) rfl (fun ls hl => ?_)
    refine lv_iconst (v := 1) hx hb dL_mean_15 (by decide) ?_
    refine W.widen (k := 5) (n := 30) (Nat.le_of_ble_eq_true rfl) (Nat.le_of_ble_eq_true rfl) ?_
    exact W.iret (v := 1) hx hb hr (fun t ht hW => ⟨⟨1, (σ, z), rfl, ⟨by rw [hk]; rfl, rfl, fun h9 => absurd h9 (by rw [hk]; decide)⟩, ⟨by rw [ht]; exact hP, va_K.moved hW.alike hX.2.1⟩, by rw [ht]; exact ho⟩, hS.F ht⟩) hS.2.2 dL_mean_16
  · refine ct_callV (h := 17) (As := [.int a0, .int b0]) (rest := [.int 0, .ref qo]) ⟨hx, hb, hml, hown, hg⟩ (m_ReplenishRules_mean l hl9 G cA ad σ hJ hI a0 b0) (cwV 2 hg (gV qM_L_53 qI_X6_mean qS_X6_mean qN_X6 kX6_mean) rfl rfl rfl (by decide +kernel) ⟨Nat.le_of_ble_eq_true rfl, Nat.le_of_ble_eq_true rfl⟩) hX hA9 htab (va_recv hX.2.1 hX.1 (ci := 6) (q0 := 66) rfl rl_main) rfl hl.1 rfl (lv_room (Nat.le_of_ble_eq_true rfl)) dL_mean_5 ⟨Nat.le_of_ble_eq_true rfl, Nat.le_of_ble_eq_true rfl⟩ (by rw [hk]; decide) (fun _ pl hpl o ho9 => by rw [hk] at ho9; exact ct_pass (K := 2) (j := 1) hpl hA9 hown rfl (by decide) (hg _ qK_L_13) ho9 ⟨by decide, by decide⟩ ⟨by decide, by decide⟩ (by decide) (ct_take (K := 2) hpl hA9 hown rfl (by decide) (hg _ qK_L_15) ho9 ⟨by decide, by decide⟩)) (fun h9 => absurd (h9.symm.trans hk) (by decide)) (fun _ q H locs hP hS => ?_)
    have ho := oKeep ho hoA hS
    have hS := oS (qo := qo) hS
    refine lv_astore (lv' := [(4, .ref q), (0, .ref (ad 66)), (1, .int a0), (2, .int b0), (3, .ref qo)]) hx hb dL_mean_17 hl (by decide) rfl (fun ls hl => ?_)
    refine lv_iconst (v := 2) hx hb dL_mean_19 (by decide) ?_
    refine W.widen (k := 5) (n := 30) (Nat.le_of_ble_eq_true rfl) (Nat.le_of_ble_eq_true rfl) ?_
    exact W.iret (v := 2) hx hb hr (fun t ht hW => ⟨⟨2, (σ, z), rfl, ⟨by rw [hk]; rfl, rfl, fun h9 => absurd h9 (by rw [hk]; decide)⟩, ⟨by rw [ht]; exact hP, va_K.moved hW.alike hX.2.1⟩, by rw [ht]; exact ho⟩, hS.F ht⟩) hS.2.2 dL_mean_20
  · refine ct_callV (h := 21) (As := [.int a0, .int b0]) (rest := [.int 0, .ref qo]) ⟨hx, hb, hml, hown, hg⟩ (m_ReplenishRules_mean l hl9 G cA ad σ hJ hI a0 b0) (cwV 2 hg (gV qM_L_53 qI_X6_mean qS_X6_mean qN_X6 kX6_mean) rfl rfl rfl (by decide +kernel) ⟨Nat.le_of_ble_eq_true rfl, Nat.le_of_ble_eq_true rfl⟩) hX hA9 htab (va_recv hX.2.1 hX.1 (ci := 6) (q0 := 66) rfl rl_main) rfl hl.1 rfl (lv_room (Nat.le_of_ble_eq_true rfl)) dL_mean_5 ⟨Nat.le_of_ble_eq_true rfl, Nat.le_of_ble_eq_true rfl⟩ (by rw [hk]; decide) (fun _ pl hpl o ho9 => by rw [hk] at ho9; exact ct_pass (K := 5) (j := 1) hpl hA9 hown rfl (by decide) (hg _ qK_L_13) ho9 ⟨by decide, by decide⟩ ⟨by decide, by decide⟩ (by decide) (ct_pass (K := 5) (j := 2) hpl hA9 hown rfl (by decide) (hg _ qK_L_15) ho9 ⟨by decide, by decide⟩ ⟨by decide, by decide⟩ (by decide) (ct_take (K := 5) hpl hA9 hown rfl (by decide) (hg _ qK_L_57) ho9 ⟨by decide, by decide⟩))) (fun h9 => absurd (h9.symm.trans hk) (by decide)) (fun _ q H locs hP hS => ?_)
    have ho := oKeep ho hoA hS
    have hS := oS (qo := qo) hS
    refine lv_astore (lv' := [(4, .ref q), (0, .ref (ad 66)), (1, .int a0), (2, .int b0), (3, .ref qo)]) hx hb dL_mean_21 hl (by decide) rfl (fun ls hl => ?_)
    refine lv_iconst (v := 3) hx hb dL_mean_23 (by decide) ?_
    refine W.widen (k := 5) (n := 30) (Nat.le_of_ble_eq_true rfl) (Nat.le_of_ble_eq_true rfl) ?_
    exact W.iret (v := 3) hx hb hr (fun t ht hW => ⟨⟨3, (σ, z), rfl, ⟨by rw [hk]; rfl, rfl, fun h9 => absurd h9 (by rw [hk]; decide)⟩, ⟨by rw [ht]; exact hP, va_K.moved hW.alike hX.2.1⟩, by rw [ht]; exact ho⟩, hS.F ht⟩) hS.2.2 dL_mean_24

set_option maxHeartbeats 4000000 in
set_option maxRecDepth 100000 in
theorem l_forecast (l : Launch) (hl9 : l.stackTraces = false) (G : va_G) (cA : Nat → ClassId) (ad : Nat → Nat) (σ : St) (hJ : rr_inj ad) (hI : Inv σ) (a0 : Int32) (qo : Nat) (cJ : ClassId) (z : Int64) : Met l yL_forecast (wL_forecast :: wG) { frames := 10, cells := 5, slots := 30, locals := 200 } (va_Pc [.ref (ad 66), .int a0, .ref qo] (lxL G cA ad σ qo cJ z)) (lqL G cA ad qo cJ (c_faceAt σ a0) σ (c_forecastOf σ (nx a0))) 5 30 (oA ad qo) := by
  refine va_MetW (cc := cL_forecast) (maxL := 4) (ret := some .int) (hh := hL_forecast) (by decide) rfl ?_
  intro p e s m args below meth c s₁ B hml hv
  obtain ⟨rfl, hX, hA9, ho, hoT, hoA⟩ := hv
  have hx := B.exec
  have hb := B.bytes
  have hr := B.returns
  have hts := atoms_spec (ws := wL_forecast :: wG) B.pre
  have hg : ∀ w ∈ wG, w.before _ s = true := fun w h => hts w (List.mem_cons_of_mem _ h)
  have hown : s.vm.findClass RL = some m.cls := findClass_of_methodNamed B.named
  have htab := ct_tab (Stand.of_body B) B.named (hts _ List.mem_cons_self)
  have hl := lv_entry ([.ref (ad 66), .int a0, .ref qo]) (n := 4) (Nat.le_of_ble_eq_true rfl)
  rw [lg_entry_eq]
  generalize (lg_sl ([.ref (ad 66), .int a0, .ref qo]) ++ List.replicate (4 - (lg_sl ([.ref (ad 66), .int a0, .ref qo])).length) Slot.unset).toArray = ls at hl ⊢
  have hl : lv_has ls 4 [(0, .ref (ad 66)), (1, .int a0), (2, .ref qo)] := hl
  refine lv_aload_n hx hb dL_forecast_0 rfl (lv_at hl 2 rfl) ?_
  refine lv_iconst (v := 0) hx hb dL_forecast_1 (by decide) ?_
  refine lv_aload_n hx hb dL_forecast_2 rfl (lv_at hl 0 rfl) ?_
  refine lv_iload_n hx hb dL_forecast_3 rfl (lv_at hl 1 rfl) ?_
  rcases rn_forecast σ a0 with hk | hk | hk
  · refine ct_callV (h := 0) (As := [.int a0]) (rest := [.int 0, .ref qo]) ⟨hx, hb, hml, hown, hg⟩ (m_ReplenishRules_forecast l hl9 G cA ad σ hJ hI a0) (cwV 1 hg (gV qM_L_59 qI_X6_forecast qS_X6_forecast qN_X6 kX6_forecast) rfl rfl rfl (by decide +kernel) ⟨Nat.le_of_ble_eq_true rfl, Nat.le_of_ble_eq_true rfl⟩) hX hA9 htab (va_recv hX.2.1 hX.1 (ci := 6) (q0 := 66) rfl rl_main) rfl hl.1 rfl (lv_room (Nat.le_of_ble_eq_true rfl)) dL_forecast_4 ⟨Nat.le_of_ble_eq_true rfl, Nat.le_of_ble_eq_true rfl⟩ (by rw [hk]; decide) (fun h9 => absurd hk h9) (fun _ v τ H locs hr8 hP hS => ?_) (fun h9 => absurd hk h9)
    have ho := oKeep ho hoA hS
    have hS := oS (qo := qo) hS
    obtain ⟨rfl, hτ9⟩ := hr8
    rw [hτ9] at hP
    refine W.eq (g2 := F0 m 7 ls [.long (c_forecastOf σ (nx a0)), .int 0, .ref qo]) rfl ?_
    refine o_st (x := c_forecastOf σ (nx a0)) hx hb hoT ho hP hoA hS dL_forecast_7 (fun H locs hP ho hS => ?_)
    refine lv_goto (tgt := 17) hx hb dL_forecast_8 (by decide) ?_
    refine lv_iconst (v := 0) hx hb dL_forecast_17 (by decide) ?_
    refine W.widen (k := 5) (n := 30) (Nat.le_of_ble_eq_true rfl) (Nat.le_of_ble_eq_true rfl) ?_
    exact W.iret (v := 0) hx hb hr (fun t ht hW => ⟨⟨0, (σ, c_forecastOf σ (nx a0)), rfl, ⟨by rw [hk]; rfl, rfl, fun _ => rfl⟩, ⟨by rw [ht]; exact hP, va_K.moved hW.alike hX.2.1⟩, by rw [ht]; exact ho⟩, hS.F ht⟩) hS.2.2 dL_forecast_18
  · refine ct_callV (h := 11) (As := [.int a0]) (rest := [.int 0, .ref qo]) ⟨hx, hb, hml, hown, hg⟩ (m_ReplenishRules_forecast l hl9 G cA ad σ hJ hI a0) (cwV 1 hg (gV qM_L_59 qI_X6_forecast qS_X6_forecast qN_X6 kX6_forecast) rfl rfl rfl (by decide +kernel) ⟨Nat.le_of_ble_eq_true rfl, Nat.le_of_ble_eq_true rfl⟩) hX hA9 htab (va_recv hX.2.1 hX.1 (ci := 6) (q0 := 66) rfl rl_main) rfl hl.1 rfl (lv_room (Nat.le_of_ble_eq_true rfl)) dL_forecast_4 ⟨Nat.le_of_ble_eq_true rfl, Nat.le_of_ble_eq_true rfl⟩ (by rw [hk]; decide) (fun _ pl hpl o ho9 => by rw [hk] at ho9; exact ct_take (K := 1) hpl hA9 hown rfl (by decide) (hg _ qK_L_13) ho9 ⟨by decide, by decide⟩) (fun h9 => absurd (h9.symm.trans hk) (by decide)) (fun _ q H locs hP hS => ?_)
    have ho := oKeep ho hoA hS
    have hS := oS (qo := qo) hS
    refine lv_astore_n (lv' := [(3, .ref q), (0, .ref (ad 66)), (1, .int a0), (2, .ref qo)]) hx hb dL_forecast_11 rfl hl (by decide) rfl (fun ls hl => ?_)
    refine lv_iconst (v := 1) hx hb dL_forecast_12 (by decide) ?_
    refine W.widen (k := 5) (n := 30) (Nat.le_of_ble_eq_true rfl) (Nat.le_of_ble_eq_true rfl) ?_
    exact W.iret (v := 1) hx hb hr (fun t ht hW => ⟨⟨1, (σ, z), rfl, ⟨by rw [hk]; rfl, rfl, fun h9 => absurd h9 (by rw [hk]; decide)⟩, ⟨by rw [ht]; exact hP, va_K.moved hW.alike hX.2.1⟩, by rw [ht]; exact ho⟩, hS.F ht⟩) hS.2.2 dL_forecast_13
  · refine ct_callV (h := 14) (As := [.int a0]) (rest := [.int 0, .ref qo]) ⟨hx, hb, hml, hown, hg⟩ (m_ReplenishRules_forecast l hl9 G cA ad σ hJ hI a0) (cwV 1 hg (gV qM_L_59 qI_X6_forecast qS_X6_forecast qN_X6 kX6_forecast) rfl rfl rfl (by decide +kernel) ⟨Nat.le_of_ble_eq_true rfl, Nat.le_of_ble_eq_true rfl⟩) hX hA9 htab (va_recv hX.2.1 hX.1 (ci := 6) (q0 := 66) rfl rl_main) rfl hl.1 rfl (lv_room (Nat.le_of_ble_eq_true rfl)) dL_forecast_4 ⟨Nat.le_of_ble_eq_true rfl, Nat.le_of_ble_eq_true rfl⟩ (by rw [hk]; decide) (fun _ pl hpl o ho9 => by rw [hk] at ho9; exact ct_pass (K := 2) (j := 1) hpl hA9 hown rfl (by decide) (hg _ qK_L_13) ho9 ⟨by decide, by decide⟩ ⟨by decide, by decide⟩ (by decide) (ct_take (K := 2) hpl hA9 hown rfl (by decide) (hg _ qK_L_15) ho9 ⟨by decide, by decide⟩)) (fun h9 => absurd (h9.symm.trans hk) (by decide)) (fun _ q H locs hP hS => ?_)
    have ho := oKeep ho hoA hS
    have hS := oS (qo := qo) hS
    refine lv_astore_n (lv' := [(3, .ref q), (0, .ref (ad 66)), (1, .int a0), (2, .ref qo)]) hx hb dL_forecast_14 rfl hl (by decide) rfl (fun ls hl => ?_)
    refine lv_iconst (v := 2) hx hb dL_forecast_15 (by decide) ?_
    refine W.widen (k := 5) (n := 30) (Nat.le_of_ble_eq_true rfl) (Nat.le_of_ble_eq_true rfl) ?_
    exact W.iret (v := 2) hx hb hr (fun t ht hW => ⟨⟨2, (σ, z), rfl, ⟨by rw [hk]; rfl, rfl, fun h9 => absurd h9 (by rw [hk]; decide)⟩, ⟨by rw [ht]; exact hP, va_K.moved hW.alike hX.2.1⟩, by rw [ht]; exact ho⟩, hS.F ht⟩) hS.2.2 dL_forecast_16

set_option maxHeartbeats 4000000 in
set_option maxRecDepth 100000 in
theorem l_threshold (l : Launch) (hl9 : l.stackTraces = false) (G : va_G) (cA : Nat → ClassId) (ad : Nat → Nat) (σ : St) (hJ : rr_inj ad) (hI : Inv σ) (a0 : Int32) (qo : Nat) (cJ : ClassId) (z : Int64) : Met l yL_threshold (wL_threshold :: wG) { frames := 10, cells := 5, slots := 30, locals := 200 } (va_Pc [.ref (ad 66), .int a0, .ref qo] (lxL G cA ad σ qo cJ z)) (lqL G cA ad qo cJ (c_faceAt σ a0) σ ((c_thresholdOf σ (nx a0)).toInt64)) 5 30 (oA ad qo) := by
  refine va_MetW (cc := cL_threshold) (maxL := 4) (ret := some .int) (hh := hL_threshold) (by decide) rfl ?_
  intro p e s m args below meth c s₁ B hml hv
  obtain ⟨rfl, hX, hA9, ho, hoT, hoA⟩ := hv
  have hx := B.exec
  have hb := B.bytes
  have hr := B.returns
  have hts := atoms_spec (ws := wL_threshold :: wG) B.pre
  have hg : ∀ w ∈ wG, w.before _ s = true := fun w h => hts w (List.mem_cons_of_mem _ h)
  have hown : s.vm.findClass RL = some m.cls := findClass_of_methodNamed B.named
  have htab := ct_tab (Stand.of_body B) B.named (hts _ List.mem_cons_self)
  have hl := lv_entry ([.ref (ad 66), .int a0, .ref qo]) (n := 4) (Nat.le_of_ble_eq_true rfl)
  rw [lg_entry_eq]
  generalize (lg_sl ([.ref (ad 66), .int a0, .ref qo]) ++ List.replicate (4 - (lg_sl ([.ref (ad 66), .int a0, .ref qo])).length) Slot.unset).toArray = ls at hl ⊢
  have hl : lv_has ls 4 [(0, .ref (ad 66)), (1, .int a0), (2, .ref qo)] := hl
  refine lv_aload_n hx hb dL_threshold_0 rfl (lv_at hl 2 rfl) ?_
  refine lv_iconst (v := 0) hx hb dL_threshold_1 (by decide) ?_
  refine lv_aload_n hx hb dL_threshold_2 rfl (lv_at hl 0 rfl) ?_
  refine lv_iload_n hx hb dL_threshold_3 rfl (lv_at hl 1 rfl) ?_
  rcases rn_threshold σ a0 with hk | hk | hk
  · refine ct_callV (h := 0) (As := [.int a0]) (rest := [.int 0, .ref qo]) ⟨hx, hb, hml, hown, hg⟩ (m_ReplenishRules_threshold l hl9 G cA ad σ hJ hI a0) (cwV 1 hg (gV qM_L_63 qI_X6_threshold qS_X6_threshold qN_X6 kX6_threshold) rfl rfl rfl (by decide +kernel) ⟨Nat.le_of_ble_eq_true rfl, Nat.le_of_ble_eq_true rfl⟩) hX hA9 htab (va_recv hX.2.1 hX.1 (ci := 6) (q0 := 66) rfl rl_main) rfl hl.1 rfl (lv_room (Nat.le_of_ble_eq_true rfl)) dL_threshold_4 ⟨Nat.le_of_ble_eq_true rfl, Nat.le_of_ble_eq_true rfl⟩ (by rw [hk]; decide) (fun h9 => absurd hk h9) (fun _ v τ H locs hr8 hP hS => ?_) (fun h9 => absurd hk h9)
    have ho := oKeep ho hoA hS
    have hS := oS (qo := qo) hS
    obtain ⟨rfl, hτ9⟩ := hr8
    rw [hτ9] at hP
    refine W.eq (g2 := F0 m 7 ls [.int (c_thresholdOf σ (nx a0)), .int 0, .ref qo]) rfl ?_
    refine lv_i2l (v := (c_thresholdOf σ (nx a0)).toInt64) hx hb dL_threshold_7 rfl ?_
    refine o_st (x := (c_thresholdOf σ (nx a0)).toInt64) hx hb hoT ho hP hoA hS dL_threshold_8 (fun H locs hP ho hS => ?_)
    refine lv_goto (tgt := 18) hx hb dL_threshold_9 (by decide) ?_
    refine lv_iconst (v := 0) hx hb dL_threshold_18 (by decide) ?_
    refine W.widen (k := 5) (n := 30) (Nat.le_of_ble_eq_true rfl) (Nat.le_of_ble_eq_true rfl) ?_
    exact W.iret (v := 0) hx hb hr (fun t ht hW => ⟨⟨0, (σ, (c_thresholdOf σ (nx a0)).toInt64), rfl, ⟨by rw [hk]; rfl, rfl, fun _ => rfl⟩, ⟨by rw [ht]; exact hP, va_K.moved hW.alike hX.2.1⟩, by rw [ht]; exact ho⟩, hS.F ht⟩) hS.2.2 dL_threshold_19
  · refine ct_callV (h := 12) (As := [.int a0]) (rest := [.int 0, .ref qo]) ⟨hx, hb, hml, hown, hg⟩ (m_ReplenishRules_threshold l hl9 G cA ad σ hJ hI a0) (cwV 1 hg (gV qM_L_63 qI_X6_threshold qS_X6_threshold qN_X6 kX6_threshold) rfl rfl rfl (by decide +kernel) ⟨Nat.le_of_ble_eq_true rfl, Nat.le_of_ble_eq_true rfl⟩) hX hA9 htab (va_recv hX.2.1 hX.1 (ci := 6) (q0 := 66) rfl rl_main) rfl hl.1 rfl (lv_room (Nat.le_of_ble_eq_true rfl)) dL_threshold_4 ⟨Nat.le_of_ble_eq_true rfl, Nat.le_of_ble_eq_true rfl⟩ (by rw [hk]; decide) (fun _ pl hpl o ho9 => by rw [hk] at ho9; exact ct_take (K := 1) hpl hA9 hown rfl (by decide) (hg _ qK_L_13) ho9 ⟨by decide, by decide⟩) (fun h9 => absurd (h9.symm.trans hk) (by decide)) (fun _ q H locs hP hS => ?_)
    have ho := oKeep ho hoA hS
    have hS := oS (qo := qo) hS
    refine lv_astore_n (lv' := [(3, .ref q), (0, .ref (ad 66)), (1, .int a0), (2, .ref qo)]) hx hb dL_threshold_12 rfl hl (by decide) rfl (fun ls hl => ?_)
    refine lv_iconst (v := 1) hx hb dL_threshold_13 (by decide) ?_
    refine W.widen (k := 5) (n := 30) (Nat.le_of_ble_eq_true rfl) (Nat.le_of_ble_eq_true rfl) ?_
    exact W.iret (v := 1) hx hb hr (fun t ht hW => ⟨⟨1, (σ, z), rfl, ⟨by rw [hk]; rfl, rfl, fun h9 => absurd h9 (by rw [hk]; decide)⟩, ⟨by rw [ht]; exact hP, va_K.moved hW.alike hX.2.1⟩, by rw [ht]; exact ho⟩, hS.F ht⟩) hS.2.2 dL_threshold_14
  · refine ct_callV (h := 15) (As := [.int a0]) (rest := [.int 0, .ref qo]) ⟨hx, hb, hml, hown, hg⟩ (m_ReplenishRules_threshold l hl9 G cA ad σ hJ hI a0) (cwV 1 hg (gV qM_L_63 qI_X6_threshold qS_X6_threshold qN_X6 kX6_threshold) rfl rfl rfl (by decide +kernel) ⟨Nat.le_of_ble_eq_true rfl, Nat.le_of_ble_eq_true rfl⟩) hX hA9 htab (va_recv hX.2.1 hX.1 (ci := 6) (q0 := 66) rfl rl_main) rfl hl.1 rfl (lv_room (Nat.le_of_ble_eq_true rfl)) dL_threshold_4 ⟨Nat.le_of_ble_eq_true rfl, Nat.le_of_ble_eq_true rfl⟩ (by rw [hk]; decide) (fun _ pl hpl o ho9 => by rw [hk] at ho9; exact ct_pass (K := 2) (j := 1) hpl hA9 hown rfl (by decide) (hg _ qK_L_13) ho9 ⟨by decide, by decide⟩ ⟨by decide, by decide⟩ (by decide) (ct_take (K := 2) hpl hA9 hown rfl (by decide) (hg _ qK_L_15) ho9 ⟨by decide, by decide⟩)) (fun h9 => absurd (h9.symm.trans hk) (by decide)) (fun _ q H locs hP hS => ?_)
    have ho := oKeep ho hoA hS
    have hS := oS (qo := qo) hS
    refine lv_astore_n (lv' := [(3, .ref q), (0, .ref (ad 66)), (1, .int a0), (2, .ref qo)]) hx hb dL_threshold_15 rfl hl (by decide) rfl (fun ls hl => ?_)
    refine lv_iconst (v := 2) hx hb dL_threshold_16 (by decide) ?_
    refine W.widen (k := 5) (n := 30) (Nat.le_of_ble_eq_true rfl) (Nat.le_of_ble_eq_true rfl) ?_
    exact W.iret (v := 2) hx hb hr (fun t ht hW => ⟨⟨2, (σ, z), rfl, ⟨by rw [hk]; rfl, rfl, fun h9 => absurd h9 (by rw [hk]; decide)⟩, ⟨by rw [ht]; exact hP, va_K.moved hW.alike hX.2.1⟩, by rw [ht]; exact ho⟩, hS.F ht⟩) hS.2.2 dL_threshold_17

set_option maxHeartbeats 4000000 in
set_option maxRecDepth 100000 in
theorem l_move (l : Launch) (hl9 : l.stackTraces = false) (G : va_G) (cA : Nat → ClassId) (ad : Nat → Nat) (σ : St) (hJ : rr_inj ad) (hI : Inv σ) (a0 : Int32) (b0 : Int32) (qo : Nat) (cJ : ClassId) (z : Int64) : Met l yL_move (wL_move :: wG) { frames := 10, cells := 5, slots := 30, locals := 200 } (va_Pc [.ref (ad 66), .int a0, .int b0, .ref qo] (lxL G cA ad σ qo cJ z)) (lqL G cA ad qo cJ (cdM (c_moveK σ a0 b0)) σ ((c_mtell σ (nx a0) b0).toInt64)) 5 30 (oA ad qo) := by
  refine va_MetW (cc := cL_move) (maxL := 5) (ret := some .int) (hh := hL_move) (by decide) rfl ?_
  intro p e s m args below meth c s₁ B hml hv
  obtain ⟨rfl, hX, hA9, ho, hoT, hoA⟩ := hv
  have hx := B.exec
  have hb := B.bytes
  have hr := B.returns
  have hts := atoms_spec (ws := wL_move :: wG) B.pre
  have hg : ∀ w ∈ wG, w.before _ s = true := fun w h => hts w (List.mem_cons_of_mem _ h)
  have hown : s.vm.findClass RL = some m.cls := findClass_of_methodNamed B.named
  have htab := ct_tab (Stand.of_body B) B.named (hts _ List.mem_cons_self)
  have hl := lv_entry ([.ref (ad 66), .int a0, .int b0, .ref qo]) (n := 5) (Nat.le_of_ble_eq_true rfl)
  rw [lg_entry_eq]
  generalize (lg_sl ([.ref (ad 66), .int a0, .int b0, .ref qo]) ++ List.replicate (5 - (lg_sl ([.ref (ad 66), .int a0, .int b0, .ref qo])).length) Slot.unset).toArray = ls at hl ⊢
  have hl : lv_has ls 5 [(0, .ref (ad 66)), (1, .int a0), (2, .int b0), (3, .ref qo)] := hl
  refine lv_aload_n hx hb dL_move_0 rfl (lv_at hl 3 rfl) ?_
  refine lv_iconst (v := 0) hx hb dL_move_1 (by decide) ?_
  refine lv_aload_n hx hb dL_move_2 rfl (lv_at hl 0 rfl) ?_
  refine lv_iload_n hx hb dL_move_3 rfl (lv_at hl 1 rfl) ?_
  refine lv_iload_n hx hb dL_move_4 rfl (lv_at hl 2 rfl) ?_
  rcases rn_move σ a0 b0 with hk | hk | hk
  · refine ct_callV (h := 0) (As := [.int a0, .int b0]) (rest := [.int 0, .ref qo]) ⟨hx, hb, hml, hown, hg⟩ (m_ReplenishRules_move l hl9 G cA ad σ hJ hI a0 b0) (cwV 2 hg (gV qM_L_75 qI_X6_move qS_X6_move qN_X6 kX6_move) rfl rfl rfl (by decide +kernel) ⟨Nat.le_of_ble_eq_true rfl, Nat.le_of_ble_eq_true rfl⟩) hX hA9 htab (va_recv hX.2.1 hX.1 (ci := 6) (q0 := 66) rfl rl_main) rfl hl.1 rfl (lv_room (Nat.le_of_ble_eq_true rfl)) dL_move_5 ⟨Nat.le_of_ble_eq_true rfl, Nat.le_of_ble_eq_true rfl⟩ (by rw [hk]; decide) (fun h9 => absurd hk h9) (fun _ v τ H locs hr8 hP hS => ?_) (fun h9 => absurd hk h9)
    have ho := oKeep ho hoA hS
    have hS := oS (qo := qo) hS
    obtain ⟨rfl, hτ9⟩ := hr8
    rw [hτ9] at hP
    refine W.eq (g2 := F0 m 8 ls [.int (c_mtell σ (nx a0) b0), .int 0, .ref qo]) rfl ?_
    refine lv_i2l (v := (c_mtell σ (nx a0) b0).toInt64) hx hb dL_move_8 rfl ?_
    refine o_st (x := (c_mtell σ (nx a0) b0).toInt64) hx hb hoT ho hP hoA hS dL_move_9 (fun H locs hP ho hS => ?_)
    refine lv_goto (tgt := 21) hx hb dL_move_10 (by decide) ?_
    refine lv_iconst (v := 0) hx hb dL_move_21 (by decide) ?_
    refine W.widen (k := 5) (n := 30) (Nat.le_of_ble_eq_true rfl) (Nat.le_of_ble_eq_true rfl) ?_
    exact W.iret (v := 0) hx hb hr (fun t ht hW => ⟨⟨0, (σ, (c_mtell σ (nx a0) b0).toInt64), rfl, ⟨by rw [hk]; rfl, rfl, fun _ => rfl⟩, ⟨by rw [ht]; exact hP, va_K.moved hW.alike hX.2.1⟩, by rw [ht]; exact ho⟩, hS.F ht⟩) hS.2.2 dL_move_22
  · refine ct_callV (h := 17) (As := [.int a0, .int b0]) (rest := [.int 0, .ref qo]) ⟨hx, hb, hml, hown, hg⟩ (m_ReplenishRules_move l hl9 G cA ad σ hJ hI a0 b0) (cwV 2 hg (gV qM_L_75 qI_X6_move qS_X6_move qN_X6 kX6_move) rfl rfl rfl (by decide +kernel) ⟨Nat.le_of_ble_eq_true rfl, Nat.le_of_ble_eq_true rfl⟩) hX hA9 htab (va_recv hX.2.1 hX.1 (ci := 6) (q0 := 66) rfl rl_main) rfl hl.1 rfl (lv_room (Nat.le_of_ble_eq_true rfl)) dL_move_5 ⟨Nat.le_of_ble_eq_true rfl, Nat.le_of_ble_eq_true rfl⟩ (by rw [hk]; decide) (fun _ pl hpl o ho9 => by rw [hk] at ho9; exact ct_pass (K := 1) (j := 4) hpl hA9 hown rfl (by decide) (hg _ qK_L_78) ho9 ⟨by decide, by decide⟩ ⟨by decide, by decide⟩ (by decide) (ct_take (K := 1) hpl hA9 hown rfl (by decide) (hg _ qK_L_13) ho9 ⟨by decide, by decide⟩)) (fun h9 => absurd (h9.symm.trans hk) (by decide)) (fun _ q H locs hP hS => ?_)
    have ho := oKeep ho hoA hS
    have hS := oS (qo := qo) hS
    refine lv_astore (lv' := [(4, .ref q), (0, .ref (ad 66)), (1, .int a0), (2, .int b0), (3, .ref qo)]) hx hb dL_move_17 hl (by decide) rfl (fun ls hl => ?_)
    refine lv_iconst (v := 2) hx hb dL_move_19 (by decide) ?_
    refine W.widen (k := 5) (n := 30) (Nat.le_of_ble_eq_true rfl) (Nat.le_of_ble_eq_true rfl) ?_
    exact W.iret (v := 2) hx hb hr (fun t ht hW => ⟨⟨2, (σ, z), rfl, ⟨by rw [hk]; rfl, rfl, fun h9 => absurd h9 (by rw [hk]; decide)⟩, ⟨by rw [ht]; exact hP, va_K.moved hW.alike hX.2.1⟩, by rw [ht]; exact ho⟩, hS.F ht⟩) hS.2.2 dL_move_20
  · refine ct_callV (h := 13) (As := [.int a0, .int b0]) (rest := [.int 0, .ref qo]) ⟨hx, hb, hml, hown, hg⟩ (m_ReplenishRules_move l hl9 G cA ad σ hJ hI a0 b0) (cwV 2 hg (gV qM_L_75 qI_X6_move qS_X6_move qN_X6 kX6_move) rfl rfl rfl (by decide +kernel) ⟨Nat.le_of_ble_eq_true rfl, Nat.le_of_ble_eq_true rfl⟩) hX hA9 htab (va_recv hX.2.1 hX.1 (ci := 6) (q0 := 66) rfl rl_main) rfl hl.1 rfl (lv_room (Nat.le_of_ble_eq_true rfl)) dL_move_5 ⟨Nat.le_of_ble_eq_true rfl, Nat.le_of_ble_eq_true rfl⟩ (by rw [hk]; decide) (fun _ pl hpl o ho9 => by rw [hk] at ho9; exact ct_take (K := 4) hpl hA9 hown rfl (by decide) (hg _ qK_L_78) ho9 ⟨by decide, by decide⟩) (fun h9 => absurd (h9.symm.trans hk) (by decide)) (fun _ q H locs hP hS => ?_)
    have ho := oKeep ho hoA hS
    have hS := oS (qo := qo) hS
    refine lv_astore (lv' := [(4, .ref q), (0, .ref (ad 66)), (1, .int a0), (2, .int b0), (3, .ref qo)]) hx hb dL_move_13 hl (by decide) rfl (fun ls hl => ?_)
    refine lv_iconst (v := 1) hx hb dL_move_15 (by decide) ?_
    refine W.widen (k := 5) (n := 30) (Nat.le_of_ble_eq_true rfl) (Nat.le_of_ble_eq_true rfl) ?_
    exact W.iret (v := 1) hx hb hr (fun t ht hW => ⟨⟨1, (σ, z), rfl, ⟨by rw [hk]; rfl, rfl, fun h9 => absurd h9 (by rw [hk]; decide)⟩, ⟨by rw [ht]; exact hP, va_K.moved hW.alike hX.2.1⟩, by rw [ht]; exact ho⟩, hS.F ht⟩) hS.2.2 dL_move_16

set_option maxHeartbeats 4000000 in
set_option maxRecDepth 100000 in
theorem l_done (l : Launch) (hl9 : l.stackTraces = false) (G : va_G) (cA : Nat → ClassId) (ad : Nat → Nat) (σ : St) (hJ : rr_inj ad) (hI : Inv σ) (a0 : Int32) : Met l yL_done (wL_done :: wG) { frames := 10, cells := 5, slots := 30, locals := 200 } (va_Pc [.ref (ad 66), .int a0] (lxV G cA ad σ)) (lqV G cA ad (cdD (c_doneK2 σ a0)) (if c_doneK2 σ a0 = 0 then c_doneS σ a0 else σ)) 5 30 (rrA ad) := by
  refine va_MetW (cc := cL_done) (maxL := 3) (ret := some .int) (hh := hL_done) (by decide) rfl ?_
  intro p e s m args below meth c s₁ B hml hv
  obtain ⟨rfl, hX, hA9⟩ := hv
  have hx := B.exec
  have hb := B.bytes
  have hr := B.returns
  have hts := atoms_spec (ws := wL_done :: wG) B.pre
  have hg : ∀ w ∈ wG, w.before _ s = true := fun w h => hts w (List.mem_cons_of_mem _ h)
  have hown : s.vm.findClass RL = some m.cls := findClass_of_methodNamed B.named
  have htab := ct_tab (Stand.of_body B) B.named (hts _ List.mem_cons_self)
  have hl := lv_entry ([.ref (ad 66), .int a0]) (n := 3) (Nat.le_of_ble_eq_true rfl)
  rw [lg_entry_eq]
  generalize (lg_sl ([.ref (ad 66), .int a0]) ++ List.replicate (3 - (lg_sl ([.ref (ad 66), .int a0])).length) Slot.unset).toArray = ls at hl ⊢
  have hl : lv_has ls 3 [(0, .ref (ad 66)), (1, .int a0)] := hl
  refine lv_aload_n hx hb dL_done_0 rfl (lv_at hl 0 rfl) ?_
  refine lv_iload_n hx hb dL_done_1 rfl (lv_at hl 1 rfl) ?_
  rcases rn_done σ a0 with hk | hk | hk | hk
  · refine ct_callV (h := 0) (As := [.int a0]) (rest := []) ⟨hx, hb, hml, hown, hg⟩ (m_ReplenishRules_done l hl9 G cA ad σ hJ hI a0) (cwV 1 hg (gV qM_L_80 qI_X6_done qS_X6_done qN_X6 kX6_done) rfl rfl rfl (by decide +kernel) ⟨Nat.le_of_ble_eq_true rfl, Nat.le_of_ble_eq_true rfl⟩) hX hA9 htab (va_recv hX.2.1 hX.1 (ci := 6) (q0 := 66) rfl rl_main) rfl hl.1 rfl (lv_room (Nat.le_of_ble_eq_true rfl)) dL_done_2 ⟨Nat.le_of_ble_eq_true rfl, Nat.le_of_ble_eq_true rfl⟩ (by rw [hk]; decide) (fun h9 => absurd hk h9) (fun _ v τ H locs hr8 hP hS => ?_) (fun h9 => absurd hk h9)
    obtain ⟨rfl, hτ9⟩ := hr8
    rw [hτ9] at hP
    refine W.eq (g2 := F0 m 5 ls []) rfl ?_
    refine lv_goto (tgt := 17) hx hb dL_done_5 (by decide) ?_
    refine lv_iconst (v := 0) hx hb dL_done_17 (by decide) ?_
    refine W.widen (k := 5) (n := 30) (Nat.le_of_ble_eq_true rfl) (Nat.le_of_ble_eq_true rfl) ?_
    exact W.iret (v := 0) hx hb hr (fun t ht hW => ⟨⟨0, _, rfl, ⟨by rw [hk]; rfl, (if_pos hk).symm⟩, by rw [ht]; exact hP, va_K.moved hW.alike hX.2.1⟩, hS.F ht⟩) hS.2.2 dL_done_18
  · refine ct_callV (h := 11) (As := [.int a0]) (rest := []) ⟨hx, hb, hml, hown, hg⟩ (m_ReplenishRules_done l hl9 G cA ad σ hJ hI a0) (cwV 1 hg (gV qM_L_80 qI_X6_done qS_X6_done qN_X6 kX6_done) rfl rfl rfl (by decide +kernel) ⟨Nat.le_of_ble_eq_true rfl, Nat.le_of_ble_eq_true rfl⟩) hX hA9 htab (va_recv hX.2.1 hX.1 (ci := 6) (q0 := 66) rfl rl_main) rfl hl.1 rfl (lv_room (Nat.le_of_ble_eq_true rfl)) dL_done_2 ⟨Nat.le_of_ble_eq_true rfl, Nat.le_of_ble_eq_true rfl⟩ (by rw [hk]; decide) (fun _ pl hpl o ho9 => by rw [hk] at ho9; exact ct_pass (K := 2) (j := 4) hpl hA9 hown rfl (by decide) (hg _ qK_L_78) ho9 ⟨by decide, by decide⟩ ⟨by decide, by decide⟩ (by decide) (ct_take (K := 2) hpl hA9 hown rfl (by decide) (hg _ qK_L_15) ho9 ⟨by decide, by decide⟩)) (fun h9 => absurd (h9.symm.trans hk) (by decide)) (fun _ q H locs hP hS => ?_)
    refine lv_astore_n (lv' := [(2, .ref q), (0, .ref (ad 66)), (1, .int a0)]) hx hb dL_done_11 rfl hl (by decide) rfl (fun ls hl => ?_)
    refine lv_iconst (v := 2) hx hb dL_done_12 (by decide) ?_
    refine W.widen (k := 5) (n := 30) (Nat.le_of_ble_eq_true rfl) (Nat.le_of_ble_eq_true rfl) ?_
    exact W.iret (v := 2) hx hb hr (fun t ht hW => ⟨⟨2, _, rfl, ⟨by rw [hk]; rfl, (if_neg (by rw [hk]; decide)).symm⟩, by rw [ht]; exact hP, va_K.moved hW.alike hX.2.1⟩, hS.F ht⟩) hS.2.2 dL_done_13
  · refine ct_callV (h := 14) (As := [.int a0]) (rest := []) ⟨hx, hb, hml, hown, hg⟩ (m_ReplenishRules_done l hl9 G cA ad σ hJ hI a0) (cwV 1 hg (gV qM_L_80 qI_X6_done qS_X6_done qN_X6 kX6_done) rfl rfl rfl (by decide +kernel) ⟨Nat.le_of_ble_eq_true rfl, Nat.le_of_ble_eq_true rfl⟩) hX hA9 htab (va_recv hX.2.1 hX.1 (ci := 6) (q0 := 66) rfl rl_main) rfl hl.1 rfl (lv_room (Nat.le_of_ble_eq_true rfl)) dL_done_2 ⟨Nat.le_of_ble_eq_true rfl, Nat.le_of_ble_eq_true rfl⟩ (by rw [hk]; decide) (fun _ pl hpl o ho9 => by rw [hk] at ho9; exact ct_pass (K := 3) (j := 4) hpl hA9 hown rfl (by decide) (hg _ qK_L_78) ho9 ⟨by decide, by decide⟩ ⟨by decide, by decide⟩ (by decide) (ct_pass (K := 3) (j := 2) hpl hA9 hown rfl (by decide) (hg _ qK_L_15) ho9 ⟨by decide, by decide⟩ ⟨by decide, by decide⟩ (by decide) (ct_take (K := 3) hpl hA9 hown rfl (by decide) (hg _ qK_L_24) ho9 ⟨by decide, by decide⟩))) (fun h9 => absurd (h9.symm.trans hk) (by decide)) (fun _ q H locs hP hS => ?_)
    refine lv_astore_n (lv' := [(2, .ref q), (0, .ref (ad 66)), (1, .int a0)]) hx hb dL_done_14 rfl hl (by decide) rfl (fun ls hl => ?_)
    refine lv_iconst (v := 3) hx hb dL_done_15 (by decide) ?_
    refine W.widen (k := 5) (n := 30) (Nat.le_of_ble_eq_true rfl) (Nat.le_of_ble_eq_true rfl) ?_
    exact W.iret (v := 3) hx hb hr (fun t ht hW => ⟨⟨3, _, rfl, ⟨by rw [hk]; rfl, (if_neg (by rw [hk]; decide)).symm⟩, by rw [ht]; exact hP, va_K.moved hW.alike hX.2.1⟩, hS.F ht⟩) hS.2.2 dL_done_16
  · refine ct_callV (h := 8) (As := [.int a0]) (rest := []) ⟨hx, hb, hml, hown, hg⟩ (m_ReplenishRules_done l hl9 G cA ad σ hJ hI a0) (cwV 1 hg (gV qM_L_80 qI_X6_done qS_X6_done qN_X6 kX6_done) rfl rfl rfl (by decide +kernel) ⟨Nat.le_of_ble_eq_true rfl, Nat.le_of_ble_eq_true rfl⟩) hX hA9 htab (va_recv hX.2.1 hX.1 (ci := 6) (q0 := 66) rfl rl_main) rfl hl.1 rfl (lv_room (Nat.le_of_ble_eq_true rfl)) dL_done_2 ⟨Nat.le_of_ble_eq_true rfl, Nat.le_of_ble_eq_true rfl⟩ (by rw [hk]; decide) (fun _ pl hpl o ho9 => by rw [hk] at ho9; exact ct_take (K := 4) hpl hA9 hown rfl (by decide) (hg _ qK_L_78) ho9 ⟨by decide, by decide⟩) (fun h9 => absurd (h9.symm.trans hk) (by decide)) (fun _ q H locs hP hS => ?_)
    refine lv_astore_n (lv' := [(2, .ref q), (0, .ref (ad 66)), (1, .int a0)]) hx hb dL_done_8 rfl hl (by decide) rfl (fun ls hl => ?_)
    refine lv_iconst (v := 1) hx hb dL_done_9 (by decide) ?_
    refine W.widen (k := 5) (n := 30) (Nat.le_of_ble_eq_true rfl) (Nat.le_of_ble_eq_true rfl) ?_
    exact W.iret (v := 1) hx hb hr (fun t ht hW => ⟨⟨1, _, rfl, ⟨by rw [hk]; rfl, (if_neg (by rw [hk]; decide)).symm⟩, by rw [ht]; exact hP, va_K.moved hW.alike hX.2.1⟩, hS.F ht⟩) hS.2.2 dL_done_10

set_option maxHeartbeats 4000000 in
set_option maxRecDepth 100000 in
theorem l_told (l : Launch) (hl9 : l.stackTraces = false) (G : va_G) (cA : Nat → ClassId) (ad : Nat → Nat) (σ : St) (hJ : rr_inj ad) (a0 : Int32) (b0 : Int32) (qo : Nat) (cJ : ClassId) (z : Int64) : Met l yL_told (wL_told :: wG) { frames := 10, cells := 5, slots := 30, locals := 200 } (va_Pc [.ref (ad 66), .int a0, .int b0, .ref qo] (lxL G cA ad σ qo cJ z)) (lqL G cA ad qo cJ (c_toldK a0 b0) σ ((c_tell σ (nx a0) b0).toInt64)) 5 30 (oA ad qo) := by
  refine va_MetW (cc := cL_told) (maxL := 5) (ret := some .int) (hh := hL_told) (by decide) rfl ?_
  intro p e s m args below meth c s₁ B hml hv
  obtain ⟨rfl, hX, hA9, ho, hoT, hoA⟩ := hv
  have hx := B.exec
  have hb := B.bytes
  have hr := B.returns
  have hts := atoms_spec (ws := wL_told :: wG) B.pre
  have hg : ∀ w ∈ wG, w.before _ s = true := fun w h => hts w (List.mem_cons_of_mem _ h)
  have hown : s.vm.findClass RL = some m.cls := findClass_of_methodNamed B.named
  have htab := ct_tab (Stand.of_body B) B.named (hts _ List.mem_cons_self)
  have hl := lv_entry ([.ref (ad 66), .int a0, .int b0, .ref qo]) (n := 5) (Nat.le_of_ble_eq_true rfl)
  rw [lg_entry_eq]
  generalize (lg_sl ([.ref (ad 66), .int a0, .int b0, .ref qo]) ++ List.replicate (5 - (lg_sl ([.ref (ad 66), .int a0, .int b0, .ref qo])).length) Slot.unset).toArray = ls at hl ⊢
  have hl : lv_has ls 5 [(0, .ref (ad 66)), (1, .int a0), (2, .int b0), (3, .ref qo)] := hl
  refine lv_aload_n hx hb dL_told_0 rfl (lv_at hl 3 rfl) ?_
  refine lv_iconst (v := 0) hx hb dL_told_1 (by decide) ?_
  refine lv_aload_n hx hb dL_told_2 rfl (lv_at hl 0 rfl) ?_
  refine lv_iload_n hx hb dL_told_3 rfl (lv_at hl 1 rfl) ?_
  refine lv_iload_n hx hb dL_told_4 rfl (lv_at hl 2 rfl) ?_
  rcases rn_told a0 b0 with hk | hk
  · refine ct_callV (h := 0) (As := [.int a0, .int b0]) (rest := [.int 0, .ref qo]) ⟨hx, hb, hml, hown, hg⟩ (m_ReplenishRules_told l hl9 G cA ad σ hJ a0 b0) (cwV 2 hg (gV qM_L_83 qI_X6_told qS_X6_told qN_X6 kX6_told) rfl rfl rfl (by decide +kernel) ⟨Nat.le_of_ble_eq_true rfl, Nat.le_of_ble_eq_true rfl⟩) hX hA9 htab (va_recv hX.2.1 hX.1 (ci := 6) (q0 := 66) rfl rl_main) rfl hl.1 rfl (lv_room (Nat.le_of_ble_eq_true rfl)) dL_told_5 ⟨Nat.le_of_ble_eq_true rfl, Nat.le_of_ble_eq_true rfl⟩ (by rw [hk]; decide) (fun h9 => absurd hk h9) (fun _ v τ H locs hr8 hP hS => ?_) (fun h9 => absurd hk h9)
    have ho := oKeep ho hoA hS
    have hS := oS (qo := qo) hS
    obtain ⟨rfl, hτ9⟩ := hr8
    rw [hτ9] at hP
    refine W.eq (g2 := F0 m 8 ls [.int (c_tell σ (nx a0) b0), .int 0, .ref qo]) rfl ?_
    refine lv_i2l (v := (c_tell σ (nx a0) b0).toInt64) hx hb dL_told_8 rfl ?_
    refine o_st (x := (c_tell σ (nx a0) b0).toInt64) hx hb hoT ho hP hoA hS dL_told_9 (fun H locs hP ho hS => ?_)
    refine lv_goto (tgt := 17) hx hb dL_told_10 (by decide) ?_
    refine lv_iconst (v := 0) hx hb dL_told_17 (by decide) ?_
    refine W.widen (k := 5) (n := 30) (Nat.le_of_ble_eq_true rfl) (Nat.le_of_ble_eq_true rfl) ?_
    exact W.iret (v := 0) hx hb hr (fun t ht hW => ⟨⟨0, (σ, (c_tell σ (nx a0) b0).toInt64), rfl, ⟨by rw [hk]; rfl, rfl, fun _ => rfl⟩, ⟨by rw [ht]; exact hP, va_K.moved hW.alike hX.2.1⟩, by rw [ht]; exact ho⟩, hS.F ht⟩) hS.2.2 dL_told_18
  · refine ct_callV (h := 13) (As := [.int a0, .int b0]) (rest := [.int 0, .ref qo]) ⟨hx, hb, hml, hown, hg⟩ (m_ReplenishRules_told l hl9 G cA ad σ hJ a0 b0) (cwV 2 hg (gV qM_L_83 qI_X6_told qS_X6_told qN_X6 kX6_told) rfl rfl rfl (by decide +kernel) ⟨Nat.le_of_ble_eq_true rfl, Nat.le_of_ble_eq_true rfl⟩) hX hA9 htab (va_recv hX.2.1 hX.1 (ci := 6) (q0 := 66) rfl rl_main) rfl hl.1 rfl (lv_room (Nat.le_of_ble_eq_true rfl)) dL_told_5 ⟨Nat.le_of_ble_eq_true rfl, Nat.le_of_ble_eq_true rfl⟩ (by rw [hk]; decide) (fun _ pl hpl o ho9 => by rw [hk] at ho9; exact ct_take (K := 1) hpl hA9 hown rfl (by decide) (hg _ qK_L_13) ho9 ⟨by decide, by decide⟩) (fun h9 => absurd (h9.symm.trans hk) (by decide)) (fun _ q H locs hP hS => ?_)
    have ho := oKeep ho hoA hS
    have hS := oS (qo := qo) hS
    refine lv_astore (lv' := [(4, .ref q), (0, .ref (ad 66)), (1, .int a0), (2, .int b0), (3, .ref qo)]) hx hb dL_told_13 hl (by decide) rfl (fun ls hl => ?_)
    refine lv_iconst (v := 1) hx hb dL_told_15 (by decide) ?_
    refine W.widen (k := 5) (n := 30) (Nat.le_of_ble_eq_true rfl) (Nat.le_of_ble_eq_true rfl) ?_
    exact W.iret (v := 1) hx hb hr (fun t ht hW => ⟨⟨1, (σ, z), rfl, ⟨by rw [hk]; rfl, rfl, fun h9 => absurd h9 (by rw [hk]; decide)⟩, ⟨by rw [ht]; exact hP, va_K.moved hW.alike hX.2.1⟩, by rw [ht]; exact ho⟩, hS.F ht⟩) hS.2.2 dL_told_16
