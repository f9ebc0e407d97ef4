def c_doneK2 (σ : St) (i : Int32) : Nat := c_then (c_moveAt σ i) (if σ 56 (nx i) = 0 then (if σ 4 (nx (σ 50 (nx i))) = σ 5 (nx (σ 51 (nx i))) then (if σ 52 (nx i) ≤ c_notHeld σ (nx (σ 50 (nx i))) then (if c_holdsAnother σ (nx (σ 51 (nx i))) (σ 5 (nx (σ 51 (nx i)))) = 0 then c_sp σ (nx (σ 51 (nx i))) (σ 52 (nx i)) else 2) else 2) else 2) else 2)
set_option maxHeartbeats 600000 in
set_option maxRecDepth 100000 in
theorem m_ReplenishRules_place (l : Launch) (hl9 : l.stackTraces = false) (G : va_G) (cA : Nat → ClassId) (ad : Nat → Nat) (σ : St) (hJ : rr_inj ad) (a0 : Int32) (b0 : Int32) (c0 : Int32) : cx_Met (rrA ad) l yX6_place wX6_place ({ frames := 8, cells := 4, slots := 24, locals := 134 }) [.ref (ad 66), .int a0, .int b0, .int c0] G cA ad σ (c_placeK σ a0 b0 c0) (fun v τ => v = none ∧ τ = c_placeS σ a0 b0 c0) 4 24 := by
  refine cx_ofW (cc := cX6_place) (maxL := 5) (ret := none) (by decide) ?_
  intro p e s m args below meth c s₁ B hml hEx hv
  obtain ⟨rfl, hP, hK, hT⟩ := hv
  have hx := B.exec
  have hb := B.bytes
  have hr := B.returns
  have hts := atoms_spec (ws := wX6_place :: wG) B.pre
  have hg : ∀ w ∈ wG, w.before _ s = true := fun w h => hts w (List.mem_cons_of_mem _ h)
  have hown : s.vm.findClass RX6 = some m.cls := findClass_of_methodNamed B.named
  have hlocks := B.notSynchronized
  have hS : va_S (rrA ad) s.heap s.heap [] := va_S.rf
  have hP0 := hP
  have hl := lv_entry ([.ref (ad 66), .int a0, .int b0, .int c0]) (n := 5) (Nat.le_of_ble_eq_true rfl)
  rw [lg_entry_eq]
  generalize (lg_sl ([.ref (ad 66), .int a0, .int b0, .int c0]) ++ List.replicate (5 - (lg_sl ([.ref (ad 66), .int a0, .int b0, .int c0])).length) Slot.unset).toArray = ls at hl ⊢
  have hl : lv_has ls 5 [(0, .ref (ad 66)), (1, .int a0), (2, .int b0), (3, .int c0)] := hl
  refine lv_aload_n hx hb dX6_place_0 rfl (lv_at hl 0 rfl) ?_
  refine lv_iload_n hx hb dX6_place_1 rfl (lv_at hl 1 rfl) ?_
  refine cx_callV (As := [.int a0]) (rest := []) ⟨hx, hb, hml, hown, hg⟩ (m_ReplenishRules_placeAt l hl9 G cA ad σ hJ a0) (cwV 1 hg (gV qM_X6_56 qI_X6_placeAt qS_X6_placeAt qN_X6 kX6_placeAt) rfl rfl rfl (by decide +kernel) ⟨Nat.le_of_ble_eq_true rfl, Nat.le_of_ble_eq_true rfl⟩) hK hP hT (fun _ h => h) hS (va_recv hK hP (ci := 6) (q0 := 66) rfl rl_main) rfl hl.1 rfl (lv_room (Nat.le_of_ble_eq_true rfl)) dX6_place_2 ⟨Nat.le_of_ble_eq_true rfl, Nat.le_of_ble_eq_true rfl⟩ hEx hlocks (Nat.le_of_ble_eq_true rfl) (Nat.le_of_ble_eq_true rfl) (fun hk_2 => by simp only [c_placeK, c_then_n hk_2]) (fun hk_2 v9 τ9 H hR hP hS _ => ?_)
  obtain ⟨rfl, hτ9⟩ := hR
  rw [hτ9] at hP
  show W _ _ _ _ _ _ _ _ _ _ _ _ _ _ _ (F0 m 5 ls [.ref (ad (nx a0))])
  refine W.widen (k := 1) (n := 6) (Nat.le_of_ble_eq_true rfl) (Nat.le_of_ble_eq_true rfl) ?_
  refine lv_astore (lv' := [(4, .ref (ad (nx a0))), (0, .ref (ad 66)), (1, .int a0), (2, .int b0), (3, .int c0)]) hx hb dX6_place_5 hl (by decide) rfl (fun ls hl => ?_)
  refine lv_iload_n hx hb dX6_place_7 rfl (lv_at hl 3 rfl) ?_
  refine lv_iconst (v := 1) hx hb dX6_place_8 (by decide) ?_
  refine lv_ldc (v := 100000) hx hb hown (hg _ qC_X6_60) dX6_place_9 ?_
  refine cx_callS (As := [.int b0, .int 1, .int 100000]) (rest := []) ⟨hx, hb, hml, hown, hg⟩ (m_ReplenishRules_checkRange l hl9 G cA ad σ hJ b0 1 100000) (cwS 3 hg (gS qM_X6_61 qT_X6_checkRange qN_X6 kX6_checkRange) rfl rfl rfl (by decide +kernel) ⟨Nat.le_of_ble_eq_true rfl, Nat.le_of_ble_eq_true rfl⟩) hK hP hT (fun _ h => h) hS  rfl hl.1 rfl (lv_room (Nat.le_of_ble_eq_true rfl)) dX6_place_11 ⟨Nat.le_of_ble_eq_true rfl, Nat.le_of_ble_eq_true rfl⟩ hEx hlocks (Nat.le_of_ble_eq_true rfl) (Nat.le_of_ble_eq_true rfl) (fun hk_11 => by simp only [c_placeK, hk_2, c_then_z, c_then_n hk_11]) (fun hk_11 v9 τ9 H hR hP hS _ => ?_)
  obtain ⟨rfl, hτ9⟩ := hR
  rw [hτ9] at hP
  show W _ _ _ _ _ _ _ _ _ _ _ _ _ _ _ (F0 m 14 ls [])
  refine W.widen (k := 2) (n := 12) (Nat.le_of_ble_eq_true rfl) (Nat.le_of_ble_eq_true rfl) ?_
  refine lv_iload_n hx hb dX6_place_14 rfl (lv_at hl 4 rfl) ?_
  refine lv_iconst (v := 0) hx hb dX6_place_15 (by decide) ?_
  refine lv_iconst (v := 3) hx hb dX6_place_16 (by decide) ?_
  refine cx_callS (As := [.int c0, .int 0, .int 3]) (rest := []) ⟨hx, hb, hml, hown, hg⟩ (m_ReplenishRules_checkRange l hl9 G cA ad σ hJ c0 0 3) (cwS 3 hg (gS qM_X6_61 qT_X6_checkRange qN_X6 kX6_checkRange) rfl rfl rfl (by decide +kernel) ⟨Nat.le_of_ble_eq_true rfl, Nat.le_of_ble_eq_true rfl⟩) hK hP hT (fun _ h => h) hS  rfl hl.1 rfl (lv_room (Nat.le_of_ble_eq_true rfl)) dX6_place_17 ⟨Nat.le_of_ble_eq_true rfl, Nat.le_of_ble_eq_true rfl⟩ hEx hlocks (Nat.le_of_ble_eq_true rfl) (Nat.le_of_ble_eq_true rfl) (fun hk_17 => by simp only [c_placeK, hk_2, c_then_z, hk_11, c_then_z, c_then_n hk_17]) (fun hk_17 v9 τ9 H hR hP hS _ => ?_)
  obtain ⟨rfl, hτ9⟩ := hR
  rw [hτ9] at hP
  show W _ _ _ _ _ _ _ _ _ _ _ _ _ _ _ (F0 m 20 ls [])
  refine W.widen (k := 3) (n := 18) (Nat.le_of_ble_eq_true rfl) (Nat.le_of_ble_eq_true rfl) ?_
  refine lv_aload hx hb dX6_place_20 (lv_at hl 0 rfl) ?_
  refine va_get (D := G) (ci := 2) (v := .int (σ 2 (nx a0))) (C := RX2) (T := TX2) (N := 13) hx hb hg hinX2 hown hK hP (nx a0) (rl_Place (vp_lt (placeAt_in hk_2))) rfl 4 (by decide) (hg _ qF_X6_65) (fun _ h9 => h9) rfl dX6_place_22 ?_
  refine lv_iload_n hx hb dX6_place_25 rfl (lv_at hl 3 rfl) ?_
  refine lv_icmp_gt (tgt := 38) hx hb dX6_place_26 (by decide) (fun c_26 => ?_) (fun c_26 => ?_)
  · -- if_icmpgt taken
    have eK : c_placeK σ a0 b0 c0 = 2 := by simp only [c_placeK, hk_2, c_then_z, hk_11, c_then_z, hk_17, c_then_z, if_pos c_26]
    obtain ⟨sa, hstr⟩ := hT.2.2.2 ("ReplenishRules", 74, "the place has more, or its face\'s most is more") (by decide +kernel)
    exact cx_throw (own := RX6) (cls := "java/lang/IllegalStateException") (names := rr_nm) hx hb hl9 hown (by decide +kernel) rr_nm_fit (hg _ qK_X6_72) (hg _ qA_IllegalStateException) (hg _ qN_IllegalStateException) hstr (cx_words rr_at2 hg hT) hP0 hK hS (hl.1.trans hml.symm) dX6_place_38 dX6_place_41 dX6_place_42 dX6_place_44 dX6_place_47 hEx hlocks (Nat.le_of_ble_eq_true rfl) (Nat.le_of_ble_eq_true rfl) (Nat.le_of_ble_eq_true rfl) (Nat.le_of_ble_eq_true rfl) (by rw [eK]; decide) (by rw [eK]; rfl) (Nat.le_of_ble_eq_true rfl) (Nat.le_of_ble_eq_true rfl)
  · -- if_icmpgt not taken
    refine lv_aload hx hb dX6_place_29 (lv_at hl 0 rfl) ?_
    refine va_get (D := G) (ci := 2) (v := .int (σ 7 (nx a0))) (C := RX2) (T := TX2) (N := 13) hx hb hg hinX2 hown hK hP (nx a0) (rl_Place (vp_lt (placeAt_in hk_2))) rfl 9 (by decide) (hg _ qF_X6_69) (fun _ h9 => h9) rfl dX6_place_31 ?_
    refine lv_iload_n hx hb dX6_place_34 rfl (lv_at hl 3 rfl) ?_
    refine lv_icmp_le (tgt := 48) hx hb dX6_place_35 (by decide) (fun c_35 => ?_) (fun c_35 => ?_)
    · -- if_icmple taken
      refine lv_aload hx hb dX6_place_48 (lv_at hl 0 rfl) ?_
      refine lv_iload_n hx hb dX6_place_50 rfl (lv_at hl 3 rfl) ?_
      refine pp_put (D := G) (ci := 2) (v := .int b0) (ty := .int) (C := RX2) (T := TX2) (N := 13) hx hb hg hinX2 tyX2 tyX2_ok nmX2 hown hK hP (rr_D hJ) hS (nx a0) (rl_Place (vp_lt (placeAt_in hk_2))) rfl 2 (by decide) (hg _ qF_X6_79) (fun _ h9 => h9) rfl (by decide +kernel) rfl rfl (Nat.le_of_ble_eq_true rfl) (rs_Place_room (vp_lt (placeAt_in hk_2))) dX6_place_51 (fun H locs hP hS => ?_)
      obtain ⟨σ1, eσ1⟩ : ∃ z, z = up σ 0 (nx a0) b0 := ⟨_, rfl⟩
      rw [← eσ1] at hP
      refine lv_aload hx hb dX6_place_54 (lv_at hl 0 rfl) ?_
      refine lv_iload_n hx hb dX6_place_56 rfl (lv_at hl 4 rfl) ?_
      refine pp_put (D := G) (ci := 2) (v := .int c0) (ty := .int) (C := RX2) (T := TX2) (N := 13) hx hb hg hinX2 tyX2 tyX2_ok nmX2 hown hK hP (rr_D hJ) hS (nx a0) (rl_Place (vp_lt (placeAt_in hk_2))) rfl 3 (by decide) (hg _ qF_X6_82) (fun _ h9 => h9) rfl (by decide +kernel) rfl rfl (Nat.le_of_ble_eq_true rfl) (rs_Place_zone (vp_lt (placeAt_in hk_2))) dX6_place_57 (fun H locs hP hS => ?_)
      obtain ⟨σ2, eσ2⟩ : ∃ z, z = up σ1 1 (nx a0) c0 := ⟨_, rfl⟩
      rw [← eσ2] at hP
      refine W.widen (k := 4) (n := 24) (Nat.le_of_ble_eq_true rfl) (Nat.le_of_ble_eq_true rfl) ?_
      exact cx_ret (by simp only [c_placeK, hk_2, c_then_z, hk_11, c_then_z, hk_17, c_then_z, if_neg c_26, if_pos c_35]) (W.vret hx hb hr (fun t ht hW => ⟨⟨_, σ2, rfl, ⟨rfl, by subst eσ1 eσ2; rfl⟩, by rw [ht]; exact hP, va_K.moved hW.alike hK⟩, hS.F ht⟩) hS.2.2 dX6_place_60)
    · -- if_icmple not taken
      have eK : c_placeK σ a0 b0 c0 = 2 := by simp only [c_placeK, hk_2, c_then_z, hk_11, c_then_z, hk_17, c_then_z, if_neg c_26, if_neg c_35]
      obtain ⟨sa, hstr⟩ := hT.2.2.2 ("ReplenishRules", 74, "the place has more, or its face\'s most is more") (by decide +kernel)
      exact cx_throw (own := RX6) (cls := "java/lang/IllegalStateException") (names := rr_nm) hx hb hl9 hown (by decide +kernel) rr_nm_fit (hg _ qK_X6_72) (hg _ qA_IllegalStateException) (hg _ qN_IllegalStateException) hstr (cx_words rr_at2 hg hT) hP0 hK hS (hl.1.trans hml.symm) dX6_place_38 dX6_place_41 dX6_place_42 dX6_place_44 dX6_place_47 hEx hlocks (Nat.le_of_ble_eq_true rfl) (Nat.le_of_ble_eq_true rfl) (Nat.le_of_ble_eq_true rfl) (Nat.le_of_ble_eq_true rfl) (by rw [eK]; decide) (by rw [eK]; rfl) (Nat.le_of_ble_eq_true rfl) (Nat.le_of_ble_eq_true rfl)

set_option maxHeartbeats 600000 in
set_option maxRecDepth 100000 in
theorem m_ReplenishRules_face (l : Launch) (hl9 : l.stackTraces = false) (G : va_G) (cA : Nat → ClassId) (ad : Nat → Nat) (σ : St) (hJ : rr_inj ad) (a0 : Int32) (b0 : Int32) (c0 : Int32) (d0 : Int32) : cx_Met (rrA ad) l yX6_face wX6_face ({ frames := 8, cells := 5, slots := 30, locals := 134 }) [.ref (ad 66), .int a0, .int b0, .int c0, .int d0] G cA ad σ (c_faceK σ a0 b0 c0 d0) (fun v τ => v = none ∧ τ = c_faceS σ a0 b0 c0 d0) 5 30 := by
  refine cx_ofW (cc := cX6_face) (maxL := 6) (ret := none) (by decide) ?_
  intro p e s m args below meth c s₁ B hml hEx hv
  obtain ⟨rfl, hP, hK, hT⟩ := hv
  have hx := B.exec
  have hb := B.bytes
  have hr := B.returns
  have hts := atoms_spec (ws := wX6_face :: wG) B.pre
  have hg : ∀ w ∈ wG, w.before _ s = true := fun w h => hts w (List.mem_cons_of_mem _ h)
  have hown : s.vm.findClass RX6 = some m.cls := findClass_of_methodNamed B.named
  have hlocks := B.notSynchronized
  have hS : va_S (rrA ad) s.heap s.heap [] := va_S.rf
  have hP0 := hP
  have hl := lv_entry ([.ref (ad 66), .int a0, .int b0, .int c0, .int d0]) (n := 6) (Nat.le_of_ble_eq_true rfl)
  rw [lg_entry_eq]
  generalize (lg_sl ([.ref (ad 66), .int a0, .int b0, .int c0, .int d0]) ++ List.replicate (6 - (lg_sl ([.ref (ad 66), .int a0, .int b0, .int c0, .int d0])).length) Slot.unset).toArray = ls at hl ⊢
  have hl : lv_has ls 6 [(0, .ref (ad 66)), (1, .int a0), (2, .int b0), (3, .int c0), (4, .int d0)] := hl
  refine lv_aload_n hx hb dX6_face_0 rfl (lv_at hl 0 rfl) ?_
  refine lv_iload_n hx hb dX6_face_1 rfl (lv_at hl 1 rfl) ?_
  refine cx_callV (As := [.int a0]) (rest := []) ⟨hx, hb, hml, hown, hg⟩ (m_ReplenishRules_placeAt l hl9 G cA ad σ hJ a0) (cwV 1 hg (gV qM_X6_56 qI_X6_placeAt qS_X6_placeAt qN_X6 kX6_placeAt) rfl rfl rfl (by decide +kernel) ⟨Nat.le_of_ble_eq_true rfl, Nat.le_of_ble_eq_true rfl⟩) hK hP hT (fun _ h => h) hS (va_recv hK hP (ci := 6) (q0 := 66) rfl rl_main) rfl hl.1 rfl (lv_room (Nat.le_of_ble_eq_true rfl)) dX6_face_2 ⟨Nat.le_of_ble_eq_true rfl, Nat.le_of_ble_eq_true rfl⟩ hEx hlocks (Nat.le_of_ble_eq_true rfl) (Nat.le_of_ble_eq_true rfl) (fun hk_2 => by simp only [c_faceK, c_then_n hk_2]) (fun hk_2 v9 τ9 H hR hP hS _ => ?_)
  obtain ⟨rfl, hτ9⟩ := hR
  rw [hτ9] at hP
  show W _ _ _ _ _ _ _ _ _ _ _ _ _ _ _ (F0 m 5 ls [.ref (ad (nx a0))])
  refine W.widen (k := 1) (n := 6) (Nat.le_of_ble_eq_true rfl) (Nat.le_of_ble_eq_true rfl) ?_
  refine lv_astore (lv' := [(5, .ref (ad (nx a0))), (0, .ref (ad 66)), (1, .int a0), (2, .int b0), (3, .int c0), (4, .int d0)]) hx hb dX6_face_5 hl (by decide) rfl (fun ls hl => ?_)
  refine lv_iload_n hx hb dX6_face_7 rfl (lv_at hl 3 rfl) ?_
  refine lv_iconst (v := 0) hx hb dX6_face_8 (by decide) ?_
  refine lv_bipush (v := 7) hx hb dX6_face_9 (by decide) ?_
  refine cx_callS (As := [.int b0, .int 0, .int 7]) (rest := []) ⟨hx, hb, hml, hown, hg⟩ (m_ReplenishRules_checkRange l hl9 G cA ad σ hJ b0 0 7) (cwS 3 hg (gS qM_X6_61 qT_X6_checkRange qN_X6 kX6_checkRange) rfl rfl rfl (by decide +kernel) ⟨Nat.le_of_ble_eq_true rfl, Nat.le_of_ble_eq_true rfl⟩) hK hP hT (fun _ h => h) hS  rfl hl.1 rfl (lv_room (Nat.le_of_ble_eq_true rfl)) dX6_face_11 ⟨Nat.le_of_ble_eq_true rfl, Nat.le_of_ble_eq_true rfl⟩ hEx hlocks (Nat.le_of_ble_eq_true rfl) (Nat.le_of_ble_eq_true rfl) (fun hk_11 => by simp only [c_faceK, hk_2, c_then_z, c_then_n hk_11]) (fun hk_11 v9 τ9 H hR hP hS _ => ?_)
  obtain ⟨rfl, hτ9⟩ := hR
  rw [hτ9] at hP
  show W _ _ _ _ _ _ _ _ _ _ _ _ _ _ _ (F0 m 14 ls [])
  refine W.widen (k := 2) (n := 12) (Nat.le_of_ble_eq_true rfl) (Nat.le_of_ble_eq_true rfl) ?_
  refine lv_iload hx hb dX6_face_14 (lv_at hl 5 rfl) ?_
  refine lv_iconst (v := 0) hx hb dX6_face_16 (by decide) ?_
  refine lv_aload hx hb dX6_face_17 (lv_at hl 0 rfl) ?_
  refine va_get (D := G) (ci := 2) (v := .int (σ 0 (nx a0))) (C := RX2) (T := TX2) (N := 13) hx hb hg hinX2 hown hK hP (nx a0) (rl_Place (vp_lt (placeAt_in hk_2))) rfl 2 (by decide) (hg _ qF_X6_79) (fun _ h9 => h9) rfl dX6_face_19 ?_
  refine cx_callS (As := [.int d0, .int 0, .int (σ 0 (nx a0))]) (rest := []) ⟨hx, hb, hml, hown, hg⟩ (m_ReplenishRules_checkRange l hl9 G cA ad σ hJ d0 0 (σ 0 (nx a0))) (cwS 3 hg (gS qM_X6_61 qT_X6_checkRange qN_X6 kX6_checkRange) rfl rfl rfl (by decide +kernel) ⟨Nat.le_of_ble_eq_true rfl, Nat.le_of_ble_eq_true rfl⟩) hK hP hT (fun _ h => h) hS  rfl hl.1 rfl (lv_room (Nat.le_of_ble_eq_true rfl)) dX6_face_22 ⟨Nat.le_of_ble_eq_true rfl, Nat.le_of_ble_eq_true rfl⟩ hEx hlocks (Nat.le_of_ble_eq_true rfl) (Nat.le_of_ble_eq_true rfl) (fun hk_22 => by simp only [c_faceK, hk_2, c_then_z, hk_11, c_then_z, c_then_n hk_22]) (fun hk_22 v9 τ9 H hR hP hS _ => ?_)
  obtain ⟨rfl, hτ9⟩ := hR
  rw [hτ9] at hP
  show W _ _ _ _ _ _ _ _ _ _ _ _ _ _ _ (F0 m 25 ls [])
  refine W.widen (k := 3) (n := 18) (Nat.le_of_ble_eq_true rfl) (Nat.le_of_ble_eq_true rfl) ?_
  refine lv_iload_n hx hb dX6_face_25 rfl (lv_at hl 4 rfl) ?_
  refine lv_iconst (v := 0) hx hb dX6_face_26 (by decide) ?_
  refine lv_iload hx hb dX6_face_27 (lv_at hl 5 rfl) ?_
  refine cx_callS (As := [.int c0, .int 0, .int d0]) (rest := []) ⟨hx, hb, hml, hown, hg⟩ (m_ReplenishRules_checkRange l hl9 G cA ad σ hJ c0 0 d0) (cwS 3 hg (gS qM_X6_61 qT_X6_checkRange qN_X6 kX6_checkRange) rfl rfl rfl (by decide +kernel) ⟨Nat.le_of_ble_eq_true rfl, Nat.le_of_ble_eq_true rfl⟩) hK hP hT (fun _ h => h) hS  rfl hl.1 rfl (lv_room (Nat.le_of_ble_eq_true rfl)) dX6_face_29 ⟨Nat.le_of_ble_eq_true rfl, Nat.le_of_ble_eq_true rfl⟩ hEx hlocks (Nat.le_of_ble_eq_true rfl) (Nat.le_of_ble_eq_true rfl) (fun hk_29 => by simp only [c_faceK, hk_2, c_then_z, hk_11, c_then_z, hk_22, c_then_z, c_then_n hk_29]) (fun hk_29 v9 τ9 H hR hP hS _ => ?_)
  obtain ⟨rfl, hτ9⟩ := hR
  rw [hτ9] at hP
  show W _ _ _ _ _ _ _ _ _ _ _ _ _ _ _ (F0 m 32 ls [])
  refine W.widen (k := 4) (n := 24) (Nat.le_of_ble_eq_true rfl) (Nat.le_of_ble_eq_true rfl) ?_
  refine lv_aload hx hb dX6_face_32 (lv_at hl 0 rfl) ?_
  refine lv_iload_n hx hb dX6_face_34 rfl (lv_at hl 3 rfl) ?_
  refine vp_callSi (W.runV (As := [.int b0]) (rest := []) ⟨hx, hb, hml, hown, hg⟩ (m_Place_holdsAnother l G cA ad σ (nx a0) (vp_lt (placeAt_in hk_2)) b0) (cwV 1 hg (gV qM_X6_85 qI_X2_holdsAnother qS_X2_holdsAnother qN_X2 kX2_holdsAnother) rfl rfl rfl (by decide +kernel) ⟨Nat.le_of_ble_eq_true rfl, Nat.le_of_ble_eq_true rfl⟩) (rr_pv hK hP (va_recv hK hP (ci := 2) (q0 := (nx a0)) rfl (rl_Place (vp_lt (placeAt_in hk_2))))) rfl rfl hl.1 rfl (lv_room (Nat.le_of_ble_eq_true rfl)) dX6_face_35 ⟨Nat.le_of_ble_eq_true rfl, Nat.le_of_ble_eq_true rfl⟩) (nm_e ?_)
  refine lv_if_eq (tgt := 51) hx hb dX6_face_38 (by decide) (fun c_38 => ?_) (fun c_38 => ?_)
  · -- ifeq taken
    refine lv_aload hx hb dX6_face_51 (lv_at hl 0 rfl) ?_
    refine lv_iload_n hx hb dX6_face_53 rfl (lv_at hl 3 rfl) ?_
    refine pp_put (D := G) (ci := 2) (v := .int b0) (ty := .int) (C := RX2) (T := TX2) (N := 13) hx hb hg hinX2 tyX2 tyX2_ok nmX2 hown hK hP (rr_D hJ) hS (nx a0) (rl_Place (vp_lt (placeAt_in hk_2))) rfl 7 (by decide) (hg _ qF_X6_91) (fun _ h9 => h9) rfl (by decide +kernel) rfl rfl (Nat.le_of_ble_eq_true rfl) (rs_Place_faceGood (vp_lt (placeAt_in hk_2))) dX6_face_54 (fun H locs hP hS => ?_)
    obtain ⟨σ1, eσ1⟩ : ∃ z, z = up σ 5 (nx a0) b0 := ⟨_, rfl⟩
    rw [← eσ1] at hP
    refine lv_aload hx hb dX6_face_57 (lv_at hl 0 rfl) ?_
    refine lv_iload_n hx hb dX6_face_59 rfl (lv_at hl 4 rfl) ?_
    refine pp_put (D := G) (ci := 2) (v := .int c0) (ty := .int) (C := RX2) (T := TX2) (N := 13) hx hb hg hinX2 tyX2 tyX2_ok nmX2 hown hK hP (rr_D hJ) hS (nx a0) (rl_Place (vp_lt (placeAt_in hk_2))) rfl 8 (by decide) (hg _ qF_X6_94) (fun _ h9 => h9) rfl (by decide +kernel) rfl rfl (Nat.le_of_ble_eq_true rfl) (rs_Place_least (vp_lt (placeAt_in hk_2))) dX6_face_60 (fun H locs hP hS => ?_)
    obtain ⟨σ2, eσ2⟩ : ∃ z, z = up σ1 6 (nx a0) c0 := ⟨_, rfl⟩
    rw [← eσ2] at hP
    refine lv_aload hx hb dX6_face_63 (lv_at hl 0 rfl) ?_
    refine lv_iload hx hb dX6_face_65 (lv_at hl 5 rfl) ?_
    refine pp_put (D := G) (ci := 2) (v := .int d0) (ty := .int) (C := RX2) (T := TX2) (N := 13) hx hb hg hinX2 tyX2 tyX2_ok nmX2 hown hK hP (rr_D hJ) hS (nx a0) (rl_Place (vp_lt (placeAt_in hk_2))) rfl 9 (by decide) (hg _ qF_X6_69) (fun _ h9 => h9) rfl (by decide +kernel) rfl rfl (Nat.le_of_ble_eq_true rfl) (rs_Place_most (vp_lt (placeAt_in hk_2))) dX6_face_67 (fun H locs hP hS => ?_)
    obtain ⟨σ3, eσ3⟩ : ∃ z, z = up σ2 7 (nx a0) d0 := ⟨_, rfl⟩
    rw [← eσ3] at hP
    refine W.widen (k := 5) (n := 30) (Nat.le_of_ble_eq_true rfl) (Nat.le_of_ble_eq_true rfl) ?_
    exact cx_ret (by simp only [c_faceK, hk_2, c_then_z, hk_11, c_then_z, hk_22, c_then_z, hk_29, c_then_z, if_pos c_38]) (W.vret hx hb hr (fun t ht hW => ⟨⟨_, σ3, rfl, ⟨rfl, by subst eσ1 eσ2 eσ3; rfl⟩, by rw [ht]; exact hP, va_K.moved hW.alike hK⟩, hS.F ht⟩) hS.2.2 dX6_face_70)
  · -- ifeq not taken
    have eK : c_faceK σ a0 b0 c0 d0 = 2 := by simp only [c_faceK, hk_2, c_then_z, hk_11, c_then_z, hk_22, c_then_z, hk_29, c_then_z, if_neg c_38]
    obtain ⟨sa, hstr⟩ := hT.2.2.2 ("ReplenishRules", 89, "the place holds another good") (by decide +kernel)
    exact cx_throw (own := RX6) (cls := "java/lang/IllegalStateException") (names := rr_nm) hx hb hl9 hown (by decide +kernel) rr_nm_fit (hg _ qK_X6_72) (hg _ qA_IllegalStateException) (hg _ qN_IllegalStateException) hstr (cx_words rr_at2 hg hT) hP0 hK hS (hl.1.trans hml.symm) dX6_face_41 dX6_face_44 dX6_face_45 dX6_face_47 dX6_face_50 hEx hlocks (Nat.le_of_ble_eq_true rfl) (Nat.le_of_ble_eq_true rfl) (Nat.le_of_ble_eq_true rfl) (Nat.le_of_ble_eq_true rfl) (by rw [eK]; decide) (by rw [eK]; rfl) (Nat.le_of_ble_eq_true rfl) (Nat.le_of_ble_eq_true rfl)

set_option maxHeartbeats 600000 in
set_option maxRecDepth 100000 in
theorem m_ReplenishRules_put (l : Launch) (hl9 : l.stackTraces = false) (G : va_G) (cA : Nat → ClassId) (ad : Nat → Nat) (σ : St) (hJ : rr_inj ad) (a0 : Int32) (b0 : Int32) (c0 : Int32) : cx_Met (rrA ad) l yX6_put wX6_put ({ frames := 8, cells := 5, slots := 30, locals := 134 }) [.ref (ad 66), .int a0, .int b0, .int c0] G cA ad σ (c_putK σ a0 b0 c0) (fun v τ => v = none ∧ τ = c_putS σ a0 b0 c0) 5 30 := by
  refine cx_ofW (cc := cX6_put) (maxL := 5) (ret := none) (by decide) ?_
  intro p e s m args below meth c s₁ B hml hEx hv
  obtain ⟨rfl, hP, hK, hT⟩ := hv
  have hx := B.exec
  have hb := B.bytes
  have hr := B.returns
  have hts := atoms_spec (ws := wX6_put :: wG) B.pre
  have hg : ∀ w ∈ wG, w.before _ s = true := fun w h => hts w (List.mem_cons_of_mem _ h)
  have hown : s.vm.findClass RX6 = some m.cls := findClass_of_methodNamed B.named
  have hlocks := B.notSynchronized
  have hS : va_S (rrA ad) s.heap s.heap [] := va_S.rf
  have hP0 := hP
  have hl := lv_entry ([.ref (ad 66), .int a0, .int b0, .int c0]) (n := 5) (Nat.le_of_ble_eq_true rfl)
  rw [lg_entry_eq]
  generalize (lg_sl ([.ref (ad 66), .int a0, .int b0, .int c0]) ++ List.replicate (5 - (lg_sl ([.ref (ad 66), .int a0, .int b0, .int c0])).length) Slot.unset).toArray = ls at hl ⊢
  have hl : lv_has ls 5 [(0, .ref (ad 66)), (1, .int a0), (2, .int b0), (3, .int c0)] := hl
  refine lv_aload_n hx hb dX6_put_0 rfl (lv_at hl 0 rfl) ?_
  refine lv_iload_n hx hb dX6_put_1 rfl (lv_at hl 1 rfl) ?_
  refine cx_callV (As := [.int a0]) (rest := []) ⟨hx, hb, hml, hown, hg⟩ (m_ReplenishRules_placeAt l hl9 G cA ad σ hJ a0) (cwV 1 hg (gV qM_X6_56 qI_X6_placeAt qS_X6_placeAt qN_X6 kX6_placeAt) rfl rfl rfl (by decide +kernel) ⟨Nat.le_of_ble_eq_true rfl, Nat.le_of_ble_eq_true rfl⟩) hK hP hT (fun _ h => h) hS (va_recv hK hP (ci := 6) (q0 := 66) rfl rl_main) rfl hl.1 rfl (lv_room (Nat.le_of_ble_eq_true rfl)) dX6_put_2 ⟨Nat.le_of_ble_eq_true rfl, Nat.le_of_ble_eq_true rfl⟩ hEx hlocks (Nat.le_of_ble_eq_true rfl) (Nat.le_of_ble_eq_true rfl) (fun hk_2 => by simp only [c_putK, c_then_n hk_2]) (fun hk_2 v9 τ9 H hR hP hS _ => ?_)
  obtain ⟨rfl, hτ9⟩ := hR
  rw [hτ9] at hP
  show W _ _ _ _ _ _ _ _ _ _ _ _ _ _ _ (F0 m 5 ls [.ref (ad (nx a0))])
  refine W.widen (k := 1) (n := 6) (Nat.le_of_ble_eq_true rfl) (Nat.le_of_ble_eq_true rfl) ?_
  refine lv_astore (lv' := [(4, .ref (ad (nx a0))), (0, .ref (ad 66)), (1, .int a0), (2, .int b0), (3, .int c0)]) hx hb dX6_put_5 hl (by decide) rfl (fun ls hl => ?_)
  refine lv_iload_n hx hb dX6_put_7 rfl (lv_at hl 3 rfl) ?_
  refine lv_iconst (v := 0) hx hb dX6_put_8 (by decide) ?_
  refine lv_bipush (v := 7) hx hb dX6_put_9 (by decide) ?_
  refine cx_callS (As := [.int b0, .int 0, .int 7]) (rest := []) ⟨hx, hb, hml, hown, hg⟩ (m_ReplenishRules_checkRange l hl9 G cA ad σ hJ b0 0 7) (cwS 3 hg (gS qM_X6_61 qT_X6_checkRange qN_X6 kX6_checkRange) rfl rfl rfl (by decide +kernel) ⟨Nat.le_of_ble_eq_true rfl, Nat.le_of_ble_eq_true rfl⟩) hK hP hT (fun _ h => h) hS  rfl hl.1 rfl (lv_room (Nat.le_of_ble_eq_true rfl)) dX6_put_11 ⟨Nat.le_of_ble_eq_true rfl, Nat.le_of_ble_eq_true rfl⟩ hEx hlocks (Nat.le_of_ble_eq_true rfl) (Nat.le_of_ble_eq_true rfl) (fun hk_11 => by simp only [c_putK, hk_2, c_then_z, c_then_n hk_11]) (fun hk_11 v9 τ9 H hR hP hS _ => ?_)
  obtain ⟨rfl, hτ9⟩ := hR
  rw [hτ9] at hP
  show W _ _ _ _ _ _ _ _ _ _ _ _ _ _ _ (F0 m 14 ls [])
  refine W.widen (k := 2) (n := 12) (Nat.le_of_ble_eq_true rfl) (Nat.le_of_ble_eq_true rfl) ?_
  refine lv_iload_n hx hb dX6_put_14 rfl (lv_at hl 4 rfl) ?_
  refine lv_iconst (v := 1) hx hb dX6_put_15 (by decide) ?_
  refine lv_ldc (v := 100000) hx hb hown (hg _ qC_X6_60) dX6_put_16 ?_
  refine cx_callS (As := [.int c0, .int 1, .int 100000]) (rest := []) ⟨hx, hb, hml, hown, hg⟩ (m_ReplenishRules_checkRange l hl9 G cA ad σ hJ c0 1 100000) (cwS 3 hg (gS qM_X6_61 qT_X6_checkRange qN_X6 kX6_checkRange) rfl rfl rfl (by decide +kernel) ⟨Nat.le_of_ble_eq_true rfl, Nat.le_of_ble_eq_true rfl⟩) hK hP hT (fun _ h => h) hS  rfl hl.1 rfl (lv_room (Nat.le_of_ble_eq_true rfl)) dX6_put_18 ⟨Nat.le_of_ble_eq_true rfl, Nat.le_of_ble_eq_true rfl⟩ hEx hlocks (Nat.le_of_ble_eq_true rfl) (Nat.le_of_ble_eq_true rfl) (fun hk_18 => by simp only [c_putK, hk_2, c_then_z, hk_11, c_then_z, c_then_n hk_18]) (fun hk_18 v9 τ9 H hR hP hS _ => ?_)
  obtain ⟨rfl, hτ9⟩ := hR
  rw [hτ9] at hP
  show W _ _ _ _ _ _ _ _ _ _ _ _ _ _ _ (F0 m 21 ls [])
  refine W.widen (k := 3) (n := 18) (Nat.le_of_ble_eq_true rfl) (Nat.le_of_ble_eq_true rfl) ?_
  refine lv_aload hx hb dX6_put_21 (lv_at hl 0 rfl) ?_
  refine lv_iload_n hx hb dX6_put_23 rfl (lv_at hl 3 rfl) ?_
  refine vp_callSi (W.runV (As := [.int b0]) (rest := []) ⟨hx, hb, hml, hown, hg⟩ (m_Place_holdsAnother l G cA ad σ (nx a0) (vp_lt (placeAt_in hk_2)) b0) (cwV 1 hg (gV qM_X6_85 qI_X2_holdsAnother qS_X2_holdsAnother qN_X2 kX2_holdsAnother) rfl rfl rfl (by decide +kernel) ⟨Nat.le_of_ble_eq_true rfl, Nat.le_of_ble_eq_true rfl⟩) (rr_pv hK hP (va_recv hK hP (ci := 2) (q0 := (nx a0)) rfl (rl_Place (vp_lt (placeAt_in hk_2))))) rfl rfl hl.1 rfl (lv_room (Nat.le_of_ble_eq_true rfl)) dX6_put_24 ⟨Nat.le_of_ble_eq_true rfl, Nat.le_of_ble_eq_true rfl⟩) (nm_e ?_)
  refine lv_if_ne (tgt := 39) hx hb dX6_put_27 (by decide) (fun c_27 => ?_) (fun c_27 => ?_)
  · -- ifne taken
    have eK : c_putK σ a0 b0 c0 = 2 := by simp only [c_putK, hk_2, c_then_z, hk_11, c_then_z, hk_18, c_then_z, if_neg c_27]
    obtain ⟨sa, hstr⟩ := hT.2.2.2 ("ReplenishRules", 100, "the place is for another good") (by decide +kernel)
    exact cx_throw (own := RX6) (cls := "java/lang/IllegalStateException") (names := rr_nm) hx hb hl9 hown (by decide +kernel) rr_nm_fit (hg _ qK_X6_72) (hg _ qA_IllegalStateException) (hg _ qN_IllegalStateException) hstr (cx_words rr_at2 hg hT) hP0 hK hS (hl.1.trans hml.symm) dX6_put_39 dX6_put_42 dX6_put_43 dX6_put_45 dX6_put_48 hEx hlocks (Nat.le_of_ble_eq_true rfl) (Nat.le_of_ble_eq_true rfl) (Nat.le_of_ble_eq_true rfl) (Nat.le_of_ble_eq_true rfl) (by rw [eK]; decide) (by rw [eK]; rfl) (Nat.le_of_ble_eq_true rfl) (Nat.le_of_ble_eq_true rfl)
  · -- ifne not taken
    refine lv_aload hx hb dX6_put_30 (lv_at hl 0 rfl) ?_
    refine lv_iload_n hx hb dX6_put_32 rfl (lv_at hl 3 rfl) ?_
    refine vp_callSi (W.runV (As := [.int b0]) (rest := []) ⟨hx, hb, hml, hown, hg⟩ (m_Place_isFaceOfAnother l G cA ad σ (nx a0) (vp_lt (placeAt_in hk_2)) b0) (cwV 1 hg (gV qM_X6_97 qI_X2_isFaceOfAnother qS_X2_isFaceOfAnother qN_X2 kX2_isFaceOfAnother) rfl rfl rfl (by decide +kernel) ⟨Nat.le_of_ble_eq_true rfl, Nat.le_of_ble_eq_true rfl⟩) (rr_pv hK hP (va_recv hK hP (ci := 2) (q0 := (nx a0)) rfl (rl_Place (vp_lt (placeAt_in hk_2))))) rfl rfl hl.1 rfl (lv_room (Nat.le_of_ble_eq_true rfl)) dX6_put_33 ⟨Nat.le_of_ble_eq_true rfl, Nat.le_of_ble_eq_true rfl⟩) (nm_e ?_)
    refine lv_if_eq (tgt := 49) hx hb dX6_put_36 (by decide) (fun c_36 => ?_) (fun c_36 => ?_)
    · -- ifeq taken
      refine lv_aload hx hb dX6_put_49 (lv_at hl 0 rfl) ?_
      refine lv_iload_n hx hb dX6_put_51 rfl (lv_at hl 4 rfl) ?_
      refine cx_callS (As := [.ref (ad (nx a0)), .int c0]) (rest := []) ⟨hx, hb, hml, hown, hg⟩ (m_ReplenishRules_checkSpace l hl9 G cA ad σ hJ (nx a0) (vp_lt (placeAt_in hk_2)) c0) (cwS 2 hg (gS qM_X6_102 qT_X6_checkSpace qN_X6 kX6_checkSpace) rfl rfl rfl (by decide +kernel) ⟨Nat.le_of_ble_eq_true rfl, Nat.le_of_ble_eq_true rfl⟩) hK hP hT (fun _ h => h) hS  rfl hl.1 rfl (lv_room (Nat.le_of_ble_eq_true rfl)) dX6_put_52 ⟨Nat.le_of_ble_eq_true rfl, Nat.le_of_ble_eq_true rfl⟩ hEx hlocks (Nat.le_of_ble_eq_true rfl) (Nat.le_of_ble_eq_true rfl) (fun hk_52 => by simp only [c_putK, hk_2, c_then_z, hk_11, c_then_z, hk_18, c_then_z, if_pos c_27, if_pos c_36, c_then_n hk_52]) (fun hk_52 v9 τ9 H hR hP hS _ => ?_)
      obtain ⟨rfl, hτ9⟩ := hR
      rw [hτ9] at hP
      show W _ _ _ _ _ _ _ _ _ _ _ _ _ _ _ (F0 m 55 ls [])
      refine W.widen (k := 4) (n := 24) (Nat.le_of_ble_eq_true rfl) (Nat.le_of_ble_eq_true rfl) ?_
      refine lv_aload hx hb dX6_put_55 (lv_at hl 0 rfl) ?_
      refine lv_iload_n hx hb dX6_put_57 rfl (lv_at hl 3 rfl) ?_
      refine lv_iload_n hx hb dX6_put_58 rfl (lv_at hl 4 rfl) ?_
      refine va_callv (va_runV (As := [.int b0, .int c0]) (rest := []) ⟨hx, hb, hml, hown, hg⟩ (m_Place_bring l G cA ad σ hJ (nx a0) (vp_lt (placeAt_in hk_2)) b0 c0) (cwV 2 hg (gV qM_X6_106 qI_X2_bring qS_X2_bring qN_X2 kX2_bring) rfl rfl rfl (by decide +kernel) ⟨Nat.le_of_ble_eq_true rfl, Nat.le_of_ble_eq_true rfl⟩) (rr_pv hK hP (va_recv hK hP (ci := 2) (q0 := (nx a0)) rfl (rl_Place (vp_lt (placeAt_in hk_2))))) rfl rfl hl.1 rfl (lv_room (Nat.le_of_ble_eq_true rfl)) dX6_put_59 ⟨Nat.le_of_ble_eq_true rfl, Nat.le_of_ble_eq_true rfl⟩) hS (fun q _ h => h) (fun q h => h) (fun σ1 t H locs ht hvm eσ1 hB hz9 hk9 hS => ?_)
      have hP := hB.1
      rw [ht] at hP
      refine W.widen (k := 5) (n := 30) (Nat.le_of_ble_eq_true rfl) (Nat.le_of_ble_eq_true rfl) ?_
      exact cx_ret (by simp only [c_putK, hk_2, c_then_z, hk_11, c_then_z, hk_18, c_then_z, if_pos c_27, if_pos c_36, hk_52, c_then_z]) (W.vret hx hb hr (fun t ht hW => ⟨⟨_, σ1, rfl, ⟨rfl, by subst eσ1; rfl⟩, by rw [ht]; exact hP, va_K.moved hW.alike hK⟩, hS.F ht⟩) hS.2.2 dX6_put_62)
    · -- ifeq not taken
      have eK : c_putK σ a0 b0 c0 = 2 := by simp only [c_putK, hk_2, c_then_z, hk_11, c_then_z, hk_18, c_then_z, if_pos c_27, if_neg c_36]
      obtain ⟨sa, hstr⟩ := hT.2.2.2 ("ReplenishRules", 100, "the place is for another good") (by decide +kernel)
      exact cx_throw (own := RX6) (cls := "java/lang/IllegalStateException") (names := rr_nm) hx hb hl9 hown (by decide +kernel) rr_nm_fit (hg _ qK_X6_72) (hg _ qA_IllegalStateException) (hg _ qN_IllegalStateException) hstr (cx_words rr_at2 hg hT) hP0 hK hS (hl.1.trans hml.symm) dX6_put_39 dX6_put_42 dX6_put_43 dX6_put_45 dX6_put_48 hEx hlocks (Nat.le_of_ble_eq_true rfl) (Nat.le_of_ble_eq_true rfl) (Nat.le_of_ble_eq_true rfl) (Nat.le_of_ble_eq_true rfl) (by rw [eK]; decide) (by rw [eK]; rfl) (Nat.le_of_ble_eq_true rfl) (Nat.le_of_ble_eq_true rfl)

set_option maxHeartbeats 600000 in
set_option maxRecDepth 100000 in
theorem m_ReplenishRules_use (l : Launch) (hl9 : l.stackTraces = false) (G : va_G) (cA : Nat → ClassId) (ad : Nat → Nat) (σ : St) (hJ : rr_inj ad) (hI : Inv σ) (a0 : Int32) (b0 : Int32) : cx_Met (rrA ad) l yX6_use wX6_use ({ frames := 9, cells := 4, slots := 24, locals := 156 }) [.ref (ad 66), .int a0, .int b0] G cA ad σ (c_useK σ a0 b0) (fun v τ => v = none ∧ τ = c_useS σ a0 b0) 4 24 := by
  refine cx_ofW (cc := cX6_use) (maxL := 4) (ret := none) (by decide) ?_
  intro p e s m args below meth c s₁ B hml hEx hv
  obtain ⟨rfl, hP, hK, hT⟩ := hv
  have hx := B.exec
  have hb := B.bytes
  have hr := B.returns
  have hts := atoms_spec (ws := wX6_use :: wG) B.pre
  have hg : ∀ w ∈ wG, w.before _ s = true := fun w h => hts w (List.mem_cons_of_mem _ h)
  have hown : s.vm.findClass RX6 = some m.cls := findClass_of_methodNamed B.named
  have hlocks := B.notSynchronized
  have hS : va_S (rrA ad) s.heap s.heap [] := va_S.rf
  have hP0 := hP
  have hl := lv_entry ([.ref (ad 66), .int a0, .int b0]) (n := 4) (Nat.le_of_ble_eq_true rfl)
  rw [lg_entry_eq]
  generalize (lg_sl ([.ref (ad 66), .int a0, .int b0]) ++ List.replicate (4 - (lg_sl ([.ref (ad 66), .int a0, .int b0])).length) Slot.unset).toArray = ls at hl ⊢
  have hl : lv_has ls 4 [(0, .ref (ad 66)), (1, .int a0), (2, .int b0)] := hl
  refine lv_iload_n hx hb dX6_use_0 rfl (lv_at hl 2 rfl) ?_
  refine lv_iconst (v := 1) hx hb dX6_use_1 (by decide) ?_
  refine lv_ldc (v := 100000) hx hb hown (hg _ qC_X6_60) dX6_use_2 ?_
  refine cx_callS (As := [.int b0, .int 1, .int 100000]) (rest := []) ⟨hx, hb, hml, hown, hg⟩ (m_ReplenishRules_checkRange l hl9 G cA ad σ hJ b0 1 100000) (cwS 3 hg (gS qM_X6_61 qT_X6_checkRange qN_X6 kX6_checkRange) rfl rfl rfl (by decide +kernel) ⟨Nat.le_of_ble_eq_true rfl, Nat.le_of_ble_eq_true rfl⟩) hK hP hT (fun _ h => h) hS  rfl hl.1 rfl (lv_room (Nat.le_of_ble_eq_true rfl)) dX6_use_4 ⟨Nat.le_of_ble_eq_true rfl, Nat.le_of_ble_eq_true rfl⟩ hEx hlocks (Nat.le_of_ble_eq_true rfl) (Nat.le_of_ble_eq_true rfl) (fun hk_4 => by simp only [c_useK, c_then_n hk_4]) (fun hk_4 v9 τ9 H hR hP hS _ => ?_)
  obtain ⟨rfl, hτ9⟩ := hR
  rw [hτ9] at hP
  show W _ _ _ _ _ _ _ _ _ _ _ _ _ _ _ (F0 m 7 ls [])
  refine W.widen (k := 1) (n := 6) (Nat.le_of_ble_eq_true rfl) (Nat.le_of_ble_eq_true rfl) ?_
  refine lv_aload_n hx hb dX6_use_7 rfl (lv_at hl 0 rfl) ?_
  refine lv_iload_n hx hb dX6_use_8 rfl (lv_at hl 1 rfl) ?_
  refine cx_callV (As := [.int a0]) (rest := []) ⟨hx, hb, hml, hown, hg⟩ (m_ReplenishRules_faceAt l hl9 G cA ad σ hJ a0) (cwV 1 hg (gV qM_X6_110 qI_X6_faceAt qS_X6_faceAt qN_X6 kX6_faceAt) rfl rfl rfl (by decide +kernel) ⟨Nat.le_of_ble_eq_true rfl, Nat.le_of_ble_eq_true rfl⟩) hK hP hT (fun _ h => h) hS (va_recv hK hP (ci := 6) (q0 := 66) rfl rl_main) rfl hl.1 rfl (lv_room (Nat.le_of_ble_eq_true rfl)) dX6_use_9 ⟨Nat.le_of_ble_eq_true rfl, Nat.le_of_ble_eq_true rfl⟩ hEx hlocks (Nat.le_of_ble_eq_true rfl) (Nat.le_of_ble_eq_true rfl) (fun hk_9 => by simp only [c_useK, hk_4, c_then_z, c_then_n hk_9]) (fun hk_9 v9 τ9 H hR hP hS _ => ?_)
  obtain ⟨rfl, hτ9⟩ := hR
  rw [hτ9] at hP
  show W _ _ _ _ _ _ _ _ _ _ _ _ _ _ _ (F0 m 12 ls [.ref (ad (nx a0))])
  refine W.widen (k := 3) (n := 18) (Nat.le_of_ble_eq_true rfl) (Nat.le_of_ble_eq_true rfl) ?_
  refine lv_astore_n (lv' := [(3, .ref (ad (nx a0))), (0, .ref (ad 66)), (1, .int a0), (2, .int b0)]) hx hb dX6_use_12 rfl hl (by decide) rfl (fun ls hl => ?_)
  refine lv_aload_n hx hb dX6_use_13 rfl (lv_at hl 0 rfl) ?_
  refine vp_callSi (W.runV (As := []) (rest := []) ⟨hx, hb, hml, hown, hg⟩ (m_Place_notHeld l G cA ad σ (nx a0) (vp_lt (placeAt_in (faceAt_place hk_9).1))) (cwV 0 hg (gV qM_X6_113 qI_X2_notHeld qS_X2_notHeld qN_X2 kX2_notHeld) rfl rfl rfl (by decide +kernel) ⟨Nat.le_of_ble_eq_true rfl, Nat.le_of_ble_eq_true rfl⟩) (rr_pv hK hP (va_recv hK hP (ci := 2) (q0 := (nx a0)) rfl (rl_Place (vp_lt (placeAt_in (faceAt_place hk_9).1))))) rfl rfl hl.1 rfl (lv_room (Nat.le_of_ble_eq_true rfl)) dX6_use_14 ⟨Nat.le_of_ble_eq_true rfl, Nat.le_of_ble_eq_true rfl⟩) (nm_e ?_)
  refine lv_iload_n hx hb dX6_use_17 rfl (lv_at hl 3 rfl) ?_
  refine lv_icmp_ge (tgt := 31) hx hb dX6_use_18 (by decide) (fun c_18 => ?_) (fun c_18 => ?_)
  · -- if_icmpge taken
    refine lv_aload_n hx hb dX6_use_31 rfl (lv_at hl 0 rfl) ?_
    refine lv_iload_n hx hb dX6_use_32 rfl (lv_at hl 3 rfl) ?_
    refine va_callv (va_runV (As := [.int b0]) (rest := []) ⟨hx, hb, hml, hown, hg⟩ (m_Place_takeAway l G cA ad σ hJ (nx a0) (vp_lt (placeAt_in (faceAt_place hk_9).1)) b0) (cwV 1 hg (gV qM_X6_119 qI_X2_takeAway qS_X2_takeAway qN_X2 kX2_takeAway) rfl rfl rfl (by decide +kernel) ⟨Nat.le_of_ble_eq_true rfl, Nat.le_of_ble_eq_true rfl⟩) (rr_pv hK hP (va_recv hK hP (ci := 2) (q0 := (nx a0)) rfl (rl_Place (vp_lt (placeAt_in (faceAt_place hk_9).1))))) rfl rfl hl.1 rfl (lv_room (Nat.le_of_ble_eq_true rfl)) dX6_use_33 ⟨Nat.le_of_ble_eq_true rfl, Nat.le_of_ble_eq_true rfl⟩) hS (fun q _ h => h) (fun q h => h) (fun σ1 t H locs ht hvm eσ1 hB hz9 hk9 hS => ?_)
    have hP := hB.1
    rw [ht] at hP
    refine lv_aload_n hx hb dX6_use_36 rfl (lv_at hl 0 rfl) ?_
    refine va_get (D := G) (ci := 2) (v := .ref (ad (16 + (nx a0)))) (C := RX2) (T := TX2) (N := 13) hx hb hg hinX2 hown hK hP (nx a0) (rl_Place (vp_lt (placeAt_in (faceAt_place hk_9).1))) rfl 1 (by decide) (hg _ qF_X6_122) (fun _ h9 => h9) rfl dX6_use_37 ?_
    refine lv_aload_n hx hb dX6_use_40 rfl (lv_at hl 1 rfl) ?_
    refine va_get (D := G) (ci := 6) (v := .ref (ad 72)) (C := RX6) (T := TX6) (N := 8) hx hb hg hinX6 hown hK hP 66 rl_main rfl 5 (by decide) (hg _ qF_X6_34) (fun _ h9 => h9) rfl dX6_use_41 ?_
    refine va_get (D := G) (ci := 0) (v := .int (σ1 40 0)) (C := RX0) (T := TX0) (N := 2) hx hb hg hinX0 hown hK hP 72 rl_Calendar rfl 1 (by decide) (hg _ qF_X6_125) (fun _ h9 => h9) rfl dX6_use_44 ?_
    refine lv_dup2_11 hx hb dX6_use_47 rfl rfl ?_
    refine va_iald hx hb hK hP (16 + (nx a0)) 0 (rl_Used (vp_lt (placeAt_in (faceAt_place hk_9).1))) rfl (by rw [eσ1, take_row (by decide)]; exact inv_today hI) dX6_use_48 ?_
    refine lv_iload_n hx hb dX6_use_49 rfl (lv_at hl 3 rfl) ?_
    refine lv_iadd hx hb dX6_use_50 ?_
    refine pp_iast (x := ((σ1 (100 + (nx a0)) (nx (σ1 40 0))) + b0)) hx hb hK hP (rr_D hJ) hS (16 + (nx a0)) 0 (rl_Used (vp_lt (placeAt_in (faceAt_place hk_9).1))) rfl (by rw [eσ1, take_row (by decide)]; exact inv_today hI) (rs_Used (vp_lt (placeAt_in (faceAt_place hk_9).1))) dX6_use_51 (fun H locs hP hS => ?_)
    obtain ⟨σ2, eσ2⟩ : ∃ z, z = up σ1 (100 + (nx a0)) (nx (σ1 40 0)) ((σ1 (100 + (nx a0)) (nx (σ1 40 0))) + b0) := ⟨_, rfl⟩
    rw [← eσ2] at hP
    refine W.widen (k := 4) (n := 24) (Nat.le_of_ble_eq_true rfl) (Nat.le_of_ble_eq_true rfl) ?_
    exact cx_ret (by simp only [c_useK, hk_4, c_then_z, hk_9, c_then_z, if_pos c_18]) (W.vret hx hb hr (fun t ht hW => ⟨⟨_, σ2, rfl, ⟨rfl, by subst eσ1 eσ2; rfl⟩, by rw [ht]; exact hP, va_K.moved hW.alike hK⟩, hS.F ht⟩) hS.2.2 dX6_use_52)
  · -- if_icmpge not taken
    have eK : c_useK σ a0 b0 = 2 := by simp only [c_useK, hk_4, c_then_z, hk_9, c_then_z, if_neg c_18]
    obtain ⟨sa, hstr⟩ := hT.2.2.2 ("ReplenishRules", 117, "the face has not so many that are not held") (by decide +kernel)
    exact cx_throw (own := RX6) (cls := "java/lang/IllegalStateException") (names := rr_nm) hx hb hl9 hown (by decide +kernel) rr_nm_fit (hg _ qK_X6_72) (hg _ qA_IllegalStateException) (hg _ qN_IllegalStateException) hstr (cx_words rr_at2 hg hT) hP0 hK hS (hl.1.trans hml.symm) dX6_use_21 dX6_use_24 dX6_use_25 dX6_use_27 dX6_use_30 hEx hlocks (Nat.le_of_ble_eq_true rfl) (Nat.le_of_ble_eq_true rfl) (Nat.le_of_ble_eq_true rfl) (Nat.le_of_ble_eq_true rfl) (by rw [eK]; decide) (by rw [eK]; rfl) (Nat.le_of_ble_eq_true rfl) (Nat.le_of_ble_eq_true rfl)

set_option maxHeartbeats 600000 in
set_option maxRecDepth 100000 in
theorem m_ReplenishRules_hold (l : Launch) (hl9 : l.stackTraces = false) (G : va_G) (cA : Nat → ClassId) (ad : Nat → Nat) (σ : St) (hJ : rr_inj ad) (a0 : Int32) (b0 : Int32) : cx_Met (rrA ad) l yX6_hold wX6_hold ({ frames := 8, cells := 2, slots := 12, locals := 134 }) [.ref (ad 66), .int a0, .int b0] G cA ad σ (c_holdK σ a0 b0) (fun v τ => v = none ∧ τ = c_holdS σ a0 b0) 2 12 := by
  refine cx_ofW (cc := cX6_hold) (maxL := 4) (ret := none) (by decide) ?_
  intro p e s m args below meth c s₁ B hml hEx hv
  obtain ⟨rfl, hP, hK, hT⟩ := hv
  have hx := B.exec
  have hb := B.bytes
  have hr := B.returns
  have hts := atoms_spec (ws := wX6_hold :: wG) B.pre
  have hg : ∀ w ∈ wG, w.before _ s = true := fun w h => hts w (List.mem_cons_of_mem _ h)
  have hown : s.vm.findClass RX6 = some m.cls := findClass_of_methodNamed B.named
  have hlocks := B.notSynchronized
  have hS : va_S (rrA ad) s.heap s.heap [] := va_S.rf
  have hP0 := hP
  have hl := lv_entry ([.ref (ad 66), .int a0, .int b0]) (n := 4) (Nat.le_of_ble_eq_true rfl)
  rw [lg_entry_eq]
  generalize (lg_sl ([.ref (ad 66), .int a0, .int b0]) ++ List.replicate (4 - (lg_sl ([.ref (ad 66), .int a0, .int b0])).length) Slot.unset).toArray = ls at hl ⊢
  have hl : lv_has ls 4 [(0, .ref (ad 66)), (1, .int a0), (2, .int b0)] := hl
  refine lv_aload_n hx hb dX6_hold_0 rfl (lv_at hl 0 rfl) ?_
  refine lv_iload_n hx hb dX6_hold_1 rfl (lv_at hl 1 rfl) ?_
  refine cx_callV (As := [.int a0]) (rest := []) ⟨hx, hb, hml, hown, hg⟩ (m_ReplenishRules_placeAt l hl9 G cA ad σ hJ a0) (cwV 1 hg (gV qM_X6_56 qI_X6_placeAt qS_X6_placeAt qN_X6 kX6_placeAt) rfl rfl rfl (by decide +kernel) ⟨Nat.le_of_ble_eq_true rfl, Nat.le_of_ble_eq_true rfl⟩) hK hP hT (fun _ h => h) hS (va_recv hK hP (ci := 6) (q0 := 66) rfl rl_main) rfl hl.1 rfl (lv_room (Nat.le_of_ble_eq_true rfl)) dX6_hold_2 ⟨Nat.le_of_ble_eq_true rfl, Nat.le_of_ble_eq_true rfl⟩ hEx hlocks (Nat.le_of_ble_eq_true rfl) (Nat.le_of_ble_eq_true rfl) (fun hk_2 => by simp only [c_holdK, c_then_n hk_2]) (fun hk_2 v9 τ9 H hR hP hS _ => ?_)
  obtain ⟨rfl, hτ9⟩ := hR
  rw [hτ9] at hP
  show W _ _ _ _ _ _ _ _ _ _ _ _ _ _ _ (F0 m 5 ls [.ref (ad (nx a0))])
  refine W.widen (k := 1) (n := 6) (Nat.le_of_ble_eq_true rfl) (Nat.le_of_ble_eq_true rfl) ?_
  refine lv_astore_n (lv' := [(3, .ref (ad (nx a0))), (0, .ref (ad 66)), (1, .int a0), (2, .int b0)]) hx hb dX6_hold_5 rfl hl (by decide) rfl (fun ls hl => ?_)
  refine lv_iload_n hx hb dX6_hold_6 rfl (lv_at hl 3 rfl) ?_
  refine lv_if_ge (tgt := 20) hx hb dX6_hold_7 (by decide) (fun c_7 => ?_) (fun c_7 => ?_)
  · -- ifge taken
    refine lv_aload_n hx hb dX6_hold_20 rfl (lv_at hl 0 rfl) ?_
    refine va_get (D := G) (ci := 2) (v := .int (σ 2 (nx a0))) (C := RX2) (T := TX2) (N := 13) hx hb hg hinX2 hown hK hP (nx a0) (rl_Place (vp_lt (placeAt_in hk_2))) rfl 4 (by decide) (hg _ qF_X6_65) (fun _ h9 => h9) rfl dX6_hold_21 ?_
    refine lv_iload_n hx hb dX6_hold_24 rfl (lv_at hl 3 rfl) ?_
    refine lv_icmp_ge (tgt := 38) hx hb dX6_hold_25 (by decide) (fun c_25 => ?_) (fun c_25 => ?_)
    · -- if_icmpge taken
      refine lv_aload_n hx hb dX6_hold_38 rfl (lv_at hl 0 rfl) ?_
      refine lv_iload_n hx hb dX6_hold_39 rfl (lv_at hl 3 rfl) ?_
      refine pp_put (D := G) (ci := 2) (v := .int b0) (ty := .int) (C := RX2) (T := TX2) (N := 13) hx hb hg hinX2 tyX2 tyX2_ok nmX2 hown hK hP (rr_D hJ) hS (nx a0) (rl_Place (vp_lt (placeAt_in hk_2))) rfl 5 (by decide) (hg _ qF_X6_135) (fun _ h9 => h9) rfl (by decide +kernel) rfl rfl (Nat.le_of_ble_eq_true rfl) (rs_Place_held (vp_lt (placeAt_in hk_2))) dX6_hold_40 (fun H locs hP hS => ?_)
      obtain ⟨σ1, eσ1⟩ : ∃ z, z = up σ 3 (nx a0) b0 := ⟨_, rfl⟩
      rw [← eσ1] at hP
      refine W.widen (k := 2) (n := 12) (Nat.le_of_ble_eq_true rfl) (Nat.le_of_ble_eq_true rfl) ?_
      exact cx_ret (by simp only [c_holdK, hk_2, c_then_z, if_pos c_7, if_pos c_25]) (W.vret hx hb hr (fun t ht hW => ⟨⟨_, σ1, rfl, ⟨rfl, by subst eσ1; rfl⟩, by rw [ht]; exact hP, va_K.moved hW.alike hK⟩, hS.F ht⟩) hS.2.2 dX6_hold_43)
    · -- if_icmpge not taken
      have eK : c_holdK σ a0 b0 = 2 := by simp only [c_holdK, hk_2, c_then_z, if_pos c_7, if_neg c_25]
      obtain ⟨sa, hstr⟩ := hT.2.2.2 ("ReplenishRules", 133, "the place has not so many") (by decide +kernel)
      exact cx_throw (own := RX6) (cls := "java/lang/IllegalStateException") (names := rr_nm) hx hb hl9 hown (by decide +kernel) rr_nm_fit (hg _ qK_X6_72) (hg _ qA_IllegalStateException) (hg _ qN_IllegalStateException) hstr (cx_words rr_at2 hg hT) hP0 hK hS (hl.1.trans hml.symm) dX6_hold_28 dX6_hold_31 dX6_hold_32 dX6_hold_34 dX6_hold_37 hEx hlocks (Nat.le_of_ble_eq_true rfl) (Nat.le_of_ble_eq_true rfl) (Nat.le_of_ble_eq_true rfl) (Nat.le_of_ble_eq_true rfl) (by rw [eK]; decide) (by rw [eK]; rfl) (Nat.le_of_ble_eq_true rfl) (Nat.le_of_ble_eq_true rfl)
  · -- ifge not taken
    have eK : c_holdK σ a0 b0 = 1 := by simp only [c_holdK, hk_2, c_then_z, if_neg c_7]
    obtain ⟨sa, hstr⟩ := hT.2.2.2 ("ReplenishRules", 130, "the number is below 0") (by decide +kernel)
    exact cx_throw (own := RX6) (cls := "java/lang/IllegalArgumentException") (names := rr_nm) hx hb hl9 hown (by decide +kernel) rr_nm_fit (hg _ qK_X6_128) (hg _ qA_IllegalArgumentException) (hg _ qN_IllegalArgumentException) hstr (cx_words rr_at1 hg hT) hP0 hK hS (hl.1.trans hml.symm) dX6_hold_10 dX6_hold_13 dX6_hold_14 dX6_hold_16 dX6_hold_19 hEx hlocks (Nat.le_of_ble_eq_true rfl) (Nat.le_of_ble_eq_true rfl) (Nat.le_of_ble_eq_true rfl) (Nat.le_of_ble_eq_true rfl) (by rw [eK]; decide) (by rw [eK]; rfl) (Nat.le_of_ble_eq_true rfl) (Nat.le_of_ble_eq_true rfl)

set_option maxHeartbeats 600000 in
set_option maxRecDepth 100000 in
theorem m_ReplenishRules_cases (l : Launch) (hl9 : l.stackTraces = false) (G : va_G) (cA : Nat → ClassId) (ad : Nat → Nat) (σ : St) (hJ : rr_inj ad) (a0 : Int32) (b0 : Int32) : cx_Met (rrA ad) l yX6_cases wX6_cases ({ frames := 7, cells := 2, slots := 12, locals := 113 }) [.ref (ad 66), .int a0, .int b0] G cA ad σ (c_casesK a0 b0) (fun v τ => v = none ∧ τ = c_casesS σ a0 b0) 2 12 := by
  refine cx_ofW (cc := cX6_cases) (maxL := 3) (ret := none) (by decide) ?_
  intro p e s m args below meth c s₁ B hml hEx hv
  obtain ⟨rfl, hP, hK, hT⟩ := hv
  have hx := B.exec
  have hb := B.bytes
  have hr := B.returns
  have hts := atoms_spec (ws := wX6_cases :: wG) B.pre
  have hg : ∀ w ∈ wG, w.before _ s = true := fun w h => hts w (List.mem_cons_of_mem _ h)
  have hown : s.vm.findClass RX6 = some m.cls := findClass_of_methodNamed B.named
  have hlocks := B.notSynchronized
  have hS : va_S (rrA ad) s.heap s.heap [] := va_S.rf
  have hP0 := hP
  have hl := lv_entry ([.ref (ad 66), .int a0, .int b0]) (n := 3) (Nat.le_of_ble_eq_true rfl)
  rw [lg_entry_eq]
  generalize (lg_sl ([.ref (ad 66), .int a0, .int b0]) ++ List.replicate (3 - (lg_sl ([.ref (ad 66), .int a0, .int b0])).length) Slot.unset).toArray = ls at hl ⊢
  have hl : lv_has ls 3 [(0, .ref (ad 66)), (1, .int a0), (2, .int b0)] := hl
  refine lv_iload_n hx hb dX6_cases_0 rfl (lv_at hl 1 rfl) ?_
  refine lv_iconst (v := 0) hx hb dX6_cases_1 (by decide) ?_
  refine lv_bipush (v := 7) hx hb dX6_cases_2 (by decide) ?_
  refine cx_callS (As := [.int a0, .int 0, .int 7]) (rest := []) ⟨hx, hb, hml, hown, hg⟩ (m_ReplenishRules_checkRange l hl9 G cA ad σ hJ a0 0 7) (cwS 3 hg (gS qM_X6_61 qT_X6_checkRange qN_X6 kX6_checkRange) rfl rfl rfl (by decide +kernel) ⟨Nat.le_of_ble_eq_true rfl, Nat.le_of_ble_eq_true rfl⟩) hK hP hT (fun _ h => h) hS  rfl hl.1 rfl (lv_room (Nat.le_of_ble_eq_true rfl)) dX6_cases_4 ⟨Nat.le_of_ble_eq_true rfl, Nat.le_of_ble_eq_true rfl⟩ hEx hlocks (Nat.le_of_ble_eq_true rfl) (Nat.le_of_ble_eq_true rfl) (fun hk_4 => by simp only [c_casesK, c_then_n hk_4]) (fun hk_4 v9 τ9 H hR hP hS _ => ?_)
  obtain ⟨rfl, hτ9⟩ := hR
  rw [hτ9] at hP
  show W _ _ _ _ _ _ _ _ _ _ _ _ _ _ _ (F0 m 7 ls [])
  refine W.widen (k := 1) (n := 6) (Nat.le_of_ble_eq_true rfl) (Nat.le_of_ble_eq_true rfl) ?_
  refine lv_iload_n hx hb dX6_cases_7 rfl (lv_at hl 2 rfl) ?_
  refine lv_iconst (v := 1) hx hb dX6_cases_8 (by decide) ?_
  refine lv_sipush (v := 1000) hx hb dX6_cases_9 (by decide) ?_
  refine cx_callS (As := [.int b0, .int 1, .int 1000]) (rest := []) ⟨hx, hb, hml, hown, hg⟩ (m_ReplenishRules_checkRange l hl9 G cA ad σ hJ b0 1 1000) (cwS 3 hg (gS qM_X6_61 qT_X6_checkRange qN_X6 kX6_checkRange) rfl rfl rfl (by decide +kernel) ⟨Nat.le_of_ble_eq_true rfl, Nat.le_of_ble_eq_true rfl⟩) hK hP hT (fun _ h => h) hS  rfl hl.1 rfl (lv_room (Nat.le_of_ble_eq_true rfl)) dX6_cases_12 ⟨Nat.le_of_ble_eq_true rfl, Nat.le_of_ble_eq_true rfl⟩ hEx hlocks (Nat.le_of_ble_eq_true rfl) (Nat.le_of_ble_eq_true rfl) (fun hk_12 => by simp only [c_casesK, hk_4, c_then_z, c_then_n hk_12]) (fun hk_12 v9 τ9 H hR hP hS _ => ?_)
  obtain ⟨rfl, hτ9⟩ := hR
  rw [hτ9] at hP
  show W _ _ _ _ _ _ _ _ _ _ _ _ _ _ _ (F0 m 15 ls [])
  refine W.widen (k := 2) (n := 12) (Nat.le_of_ble_eq_true rfl) (Nat.le_of_ble_eq_true rfl) ?_
  refine lv_aload_n hx hb dX6_cases_15 rfl (lv_at hl 0 rfl) ?_
  refine va_get (D := G) (ci := 6) (v := .ref (ad 69)) (C := RX6) (T := TX6) (N := 8) hx hb hg hinX6 hown hK hP 66 rl_main rfl 2 (by decide) (hg _ qF_X6_21) (fun _ h9 => h9) rfl dX6_cases_16 ?_
  refine lv_iload_n hx hb dX6_cases_19 rfl (lv_at hl 1 rfl) ?_
  refine lv_iload_n hx hb dX6_cases_20 rfl (lv_at hl 2 rfl) ?_
  refine pp_iast (x := b0) hx hb hK hP (rr_D hJ) hS 69 0 rl_casesA rfl (rg_in (b := 7) rfl hk_4) (rs_casesA) dX6_cases_21 (fun H locs hP hS => ?_)
  obtain ⟨σ1, eσ1⟩ : ∃ z, z = up σ 30 (nx a0) b0 := ⟨_, rfl⟩
  rw [← eσ1] at hP
  refine W.widen (k := 2) (n := 12) (Nat.le_of_ble_eq_true rfl) (Nat.le_of_ble_eq_true rfl) ?_
  exact cx_ret (by simp only [c_casesK, hk_4, c_then_z, hk_12, c_then_z]) (W.vret hx hb hr (fun t ht hW => ⟨⟨_, σ1, rfl, ⟨rfl, by subst eσ1; rfl⟩, by rw [ht]; exact hP, va_K.moved hW.alike hK⟩, hS.F ht⟩) hS.2.2 dX6_cases_22)

set_option maxHeartbeats 600000 in
set_option maxRecDepth 100000 in
theorem m_ReplenishRules_rule (l : Launch) (hl9 : l.stackTraces = false) (G : va_G) (cA : Nat → ClassId) (ad : Nat → Nat) (σ : St) (hJ : rr_inj ad) (a0 : Int32) (b0 : Int32) (c0 : Int32) (d0 : Int32) : cx_Met (rrA ad) l yX6_rule wX6_rule ({ frames := 7, cells := 4, slots := 24, locals := 113 }) [.ref (ad 66), .int a0, .int b0, .int c0, .int d0] G cA ad σ (c_ruleK a0 b0 c0 d0) (fun v τ => v = none ∧ τ = c_ruleS σ a0 b0 c0 d0) 4 24 := by
  refine cx_ofW (cc := cX6_rule) (maxL := 6) (ret := none) (by decide) ?_
  intro p e s m args below meth c s₁ B hml hEx hv
  obtain ⟨rfl, hP, hK, hT⟩ := hv
  have hx := B.exec
  have hb := B.bytes
  have hr := B.returns
  have hts := atoms_spec (ws := wX6_rule :: wG) B.pre
  have hg : ∀ w ∈ wG, w.before _ s = true := fun w h => hts w (List.mem_cons_of_mem _ h)
  have hown : s.vm.findClass RX6 = some m.cls := findClass_of_methodNamed B.named
  have hlocks := B.notSynchronized
  have hS : va_S (rrA ad) s.heap s.heap [] := va_S.rf
  have hP0 := hP
  have hl := lv_entry ([.ref (ad 66), .int a0, .int b0, .int c0, .int d0]) (n := 6) (Nat.le_of_ble_eq_true rfl)
  rw [lg_entry_eq]
  generalize (lg_sl ([.ref (ad 66), .int a0, .int b0, .int c0, .int d0]) ++ List.replicate (6 - (lg_sl ([.ref (ad 66), .int a0, .int b0, .int c0, .int d0])).length) Slot.unset).toArray = ls at hl ⊢
  have hl : lv_has ls 6 [(0, .ref (ad 66)), (1, .int a0), (2, .int b0), (3, .int c0), (4, .int d0)] := hl
  refine lv_iload_n hx hb dX6_rule_0 rfl (lv_at hl 1 rfl) ?_
  refine lv_iconst (v := 0) hx hb dX6_rule_1 (by decide) ?_
  refine lv_iconst (v := 3) hx hb dX6_rule_2 (by decide) ?_
  refine cx_callS (As := [.int a0, .int 0, .int 3]) (rest := []) ⟨hx, hb, hml, hown, hg⟩ (m_ReplenishRules_checkRange l hl9 G cA ad σ hJ a0 0 3) (cwS 3 hg (gS qM_X6_61 qT_X6_checkRange qN_X6 kX6_checkRange) rfl rfl rfl (by decide +kernel) ⟨Nat.le_of_ble_eq_true rfl, Nat.le_of_ble_eq_true rfl⟩) hK hP hT (fun _ h => h) hS  rfl hl.1 rfl (lv_room (Nat.le_of_ble_eq_true rfl)) dX6_rule_3 ⟨Nat.le_of_ble_eq_true rfl, Nat.le_of_ble_eq_true rfl⟩ hEx hlocks (Nat.le_of_ble_eq_true rfl) (Nat.le_of_ble_eq_true rfl) (fun hk_3 => by simp only [c_ruleK, c_then_n hk_3]) (fun hk_3 v9 τ9 H hR hP hS _ => ?_)
  obtain ⟨rfl, hτ9⟩ := hR
  rw [hτ9] at hP
  show W _ _ _ _ _ _ _ _ _ _ _ _ _ _ _ (F0 m 6 ls [])
  refine W.widen (k := 1) (n := 6) (Nat.le_of_ble_eq_true rfl) (Nat.le_of_ble_eq_true rfl) ?_
  refine lv_iload_n hx hb dX6_rule_6 rfl (lv_at hl 2 rfl) ?_
  refine lv_iconst (v := 0) hx hb dX6_rule_7 (by decide) ?_
  refine lv_iconst (v := 2) hx hb dX6_rule_8 (by decide) ?_
  refine cx_callS (As := [.int b0, .int 0, .int 2]) (rest := []) ⟨hx, hb, hml, hown, hg⟩ (m_ReplenishRules_checkRange l hl9 G cA ad σ hJ b0 0 2) (cwS 3 hg (gS qM_X6_61 qT_X6_checkRange qN_X6 kX6_checkRange) rfl rfl rfl (by decide +kernel) ⟨Nat.le_of_ble_eq_true rfl, Nat.le_of_ble_eq_true rfl⟩) hK hP hT (fun _ h => h) hS  rfl hl.1 rfl (lv_room (Nat.le_of_ble_eq_true rfl)) dX6_rule_9 ⟨Nat.le_of_ble_eq_true rfl, Nat.le_of_ble_eq_true rfl⟩ hEx hlocks (Nat.le_of_ble_eq_true rfl) (Nat.le_of_ble_eq_true rfl) (fun hk_9 => by simp only [c_ruleK, hk_3, c_then_z, c_then_n hk_9]) (fun hk_9 v9 τ9 H hR hP hS _ => ?_)
  obtain ⟨rfl, hτ9⟩ := hR
  rw [hτ9] at hP
  show W _ _ _ _ _ _ _ _ _ _ _ _ _ _ _ (F0 m 12 ls [])
  refine W.widen (k := 2) (n := 12) (Nat.le_of_ble_eq_true rfl) (Nat.le_of_ble_eq_true rfl) ?_
  refine lv_iload_n hx hb dX6_rule_12 rfl (lv_at hl 3 rfl) ?_
  refine lv_iconst (v := 1) hx hb dX6_rule_13 (by decide) ?_
  refine lv_bipush (v := 30) hx hb dX6_rule_14 (by decide) ?_
  refine cx_callS (As := [.int c0, .int 1, .int 30]) (rest := []) ⟨hx, hb, hml, hown, hg⟩ (m_ReplenishRules_checkRange l hl9 G cA ad σ hJ c0 1 30) (cwS 3 hg (gS qM_X6_61 qT_X6_checkRange qN_X6 kX6_checkRange) rfl rfl rfl (by decide +kernel) ⟨Nat.le_of_ble_eq_true rfl, Nat.le_of_ble_eq_true rfl⟩) hK hP hT (fun _ h => h) hS  rfl hl.1 rfl (lv_room (Nat.le_of_ble_eq_true rfl)) dX6_rule_16 ⟨Nat.le_of_ble_eq_true rfl, Nat.le_of_ble_eq_true rfl⟩ hEx hlocks (Nat.le_of_ble_eq_true rfl) (Nat.le_of_ble_eq_true rfl) (fun hk_16 => by simp only [c_ruleK, hk_3, c_then_z, hk_9, c_then_z, c_then_n hk_16]) (fun hk_16 v9 τ9 H hR hP hS _ => ?_)
  obtain ⟨rfl, hτ9⟩ := hR
  rw [hτ9] at hP
  show W _ _ _ _ _ _ _ _ _ _ _ _ _ _ _ (F0 m 19 ls [])
  refine W.widen (k := 3) (n := 18) (Nat.le_of_ble_eq_true rfl) (Nat.le_of_ble_eq_true rfl) ?_
  refine lv_iload hx hb dX6_rule_19 (lv_at hl 4 rfl) ?_
  refine lv_iconst (v := 0) hx hb dX6_rule_21 (by decide) ?_
  refine lv_sipush (v := 399) hx hb dX6_rule_22 (by decide) ?_
  refine cx_callS (As := [.int d0, .int 0, .int 399]) (rest := []) ⟨hx, hb, hml, hown, hg⟩ (m_ReplenishRules_checkRange l hl9 G cA ad σ hJ d0 0 399) (cwS 3 hg (gS qM_X6_61 qT_X6_checkRange qN_X6 kX6_checkRange) rfl rfl rfl (by decide +kernel) ⟨Nat.le_of_ble_eq_true rfl, Nat.le_of_ble_eq_true rfl⟩) hK hP hT (fun _ h => h) hS  rfl hl.1 rfl (lv_room (Nat.le_of_ble_eq_true rfl)) dX6_rule_25 ⟨Nat.le_of_ble_eq_true rfl, Nat.le_of_ble_eq_true rfl⟩ hEx hlocks (Nat.le_of_ble_eq_true rfl) (Nat.le_of_ble_eq_true rfl) (fun hk_25 => by simp only [c_ruleK, hk_3, c_then_z, hk_9, c_then_z, hk_16, c_then_z, c_then_n hk_25]) (fun hk_25 v9 τ9 H hR hP hS _ => ?_)
  obtain ⟨rfl, hτ9⟩ := hR
  rw [hτ9] at hP
  show W _ _ _ _ _ _ _ _ _ _ _ _ _ _ _ (F0 m 28 ls [])
  refine W.widen (k := 4) (n := 24) (Nat.le_of_ble_eq_true rfl) (Nat.le_of_ble_eq_true rfl) ?_
  refine lv_aload_n hx hb dX6_rule_28 rfl (lv_at hl 0 rfl) ?_
  refine va_get (D := G) (ci := 6) (v := .ref (ad 68)) (C := RX6) (T := TX6) (N := 8) hx hb hg hinX6 hown hK hP 66 rl_main rfl 1 (by decide) (hg _ qF_X6_17) (fun _ h9 => h9) rfl dX6_rule_29 ?_
  refine lv_iload_n hx hb dX6_rule_32 rfl (lv_at hl 1 rfl) ?_
  refine va_aldq hx hb hK hP 68 3 rl_rulesA rfl (rg_in (b := 3) rfl hk_3) dX6_rule_33 ?_
  show W _ _ _ _ _ _ _ _ _ _ _ _ _ _ _ (F0 m _ ls (.ref (ad (32 + nx a0)) :: []))
  refine lv_astore (lv' := [(5, .ref (ad (32 + nx a0))), (0, .ref (ad 66)), (1, .int a0), (2, .int b0), (3, .int c0), (4, .int d0)]) hx hb dX6_rule_34 hl (by decide) rfl (fun ls hl => ?_)
  refine lv_aload hx hb dX6_rule_36 (lv_at hl 0 rfl) ?_
  refine lv_iload_n hx hb dX6_rule_38 rfl (lv_at hl 3 rfl) ?_
  refine pp_put (D := G) (ci := 4) (v := .int b0) (ty := .int) (C := RX4) (T := TX4) (N := 3) hx hb hg hinX4 tyX4 tyX4_ok nmX4 hown hK hP (rr_D hJ) hS (32 + (nx a0)) (rl_Rule (vp_lt (rg_in (b := 3) rfl hk_3))) rfl 0 (by decide) (hg _ qF_X6_138) (fun _ h9 => h9) rfl (by decide +kernel) rfl rfl (Nat.le_of_ble_eq_true rfl) (rs_Rule_kind (vp_lt (rg_in (b := 3) rfl hk_3))) dX6_rule_39 (fun H locs hP hS => ?_)
  obtain ⟨σ1, eσ1⟩ : ∃ z, z = up σ 20 (nx a0) b0 := ⟨_, rfl⟩
  rw [← eσ1] at hP
  refine lv_aload hx hb dX6_rule_42 (lv_at hl 0 rfl) ?_
  refine lv_iload_n hx hb dX6_rule_44 rfl (lv_at hl 4 rfl) ?_
  refine pp_put (D := G) (ci := 4) (v := .int c0) (ty := .int) (C := RX4) (T := TX4) (N := 3) hx hb hg hinX4 tyX4 tyX4_ok nmX4 hown hK hP (rr_D hJ) hS (32 + (nx a0)) (rl_Rule (vp_lt (rg_in (b := 3) rfl hk_3))) rfl 1 (by decide) (hg _ qF_X6_141) (fun _ h9 => h9) rfl (by decide +kernel) rfl rfl (Nat.le_of_ble_eq_true rfl) (rs_Rule_ahead (vp_lt (rg_in (b := 3) rfl hk_3))) dX6_rule_45 (fun H locs hP hS => ?_)
  obtain ⟨σ2, eσ2⟩ : ∃ z, z = up σ1 21 (nx a0) c0 := ⟨_, rfl⟩
  rw [← eσ2] at hP
  refine lv_aload hx hb dX6_rule_48 (lv_at hl 0 rfl) ?_
  refine lv_iload hx hb dX6_rule_50 (lv_at hl 5 rfl) ?_
  refine pp_put (D := G) (ci := 4) (v := .int d0) (ty := .int) (C := RX4) (T := TX4) (N := 3) hx hb hg hinX4 tyX4 tyX4_ok nmX4 hown hK hP (rr_D hJ) hS (32 + (nx a0)) (rl_Rule (vp_lt (rg_in (b := 3) rfl hk_3))) rfl 2 (by decide) (hg _ qF_X6_144) (fun _ h9 => h9) rfl (by decide +kernel) rfl rfl (Nat.le_of_ble_eq_true rfl) (rs_Rule_until (vp_lt (rg_in (b := 3) rfl hk_3))) dX6_rule_52 (fun H locs hP hS => ?_)
  obtain ⟨σ3, eσ3⟩ : ∃ z, z = up σ2 22 (nx a0) d0 := ⟨_, rfl⟩
  rw [← eσ3] at hP
  refine W.widen (k := 4) (n := 24) (Nat.le_of_ble_eq_true rfl) (Nat.le_of_ble_eq_true rfl) ?_
  exact cx_ret (by simp only [c_ruleK, hk_3, c_then_z, hk_9, c_then_z, hk_16, c_then_z, hk_25, c_then_z]) (W.vret hx hb hr (fun t ht hW => ⟨⟨_, σ3, rfl, ⟨rfl, by subst eσ1 eσ2 eσ3; rfl⟩, by rw [ht]; exact hP, va_K.moved hW.alike hK⟩, hS.F ht⟩) hS.2.2 dX6_rule_55)

set_option maxHeartbeats 600000 in
set_option maxRecDepth 100000 in
theorem m_ReplenishRules_factor (l : Launch) (hl9 : l.stackTraces = false) (G : va_G) (cA : Nat → ClassId) (ad : Nat → Nat) (σ : St) (hJ : rr_inj ad) (a0 : Int32) (b0 : Int32) (c0 : Int32) : cx_Met (rrA ad) l yX6_factor wX6_factor ({ frames := 7, cells := 3, slots := 18, locals := 113 }) [.ref (ad 66), .int a0, .int b0, .int c0] G cA ad σ (c_factorK a0 b0 c0) (fun v τ => v = none ∧ τ = c_factorS σ a0 b0 c0) 3 18 := by
  refine cx_ofW (cc := cX6_factor) (maxL := 4) (ret := none) (by decide) ?_
  intro p e s m args below meth c s₁ B hml hEx hv
  obtain ⟨rfl, hP, hK, hT⟩ := hv
  have hx := B.exec
  have hb := B.bytes
  have hr := B.returns
  have hts := atoms_spec (ws := wX6_factor :: wG) B.pre
  have hg : ∀ w ∈ wG, w.before _ s = true := fun w h => hts w (List.mem_cons_of_mem _ h)
  have hown : s.vm.findClass RX6 = some m.cls := findClass_of_methodNamed B.named
  have hlocks := B.notSynchronized
  have hS : va_S (rrA ad) s.heap s.heap [] := va_S.rf
  have hP0 := hP
  have hl := lv_entry ([.ref (ad 66), .int a0, .int b0, .int c0]) (n := 4) (Nat.le_of_ble_eq_true rfl)
  rw [lg_entry_eq]
  generalize (lg_sl ([.ref (ad 66), .int a0, .int b0, .int c0]) ++ List.replicate (4 - (lg_sl ([.ref (ad 66), .int a0, .int b0, .int c0])).length) Slot.unset).toArray = ls at hl ⊢
  have hl : lv_has ls 4 [(0, .ref (ad 66)), (1, .int a0), (2, .int b0), (3, .int c0)] := hl
  refine lv_iload_n hx hb dX6_factor_0 rfl (lv_at hl 1 rfl) ?_
  refine lv_iconst (v := 0) hx hb dX6_factor_1 (by decide) ?_
  refine lv_bipush (v := 11) hx hb dX6_factor_2 (by decide) ?_
  refine cx_callS (As := [.int a0, .int 0, .int 11]) (rest := []) ⟨hx, hb, hml, hown, hg⟩ (m_ReplenishRules_checkRange l hl9 G cA ad σ hJ a0 0 11) (cwS 3 hg (gS qM_X6_61 qT_X6_checkRange qN_X6 kX6_checkRange) rfl rfl rfl (by decide +kernel) ⟨Nat.le_of_ble_eq_true rfl, Nat.le_of_ble_eq_true rfl⟩) hK hP hT (fun _ h => h) hS  rfl hl.1 rfl (lv_room (Nat.le_of_ble_eq_true rfl)) dX6_factor_4 ⟨Nat.le_of_ble_eq_true rfl, Nat.le_of_ble_eq_true rfl⟩ hEx hlocks (Nat.le_of_ble_eq_true rfl) (Nat.le_of_ble_eq_true rfl) (fun hk_4 => by simp only [c_factorK, c_then_n hk_4]) (fun hk_4 v9 τ9 H hR hP hS _ => ?_)
  obtain ⟨rfl, hτ9⟩ := hR
  rw [hτ9] at hP
  show W _ _ _ _ _ _ _ _ _ _ _ _ _ _ _ (F0 m 7 ls [])
  refine W.widen (k := 1) (n := 6) (Nat.le_of_ble_eq_true rfl) (Nat.le_of_ble_eq_true rfl) ?_
  refine lv_iload_n hx hb dX6_factor_7 rfl (lv_at hl 2 rfl) ?_
  refine lv_iconst (v := 0) hx hb dX6_factor_8 (by decide) ?_
  refine lv_sipush (v := 1000) hx hb dX6_factor_9 (by decide) ?_
  refine cx_callS (As := [.int b0, .int 0, .int 1000]) (rest := []) ⟨hx, hb, hml, hown, hg⟩ (m_ReplenishRules_checkRange l hl9 G cA ad σ hJ b0 0 1000) (cwS 3 hg (gS qM_X6_61 qT_X6_checkRange qN_X6 kX6_checkRange) rfl rfl rfl (by decide +kernel) ⟨Nat.le_of_ble_eq_true rfl, Nat.le_of_ble_eq_true rfl⟩) hK hP hT (fun _ h => h) hS  rfl hl.1 rfl (lv_room (Nat.le_of_ble_eq_true rfl)) dX6_factor_12 ⟨Nat.le_of_ble_eq_true rfl, Nat.le_of_ble_eq_true rfl⟩ hEx hlocks (Nat.le_of_ble_eq_true rfl) (Nat.le_of_ble_eq_true rfl) (fun hk_12 => by simp only [c_factorK, hk_4, c_then_z, c_then_n hk_12]) (fun hk_12 v9 τ9 H hR hP hS _ => ?_)
  obtain ⟨rfl, hτ9⟩ := hR
  rw [hτ9] at hP
  show W _ _ _ _ _ _ _ _ _ _ _ _ _ _ _ (F0 m 15 ls [])
  refine W.widen (k := 2) (n := 12) (Nat.le_of_ble_eq_true rfl) (Nat.le_of_ble_eq_true rfl) ?_
  refine lv_iload_n hx hb dX6_factor_15 rfl (lv_at hl 3 rfl) ?_
  refine lv_iconst (v := 1) hx hb dX6_factor_16 (by decide) ?_
  refine lv_sipush (v := 1000) hx hb dX6_factor_17 (by decide) ?_
  refine cx_callS (As := [.int c0, .int 1, .int 1000]) (rest := []) ⟨hx, hb, hml, hown, hg⟩ (m_ReplenishRules_checkRange l hl9 G cA ad σ hJ c0 1 1000) (cwS 3 hg (gS qM_X6_61 qT_X6_checkRange qN_X6 kX6_checkRange) rfl rfl rfl (by decide +kernel) ⟨Nat.le_of_ble_eq_true rfl, Nat.le_of_ble_eq_true rfl⟩) hK hP hT (fun _ h => h) hS  rfl hl.1 rfl (lv_room (Nat.le_of_ble_eq_true rfl)) dX6_factor_20 ⟨Nat.le_of_ble_eq_true rfl, Nat.le_of_ble_eq_true rfl⟩ hEx hlocks (Nat.le_of_ble_eq_true rfl) (Nat.le_of_ble_eq_true rfl) (fun hk_20 => by simp only [c_factorK, hk_4, c_then_z, hk_12, c_then_z, c_then_n hk_20]) (fun hk_20 v9 τ9 H hR hP hS _ => ?_)
  obtain ⟨rfl, hτ9⟩ := hR
  rw [hτ9] at hP
  show W _ _ _ _ _ _ _ _ _ _ _ _ _ _ _ (F0 m 23 ls [])
  refine W.widen (k := 3) (n := 18) (Nat.le_of_ble_eq_true rfl) (Nat.le_of_ble_eq_true rfl) ?_
  refine lv_aload_n hx hb dX6_factor_23 rfl (lv_at hl 0 rfl) ?_
  refine va_get (D := G) (ci := 6) (v := .ref (ad 70)) (C := RX6) (T := TX6) (N := 8) hx hb hg hinX6 hown hK hP 66 rl_main rfl 3 (by decide) (hg _ qF_X6_25) (fun _ h9 => h9) rfl dX6_factor_24 ?_
  refine lv_iload_n hx hb dX6_factor_27 rfl (lv_at hl 1 rfl) ?_
  refine lv_iload_n hx hb dX6_factor_28 rfl (lv_at hl 2 rfl) ?_
  refine pp_iast (x := b0) hx hb hK hP (rr_D hJ) hS 70 0 rl_upsA rfl (rg_in (b := 11) rfl hk_4) (rs_upsA) dX6_factor_29 (fun H locs hP hS => ?_)
  obtain ⟨σ1, eσ1⟩ : ∃ z, z = up σ 31 (nx a0) b0 := ⟨_, rfl⟩
  rw [← eσ1] at hP
  refine lv_aload_n hx hb dX6_factor_30 rfl (lv_at hl 0 rfl) ?_
  refine va_get (D := G) (ci := 6) (v := .ref (ad 71)) (C := RX6) (T := TX6) (N := 8) hx hb hg hinX6 hown hK hP 66 rl_main rfl 4 (by decide) (hg _ qF_X6_28) (fun _ h9 => h9) rfl dX6_factor_31 ?_
  refine lv_iload_n hx hb dX6_factor_34 rfl (lv_at hl 1 rfl) ?_
  refine lv_iload_n hx hb dX6_factor_35 rfl (lv_at hl 3 rfl) ?_
  refine pp_iast (x := c0) hx hb hK hP (rr_D hJ) hS 71 0 rl_downsA rfl (rg_in (b := 11) rfl hk_4) (rs_downsA) dX6_factor_36 (fun H locs hP hS => ?_)
  obtain ⟨σ2, eσ2⟩ : ∃ z, z = up σ1 32 (nx a0) c0 := ⟨_, rfl⟩
  rw [← eσ2] at hP
  refine W.widen (k := 3) (n := 18) (Nat.le_of_ble_eq_true rfl) (Nat.le_of_ble_eq_true rfl) ?_
  exact cx_ret (by simp only [c_factorK, hk_4, c_then_z, hk_12, c_then_z, hk_20, c_then_z]) (W.vret hx hb hr (fun t ht hW => ⟨⟨_, σ2, rfl, ⟨rfl, by subst eσ1 eσ2; rfl⟩, by rw [ht]; exact hP, va_K.moved hW.alike hK⟩, hS.F ht⟩) hS.2.2 dX6_factor_37)

set_option maxHeartbeats 600000 in
set_option maxRecDepth 100000 in
theorem m_ReplenishRules_wave (l : Launch) (hl9 : l.stackTraces = false) (G : va_G) (cA : Nat → ClassId) (ad : Nat → Nat) (σ : St) (hJ : rr_inj ad) (hI : Inv σ) (a0 : Int32) (b0 : Int32) (c0 : Int32) : cx_Met (rrA ad) l yX6_wave wX6_wave ({ frames := 9, cells := 5, slots := 30, locals := 156 }) [.ref (ad 66), .int a0, .int b0, .int c0] G cA ad σ (c_waveK σ a0 b0 c0) (fun v τ => v = none ∧ τ = c_waveS σ a0 b0 c0) 5 30 := by
  refine cx_ofW (cc := cX6_wave) (maxL := 5) (ret := none) (by decide) ?_
  intro p e s m args below meth c s₁ B hml hEx hv
  obtain ⟨rfl, hP, hK, hT⟩ := hv
  have hx := B.exec
  have hb := B.bytes
  have hr := B.returns
  have hts := atoms_spec (ws := wX6_wave :: wG) B.pre
  have hg : ∀ w ∈ wG, w.before _ s = true := fun w h => hts w (List.mem_cons_of_mem _ h)
  have hown : s.vm.findClass RX6 = some m.cls := findClass_of_methodNamed B.named
  have hlocks := B.notSynchronized
  have hS : va_S (rrA ad) s.heap s.heap [] := va_S.rf
  have hP0 := hP
  have hl := lv_entry ([.ref (ad 66), .int a0, .int b0, .int c0]) (n := 5) (Nat.le_of_ble_eq_true rfl)
  rw [lg_entry_eq]
  generalize (lg_sl ([.ref (ad 66), .int a0, .int b0, .int c0]) ++ List.replicate (5 - (lg_sl ([.ref (ad 66), .int a0, .int b0, .int c0])).length) Slot.unset).toArray = ls at hl ⊢
  have hl : lv_has ls 5 [(0, .ref (ad 66)), (1, .int a0), (2, .int b0), (3, .int c0)] := hl
  refine lv_iload_n hx hb dX6_wave_0 rfl (lv_at hl 2 rfl) ?_
  refine lv_iconst (v := 1) hx hb dX6_wave_1 (by decide) ?_
  refine lv_ldc (v := 100000) hx hb hown (hg _ qC_X6_60) dX6_wave_2 ?_
  refine cx_callS (As := [.int b0, .int 1, .int 100000]) (rest := []) ⟨hx, hb, hml, hown, hg⟩ (m_ReplenishRules_checkRange l hl9 G cA ad σ hJ b0 1 100000) (cwS 3 hg (gS qM_X6_61 qT_X6_checkRange qN_X6 kX6_checkRange) rfl rfl rfl (by decide +kernel) ⟨Nat.le_of_ble_eq_true rfl, Nat.le_of_ble_eq_true rfl⟩) hK hP hT (fun _ h => h) hS  rfl hl.1 rfl (lv_room (Nat.le_of_ble_eq_true rfl)) dX6_wave_4 ⟨Nat.le_of_ble_eq_true rfl, Nat.le_of_ble_eq_true rfl⟩ hEx hlocks (Nat.le_of_ble_eq_true rfl) (Nat.le_of_ble_eq_true rfl) (fun hk_4 => by simp only [c_waveK, c_then_n hk_4]) (fun hk_4 v9 τ9 H hR hP hS _ => ?_)
  obtain ⟨rfl, hτ9⟩ := hR
  rw [hτ9] at hP
  show W _ _ _ _ _ _ _ _ _ _ _ _ _ _ _ (F0 m 7 ls [])
  refine W.widen (k := 1) (n := 6) (Nat.le_of_ble_eq_true rfl) (Nat.le_of_ble_eq_true rfl) ?_
  refine lv_iload_n hx hb dX6_wave_7 rfl (lv_at hl 3 rfl) ?_
  refine lv_aload_n hx hb dX6_wave_8 rfl (lv_at hl 0 rfl) ?_
  refine va_get (D := G) (ci := 6) (v := .ref (ad 72)) (C := RX6) (T := TX6) (N := 8) hx hb hg hinX6 hown hK hP 66 rl_main rfl 5 (by decide) (hg _ qF_X6_34) (fun _ h9 => h9) rfl dX6_wave_9 ?_
  refine va_get (D := G) (ci := 0) (v := .int (σ 40 0)) (C := RX0) (T := TX0) (N := 2) hx hb hg hinX0 hown hK hP 72 rl_Calendar rfl 1 (by decide) (hg _ qF_X6_125) (fun _ h9 => h9) rfl dX6_wave_12 ?_
  refine lv_sipush (v := 399) hx hb dX6_wave_15 (by decide) ?_
  refine cx_callS (As := [.int c0, .int (σ 40 0), .int 399]) (rest := []) ⟨hx, hb, hml, hown, hg⟩ (m_ReplenishRules_checkRange l hl9 G cA ad σ hJ c0 (σ 40 0) 399) (cwS 3 hg (gS qM_X6_61 qT_X6_checkRange qN_X6 kX6_checkRange) rfl rfl rfl (by decide +kernel) ⟨Nat.le_of_ble_eq_true rfl, Nat.le_of_ble_eq_true rfl⟩) hK hP hT (fun _ h => h) hS  rfl hl.1 rfl (lv_room (Nat.le_of_ble_eq_true rfl)) dX6_wave_18 ⟨Nat.le_of_ble_eq_true rfl, Nat.le_of_ble_eq_true rfl⟩ hEx hlocks (Nat.le_of_ble_eq_true rfl) (Nat.le_of_ble_eq_true rfl) (fun hk_18 => by simp only [c_waveK, hk_4, c_then_z, c_then_n hk_18]) (fun hk_18 v9 τ9 H hR hP hS _ => ?_)
  obtain ⟨rfl, hτ9⟩ := hR
  rw [hτ9] at hP
  show W _ _ _ _ _ _ _ _ _ _ _ _ _ _ _ (F0 m 21 ls [])
  refine W.widen (k := 2) (n := 12) (Nat.le_of_ble_eq_true rfl) (Nat.le_of_ble_eq_true rfl) ?_
  refine lv_aload_n hx hb dX6_wave_21 rfl (lv_at hl 0 rfl) ?_
  refine lv_iload_n hx hb dX6_wave_22 rfl (lv_at hl 1 rfl) ?_
  refine cx_callV (As := [.int a0]) (rest := []) ⟨hx, hb, hml, hown, hg⟩ (m_ReplenishRules_faceAt l hl9 G cA ad σ hJ a0) (cwV 1 hg (gV qM_X6_110 qI_X6_faceAt qS_X6_faceAt qN_X6 kX6_faceAt) rfl rfl rfl (by decide +kernel) ⟨Nat.le_of_ble_eq_true rfl, Nat.le_of_ble_eq_true rfl⟩) hK hP hT (fun _ h => h) hS (va_recv hK hP (ci := 6) (q0 := 66) rfl rl_main) rfl hl.1 rfl (lv_room (Nat.le_of_ble_eq_true rfl)) dX6_wave_23 ⟨Nat.le_of_ble_eq_true rfl, Nat.le_of_ble_eq_true rfl⟩ hEx hlocks (Nat.le_of_ble_eq_true rfl) (Nat.le_of_ble_eq_true rfl) (fun hk_23 => by simp only [c_waveK, hk_4, c_then_z, hk_18, c_then_z, c_then_n hk_23]) (fun hk_23 v9 τ9 H hR hP hS _ => ?_)
  obtain ⟨rfl, hτ9⟩ := hR
  rw [hτ9] at hP
  show W _ _ _ _ _ _ _ _ _ _ _ _ _ _ _ (F0 m 26 ls [.ref (ad (nx a0))])
  refine W.widen (k := 4) (n := 24) (Nat.le_of_ble_eq_true rfl) (Nat.le_of_ble_eq_true rfl) ?_
  refine lv_astore (lv' := [(4, .ref (ad (nx a0))), (0, .ref (ad 66)), (1, .int a0), (2, .int b0), (3, .int c0)]) hx hb dX6_wave_26 hl (by decide) rfl (fun ls hl => ?_)
  refine lv_aload_n hx hb dX6_wave_28 rfl (lv_at hl 1 rfl) ?_
  refine va_get (D := G) (ci := 6) (v := .ref (ad 74)) (C := RX6) (T := TX6) (N := 8) hx hb hg hinX6 hown hK hP 66 rl_main rfl 6 (by decide) (hg _ qF_X6_41) (fun _ h9 => h9) rfl dX6_wave_29 ?_
  refine va_get (D := G) (ci := 5) (v := .int (σ 41 0)) (C := RX5) (T := TX5) (N := 4) hx hb hg hinX5 hown hK hP 74 rl_Waves rfl 3 (by decide) (hg _ qF_X6_147) (fun _ h9 => h9) rfl dX6_wave_32 ?_
  refine lv_bipush (v := 30) hx hb dX6_wave_35 (by decide) ?_
  refine lv_icmp_lt (tgt := 50) hx hb dX6_wave_37 (by decide) (fun c_37 => ?_) (fun c_37 => ?_)
  · -- if_icmplt taken
    refine lv_aload_n hx hb dX6_wave_50 rfl (lv_at hl 1 rfl) ?_
    refine va_get (D := G) (ci := 6) (v := .ref (ad 74)) (C := RX6) (T := TX6) (N := 8) hx hb hg hinX6 hown hK hP 66 rl_main rfl 6 (by decide) (hg _ qF_X6_41) (fun _ h9 => h9) rfl dX6_wave_51 ?_
    refine lv_aload hx hb dX6_wave_54 (lv_at hl 0 rfl) ?_
    refine va_get (D := G) (ci := 2) (v := .int (nI (nx a0))) (C := RX2) (T := TX2) (N := 13) hx hb hg hinX2 hown hK hP (nx a0) (rl_Place (vp_lt (placeAt_in (faceAt_place hk_23).1))) rfl 0 (by decide) (hg _ qF_X6_155) (fun _ h9 => h9) rfl dX6_wave_56 ?_
    refine lv_iload_n hx hb dX6_wave_59 rfl (lv_at hl 3 rfl) ?_
    refine lv_iload_n hx hb dX6_wave_60 rfl (lv_at hl 4 rfl) ?_
    refine va_callv (va_runV (As := [.int (nI (nx a0)), .int b0, .int c0]) (rest := []) ⟨hx, hb, hml, hown, hg⟩ (m_Waves_add l G cA ad σ hJ (nI (nx a0)) b0 c0 (inv_wc hI).1) (cwV 3 hg (gV qM_X6_158 qI_X5_add qS_X5_add qN_X5 kX5_add) rfl rfl rfl (by decide +kernel) ⟨Nat.le_of_ble_eq_true rfl, Nat.le_of_ble_eq_true rfl⟩) (rr_pv hK hP (va_recv hK hP (ci := 5) (q0 := 74) rfl rl_Waves)) rfl rfl hl.1 rfl (lv_room (Nat.le_of_ble_eq_true rfl)) dX6_wave_61 ⟨Nat.le_of_ble_eq_true rfl, Nat.le_of_ble_eq_true rfl⟩) hS (fun q _ h => h) (fun q h => h) (fun σ1 t H locs ht hvm eσ1 hB hz9 hk9 hS => ?_)
    have hP := hB.1
    rw [ht] at hP
    refine W.widen (k := 5) (n := 30) (Nat.le_of_ble_eq_true rfl) (Nat.le_of_ble_eq_true rfl) ?_
    exact cx_ret (by simp only [c_waveK, hk_4, c_then_z, hk_18, c_then_z, hk_23, c_then_z, if_pos c_37]) (W.vret hx hb hr (fun t ht hW => ⟨⟨_, σ1, rfl, ⟨rfl, by subst eσ1; rfl⟩, by rw [ht]; exact hP, va_K.moved hW.alike hK⟩, hS.F ht⟩) hS.2.2 dX6_wave_64)
  · -- if_icmplt not taken
    have eK : c_waveK σ a0 b0 c0 = 3 := by simp only [c_waveK, hk_4, c_then_z, hk_18, c_then_z, hk_23, c_then_z, if_neg c_37]
    obtain ⟨sa, hstr⟩ := hT.2.2.2 ("ReplenishRules", 152, "thirty waves are told") (by decide +kernel)
    exact cx_throw (own := RX6) (cls := "java/lang/UnsupportedOperationException") (names := rr_nm) hx hb hl9 hown (by decide +kernel) rr_nm_fit (hg _ qK_X6_150) (hg _ qA_UnsupportedOperationException) (hg _ qN_UnsupportedOperationException) hstr (cx_words rr_at3 hg hT) hP0 hK hS (hl.1.trans hml.symm) dX6_wave_40 dX6_wave_43 dX6_wave_44 dX6_wave_46 dX6_wave_49 hEx hlocks (Nat.le_of_ble_eq_true rfl) (Nat.le_of_ble_eq_true rfl) (Nat.le_of_ble_eq_true rfl) (Nat.le_of_ble_eq_true rfl) (by rw [eK]; decide) (by rw [eK]; rfl) (Nat.le_of_ble_eq_true rfl) (Nat.le_of_ble_eq_true rfl)

set_option maxHeartbeats 600000 in
set_option maxRecDepth 100000 in
theorem m_ReplenishRules_open (l : Launch) (hl9 : l.stackTraces = false) (G : va_G) (cA : Nat → ClassId) (ad : Nat → Nat) (σ : St) (hJ : rr_inj ad) (a0 : Int32) (b0 : Int32) : cx_Met (rrA ad) l yX6_open wX6_open ({ frames := 7, cells := 2, slots := 12, locals := 113 }) [.ref (ad 66), .int a0, .int b0] G cA ad σ (c_openK σ a0) (fun v τ => v = none ∧ τ = c_openS σ a0 b0) 2 12 := by
  refine cx_ofW (cc := cX6_open) (maxL := 3) (ret := none) (by decide) ?_
  intro p e s m args below meth c s₁ B hml hEx hv
  obtain ⟨rfl, hP, hK, hT⟩ := hv
  have hx := B.exec
  have hb := B.bytes
  have hr := B.returns
  have hts := atoms_spec (ws := wX6_open :: wG) B.pre
  have hg : ∀ w ∈ wG, w.before _ s = true := fun w h => hts w (List.mem_cons_of_mem _ h)
  have hown : s.vm.findClass RX6 = some m.cls := findClass_of_methodNamed B.named
  have hlocks := B.notSynchronized
  have hS : va_S (rrA ad) s.heap s.heap [] := va_S.rf
  have hP0 := hP
  have hl := lv_entry ([.ref (ad 66), .int a0, .int b0]) (n := 3) (Nat.le_of_ble_eq_true rfl)
  rw [lg_entry_eq]
  generalize (lg_sl ([.ref (ad 66), .int a0, .int b0]) ++ List.replicate (3 - (lg_sl ([.ref (ad 66), .int a0, .int b0])).length) Slot.unset).toArray = ls at hl ⊢
  have hl : lv_has ls 3 [(0, .ref (ad 66)), (1, .int a0), (2, .int b0)] := hl
  refine lv_iload_n hx hb dX6_open_0 rfl (lv_at hl 1 rfl) ?_
  refine lv_iconst (v := 0) hx hb dX6_open_1 (by decide) ?_
  refine lv_sipush (v := 399) hx hb dX6_open_2 (by decide) ?_
  refine cx_callS (As := [.int a0, .int 0, .int 399]) (rest := []) ⟨hx, hb, hml, hown, hg⟩ (m_ReplenishRules_checkRange l hl9 G cA ad σ hJ a0 0 399) (cwS 3 hg (gS qM_X6_61 qT_X6_checkRange qN_X6 kX6_checkRange) rfl rfl rfl (by decide +kernel) ⟨Nat.le_of_ble_eq_true rfl, Nat.le_of_ble_eq_true rfl⟩) hK hP hT (fun _ h => h) hS  rfl hl.1 rfl (lv_room (Nat.le_of_ble_eq_true rfl)) dX6_open_5 ⟨Nat.le_of_ble_eq_true rfl, Nat.le_of_ble_eq_true rfl⟩ hEx hlocks (Nat.le_of_ble_eq_true rfl) (Nat.le_of_ble_eq_true rfl) (fun hk_5 => by simp only [c_openK, c_then_n hk_5]) (fun hk_5 v9 τ9 H hR hP hS _ => ?_)
  obtain ⟨rfl, hτ9⟩ := hR
  rw [hτ9] at hP
  show W _ _ _ _ _ _ _ _ _ _ _ _ _ _ _ (F0 m 8 ls [])
  refine W.widen (k := 1) (n := 6) (Nat.le_of_ble_eq_true rfl) (Nat.le_of_ble_eq_true rfl) ?_
  refine lv_iload_n hx hb dX6_open_8 rfl (lv_at hl 1 rfl) ?_
  refine lv_aload_n hx hb dX6_open_9 rfl (lv_at hl 0 rfl) ?_
  refine va_get (D := G) (ci := 6) (v := .ref (ad 72)) (C := RX6) (T := TX6) (N := 8) hx hb hg hinX6 hown hK hP 66 rl_main rfl 5 (by decide) (hg _ qF_X6_34) (fun _ h9 => h9) rfl dX6_open_10 ?_
  refine va_get (D := G) (ci := 0) (v := .int (σ 40 0)) (C := RX0) (T := TX0) (N := 2) hx hb hg hinX0 hown hK hP 72 rl_Calendar rfl 1 (by decide) (hg _ qF_X6_125) (fun _ h9 => h9) rfl dX6_open_13 ?_
  refine lv_icmp_ge (tgt := 29) hx hb dX6_open_16 (by decide) (fun c_16 => ?_) (fun c_16 => ?_)
  · -- if_icmpge taken
    refine lv_aload_n hx hb dX6_open_29 rfl (lv_at hl 0 rfl) ?_
    refine va_get (D := G) (ci := 6) (v := .ref (ad 72)) (C := RX6) (T := TX6) (N := 8) hx hb hg hinX6 hown hK hP 66 rl_main rfl 5 (by decide) (hg _ qF_X6_34) (fun _ h9 => h9) rfl dX6_open_30 ?_
    refine va_get (D := G) (ci := 0) (v := .ref (ad 73)) (C := RX0) (T := TX0) (N := 2) hx hb hg hinX0 hown hK hP 72 rl_Calendar rfl 0 (by decide) (hg _ qF_X6_163) (fun _ h9 => h9) rfl dX6_open_33 ?_
    refine lv_iload_n hx hb dX6_open_36 rfl (lv_at hl 1 rfl) ?_
    refine lv_iload_n hx hb dX6_open_37 rfl (lv_at hl 2 rfl) ?_
    refine lv_if_ne (tgt := 45) hx hb dX6_open_38 (by decide) (fun c_38 => ?_) (fun c_38 => ?_)
    · -- ifne taken
      refine lv_iconst (v := 0) hx hb dX6_open_45 (by decide) ?_
      refine pp_zast (x := 0) hx hb hK hP (rr_D hJ) hS 73 1 rl_closedA rfl (by decide) (rg_in (b := 399) rfl hk_5) (rs_closedA) dX6_open_46 (fun H locs hP hS => ?_)
      obtain ⟨σ1, eσ1⟩ : ∃ z, z = up σ 33 (nx a0) 0 := ⟨_, rfl⟩
      rw [← eσ1] at hP
      refine W.widen (k := 2) (n := 12) (Nat.le_of_ble_eq_true rfl) (Nat.le_of_ble_eq_true rfl) ?_
      exact cx_ret (by simp only [c_openK, hk_5, c_then_z, if_pos c_16, if_neg c_38]) (W.vret hx hb hr (fun t ht hW => ⟨⟨_, σ1, rfl, ⟨rfl, by subst eσ1; simp only [c_openS, if_neg c_38]⟩, by rw [ht]; exact hP, va_K.moved hW.alike hK⟩, hS.F ht⟩) hS.2.2 dX6_open_47)
    · -- ifne not taken
      refine lv_iconst (v := 1) hx hb dX6_open_41 (by decide) ?_
      refine lv_goto (tgt := 46) hx hb dX6_open_42 (by decide) ?_
      refine pp_zast (x := 1) hx hb hK hP (rr_D hJ) hS 73 1 rl_closedA rfl (by decide) (rg_in (b := 399) rfl hk_5) (rs_closedA) dX6_open_46 (fun H locs hP hS => ?_)
      obtain ⟨σ1, eσ1⟩ : ∃ z, z = up σ 33 (nx a0) 1 := ⟨_, rfl⟩
      rw [← eσ1] at hP
      refine W.widen (k := 2) (n := 12) (Nat.le_of_ble_eq_true rfl) (Nat.le_of_ble_eq_true rfl) ?_
      exact cx_ret (by simp only [c_openK, hk_5, c_then_z, if_pos c_16, if_pos c_38]) (W.vret hx hb hr (fun t ht hW => ⟨⟨_, σ1, rfl, ⟨rfl, by subst eσ1; simp only [c_openS, if_pos c_38]⟩, by rw [ht]; exact hP, va_K.moved hW.alike hK⟩, hS.F ht⟩) hS.2.2 dX6_open_47)
  · -- if_icmpge not taken
    have eK : c_openK σ a0 = 2 := by simp only [c_openK, hk_5, c_then_z, if_neg c_16]
    obtain ⟨sa, hstr⟩ := hT.2.2.2 ("ReplenishRules", 161, "the day is before today") (by decide +kernel)
    exact cx_throw (own := RX6) (cls := "java/lang/IllegalStateException") (names := rr_nm) hx hb hl9 hown (by decide +kernel) rr_nm_fit (hg _ qK_X6_72) (hg _ qA_IllegalStateException) (hg _ qN_IllegalStateException) hstr (cx_words rr_at2 hg hT) hP0 hK hS (hl.1.trans hml.symm) dX6_open_19 dX6_open_22 dX6_open_23 dX6_open_25 dX6_open_28 hEx hlocks (Nat.le_of_ble_eq_true rfl) (Nat.le_of_ble_eq_true rfl) (Nat.le_of_ble_eq_true rfl) (Nat.le_of_ble_eq_true rfl) (by rw [eK]; decide) (by rw [eK]; rfl) (Nat.le_of_ble_eq_true rfl) (Nat.le_of_ble_eq_true rfl)

set_option maxHeartbeats 600000 in
set_option maxRecDepth 100000 in
theorem m_ReplenishRules_day (l : Launch) (hl9 : l.stackTraces = false) (G : va_G) (cA : Nat → ClassId) (ad : Nat → Nat) (σ : St) (hJ : rr_inj ad) (a0 : Int32) : cx_Met (rrA ad) l yX6_day wX6_day ({ frames := 7, cells := 1, slots := 6, locals := 113 }) [.ref (ad 66), .int a0] G cA ad σ (c_dayK σ a0) (fun v τ => v = none ∧ τ = c_dayS σ a0) 1 6 := by
  refine cx_ofW (cc := cX6_day) (maxL := 2) (ret := none) (by decide) ?_
  intro p e s m args below meth c s₁ B hml hEx hv
  obtain ⟨rfl, hP, hK, hT⟩ := hv
  have hx := B.exec
  have hb := B.bytes
  have hr := B.returns
  have hts := atoms_spec (ws := wX6_day :: wG) B.pre
  have hg : ∀ w ∈ wG, w.before _ s = true := fun w h => hts w (List.mem_cons_of_mem _ h)
  have hown : s.vm.findClass RX6 = some m.cls := findClass_of_methodNamed B.named
  have hlocks := B.notSynchronized
  have hS : va_S (rrA ad) s.heap s.heap [] := va_S.rf
  have hP0 := hP
  have hl := lv_entry ([.ref (ad 66), .int a0]) (n := 2) (Nat.le_of_ble_eq_true rfl)
  rw [lg_entry_eq]
  generalize (lg_sl ([.ref (ad 66), .int a0]) ++ List.replicate (2 - (lg_sl ([.ref (ad 66), .int a0])).length) Slot.unset).toArray = ls at hl ⊢
  have hl : lv_has ls 2 [(0, .ref (ad 66)), (1, .int a0)] := hl
  refine lv_iload_n hx hb dX6_day_0 rfl (lv_at hl 1 rfl) ?_
  refine lv_aload_n hx hb dX6_day_1 rfl (lv_at hl 0 rfl) ?_
  refine va_get (D := G) (ci := 6) (v := .ref (ad 72)) (C := RX6) (T := TX6) (N := 8) hx hb hg hinX6 hown hK hP 66 rl_main rfl 5 (by decide) (hg _ qF_X6_34) (fun _ h9 => h9) rfl dX6_day_2 ?_
  refine va_get (D := G) (ci := 0) (v := .int (σ 40 0)) (C := RX0) (T := TX0) (N := 2) hx hb hg hinX0 hown hK hP 72 rl_Calendar rfl 1 (by decide) (hg _ qF_X6_125) (fun _ h9 => h9) rfl dX6_day_5 ?_
  refine lv_sipush (v := 399) hx hb dX6_day_8 (by decide) ?_
  refine cx_callS (As := [.int a0, .int (σ 40 0), .int 399]) (rest := []) ⟨hx, hb, hml, hown, hg⟩ (m_ReplenishRules_checkRange l hl9 G cA ad σ hJ a0 (σ 40 0) 399) (cwS 3 hg (gS qM_X6_61 qT_X6_checkRange qN_X6 kX6_checkRange) rfl rfl rfl (by decide +kernel) ⟨Nat.le_of_ble_eq_true rfl, Nat.le_of_ble_eq_true rfl⟩) hK hP hT (fun _ h => h) hS  rfl hl.1 rfl (lv_room (Nat.le_of_ble_eq_true rfl)) dX6_day_11 ⟨Nat.le_of_ble_eq_true rfl, Nat.le_of_ble_eq_true rfl⟩ hEx hlocks (Nat.le_of_ble_eq_true rfl) (Nat.le_of_ble_eq_true rfl) (fun hk_11 => by simp only [c_dayK, c_then_n hk_11]) (fun hk_11 v9 τ9 H hR hP hS _ => ?_)
  obtain ⟨rfl, hτ9⟩ := hR
  rw [hτ9] at hP
  show W _ _ _ _ _ _ _ _ _ _ _ _ _ _ _ (F0 m 14 ls [])
  refine W.widen (k := 1) (n := 6) (Nat.le_of_ble_eq_true rfl) (Nat.le_of_ble_eq_true rfl) ?_
  refine lv_aload_n hx hb dX6_day_14 rfl (lv_at hl 0 rfl) ?_
  refine va_get (D := G) (ci := 6) (v := .ref (ad 72)) (C := RX6) (T := TX6) (N := 8) hx hb hg hinX6 hown hK hP 66 rl_main rfl 5 (by decide) (hg _ qF_X6_34) (fun _ h9 => h9) rfl dX6_day_15 ?_
  refine lv_iload_n hx hb dX6_day_18 rfl (lv_at hl 1 rfl) ?_
  refine pp_put (D := G) (ci := 0) (v := .int a0) (ty := .int) (C := RX0) (T := TX0) (N := 2) hx hb hg hinX0 tyX0 tyX0_ok nmX0 hown hK hP (rr_D hJ) hS 72 rl_Calendar rfl 1 (by decide) (hg _ qF_X6_125) (fun _ h9 => h9) rfl (by decide +kernel) rfl rfl (Nat.le_of_ble_eq_true rfl) (rs_Calendar_today) dX6_day_19 (fun H locs hP hS => ?_)
  obtain ⟨σ1, eσ1⟩ : ∃ z, z = up σ 40 0 a0 := ⟨_, rfl⟩
  rw [← eσ1] at hP
  refine W.widen (k := 1) (n := 6) (Nat.le_of_ble_eq_true rfl) (Nat.le_of_ble_eq_true rfl) ?_
  exact cx_ret (by simp only [c_dayK, hk_11, c_then_z]) (W.vret hx hb hr (fun t ht hW => ⟨⟨_, σ1, rfl, ⟨rfl, by subst eσ1; rfl⟩, by rw [ht]; exact hP, va_K.moved hW.alike hK⟩, hS.F ht⟩) hS.2.2 dX6_day_22)

set_option maxHeartbeats 600000 in
set_option maxRecDepth 100000 in
theorem m_ReplenishRules_mean (l : Launch) (hl9 : l.stackTraces = false) (G : va_G) (cA : Nat → ClassId) (ad : Nat → Nat) (σ : St) (hJ : rr_inj ad) (hI : Inv σ) (a0 : Int32) (b0 : Int32) : cx_Met (rrA ad) l yX6_mean wX6_mean ({ frames := 9, cells := 4, slots := 24, locals := 156 }) [.ref (ad 66), .int a0, .int b0] G cA ad σ (c_meanK σ a0 b0) (fun v τ => v = some (.int (c_meanR σ a0 b0)) ∧ τ = σ) 4 24 := by
  refine cx_ofW (cc := cX6_mean) (maxL := 5) (ret := (some .int)) (by decide) ?_
  intro p e s m args below meth c s₁ B hml hEx hv
  obtain ⟨rfl, hP, hK, hT⟩ := hv
  have hx := B.exec
  have hb := B.bytes
  have hr := B.returns
  have hts := atoms_spec (ws := wX6_mean :: wG) B.pre
  have hg : ∀ w ∈ wG, w.before _ s = true := fun w h => hts w (List.mem_cons_of_mem _ h)
  have hown : s.vm.findClass RX6 = some m.cls := findClass_of_methodNamed B.named
  have hlocks := B.notSynchronized
  have hS : va_S (rrA ad) s.heap s.heap [] := va_S.rf
  have hP0 := hP
  have hl := lv_entry ([.ref (ad 66), .int a0, .int b0]) (n := 5) (Nat.le_of_ble_eq_true rfl)
  rw [lg_entry_eq]
  generalize (lg_sl ([.ref (ad 66), .int a0, .int b0]) ++ List.replicate (5 - (lg_sl ([.ref (ad 66), .int a0, .int b0])).length) Slot.unset).toArray = ls at hl ⊢
  have hl : lv_has ls 5 [(0, .ref (ad 66)), (1, .int a0), (2, .int b0)] := hl
  refine lv_iload_n hx hb dX6_mean_0 rfl (lv_at hl 2 rfl) ?_
  refine lv_iconst (v := 0) hx hb dX6_mean_1 (by decide) ?_
  refine lv_bipush (v := 60) hx hb dX6_mean_2 (by decide) ?_
  refine cx_callS (As := [.int b0, .int 0, .int 60]) (rest := []) ⟨hx, hb, hml, hown, hg⟩ (m_ReplenishRules_checkRange l hl9 G cA ad σ hJ b0 0 60) (cwS 3 hg (gS qM_X6_61 qT_X6_checkRange qN_X6 kX6_checkRange) rfl rfl rfl (by decide +kernel) ⟨Nat.le_of_ble_eq_true rfl, Nat.le_of_ble_eq_true rfl⟩) hK hP hT (fun _ h => h) hS  rfl hl.1 rfl (lv_room (Nat.le_of_ble_eq_true rfl)) dX6_mean_4 ⟨Nat.le_of_ble_eq_true rfl, Nat.le_of_ble_eq_true rfl⟩ hEx hlocks (Nat.le_of_ble_eq_true rfl) (Nat.le_of_ble_eq_true rfl) (fun hk_4 => by simp only [c_meanK, c_then_n hk_4]) (fun hk_4 v9 τ9 H hR hP hS _ => ?_)
  obtain ⟨rfl, hτ9⟩ := hR
  rw [hτ9] at hP
  show W _ _ _ _ _ _ _ _ _ _ _ _ _ _ _ (F0 m 7 ls [])
  refine W.widen (k := 1) (n := 6) (Nat.le_of_ble_eq_true rfl) (Nat.le_of_ble_eq_true rfl) ?_
  refine lv_aload_n hx hb dX6_mean_7 rfl (lv_at hl 0 rfl) ?_
  refine lv_iload_n hx hb dX6_mean_8 rfl (lv_at hl 1 rfl) ?_
  refine cx_callV (As := [.int a0]) (rest := []) ⟨hx, hb, hml, hown, hg⟩ (m_ReplenishRules_faceAt l hl9 G cA ad σ hJ a0) (cwV 1 hg (gV qM_X6_110 qI_X6_faceAt qS_X6_faceAt qN_X6 kX6_faceAt) rfl rfl rfl (by decide +kernel) ⟨Nat.le_of_ble_eq_true rfl, Nat.le_of_ble_eq_true rfl⟩) hK hP hT (fun _ h => h) hS (va_recv hK hP (ci := 6) (q0 := 66) rfl rl_main) rfl hl.1 rfl (lv_room (Nat.le_of_ble_eq_true rfl)) dX6_mean_9 ⟨Nat.le_of_ble_eq_true rfl, Nat.le_of_ble_eq_true rfl⟩ hEx hlocks (Nat.le_of_ble_eq_true rfl) (Nat.le_of_ble_eq_true rfl) (fun hk_9 => by simp only [c_meanK, hk_4, c_then_z, c_then_n hk_9]) (fun hk_9 v9 τ9 H hR hP hS _ => ?_)
  obtain ⟨rfl, hτ9⟩ := hR
  rw [hτ9] at hP
  show W _ _ _ _ _ _ _ _ _ _ _ _ _ _ _ (F0 m 12 ls [.ref (ad (nx a0))])
  refine W.widen (k := 3) (n := 18) (Nat.le_of_ble_eq_true rfl) (Nat.le_of_ble_eq_true rfl) ?_
  refine lv_astore_n (lv' := [(3, .ref (ad (nx a0))), (0, .ref (ad 66)), (1, .int a0), (2, .int b0)]) hx hb dX6_mean_12 rfl hl (by decide) rfl (fun ls hl => ?_)
  refine lv_aload_n hx hb dX6_mean_13 rfl (lv_at hl 1 rfl) ?_
  refine va_get (D := G) (ci := 6) (v := .ref (ad 72)) (C := RX6) (T := TX6) (N := 8) hx hb hg hinX6 hown hK hP 66 rl_main rfl 5 (by decide) (hg _ qF_X6_34) (fun _ h9 => h9) rfl dX6_mean_14 ?_
  refine lv_iload_n hx hb dX6_mean_17 rfl (lv_at hl 3 rfl) ?_
  refine vp_callSi (W.runV (As := [.int b0]) (rest := []) ⟨hx, hb, hml, hown, hg⟩ (m_Calendar_openDays l G cA ad σ b0 (inv_today hI) (rg0 hk_4)) (cwV 1 hg (gV qM_X6_167 qI_X0_openDays qS_X0_openDays qN_X0 kX0_openDays) rfl rfl rfl (by decide +kernel) ⟨Nat.le_of_ble_eq_true rfl, Nat.le_of_ble_eq_true rfl⟩) (rr_pv hK hP (va_recv hK hP (ci := 0) (q0 := 72) rfl rl_Calendar)) rfl rfl hl.1 rfl (lv_room (Nat.le_of_ble_eq_true rfl)) dX6_mean_18 ⟨Nat.le_of_ble_eq_true rfl, Nat.le_of_ble_eq_true rfl⟩) (nm_e ?_)
  refine lv_istore (lv' := [(4, .int (c_openDays σ b0)), (3, .ref (ad (nx a0))), (0, .ref (ad 66)), (1, .int a0), (2, .int b0)]) hx hb dX6_mean_21 hl (by decide) rfl (fun ls hl => ?_)
  refine lv_iload hx hb dX6_mean_23 (lv_at hl 0 rfl) ?_
  refine lv_if_ne (tgt := 38) hx hb dX6_mean_25 (by decide) (fun c_25 => ?_) (fun c_25 => ?_)
  · -- ifne taken
    refine lv_aload_n hx hb dX6_mean_38 rfl (lv_at hl 2 rfl) ?_
    refine lv_aload_n hx hb dX6_mean_39 rfl (lv_at hl 1 rfl) ?_
    refine lv_iload_n hx hb dX6_mean_40 rfl (lv_at hl 4 rfl) ?_
    refine vp_callSl (W.runV (As := [.ref (ad (nx a0)), .int b0]) (rest := []) ⟨hx, hb, hml, hown, hg⟩ (m_ReplenishRules_usedOnAllDays l G cA ad σ (nx a0) (vp_lt (placeAt_in (faceAt_place hk_9).1)) b0 (inv_today hI) (rg0 hk_4)) (cwV 2 hg (gV qM_X6_176 qI_X6_usedOnAllDays qS_X6_usedOnAllDays qN_X6 kX6_usedOnAllDays) rfl rfl rfl (by decide +kernel) ⟨Nat.le_of_ble_eq_true rfl, Nat.le_of_ble_eq_true rfl⟩) (rr_pv hK hP (va_recv hK hP (ci := 6) (q0 := 66) rfl rl_main)) rfl rfl hl.1 rfl (lv_room (Nat.le_of_ble_eq_true rfl)) dX6_mean_41 ⟨Nat.le_of_ble_eq_true rfl, Nat.le_of_ble_eq_true rfl⟩) (nm_e ?_)
    refine lv_iload hx hb dX6_mean_44 (lv_at hl 0 rfl) ?_
    refine lv_i2l (v := (c_openDays σ b0).toInt64) hx hb dX6_mean_46 rfl ?_
    refine lv_ldiv hx hb dX6_mean_47 (toInt64_ne c_25) ?_
    refine lv_l2i (v := ((c_usedAll σ (nx a0) b0) / ((c_openDays σ b0).toInt64)).toInt32) hx hb dX6_mean_48 rfl ?_
    refine W.widen (k := 4) (n := 24) (Nat.le_of_ble_eq_true rfl) (Nat.le_of_ble_eq_true rfl) ?_
    exact cx_ret (by simp only [c_meanK, hk_4, c_then_z, hk_9, c_then_z, if_neg c_25]) (W.iret (v := ((c_usedAll σ (nx a0) b0) / ((c_openDays σ b0).toInt64)).toInt32) hx hb hr (fun t ht hW => ⟨⟨_, σ, rfl, ⟨rfl, rfl⟩, by rw [ht]; exact hP, va_K.moved hW.alike hK⟩, hS.F ht⟩) hS.2.2 dX6_mean_49)
  · -- ifne not taken
    have eK : c_meanK σ a0 b0 = 5 := by simp only [c_meanK, hk_4, c_then_z, hk_9, c_then_z, if_pos c_25]
    obtain ⟨sa, hstr⟩ := hT.2.2.2 ("ReplenishRules", 173, "none of the days was open") (by decide +kernel)
    exact cx_throw (own := RX6) (cls := "java/lang/ArithmeticException") (names := rr_nm) hx hb hl9 hown (by decide +kernel) rr_nm_fit (hg _ qK_X6_171) (hg _ qA_ArithmeticException) (hg _ qN_ArithmeticException) hstr (cx_words rr_at5 hg hT) hP0 hK hS (hl.1.trans hml.symm) dX6_mean_28 dX6_mean_31 dX6_mean_32 dX6_mean_34 dX6_mean_37 hEx hlocks (Nat.le_of_ble_eq_true rfl) (Nat.le_of_ble_eq_true rfl) (Nat.le_of_ble_eq_true rfl) (Nat.le_of_ble_eq_true rfl) (by rw [eK]; decide) (by rw [eK]; rfl) (Nat.le_of_ble_eq_true rfl) (Nat.le_of_ble_eq_true rfl)

set_option maxHeartbeats 600000 in
set_option maxRecDepth 100000 in
theorem m_ReplenishRules_forecast (l : Launch) (hl9 : l.stackTraces = false) (G : va_G) (cA : Nat → ClassId) (ad : Nat → Nat) (σ : St) (hJ : rr_inj ad) (hI : Inv σ) (a0 : Int32) : cx_Met (rrA ad) l yX6_forecast wX6_forecast ({ frames := 9, cells := 2, slots := 12, locals := 156 }) [.ref (ad 66), .int a0] G cA ad σ (c_faceAt σ a0) (fun v τ => v = some (.long (c_forecastOf σ (nx a0))) ∧ τ = σ) 2 12 := by
  refine cx_ofW (cc := cX6_forecast) (maxL := 2) (ret := (some .long)) (by decide) ?_
  intro p e s m args below meth c s₁ B hml hEx hv
  obtain ⟨rfl, hP, hK, hT⟩ := hv
  have hx := B.exec
  have hb := B.bytes
  have hr := B.returns
  have hts := atoms_spec (ws := wX6_forecast :: wG) B.pre
  have hg : ∀ w ∈ wG, w.before _ s = true := fun w h => hts w (List.mem_cons_of_mem _ h)
  have hown : s.vm.findClass RX6 = some m.cls := findClass_of_methodNamed B.named
  have hlocks := B.notSynchronized
  have hS : va_S (rrA ad) s.heap s.heap [] := va_S.rf
  have hP0 := hP
  have hl := lv_entry ([.ref (ad 66), .int a0]) (n := 2) (Nat.le_of_ble_eq_true rfl)
  rw [lg_entry_eq]
  generalize (lg_sl ([.ref (ad 66), .int a0]) ++ List.replicate (2 - (lg_sl ([.ref (ad 66), .int a0])).length) Slot.unset).toArray = ls at hl ⊢
  have hl : lv_has ls 2 [(0, .ref (ad 66)), (1, .int a0)] := hl
  refine lv_aload_n hx hb dX6_forecast_0 rfl (lv_at hl 0 rfl) ?_
  refine lv_aload_n hx hb dX6_forecast_1 rfl (lv_at hl 0 rfl) ?_
  refine lv_iload_n hx hb dX6_forecast_2 rfl (lv_at hl 1 rfl) ?_
  refine cx_callV (As := [.int a0]) (rest := [.ref (ad 66)]) ⟨hx, hb, hml, hown, hg⟩ (m_ReplenishRules_faceAt l hl9 G cA ad σ hJ a0) (cwV 1 hg (gV qM_X6_110 qI_X6_faceAt qS_X6_faceAt qN_X6 kX6_faceAt) rfl rfl rfl (by decide +kernel) ⟨Nat.le_of_ble_eq_true rfl, Nat.le_of_ble_eq_true rfl⟩) hK hP hT (fun _ h => h) hS (va_recv hK hP (ci := 6) (q0 := 66) rfl rl_main) rfl hl.1 rfl (lv_room (Nat.le_of_ble_eq_true rfl)) dX6_forecast_3 ⟨Nat.le_of_ble_eq_true rfl, Nat.le_of_ble_eq_true rfl⟩ hEx hlocks (Nat.le_of_ble_eq_true rfl) (Nat.le_of_ble_eq_true rfl) (fun _ => rfl) (fun hk_3 v9 τ9 H hR hP hS _ => ?_)
  obtain ⟨rfl, hτ9⟩ := hR
  rw [hτ9] at hP
  show W _ _ _ _ _ _ _ _ _ _ _ _ _ _ _ (F0 m 6 ls [.ref (ad (nx a0)), .ref (ad 66)])
  refine W.widen (k := 2) (n := 12) (Nat.le_of_ble_eq_true rfl) (Nat.le_of_ble_eq_true rfl) ?_
  refine vp_callSl (W.runV (As := [.ref (ad (nx a0))]) (rest := []) ⟨hx, hb, hml, hown, hg⟩ (m_ReplenishRules_forecastOf l G cA ad σ hI (nx a0) (vp_lt (placeAt_in (faceAt_place hk_3).1))) (cwV 1 hg (gV qM_X6_180 qI_X6_forecastOf qS_X6_forecastOf qN_X6 kX6_forecastOf) rfl rfl rfl (by decide +kernel) ⟨Nat.le_of_ble_eq_true rfl, Nat.le_of_ble_eq_true rfl⟩) (rr_pv hK hP (va_recv hK hP (ci := 6) (q0 := 66) rfl rl_main)) rfl rfl hl.1 rfl (lv_room (Nat.le_of_ble_eq_true rfl)) dX6_forecast_6 ⟨Nat.le_of_ble_eq_true rfl, Nat.le_of_ble_eq_true rfl⟩) (nm_e ?_)
  refine W.widen (k := 2) (n := 12) (Nat.le_of_ble_eq_true rfl) (Nat.le_of_ble_eq_true rfl) ?_
  exact cx_ret (hk_3) (W.lret (v := c_forecastOf σ (nx a0)) hx hb hr (fun t ht hW => ⟨⟨_, σ, rfl, ⟨rfl, rfl⟩, by rw [ht]; exact hP, va_K.moved hW.alike hK⟩, hS.F ht⟩) hS.2.2 dX6_forecast_9)

set_option maxHeartbeats 600000 in
set_option maxRecDepth 100000 in
theorem m_ReplenishRules_threshold (l : Launch) (hl9 : l.stackTraces = false) (G : va_G) (cA : Nat → ClassId) (ad : Nat → Nat) (σ : St) (hJ : rr_inj ad) (hI : Inv σ) (a0 : Int32) : cx_Met (rrA ad) l yX6_threshold wX6_threshold ({ frames := 9, cells := 2, slots := 12, locals := 156 }) [.ref (ad 66), .int a0] G cA ad σ (c_faceAt σ a0) (fun v τ => v = some (.int (c_thresholdOf σ (nx a0))) ∧ τ = σ) 2 12 := by
  refine cx_ofW (cc := cX6_threshold) (maxL := 2) (ret := (some .int)) (by decide) ?_
  intro p e s m args below meth c s₁ B hml hEx hv
  obtain ⟨rfl, hP, hK, hT⟩ := hv
  have hx := B.exec
  have hb := B.bytes
  have hr := B.returns
  have hts := atoms_spec (ws := wX6_threshold :: wG) B.pre
  have hg : ∀ w ∈ wG, w.before _ s = true := fun w h => hts w (List.mem_cons_of_mem _ h)
  have hown : s.vm.findClass RX6 = some m.cls := findClass_of_methodNamed B.named
  have hlocks := B.notSynchronized
  have hS : va_S (rrA ad) s.heap s.heap [] := va_S.rf
  have hP0 := hP
  have hl := lv_entry ([.ref (ad 66), .int a0]) (n := 2) (Nat.le_of_ble_eq_true rfl)
  rw [lg_entry_eq]
  generalize (lg_sl ([.ref (ad 66), .int a0]) ++ List.replicate (2 - (lg_sl ([.ref (ad 66), .int a0])).length) Slot.unset).toArray = ls at hl ⊢
  have hl : lv_has ls 2 [(0, .ref (ad 66)), (1, .int a0)] := hl
  refine lv_aload_n hx hb dX6_threshold_0 rfl (lv_at hl 0 rfl) ?_
  refine lv_aload_n hx hb dX6_threshold_1 rfl (lv_at hl 0 rfl) ?_
  refine lv_iload_n hx hb dX6_threshold_2 rfl (lv_at hl 1 rfl) ?_
  refine cx_callV (As := [.int a0]) (rest := [.ref (ad 66)]) ⟨hx, hb, hml, hown, hg⟩ (m_ReplenishRules_faceAt l hl9 G cA ad σ hJ a0) (cwV 1 hg (gV qM_X6_110 qI_X6_faceAt qS_X6_faceAt qN_X6 kX6_faceAt) rfl rfl rfl (by decide +kernel) ⟨Nat.le_of_ble_eq_true rfl, Nat.le_of_ble_eq_true rfl⟩) hK hP hT (fun _ h => h) hS (va_recv hK hP (ci := 6) (q0 := 66) rfl rl_main) rfl hl.1 rfl (lv_room (Nat.le_of_ble_eq_true rfl)) dX6_threshold_3 ⟨Nat.le_of_ble_eq_true rfl, Nat.le_of_ble_eq_true rfl⟩ hEx hlocks (Nat.le_of_ble_eq_true rfl) (Nat.le_of_ble_eq_true rfl) (fun _ => rfl) (fun hk_3 v9 τ9 H hR hP hS _ => ?_)
  obtain ⟨rfl, hτ9⟩ := hR
  rw [hτ9] at hP
  show W _ _ _ _ _ _ _ _ _ _ _ _ _ _ _ (F0 m 6 ls [.ref (ad (nx a0)), .ref (ad 66)])
  refine W.widen (k := 2) (n := 12) (Nat.le_of_ble_eq_true rfl) (Nat.le_of_ble_eq_true rfl) ?_
  refine vp_callSi (W.runV (As := [.ref (ad (nx a0))]) (rest := []) ⟨hx, hb, hml, hown, hg⟩ (m_ReplenishRules_thresholdOf l G cA ad σ hI (nx a0) (vp_lt (placeAt_in (faceAt_place hk_3).1))) (cwV 1 hg (gV qM_X6_184 qI_X6_thresholdOf qS_X6_thresholdOf qN_X6 kX6_thresholdOf) rfl rfl rfl (by decide +kernel) ⟨Nat.le_of_ble_eq_true rfl, Nat.le_of_ble_eq_true rfl⟩) (rr_pv hK hP (va_recv hK hP (ci := 6) (q0 := 66) rfl rl_main)) rfl rfl hl.1 rfl (lv_room (Nat.le_of_ble_eq_true rfl)) dX6_threshold_6 ⟨Nat.le_of_ble_eq_true rfl, Nat.le_of_ble_eq_true rfl⟩) (nm_e ?_)
  refine W.widen (k := 2) (n := 12) (Nat.le_of_ble_eq_true rfl) (Nat.le_of_ble_eq_true rfl) ?_
  exact cx_ret (hk_3) (W.iret (v := c_thresholdOf σ (nx a0)) hx hb hr (fun t ht hW => ⟨⟨_, σ, rfl, ⟨rfl, rfl⟩, by rw [ht]; exact hP, va_K.moved hW.alike hK⟩, hS.F ht⟩) hS.2.2 dX6_threshold_9)

set_option maxHeartbeats 600000 in
set_option maxRecDepth 100000 in
theorem m_ReplenishRules_above (l : Launch) (hl9 : l.stackTraces = false) (G : va_G) (cA : Nat → ClassId) (ad : Nat → Nat) (σ : St) (hJ : rr_inj ad) (hI : Inv σ) (a0 : Int32) : cx_Met (rrA ad) l yX6_above wX6_above ({ frames := 9, cells := 2, slots := 12, locals := 156 }) [.ref (ad 66), .int a0] G cA ad σ (c_faceAt σ a0) (fun v τ => v = some (.int (c_aboveR σ a0)) ∧ τ = σ) 2 12 := by
  refine cx_ofW (cc := cX6_above) (maxL := 3) (ret := (some .boolean)) (by decide) ?_
  intro p e s m args below meth c s₁ B hml hEx hv
  obtain ⟨rfl, hP, hK, hT⟩ := hv
  have hx := B.exec
  have hb := B.bytes
  have hr := B.returns
  have hts := atoms_spec (ws := wX6_above :: wG) B.pre
  have hg : ∀ w ∈ wG, w.before _ s = true := fun w h => hts w (List.mem_cons_of_mem _ h)
  have hown : s.vm.findClass RX6 = some m.cls := findClass_of_methodNamed B.named
  have hlocks := B.notSynchronized
  have hS : va_S (rrA ad) s.heap s.heap [] := va_S.rf
  have hP0 := hP
  have hl := lv_entry ([.ref (ad 66), .int a0]) (n := 3) (Nat.le_of_ble_eq_true rfl)
  rw [lg_entry_eq]
  generalize (lg_sl ([.ref (ad 66), .int a0]) ++ List.replicate (3 - (lg_sl ([.ref (ad 66), .int a0])).length) Slot.unset).toArray = ls at hl ⊢
  have hl : lv_has ls 3 [(0, .ref (ad 66)), (1, .int a0)] := hl
  refine lv_aload_n hx hb dX6_above_0 rfl (lv_at hl 0 rfl) ?_
  refine lv_iload_n hx hb dX6_above_1 rfl (lv_at hl 1 rfl) ?_
  refine cx_callV (As := [.int a0]) (rest := []) ⟨hx, hb, hml, hown, hg⟩ (m_ReplenishRules_faceAt l hl9 G cA ad σ hJ a0) (cwV 1 hg (gV qM_X6_110 qI_X6_faceAt qS_X6_faceAt qN_X6 kX6_faceAt) rfl rfl rfl (by decide +kernel) ⟨Nat.le_of_ble_eq_true rfl, Nat.le_of_ble_eq_true rfl⟩) hK hP hT (fun _ h => h) hS (va_recv hK hP (ci := 6) (q0 := 66) rfl rl_main) rfl hl.1 rfl (lv_room (Nat.le_of_ble_eq_true rfl)) dX6_above_2 ⟨Nat.le_of_ble_eq_true rfl, Nat.le_of_ble_eq_true rfl⟩ hEx hlocks (Nat.le_of_ble_eq_true rfl) (Nat.le_of_ble_eq_true rfl) (fun _ => rfl) (fun hk_2 v9 τ9 H hR hP hS _ => ?_)
  obtain ⟨rfl, hτ9⟩ := hR
  rw [hτ9] at hP
  show W _ _ _ _ _ _ _ _ _ _ _ _ _ _ _ (F0 m 5 ls [.ref (ad (nx a0))])
  refine W.widen (k := 2) (n := 12) (Nat.le_of_ble_eq_true rfl) (Nat.le_of_ble_eq_true rfl) ?_
  refine lv_astore_n (lv' := [(2, .ref (ad (nx a0))), (0, .ref (ad 66)), (1, .int a0)]) hx hb dX6_above_5 rfl hl (by decide) rfl (fun ls hl => ?_)
  refine lv_aload_n hx hb dX6_above_6 rfl (lv_at hl 1 rfl) ?_
  refine lv_aload_n hx hb dX6_above_7 rfl (lv_at hl 0 rfl) ?_
  refine vp_callSl (W.runV (As := [.ref (ad (nx a0))]) (rest := []) ⟨hx, hb, hml, hown, hg⟩ (m_ReplenishRules_needOf l G cA ad σ hI (nx a0) (vp_lt (placeAt_in (faceAt_place hk_2).1))) (cwV 1 hg (gV qM_X6_188 qI_X6_needOf qS_X6_needOf qN_X6 kX6_needOf) rfl rfl rfl (by decide +kernel) ⟨Nat.le_of_ble_eq_true rfl, Nat.le_of_ble_eq_true rfl⟩) (rr_pv hK hP (va_recv hK hP (ci := 6) (q0 := 66) rfl rl_main)) rfl rfl hl.1 rfl (lv_room (Nat.le_of_ble_eq_true rfl)) dX6_above_8 ⟨Nat.le_of_ble_eq_true rfl, Nat.le_of_ble_eq_true rfl⟩) (nm_e ?_)
  refine lv_aload_n hx hb dX6_above_11 rfl (lv_at hl 0 rfl) ?_
  refine va_get (D := G) (ci := 2) (v := .int (σ 0 (nx a0))) (C := RX2) (T := TX2) (N := 13) hx hb hg hinX2 hown hK hP (nx a0) (rl_Place (vp_lt (placeAt_in (faceAt_place hk_2).1))) rfl 2 (by decide) (hg _ qF_X6_79) (fun _ h9 => h9) rfl dX6_above_12 ?_
  refine lv_i2l (v := (σ 0 (nx a0)).toInt64) hx hb dX6_above_15 rfl ?_
  refine W.lcmp hx hb dX6_above_16 ?_
  refine lv_if_le (tgt := 24) hx hb dX6_above_17 (by decide) (fun c_17 => ?_) (fun c_17 => ?_)
  · -- ifle taken
    refine lv_iconst (v := 0) hx hb dX6_above_24 (by decide) ?_
    refine W.widen (k := 2) (n := 12) (Nat.le_of_ble_eq_true rfl) (Nat.le_of_ble_eq_true rfl) ?_
    exact cx_ret (by simp only [hk_2, c_then_z, if_pos c_17]) (W.zret (v := 0) (ty := .boolean) hx hb hr (by decide) (fun t ht hW => ⟨⟨_, σ, rfl, ⟨by simp only [c_aboveR, hk_2, c_then_z, if_pos c_17], rfl⟩, by rw [ht]; exact hP, va_K.moved hW.alike hK⟩, hS.F ht⟩) hS.2.2 dX6_above_25)
  · -- ifle not taken
    refine lv_iconst (v := 1) hx hb dX6_above_20 (by decide) ?_
    refine lv_goto (tgt := 25) hx hb dX6_above_21 (by decide) ?_
    refine W.widen (k := 2) (n := 12) (Nat.le_of_ble_eq_true rfl) (Nat.le_of_ble_eq_true rfl) ?_
    exact cx_ret (by simp only [hk_2, c_then_z, if_neg c_17]) (W.zret (v := 1) (ty := .boolean) hx hb hr (by decide) (fun t ht hW => ⟨⟨_, σ, rfl, ⟨by simp only [c_aboveR, hk_2, c_then_z, if_neg c_17], rfl⟩, by rw [ht]; exact hP, va_K.moved hW.alike hK⟩, hS.F ht⟩) hS.2.2 dX6_above_25)

set_option maxHeartbeats 600000 in
set_option maxRecDepth 100000 in
theorem m_ReplenishRules_run (l : Launch) (hl9 : l.stackTraces = false) (G : va_G) (cA : Nat → ClassId) (ad : Nat → Nat) (σ : St) (hJ : rr_inj ad) (hI : Inv σ) : cx_Met (rrA ad) l yX6_run wX6_run ({ frames := 6, cells := 1, slots := 6, locals := 140 }) [.ref (ad 66)] G cA ad σ (c_runK σ) (fun v τ => v = some (.int (c_runS σ 42 0)) ∧ τ = c_runS σ) 1 6 := by
  refine cx_ofW (cc := cX6_run) (maxL := 3) (ret := (some .int)) (by decide) ?_
  intro p e s m args below meth c s₁ B hml hEx hv
  obtain ⟨rfl, hP, hK, hT⟩ := hv
  have hx := B.exec
  have hb := B.bytes
  have hr := B.returns
  have hts := atoms_spec (ws := wX6_run :: wG) B.pre
  have hg : ∀ w ∈ wG, w.before _ s = true := fun w h => hts w (List.mem_cons_of_mem _ h)
  have hown : s.vm.findClass RX6 = some m.cls := findClass_of_methodNamed B.named
  have hlocks := B.notSynchronized
  have hS : va_S (rrA ad) s.heap s.heap [] := va_S.rf
  have hP0 := hP
  have hl := lv_entry ([.ref (ad 66)]) (n := 3) (Nat.le_of_ble_eq_true rfl)
  rw [lg_entry_eq]
  generalize (lg_sl ([.ref (ad 66)]) ++ List.replicate (3 - (lg_sl ([.ref (ad 66)])).length) Slot.unset).toArray = ls at hl ⊢
  have hl : lv_has ls 3 [(0, .ref (ad 66))] := hl
  refine lv_aload_n hx hb dX6_run_0 rfl (lv_at hl 0 rfl) ?_
  refine va_get (D := G) (ci := 6) (v := .ref (ad 72)) (C := RX6) (T := TX6) (N := 8) hx hb hg hinX6 hown hK hP 66 rl_main rfl 5 (by decide) (hg _ qF_X6_34) (fun _ h9 => h9) rfl dX6_run_1 ?_
  refine lv_aload_n hx hb dX6_run_4 rfl (lv_at hl 0 rfl) ?_
  refine va_get (D := G) (ci := 6) (v := .ref (ad 72)) (C := RX6) (T := TX6) (N := 8) hx hb hg hinX6 hown hK hP 66 rl_main rfl 5 (by decide) (hg _ qF_X6_34) (fun _ h9 => h9) rfl dX6_run_5 ?_
  refine va_get (D := G) (ci := 0) (v := .int (σ 40 0)) (C := RX0) (T := TX0) (N := 2) hx hb hg hinX0 hown hK hP 72 rl_Calendar rfl 1 (by decide) (hg _ qF_X6_125) (fun _ h9 => h9) rfl dX6_run_8 ?_
  refine vp_callSi (W.runV (As := [.int (σ 40 0)]) (rest := []) ⟨hx, hb, hml, hown, hg⟩ (m_Calendar_isOpen l G cA ad σ (σ 40 0) (inv_today hI)) (cwV 1 hg (gV qM_X6_191 qI_X0_isOpen qS_X0_isOpen qN_X0 kX0_isOpen) rfl rfl rfl (by decide +kernel) ⟨Nat.le_of_ble_eq_true rfl, Nat.le_of_ble_eq_true rfl⟩) (rr_pv hK hP (va_recv hK hP (ci := 0) (q0 := 72) rfl rl_Calendar)) rfl rfl hl.1 rfl (lv_room (Nat.le_of_ble_eq_true rfl)) dX6_run_11 ⟨Nat.le_of_ble_eq_true rfl, Nat.le_of_ble_eq_true rfl⟩) (nm_e ?_)
  refine lv_if_ne (tgt := 27) hx hb dX6_run_14 (by decide) (fun c_14 => ?_) (fun c_14 => ?_)
  · -- ifne taken
    refine lv_aload_n hx hb dX6_run_27 rfl (lv_at hl 0 rfl) ?_
    refine va_get (D := G) (ci := 6) (v := .ref (ad 78)) (C := RX6) (T := TX6) (N := 8) hx hb hg hinX6 hown hK hP 66 rl_main rfl 7 (by decide) (hg _ qF_X6_48) (fun _ h9 => h9) rfl dX6_run_28 ?_
    refine va_callv (va_runV (As := []) (rest := []) ⟨hx, hb, hml, hown, hg⟩ (m_Plan_clear l G cA ad σ hJ) (cwV 0 hg (gV qM_X6_196 qI_X3_clear qS_X3_clear qN_X3 kX3_clear) rfl rfl rfl (by decide +kernel) ⟨Nat.le_of_ble_eq_true rfl, Nat.le_of_ble_eq_true rfl⟩) (rr_pv hK hP (va_recv hK hP (ci := 3) (q0 := 78) rfl rl_Plan)) rfl rfl hl.1 rfl (lv_room (Nat.le_of_ble_eq_true rfl)) dX6_run_31 ⟨Nat.le_of_ble_eq_true rfl, Nat.le_of_ble_eq_true rfl⟩) hS (fun q _ h => h) (fun q h => h) (fun σ1 t H locs ht hvm eσ1 hB hz9 hk9 hS => ?_)
    have hP := hB.1
    rw [ht] at hP
    refine lv_iconst (v := 0) hx hb dX6_run_34 (by decide) ?_
    refine lv_topi (fun y_35 ey_35 => ?_)
    obtain rfl : y_35 = nI 0 := ey_35.trans (nI_0.symm)
    refine lv_istore_n (lv' := [(1, .int (nI 0)), (0, .ref (ad 66))]) hx hb dX6_run_35 rfl hl (by decide) rfl (fun ls hl => ?_)
    have hK0 : c_runK σ = 0 := by simp only [c_runK, if_neg c_14]
    have hI1 : Inv σ1 := by rw [eσ1]; exact inv_clear hI
    refine lp_rw (f := (fun k σ => c_prepare σ (nx (nI k)))) (t := 16) (nL := 3) (fun _ σ => Inv σ) (fun k => [(1, .int (nI k)), (0, .ref (ad 66))]) 16 0 σ1 (by decide) ?_ ?_ hI1 hP hS ls (lv_sub hl [0, 1] rfl)
    · intro k σ2 H locs hk hIσ2 hP hS IH ls hl
      have hl : lv_has ls 3 [(1, .int (nI k)), (0, .ref (ad 66))] := hl
      refine lv_iload_n hx hb dX6_run_36 rfl (lv_at hl 0 rfl) ?_
      refine lv_bipush (v := 16) hx hb dX6_run_37 (by decide) ?_
      refine lv_icmp_ge (tgt := 58) hx hb dX6_run_39 (by decide) (fun c_39 => ?_) (fun c_39 => ?_)
      · -- if_icmpge taken
        exact absurd c_39 (nI_ge hk (by decide))
      · -- if_icmpge not taken
        refine lv_aload_n hx hb dX6_run_42 rfl (lv_at hl 1 rfl) ?_
        refine lv_aload_n hx hb dX6_run_43 rfl (lv_at hl 1 rfl) ?_
        refine va_get (D := G) (ci := 6) (v := .ref (ad 67)) (C := RX6) (T := TX6) (N := 8) hx hb hg hinX6 hown hK hP 66 rl_main rfl 0 (by decide) (hg _ qF_X6_11) (fun _ h9 => h9) rfl dX6_run_44 ?_
        refine lv_iload_n hx hb dX6_run_47 rfl (lv_at hl 0 rfl) ?_
        refine va_aldq hx hb hK hP 67 2 rl_placesA rfl (nI_in16 hk) dX6_run_48 ?_
        show W _ _ _ _ _ _ _ _ _ _ _ _ _ _ _ (F0 m _ ls (.ref (ad (nx (nI k))) :: [.ref (ad 66)]))
        refine va_callv (va_runV (As := [.ref (ad (nx (nI k)))]) (rest := []) ⟨hx, hb, hml, hown, hg⟩ (m_ReplenishRules_prepare l G cA ad σ2 hJ hIσ2 (nx (nI k)) (vp_lt (nI_in16 hk))) (cwV 1 hg (gV qM_X6_199 qI_X6_prepare qS_X6_prepare qN_X6 kX6_prepare) rfl rfl rfl (by decide +kernel) ⟨Nat.le_of_ble_eq_true rfl, Nat.le_of_ble_eq_true rfl⟩) (rr_pv hK hP (va_recv hK hP (ci := 6) (q0 := 66) rfl rl_main)) rfl rfl hl.1 rfl (lv_room (Nat.le_of_ble_eq_true rfl)) dX6_run_49 ⟨Nat.le_of_ble_eq_true rfl, Nat.le_of_ble_eq_true rfl⟩) hS (fun q _ h => h) (fun q h => h) (fun σ3 t H locs ht hvm eσ3 hB hz9 hk9 hS => ?_)
        have hP := hB.1
        rw [ht] at hP
        have hIσ3 : Inv σ3 := by rw [eσ3]; exact inv_prepare hIσ2 (nx (nI k))
        refine lv_iinc (v := nI (k + 1)) (lv' := [(1, .int (nI (k + 1))), (0, .ref (ad 66))]) hx hb dX6_run_52 hl (k := 0) rfl (nI_1 k) (by decide) rfl (fun ls hl => ?_)
        refine lv_goto (tgt := 36) hx hb dX6_run_55 (by decide) ?_
        have eF : c_prepare σ2 (nx (nI k)) = σ3 := by subst eσ3; simp only [if_neg c_39]
        exact IH H locs ls (by rw [eF]; exact (by rw [eσ3]; exact inv_prepare hIσ2 _)) (by rw [eF]; exact hP) hS (lv_sub hl [0, 1] rfl)
    · intro H locs hI9 hP hS ls hl
      have hl : lv_has ls 3 [(1, .int (nI 16)), (0, .ref (ad 66))] := hl
      obtain ⟨σ3, eσ3⟩ : ∃ z, z = foldN ((fun k σ => c_prepare σ (nx (nI k)))) 16 0 σ1 := ⟨_, rfl⟩
      rw [← eσ3] at hP hI9
      refine lv_iload_n hx hb dX6_run_36 rfl (lv_at hl 0 rfl) ?_
      refine lv_bipush (v := 16) hx hb dX6_run_37 (by decide) ?_
      refine lv_icmp_ge (tgt := 58) hx hb dX6_run_39 (by decide) (fun c_39 => ?_) (fun c_39 => ?_)
      · -- if_icmpge taken
        refine lv_iconst (v := 0) hx hb dX6_run_58 (by decide) ?_
        refine lv_topi (fun y_59 ey_59 => ?_)
        obtain rfl : y_59 = nI 0 := ey_59.trans (nI_0.symm)
        refine lv_istore_n (lv' := [(1, .int (nI 0)), (0, .ref (ad 66))]) hx hb dX6_run_59 rfl hl (by decide) rfl (fun ls hl => ?_)
        have hR : foldN (fun _ σ => c_runF σ) 16 0 σ3 = c_runS σ := by rw [eσ3, eσ1]; unfold c_runS; rfl
        refine lp_rw (f := (fun _ σ => c_runF σ)) (t := 16) (nL := 3) (fun k σ1 => Inv σ1 ∧ foldN (fun _ σ => c_runF σ) (16 - k) k σ1 = c_runS σ) (fun k => [(1, .int (nI k)), (0, .ref (ad 66))]) 16 0 σ3 (by decide) ?_ ?_ ⟨hI9, hR⟩ hP hS ls (lv_sub hl [0, 1] rfl)
        · intro k σ4 H locs hk hIk hP hS IH ls hl
          have hl : lv_has ls 3 [(1, .int (nI k)), (0, .ref (ad 66))] := hl
          refine lv_iload_n hx hb dX6_run_60 rfl (lv_at hl 0 rfl) ?_
          refine lv_bipush (v := 16) hx hb dX6_run_61 (by decide) ?_
          refine lv_icmp_ge (tgt := 89) hx hb dX6_run_63 (by decide) (fun c_63 => ?_) (fun c_63 => ?_)
          · -- if_icmpge taken
            exact absurd c_63 (nI_ge hk (by decide))
          · -- if_icmpge not taken
            refine lv_aload_n hx hb dX6_run_66 rfl (lv_at hl 1 rfl) ?_
            refine va_csq (W.runV (As := []) (rest := []) ⟨hx, hb, hml, hown, hg⟩ (m_ReplenishRules_mostUrgentFace l G cA ad σ4) (cwV 0 hg (gV qM_X6_203 qI_X6_mostUrgentFace qS_X6_mostUrgentFace qN_X6 kX6_mostUrgentFace) rfl rfl rfl (by decide +kernel) ⟨Nat.le_of_ble_eq_true rfl, Nat.le_of_ble_eq_true rfl⟩) (rr_pv hK hP (va_recv hK hP (ci := 6) (q0 := 66) rfl rl_main)) rfl rfl hl.1 rfl (lv_room (Nat.le_of_ble_eq_true rfl)) dX6_run_67 ⟨Nat.le_of_ble_eq_true rfl, Nat.le_of_ble_eq_true rfl⟩) (nm_e ?_)
            rcases hu : c_urgent σ4 with _ | b9
            · show W _ _ _ _ _ _ _ _ _ _ _ _ _ _ _ (F0 m 70 ls (.null :: []))
              have eR : σ4 = c_runS σ := (runF_none hu (16 - k) k).symm.trans hIk.2
              refine lv_astore_nN (lv' := [(2, .null), (1, .int (nI k)), (0, .ref (ad 66))]) hx hb dX6_run_70 rfl hl (by decide) rfl (fun ls hl => ?_)
              refine lv_aload_nN hx hb dX6_run_71 rfl (lv_at hl 0 rfl) ?_
              refine lv_ifnonnullN hx hb dX6_run_72 ?_
              refine lv_goto (tgt := 89) hx hb dX6_run_75 (by decide) ?_
              refine lv_aload_n hx hb dX6_run_89 rfl (lv_at hl 2 rfl) ?_
              refine va_get (D := G) (ci := 6) (v := .ref (ad 78)) (C := RX6) (T := TX6) (N := 8) hx hb hg hinX6 hown hK hP 66 rl_main rfl 7 (by decide) (hg _ qF_X6_48) (fun _ h9 => h9) rfl dX6_run_90 ?_
              refine va_get (D := G) (ci := 3) (v := .int (σ4 42 0)) (C := RX3) (T := TX3) (N := 5) hx hb hg hinX3 hown hK hP 78 rl_Plan rfl 1 (by decide) (hg _ qF_X6_210) (fun _ h9 => h9) rfl dX6_run_93 ?_
              refine W.widen (k := 1) (n := 6) (by omega) (by omega) ?_
              exact cx_ret hK0 (W.iret (v := σ4 42 0) hx hb hr (fun t ht hW => ⟨⟨_, σ4, rfl, ⟨by rw [eR], eR⟩, by rw [ht]; exact hP, va_K.moved hW.alike hK⟩, hS.F ht⟩) hS.2.2 dX6_run_96)
            · show W _ _ _ _ _ _ _ _ _ _ _ _ _ _ _ (F0 m 70 ls (.ref (ad b9) :: []))
              have hb9 := urgent_lt hu
              refine lv_astore_n (lv' := [(2, .ref (ad b9)), (1, .int (nI k)), (0, .ref (ad 66))]) hx hb dX6_run_70 rfl hl (by decide) rfl (fun ls hl => ?_)
              refine lv_aload_n hx hb dX6_run_71 rfl (lv_at hl 0 rfl) ?_
              refine lv_ifnonnull (tgt := 78) hx hb dX6_run_72 (by decide) ?_
              refine lv_aload_n hx hb dX6_run_78 rfl (lv_at hl 2 rfl) ?_
              refine lv_aload_n hx hb dX6_run_79 rfl (lv_at hl 0 rfl) ?_
              refine va_callv (va_runV (As := [.ref (ad b9)]) (rest := []) ⟨hx, hb, hml, hown, hg⟩ (m_ReplenishRules_serve l G cA ad σ4 hJ hIk.1 b9 hb9) (cwV 1 hg (gV qM_X6_207 qI_X6_serve qS_X6_serve qN_X6 kX6_serve) rfl rfl rfl (by decide +kernel) ⟨Nat.le_of_ble_eq_true rfl, Nat.le_of_ble_eq_true rfl⟩) (rr_pv hK hP (va_recv hK hP (ci := 6) (q0 := 66) rfl rl_main)) rfl rfl hl.1 rfl (lv_room (Nat.le_of_ble_eq_true rfl)) dX6_run_80 ⟨Nat.le_of_ble_eq_true rfl, Nat.le_of_ble_eq_true rfl⟩) hS (fun q _ h => h) (fun q h => h) (fun σ5 t H locs ht hvm eσ5 hB hz9 hk9 hS => ?_)
              have hP := hB.1
              rw [ht] at hP
              have hIσ5 : Inv σ5 := by rw [eσ5]; exact inv_serve hIk.1 hb9
              refine lv_iinc (v := nI (k + 1)) (lv' := [(1, .int (nI (k + 1))), (2, .ref (ad b9)), (0, .ref (ad 66))]) hx hb dX6_run_83 hl (k := 1) rfl (nI_1 k) (by decide) rfl (fun ls hl => ?_)
              refine lv_goto (tgt := 60) hx hb dX6_run_86 (by decide) ?_
              have eF : c_runF σ4 = σ5 := by rw [eσ5]; unfold c_runF; rw [hu]
              have hq := hIk.2
              rw [show 16 - k = (16 - (k + 1)) + 1 from by omega, foldN_s] at hq
              exact IH H locs ls ⟨by rw [eF, eσ5]; exact inv_serve hIk.1 hb9, hq⟩ (by rw [eF]; exact hP) hS (lv_sub hl [0, 2] rfl)
        · intro H locs hI9 hP hS ls hl
          have hl : lv_has ls 3 [(1, .int (nI 16)), (0, .ref (ad 66))] := hl
          rw [hR] at hP
          refine lv_iload_n hx hb dX6_run_60 rfl (lv_at hl 0 rfl) ?_
          refine lv_bipush (v := 16) hx hb dX6_run_61 (by decide) ?_
          refine lv_icmp_ge (tgt := 89) hx hb dX6_run_63 (by decide) (fun c_63 => ?_) (fun c_63 => ?_)
          · -- if_icmpge taken
            refine lv_aload_n hx hb dX6_run_89 rfl (lv_at hl 1 rfl) ?_
            refine va_get (D := G) (ci := 6) (v := .ref (ad 78)) (C := RX6) (T := TX6) (N := 8) hx hb hg hinX6 hown hK hP 66 rl_main rfl 7 (by decide) (hg _ qF_X6_48) (fun _ h9 => h9) rfl dX6_run_90 ?_
            refine va_get (D := G) (ci := 3) (v := .int ((c_runS σ) 42 0)) (C := RX3) (T := TX3) (N := 5) hx hb hg hinX3 hown hK hP 78 rl_Plan rfl 1 (by decide) (hg _ qF_X6_210) (fun _ h9 => h9) rfl dX6_run_93 ?_
            refine W.widen (k := 1) (n := 6) (by omega) (by omega) ?_
            exact cx_ret hK0 (W.iret (v := (c_runS σ) 42 0) hx hb hr (fun t ht hW => ⟨⟨_, (c_runS σ), rfl, ⟨rfl, rfl⟩, by rw [ht]; exact hP, va_K.moved hW.alike hK⟩, hS.F ht⟩) hS.2.2 dX6_run_96)
          · -- if_icmpge not taken
            exact absurd (Int32.le_refl _) c_63
      · -- if_icmpge not taken
        exact absurd (Int32.le_refl _) c_39
  · -- ifne not taken
    have eK : c_runK σ = 2 := by simp only [c_runK, if_pos c_14]
    obtain ⟨sa, hstr⟩ := hT.2.2.2 ("ReplenishRules", 194, "today is closed") (by decide +kernel)
    exact cx_throw (own := RX6) (cls := "java/lang/IllegalStateException") (names := rr_nm) hx hb hl9 hown (by decide +kernel) rr_nm_fit (hg _ qK_X6_72) (hg _ qA_IllegalStateException) (hg _ qN_IllegalStateException) hstr (cx_words rr_at2 hg hT) hP0 hK hS (hl.1.trans hml.symm) dX6_run_17 dX6_run_20 dX6_run_21 dX6_run_23 dX6_run_26 hEx hlocks (Nat.le_of_ble_eq_true rfl) (Nat.le_of_ble_eq_true rfl) (Nat.le_of_ble_eq_true rfl) (Nat.le_of_ble_eq_true rfl) (by rw [eK]; decide) (by rw [eK]; rfl) (Nat.le_of_ble_eq_true rfl) (Nat.le_of_ble_eq_true rfl)

set_option maxHeartbeats 600000 in
set_option maxRecDepth 100000 in
theorem m_ReplenishRules_move (l : Launch) (hl9 : l.stackTraces = false) (G : va_G) (cA : Nat → ClassId) (ad : Nat → Nat) (σ : St) (hJ : rr_inj ad) (hI : Inv σ) (a0 : Int32) (b0 : Int32) : cx_Met (rrA ad) l yX6_move wX6_move ({ frames := 7, cells := 2, slots := 12, locals := 113 }) [.ref (ad 66), .int a0, .int b0] G cA ad σ (c_moveK σ a0 b0) (fun v τ => v = some (.int (c_mtell σ (nx a0) b0)) ∧ τ = σ) 2 12 := by
  refine cx_ofW (cc := cX6_move) (maxL := 4) (ret := (some .int)) (by decide) ?_
  intro p e s m args below meth c s₁ B hml hEx hv
  obtain ⟨rfl, hP, hK, hT⟩ := hv
  have hx := B.exec
  have hb := B.bytes
  have hr := B.returns
  have hts := atoms_spec (ws := wX6_move :: wG) B.pre
  have hg : ∀ w ∈ wG, w.before _ s = true := fun w h => hts w (List.mem_cons_of_mem _ h)
  have hown : s.vm.findClass RX6 = some m.cls := findClass_of_methodNamed B.named
  have hlocks := B.notSynchronized
  have hS : va_S (rrA ad) s.heap s.heap [] := va_S.rf
  have hP0 := hP
  have hl := lv_entry ([.ref (ad 66), .int a0, .int b0]) (n := 4) (Nat.le_of_ble_eq_true rfl)
  rw [lg_entry_eq]
  generalize (lg_sl ([.ref (ad 66), .int a0, .int b0]) ++ List.replicate (4 - (lg_sl ([.ref (ad 66), .int a0, .int b0])).length) Slot.unset).toArray = ls at hl ⊢
  have hl : lv_has ls 4 [(0, .ref (ad 66)), (1, .int a0), (2, .int b0)] := hl
  refine lv_aload_n hx hb dX6_move_0 rfl (lv_at hl 0 rfl) ?_
  refine va_get (D := G) (ci := 6) (v := .ref (ad 78)) (C := RX6) (T := TX6) (N := 8) hx hb hg hinX6 hown hK hP 66 rl_main rfl 7 (by decide) (hg _ qF_X6_48) (fun _ h9 => h9) rfl dX6_move_1 ?_
  refine lv_iload_n hx hb dX6_move_4 rfl (lv_at hl 1 rfl) ?_
  refine cx_callV (As := [.int a0]) (rest := []) ⟨hx, hb, hml, hown, hg⟩ (m_Plan_moveAt l hl9 G cA ad σ hJ hI a0) (cwV 1 hg (gV qM_X6_211 qI_X3_moveAt qS_X3_moveAt qN_X3 kX3_moveAt) rfl rfl rfl (by decide +kernel) ⟨Nat.le_of_ble_eq_true rfl, Nat.le_of_ble_eq_true rfl⟩) hK hP hT (fun _ h => h) hS (va_recv hK hP (ci := 3) (q0 := 78) rfl rl_Plan) rfl hl.1 rfl (lv_room (Nat.le_of_ble_eq_true rfl)) dX6_move_5 ⟨Nat.le_of_ble_eq_true rfl, Nat.le_of_ble_eq_true rfl⟩ hEx hlocks (Nat.le_of_ble_eq_true rfl) (Nat.le_of_ble_eq_true rfl) (fun hk_5 => by simp only [c_moveK, c_then_n hk_5]) (fun hk_5 v9 τ9 H hR hP hS _ => ?_)
  obtain ⟨rfl, hτ9⟩ := hR
  rw [hτ9] at hP
  show W _ _ _ _ _ _ _ _ _ _ _ _ _ _ _ (F0 m 8 ls [.ref (ad (36 + nx a0))])
  refine W.widen (k := 1) (n := 6) (Nat.le_of_ble_eq_true rfl) (Nat.le_of_ble_eq_true rfl) ?_
  refine lv_astore_n (lv' := [(3, .ref (ad (36 + nx a0))), (0, .ref (ad 66)), (1, .int a0), (2, .int b0)]) hx hb dX6_move_8 rfl hl (by decide) rfl (fun ls hl => ?_)
  refine lv_iload_n hx hb dX6_move_9 rfl (lv_at hl 3 rfl) ?_
  refine lv_iconst (v := 0) hx hb dX6_move_10 (by decide) ?_
  refine lv_bipush (v := 6) hx hb dX6_move_11 (by decide) ?_
  refine cx_callS (As := [.int b0, .int 0, .int 6]) (rest := []) ⟨hx, hb, hml, hown, hg⟩ (m_ReplenishRules_checkRange l hl9 G cA ad σ hJ b0 0 6) (cwS 3 hg (gS qM_X6_61 qT_X6_checkRange qN_X6 kX6_checkRange) rfl rfl rfl (by decide +kernel) ⟨Nat.le_of_ble_eq_true rfl, Nat.le_of_ble_eq_true rfl⟩) hK hP hT (fun _ h => h) hS  rfl hl.1 rfl (lv_room (Nat.le_of_ble_eq_true rfl)) dX6_move_13 ⟨Nat.le_of_ble_eq_true rfl, Nat.le_of_ble_eq_true rfl⟩ hEx hlocks (Nat.le_of_ble_eq_true rfl) (Nat.le_of_ble_eq_true rfl) (fun hk_13 => by simp only [c_moveK, hk_5, c_then_z, c_then_n hk_13]) (fun hk_13 v9 τ9 H hR hP hS _ => ?_)
  obtain ⟨rfl, hτ9⟩ := hR
  rw [hτ9] at hP
  show W _ _ _ _ _ _ _ _ _ _ _ _ _ _ _ (F0 m 16 ls [])
  refine W.widen (k := 2) (n := 12) (Nat.le_of_ble_eq_true rfl) (Nat.le_of_ble_eq_true rfl) ?_
  refine lv_aload_n hx hb dX6_move_16 rfl (lv_at hl 0 rfl) ?_
  refine lv_iload_n hx hb dX6_move_17 rfl (lv_at hl 3 rfl) ?_
  refine vp_callSi (W.runV (As := [.int b0]) (rest := []) ⟨hx, hb, hml, hown, hg⟩ (m_Move_tell l G cA ad σ (nx a0) (vp_lt (moveAt_in hI hk_5)) b0) (cwV 1 hg (gV qM_X6_215 qI_X1_tell qS_X1_tell qN_X1 kX1_tell) rfl rfl rfl (by decide +kernel) ⟨Nat.le_of_ble_eq_true rfl, Nat.le_of_ble_eq_true rfl⟩) (rr_pv hK hP (va_recv hK hP (ci := 1) (q0 := (36 + (nx a0))) rfl (rl_Move (vp_lt (moveAt_in hI hk_5))))) rfl rfl hl.1 rfl (lv_room (Nat.le_of_ble_eq_true rfl)) dX6_move_18 ⟨Nat.le_of_ble_eq_true rfl, Nat.le_of_ble_eq_true rfl⟩) (nm_e ?_)
  refine W.widen (k := 2) (n := 12) (Nat.le_of_ble_eq_true rfl) (Nat.le_of_ble_eq_true rfl) ?_
  exact cx_ret (by simp only [c_moveK, hk_5, c_then_z, hk_13, c_then_z]) (W.iret (v := c_mtell σ (nx a0) b0) hx hb hr (fun t ht hW => ⟨⟨_, σ, rfl, ⟨rfl, rfl⟩, by rw [ht]; exact hP, va_K.moved hW.alike hK⟩, hS.F ht⟩) hS.2.2 dX6_move_21)

set_option maxHeartbeats 600000 in
set_option maxRecDepth 100000 in
theorem m_ReplenishRules_done (l : Launch) (hl9 : l.stackTraces = false) (G : va_G) (cA : Nat → ClassId) (ad : Nat → Nat) (σ : St) (hJ : rr_inj ad) (hI : Inv σ) (a0 : Int32) : cx_Met (rrA ad) l yX6_done wX6_done ({ frames := 7, cells := 3, slots := 18, locals := 112 }) [.ref (ad 66), .int a0] G cA ad σ (c_doneK2 σ a0) (fun v τ => v = none ∧ τ = c_doneS σ a0) 3 18 := by
  refine cx_ofW (cc := cX6_done) (maxL := 6) (ret := none) (by decide) ?_
  intro p e s m args below meth c s₁ B hml hEx hv
  obtain ⟨rfl, hP, hK, hT⟩ := hv
  have hx := B.exec
  have hb := B.bytes
  have hr := B.returns
  have hts := atoms_spec (ws := wX6_done :: wG) B.pre
  have hg : ∀ w ∈ wG, w.before _ s = true := fun w h => hts w (List.mem_cons_of_mem _ h)
  have hown : s.vm.findClass RX6 = some m.cls := findClass_of_methodNamed B.named
  have hlocks := B.notSynchronized
  have hS : va_S (rrA ad) s.heap s.heap [] := va_S.rf
  have hP0 := hP
  have hl := lv_entry ([.ref (ad 66), .int a0]) (n := 6) (Nat.le_of_ble_eq_true rfl)
  rw [lg_entry_eq]
  generalize (lg_sl ([.ref (ad 66), .int a0]) ++ List.replicate (6 - (lg_sl ([.ref (ad 66), .int a0])).length) Slot.unset).toArray = ls at hl ⊢
  have hl : lv_has ls 6 [(0, .ref (ad 66)), (1, .int a0)] := hl
  refine lv_aload_n hx hb dX6_done_0 rfl (lv_at hl 0 rfl) ?_
  refine va_get (D := G) (ci := 6) (v := .ref (ad 78)) (C := RX6) (T := TX6) (N := 8) hx hb hg hinX6 hown hK hP 66 rl_main rfl 7 (by decide) (hg _ qF_X6_48) (fun _ h9 => h9) rfl dX6_done_1 ?_
  refine lv_iload_n hx hb dX6_done_4 rfl (lv_at hl 1 rfl) ?_
  refine cx_callV (As := [.int a0]) (rest := []) ⟨hx, hb, hml, hown, hg⟩ (m_Plan_moveAt l hl9 G cA ad σ hJ hI a0) (cwV 1 hg (gV qM_X6_211 qI_X3_moveAt qS_X3_moveAt qN_X3 kX3_moveAt) rfl rfl rfl (by decide +kernel) ⟨Nat.le_of_ble_eq_true rfl, Nat.le_of_ble_eq_true rfl⟩) hK hP hT (fun _ h => h) hS (va_recv hK hP (ci := 3) (q0 := 78) rfl rl_Plan) rfl hl.1 rfl (lv_room (Nat.le_of_ble_eq_true rfl)) dX6_done_5 ⟨Nat.le_of_ble_eq_true rfl, Nat.le_of_ble_eq_true rfl⟩ hEx hlocks (Nat.le_of_ble_eq_true rfl) (Nat.le_of_ble_eq_true rfl) (fun hk_5 => by simp only [c_doneK2, c_then_n hk_5]) (fun hk_5 v9 τ9 H hR hP hS _ => ?_)
  obtain ⟨rfl, hτ9⟩ := hR
  rw [hτ9] at hP
  show W _ _ _ _ _ _ _ _ _ _ _ _ _ _ _ (F0 m 8 ls [.ref (ad (36 + nx a0))])
  refine W.widen (k := 1) (n := 6) (Nat.le_of_ble_eq_true rfl) (Nat.le_of_ble_eq_true rfl) ?_
  refine lv_astore_n (lv' := [(2, .ref (ad (36 + nx a0))), (0, .ref (ad 66)), (1, .int a0)]) hx hb dX6_done_8 rfl hl (by decide) rfl (fun ls hl => ?_)
  refine lv_aload_n hx hb dX6_done_9 rfl (lv_at hl 1 rfl) ?_
  refine va_get (D := G) (ci := 6) (v := .ref (ad 67)) (C := RX6) (T := TX6) (N := 8) hx hb hg hinX6 hown hK hP 66 rl_main rfl 0 (by decide) (hg _ qF_X6_11) (fun _ h9 => h9) rfl dX6_done_10 ?_
  refine lv_aload_n hx hb dX6_done_13 rfl (lv_at hl 0 rfl) ?_
  refine va_get (D := G) (ci := 1) (v := .int (σ 50 (nx a0))) (C := RX1) (T := TX1) (N := 7) hx hb hg hinX1 hown hK hP (36 + (nx a0)) (rl_Move (vp_lt (moveAt_in hI hk_5))) rfl 0 (by decide) (hg _ qF_X6_220) (fun _ h9 => h9) rfl dX6_done_14 ?_
  refine va_aldq hx hb hK hP 67 2 rl_placesA rfl (inv_mv hI (vp_lt (moveAt_in hI hk_5))).1 dX6_done_17 ?_
  show W _ _ _ _ _ _ _ _ _ _ _ _ _ _ _ (F0 m _ ls (.ref (ad (nx (σ 50 (nx a0)))) :: []))
  refine lv_astore_n (lv' := [(3, .ref (ad (nx (σ 50 (nx a0))))), (2, .ref (ad (36 + nx a0))), (0, .ref (ad 66)), (1, .int a0)]) hx hb dX6_done_18 rfl hl (by decide) rfl (fun ls hl => ?_)
  refine lv_aload_n hx hb dX6_done_19 rfl (lv_at hl 2 rfl) ?_
  refine va_get (D := G) (ci := 6) (v := .ref (ad 67)) (C := RX6) (T := TX6) (N := 8) hx hb hg hinX6 hown hK hP 66 rl_main rfl 0 (by decide) (hg _ qF_X6_11) (fun _ h9 => h9) rfl dX6_done_20 ?_
  refine lv_aload_n hx hb dX6_done_23 rfl (lv_at hl 1 rfl) ?_
  refine va_get (D := G) (ci := 1) (v := .int (σ 51 (nx a0))) (C := RX1) (T := TX1) (N := 7) hx hb hg hinX1 hown hK hP (36 + (nx a0)) (rl_Move (vp_lt (moveAt_in hI hk_5))) rfl 1 (by decide) (hg _ qF_X6_223) (fun _ h9 => h9) rfl dX6_done_24 ?_
  refine va_aldq hx hb hK hP 67 2 rl_placesA rfl (inv_mv hI (vp_lt (moveAt_in hI hk_5))).2 dX6_done_27 ?_
  show W _ _ _ _ _ _ _ _ _ _ _ _ _ _ _ (F0 m _ ls (.ref (ad (nx (σ 51 (nx a0)))) :: []))
  refine lv_astore (lv' := [(4, .ref (ad (nx (σ 51 (nx a0))))), (3, .ref (ad (nx (σ 50 (nx a0))))), (2, .ref (ad (36 + nx a0))), (0, .ref (ad 66)), (1, .int a0)]) hx hb dX6_done_28 hl (by decide) rfl (fun ls hl => ?_)
  refine lv_aload hx hb dX6_done_30 (lv_at hl 0 rfl) ?_
  refine va_get (D := G) (ci := 2) (v := .int (σ 5 (nx (σ 51 (nx a0))))) (C := RX2) (T := TX2) (N := 13) hx hb hg hinX2 hown hK hP (nx (σ 51 (nx a0))) (rl_Place (vp_lt ((inv_mv hI (vp_lt (moveAt_in hI hk_5))).2))) rfl 7 (by decide) (hg _ qF_X6_91) (fun _ h9 => h9) rfl dX6_done_32 ?_
  refine lv_istore (lv' := [(5, .int (σ 5 (nx (σ 51 (nx a0))))), (4, .ref (ad (nx (σ 51 (nx a0))))), (3, .ref (ad (nx (σ 50 (nx a0))))), (2, .ref (ad (36 + nx a0))), (0, .ref (ad 66)), (1, .int a0)]) hx hb dX6_done_35 hl (by decide) rfl (fun ls hl => ?_)
  refine lv_aload_n hx hb dX6_done_37 rfl (lv_at hl 3 rfl) ?_
  refine va_get (D := G) (ci := 1) (v := .int (σ 56 (nx a0))) (C := RX1) (T := TX1) (N := 7) hx hb hg hinX1 hown hK hP (36 + (nx a0)) (rl_Move (vp_lt (moveAt_in hI hk_5))) rfl 6 (by decide) (hg _ qF_X6_226) (fun _ h9 => h9) rfl dX6_done_38 ?_
  refine lv_if_eq (tgt := 54) hx hb dX6_done_41 (by decide) (fun c_41 => ?_) (fun c_41 => ?_)
  · -- ifeq taken
    refine lv_aload_n hx hb dX6_done_54 rfl (lv_at hl 2 rfl) ?_
    refine va_get (D := G) (ci := 2) (v := .int (σ 4 (nx (σ 50 (nx a0))))) (C := RX2) (T := TX2) (N := 13) hx hb hg hinX2 hown hK hP (nx (σ 50 (nx a0))) (rl_Place (vp_lt ((inv_mv hI (vp_lt (moveAt_in hI hk_5))).1))) rfl 6 (by decide) (hg _ qF_X6_232) (fun _ h9 => h9) rfl dX6_done_55 ?_
    refine lv_iload hx hb dX6_done_58 (lv_at hl 0 rfl) ?_
    refine lv_icmp_ne (tgt := 74) hx hb dX6_done_60 (by decide) (fun c_60 => ?_) (fun c_60 => ?_)
    · -- if_icmpne taken
      have eK : c_doneK2 σ a0 = 2 := by simp only [c_doneK2, hk_5, c_then_z, if_pos c_41, if_neg c_60]
      obtain ⟨sa, hstr⟩ := hT.2.2.2 ("ReplenishRules", 236, "the reserve has not so many free pieces of the good") (by decide +kernel)
      exact cx_throw (own := RX6) (cls := "java/lang/IllegalStateException") (names := rr_nm) hx hb hl9 hown (by decide +kernel) rr_nm_fit (hg _ qK_X6_72) (hg _ qA_IllegalStateException) (hg _ qN_IllegalStateException) hstr (cx_words rr_at2 hg hT) hP0 hK hS (hl.1.trans hml.symm) dX6_done_74 dX6_done_77 dX6_done_78 dX6_done_80 dX6_done_83 hEx hlocks (Nat.le_of_ble_eq_true rfl) (Nat.le_of_ble_eq_true rfl) (Nat.le_of_ble_eq_true rfl) (Nat.le_of_ble_eq_true rfl) (by rw [eK]; decide) (by rw [eK]; rfl) (Nat.le_of_ble_eq_true rfl) (Nat.le_of_ble_eq_true rfl)
    · -- if_icmpne not taken
      refine lv_aload_n hx hb dX6_done_63 rfl (lv_at hl 2 rfl) ?_
      refine vp_callSi (W.runV (As := []) (rest := []) ⟨hx, hb, hml, hown, hg⟩ (m_Place_notHeld l G cA ad σ (nx (σ 50 (nx a0))) (vp_lt ((inv_mv hI (vp_lt (moveAt_in hI hk_5))).1))) (cwV 0 hg (gV qM_X6_113 qI_X2_notHeld qS_X2_notHeld qN_X2 kX2_notHeld) rfl rfl rfl (by decide +kernel) ⟨Nat.le_of_ble_eq_true rfl, Nat.le_of_ble_eq_true rfl⟩) (rr_pv hK hP (va_recv hK hP (ci := 2) (q0 := (nx (σ 50 (nx a0)))) rfl (rl_Place (vp_lt ((inv_mv hI (vp_lt (moveAt_in hI hk_5))).1))))) rfl rfl hl.1 rfl (lv_room (Nat.le_of_ble_eq_true rfl)) dX6_done_64 ⟨Nat.le_of_ble_eq_true rfl, Nat.le_of_ble_eq_true rfl⟩) (nm_e ?_)
      refine lv_aload_n hx hb dX6_done_67 rfl (lv_at hl 3 rfl) ?_
      refine va_get (D := G) (ci := 1) (v := .int (σ 52 (nx a0))) (C := RX1) (T := TX1) (N := 7) hx hb hg hinX1 hown hK hP (36 + (nx a0)) (rl_Move (vp_lt (moveAt_in hI hk_5))) rfl 2 (by decide) (hg _ qF_X6_235) (fun _ h9 => h9) rfl dX6_done_68 ?_
      refine lv_icmp_ge (tgt := 84) hx hb dX6_done_71 (by decide) (fun c_71 => ?_) (fun c_71 => ?_)
      · -- if_icmpge taken
        refine lv_aload hx hb dX6_done_84 (lv_at hl 1 rfl) ?_
        refine lv_iload hx hb dX6_done_86 (lv_at hl 0 rfl) ?_
        refine vp_callSi (W.runV (As := [.int (σ 5 (nx (σ 51 (nx a0))))]) (rest := []) ⟨hx, hb, hml, hown, hg⟩ (m_Place_holdsAnother l G cA ad σ (nx (σ 51 (nx a0))) (vp_lt ((inv_mv hI (vp_lt (moveAt_in hI hk_5))).2)) (σ 5 (nx (σ 51 (nx a0))))) (cwV 1 hg (gV qM_X6_85 qI_X2_holdsAnother qS_X2_holdsAnother qN_X2 kX2_holdsAnother) rfl rfl rfl (by decide +kernel) ⟨Nat.le_of_ble_eq_true rfl, Nat.le_of_ble_eq_true rfl⟩) (rr_pv hK hP (va_recv hK hP (ci := 2) (q0 := (nx (σ 51 (nx a0)))) rfl (rl_Place (vp_lt ((inv_mv hI (vp_lt (moveAt_in hI hk_5))).2))))) rfl rfl hl.1 rfl (lv_room (Nat.le_of_ble_eq_true rfl)) dX6_done_88 ⟨Nat.le_of_ble_eq_true rfl, Nat.le_of_ble_eq_true rfl⟩) (nm_e ?_)
        refine lv_if_eq (tgt := 104) hx hb dX6_done_91 (by decide) (fun c_91 => ?_) (fun c_91 => ?_)
        · -- ifeq taken
          refine lv_aload hx hb dX6_done_104 (lv_at hl 1 rfl) ?_
          refine lv_aload_n hx hb dX6_done_106 rfl (lv_at hl 3 rfl) ?_
          refine va_get (D := G) (ci := 1) (v := .int (σ 52 (nx a0))) (C := RX1) (T := TX1) (N := 7) hx hb hg hinX1 hown hK hP (36 + (nx a0)) (rl_Move (vp_lt (moveAt_in hI hk_5))) rfl 2 (by decide) (hg _ qF_X6_235) (fun _ h9 => h9) rfl dX6_done_107 ?_
          refine cx_callS (As := [.ref (ad (nx (σ 51 (nx a0)))), .int (σ 52 (nx a0))]) (rest := []) ⟨hx, hb, hml, hown, hg⟩ (m_ReplenishRules_checkSpace l hl9 G cA ad σ hJ (nx (σ 51 (nx a0))) (vp_lt ((inv_mv hI (vp_lt (moveAt_in hI hk_5))).2)) (σ 52 (nx a0))) (cwS 2 hg (gS qM_X6_102 qT_X6_checkSpace qN_X6 kX6_checkSpace) rfl rfl rfl (by decide +kernel) ⟨Nat.le_of_ble_eq_true rfl, Nat.le_of_ble_eq_true rfl⟩) hK hP hT (fun _ h => h) hS  rfl hl.1 rfl (lv_room (Nat.le_of_ble_eq_true rfl)) dX6_done_110 ⟨Nat.le_of_ble_eq_true rfl, Nat.le_of_ble_eq_true rfl⟩ hEx hlocks (Nat.le_of_ble_eq_true rfl) (Nat.le_of_ble_eq_true rfl) (fun hk_110 => by simp only [c_doneK2, hk_5, c_then_z, if_pos c_41, if_pos c_60, if_pos c_71, if_pos c_91, c_then_n hk_110]) (fun hk_110 v9 τ9 H hR hP hS _ => ?_)
          obtain ⟨rfl, hτ9⟩ := hR
          rw [hτ9] at hP
          show W _ _ _ _ _ _ _ _ _ _ _ _ _ _ _ (F0 m 113 ls [])
          refine W.widen (k := 2) (n := 12) (Nat.le_of_ble_eq_true rfl) (Nat.le_of_ble_eq_true rfl) ?_
          refine lv_aload_n hx hb dX6_done_113 rfl (lv_at hl 2 rfl) ?_
          refine lv_aload_n hx hb dX6_done_114 rfl (lv_at hl 3 rfl) ?_
          refine va_get (D := G) (ci := 1) (v := .int (σ 52 (nx a0))) (C := RX1) (T := TX1) (N := 7) hx hb hg hinX1 hown hK hP (36 + (nx a0)) (rl_Move (vp_lt (moveAt_in hI hk_5))) rfl 2 (by decide) (hg _ qF_X6_235) (fun _ h9 => h9) rfl dX6_done_115 ?_
          refine va_callv (va_runV (As := [.int (σ 52 (nx a0))]) (rest := []) ⟨hx, hb, hml, hown, hg⟩ (m_Place_takeAway l G cA ad σ hJ (nx (σ 50 (nx a0))) (vp_lt ((inv_mv hI (vp_lt (moveAt_in hI hk_5))).1)) (σ 52 (nx a0))) (cwV 1 hg (gV qM_X6_119 qI_X2_takeAway qS_X2_takeAway qN_X2 kX2_takeAway) rfl rfl rfl (by decide +kernel) ⟨Nat.le_of_ble_eq_true rfl, Nat.le_of_ble_eq_true rfl⟩) (rr_pv hK hP (va_recv hK hP (ci := 2) (q0 := (nx (σ 50 (nx a0)))) rfl (rl_Place (vp_lt ((inv_mv hI (vp_lt (moveAt_in hI hk_5))).1))))) rfl rfl hl.1 rfl (lv_room (Nat.le_of_ble_eq_true rfl)) dX6_done_118 ⟨Nat.le_of_ble_eq_true rfl, Nat.le_of_ble_eq_true rfl⟩) hS (fun q _ h => h) (fun q h => h) (fun σ1 t H locs ht hvm eσ1 hB hz9 hk9 hS => ?_)
          have hP := hB.1
          rw [ht] at hP
          refine lv_aload hx hb dX6_done_121 (lv_at hl 1 rfl) ?_
          refine lv_iload hx hb dX6_done_123 (lv_at hl 0 rfl) ?_
          refine lv_aload_n hx hb dX6_done_125 rfl (lv_at hl 3 rfl) ?_
          refine va_get (D := G) (ci := 1) (v := .int (σ1 52 (nx a0))) (C := RX1) (T := TX1) (N := 7) hx hb hg hinX1 hown hK hP (36 + (nx a0)) (rl_Move (vp_lt (moveAt_in hI hk_5))) rfl 2 (by decide) (hg _ qF_X6_235) (fun _ h9 => h9) rfl dX6_done_126 ?_
          refine va_callv (va_runV (As := [.int (σ 5 (nx (σ 51 (nx a0)))), .int (σ1 52 (nx a0))]) (rest := []) ⟨hx, hb, hml, hown, hg⟩ (m_Place_bring l G cA ad σ1 hJ (nx (σ 51 (nx a0))) (vp_lt ((inv_mv hI (vp_lt (moveAt_in hI hk_5))).2)) (σ 5 (nx (σ 51 (nx a0)))) (σ1 52 (nx a0))) (cwV 2 hg (gV qM_X6_106 qI_X2_bring qS_X2_bring qN_X2 kX2_bring) rfl rfl rfl (by decide +kernel) ⟨Nat.le_of_ble_eq_true rfl, Nat.le_of_ble_eq_true rfl⟩) (rr_pv hK hP (va_recv hK hP (ci := 2) (q0 := (nx (σ 51 (nx a0)))) rfl (rl_Place (vp_lt ((inv_mv hI (vp_lt (moveAt_in hI hk_5))).2))))) rfl rfl hl.1 rfl (lv_room (Nat.le_of_ble_eq_true rfl)) dX6_done_129 ⟨Nat.le_of_ble_eq_true rfl, Nat.le_of_ble_eq_true rfl⟩) hS (fun q _ h => h) (fun q h => h) (fun σ2 t H locs ht hvm eσ2 hB hz9 hk9 hS => ?_)
          have hP := hB.1
          rw [ht] at hP
          refine lv_aload_n hx hb dX6_done_132 rfl (lv_at hl 3 rfl) ?_
          refine lv_iconst (v := 1) hx hb dX6_done_133 (by decide) ?_
          refine pp_put (D := G) (ci := 1) (v := .int 1) (ty := .boolean) (C := RX1) (T := TX1) (N := 7) hx hb hg hinX1 tyX1 tyX1_ok nmX1 hown hK hP (rr_D hJ) hS (36 + (nx a0)) (rl_Move (vp_lt (moveAt_in hI hk_5))) rfl 6 (by decide) (hg _ qF_X6_226) (fun _ h9 => h9) rfl (by decide +kernel) rfl rfl (Nat.le_of_ble_eq_true rfl) (rs_Move_isDone (vp_lt (moveAt_in hI hk_5))) dX6_done_134 (fun H locs hP hS => ?_)
          obtain ⟨σ3, eσ3⟩ : ∃ z, z = up σ2 56 (nx a0) 1 := ⟨_, rfl⟩
          rw [← eσ3] at hP
          refine W.widen (k := 3) (n := 18) (Nat.le_of_ble_eq_true rfl) (Nat.le_of_ble_eq_true rfl) ?_
          exact cx_ret (by simp only [c_doneK2, hk_5, c_then_z, if_pos c_41, if_pos c_60, if_pos c_71, if_pos c_91, hk_110, c_then_z]) (W.vret hx hb hr (fun t ht hW => ⟨⟨_, σ3, rfl, ⟨rfl, by subst eσ1 eσ2 eσ3; rfl⟩, by rw [ht]; exact hP, va_K.moved hW.alike hK⟩, hS.F ht⟩) hS.2.2 dX6_done_137)
        · -- ifeq not taken
          have eK : c_doneK2 σ a0 = 2 := by simp only [c_doneK2, hk_5, c_then_z, if_pos c_41, if_pos c_60, if_pos c_71, if_neg c_91]
          obtain ⟨sa, hstr⟩ := hT.2.2.2 ("ReplenishRules", 238, "the face holds another good") (by decide +kernel)
          exact cx_throw (own := RX6) (cls := "java/lang/IllegalStateException") (names := rr_nm) hx hb hl9 hown (by decide +kernel) rr_nm_fit (hg _ qK_X6_72) (hg _ qA_IllegalStateException) (hg _ qN_IllegalStateException) hstr (cx_words rr_at2 hg hT) hP0 hK hS (hl.1.trans hml.symm) dX6_done_94 dX6_done_97 dX6_done_98 dX6_done_100 dX6_done_103 hEx hlocks (Nat.le_of_ble_eq_true rfl) (Nat.le_of_ble_eq_true rfl) (Nat.le_of_ble_eq_true rfl) (Nat.le_of_ble_eq_true rfl) (by rw [eK]; decide) (by rw [eK]; rfl) (Nat.le_of_ble_eq_true rfl) (Nat.le_of_ble_eq_true rfl)
      · -- if_icmpge not taken
        have eK : c_doneK2 σ a0 = 2 := by simp only [c_doneK2, hk_5, c_then_z, if_pos c_41, if_pos c_60, if_neg c_71]
        obtain ⟨sa, hstr⟩ := hT.2.2.2 ("ReplenishRules", 236, "the reserve has not so many free pieces of the good") (by decide +kernel)
        exact cx_throw (own := RX6) (cls := "java/lang/IllegalStateException") (names := rr_nm) hx hb hl9 hown (by decide +kernel) rr_nm_fit (hg _ qK_X6_72) (hg _ qA_IllegalStateException) (hg _ qN_IllegalStateException) hstr (cx_words rr_at2 hg hT) hP0 hK hS (hl.1.trans hml.symm) dX6_done_74 dX6_done_77 dX6_done_78 dX6_done_80 dX6_done_83 hEx hlocks (Nat.le_of_ble_eq_true rfl) (Nat.le_of_ble_eq_true rfl) (Nat.le_of_ble_eq_true rfl) (Nat.le_of_ble_eq_true rfl) (by rw [eK]; decide) (by rw [eK]; rfl) (Nat.le_of_ble_eq_true rfl) (Nat.le_of_ble_eq_true rfl)
  · -- ifeq not taken
    have eK : c_doneK2 σ a0 = 2 := by simp only [c_doneK2, hk_5, c_then_z, if_neg c_41]
    obtain ⟨sa, hstr⟩ := hT.2.2.2 ("ReplenishRules", 230, "the move was done") (by decide +kernel)
    exact cx_throw (own := RX6) (cls := "java/lang/IllegalStateException") (names := rr_nm) hx hb hl9 hown (by decide +kernel) rr_nm_fit (hg _ qK_X6_72) (hg _ qA_IllegalStateException) (hg _ qN_IllegalStateException) hstr (cx_words rr_at2 hg hT) hP0 hK hS (hl.1.trans hml.symm) dX6_done_44 dX6_done_47 dX6_done_48 dX6_done_50 dX6_done_53 hEx hlocks (Nat.le_of_ble_eq_true rfl) (Nat.le_of_ble_eq_true rfl) (Nat.le_of_ble_eq_true rfl) (Nat.le_of_ble_eq_true rfl) (by rw [eK]; decide) (by rw [eK]; rfl) (Nat.le_of_ble_eq_true rfl) (Nat.le_of_ble_eq_true rfl)

set_option maxHeartbeats 600000 in
set_option maxRecDepth 100000 in
theorem m_ReplenishRules_told (l : Launch) (hl9 : l.stackTraces = false) (G : va_G) (cA : Nat → ClassId) (ad : Nat → Nat) (σ : St) (hJ : rr_inj ad) (a0 : Int32) (b0 : Int32) : cx_Met (rrA ad) l yX6_told wX6_told ({ frames := 8, cells := 2, slots := 12, locals := 134 }) [.ref (ad 66), .int a0, .int b0] G cA ad σ (c_toldK a0 b0) (fun v τ => v = some (.int (c_tell σ (nx a0) b0)) ∧ τ = σ) 2 12 := by
  refine cx_ofW (cc := cX6_told) (maxL := 4) (ret := (some .int)) (by decide) ?_
  intro p e s m args below meth c s₁ B hml hEx hv
  obtain ⟨rfl, hP, hK, hT⟩ := hv
  have hx := B.exec
  have hb := B.bytes
  have hr := B.returns
  have hts := atoms_spec (ws := wX6_told :: wG) B.pre
  have hg : ∀ w ∈ wG, w.before _ s = true := fun w h => hts w (List.mem_cons_of_mem _ h)
  have hown : s.vm.findClass RX6 = some m.cls := findClass_of_methodNamed B.named
  have hlocks := B.notSynchronized
  have hS : va_S (rrA ad) s.heap s.heap [] := va_S.rf
  have hP0 := hP
  have hl := lv_entry ([.ref (ad 66), .int a0, .int b0]) (n := 4) (Nat.le_of_ble_eq_true rfl)
  rw [lg_entry_eq]
  generalize (lg_sl ([.ref (ad 66), .int a0, .int b0]) ++ List.replicate (4 - (lg_sl ([.ref (ad 66), .int a0, .int b0])).length) Slot.unset).toArray = ls at hl ⊢
  have hl : lv_has ls 4 [(0, .ref (ad 66)), (1, .int a0), (2, .int b0)] := hl
  refine lv_aload_n hx hb dX6_told_0 rfl (lv_at hl 0 rfl) ?_
  refine lv_iload_n hx hb dX6_told_1 rfl (lv_at hl 1 rfl) ?_
  refine cx_callV (As := [.int a0]) (rest := []) ⟨hx, hb, hml, hown, hg⟩ (m_ReplenishRules_placeAt l hl9 G cA ad σ hJ a0) (cwV 1 hg (gV qM_X6_56 qI_X6_placeAt qS_X6_placeAt qN_X6 kX6_placeAt) rfl rfl rfl (by decide +kernel) ⟨Nat.le_of_ble_eq_true rfl, Nat.le_of_ble_eq_true rfl⟩) hK hP hT (fun _ h => h) hS (va_recv hK hP (ci := 6) (q0 := 66) rfl rl_main) rfl hl.1 rfl (lv_room (Nat.le_of_ble_eq_true rfl)) dX6_told_2 ⟨Nat.le_of_ble_eq_true rfl, Nat.le_of_ble_eq_true rfl⟩ hEx hlocks (Nat.le_of_ble_eq_true rfl) (Nat.le_of_ble_eq_true rfl) (fun hk_2 => by simp only [c_toldK, c_then_n hk_2]) (fun hk_2 v9 τ9 H hR hP hS _ => ?_)
  obtain ⟨rfl, hτ9⟩ := hR
  rw [hτ9] at hP
  show W _ _ _ _ _ _ _ _ _ _ _ _ _ _ _ (F0 m 5 ls [.ref (ad (nx a0))])
  refine W.widen (k := 1) (n := 6) (Nat.le_of_ble_eq_true rfl) (Nat.le_of_ble_eq_true rfl) ?_
  refine lv_astore_n (lv' := [(3, .ref (ad (nx a0))), (0, .ref (ad 66)), (1, .int a0), (2, .int b0)]) hx hb dX6_told_5 rfl hl (by decide) rfl (fun ls hl => ?_)
  refine lv_iload_n hx hb dX6_told_6 rfl (lv_at hl 3 rfl) ?_
  refine lv_iconst (v := 0) hx hb dX6_told_7 (by decide) ?_
  refine lv_iconst (v := 5) hx hb dX6_told_8 (by decide) ?_
  refine cx_callS (As := [.int b0, .int 0, .int 5]) (rest := []) ⟨hx, hb, hml, hown, hg⟩ (m_ReplenishRules_checkRange l hl9 G cA ad σ hJ b0 0 5) (cwS 3 hg (gS qM_X6_61 qT_X6_checkRange qN_X6 kX6_checkRange) rfl rfl rfl (by decide +kernel) ⟨Nat.le_of_ble_eq_true rfl, Nat.le_of_ble_eq_true rfl⟩) hK hP hT (fun _ h => h) hS  rfl hl.1 rfl (lv_room (Nat.le_of_ble_eq_true rfl)) dX6_told_9 ⟨Nat.le_of_ble_eq_true rfl, Nat.le_of_ble_eq_true rfl⟩ hEx hlocks (Nat.le_of_ble_eq_true rfl) (Nat.le_of_ble_eq_true rfl) (fun hk_9 => by simp only [c_toldK, hk_2, c_then_z, c_then_n hk_9]) (fun hk_9 v9 τ9 H hR hP hS _ => ?_)
  obtain ⟨rfl, hτ9⟩ := hR
  rw [hτ9] at hP
  show W _ _ _ _ _ _ _ _ _ _ _ _ _ _ _ (F0 m 12 ls [])
  refine W.widen (k := 2) (n := 12) (Nat.le_of_ble_eq_true rfl) (Nat.le_of_ble_eq_true rfl) ?_
  refine lv_aload_n hx hb dX6_told_12 rfl (lv_at hl 0 rfl) ?_
  refine lv_iload_n hx hb dX6_told_13 rfl (lv_at hl 3 rfl) ?_
  refine vp_callSi (W.runV (As := [.int b0]) (rest := []) ⟨hx, hb, hml, hown, hg⟩ (m_Place_tell l G cA ad σ (nx a0) (vp_lt (placeAt_in hk_2)) b0) (cwV 1 hg (gV qM_X6_240 qI_X2_tell qS_X2_tell qN_X2 kX2_tell) rfl rfl rfl (by decide +kernel) ⟨Nat.le_of_ble_eq_true rfl, Nat.le_of_ble_eq_true rfl⟩) (rr_pv hK hP (va_recv hK hP (ci := 2) (q0 := (nx a0)) rfl (rl_Place (vp_lt (placeAt_in hk_2))))) rfl rfl hl.1 rfl (lv_room (Nat.le_of_ble_eq_true rfl)) dX6_told_14 ⟨Nat.le_of_ble_eq_true rfl, Nat.le_of_ble_eq_true rfl⟩) (nm_e ?_)
  refine W.widen (k := 2) (n := 12) (Nat.le_of_ble_eq_true rfl) (Nat.le_of_ble_eq_true rfl) ?_
  exact cx_ret (by simp only [c_toldK, hk_2, c_then_z, hk_9, c_then_z]) (W.iret (v := c_tell σ (nx a0) b0) hx hb hr (fun t ht hW => ⟨⟨_, σ, rfl, ⟨rfl, rfl⟩, by rw [ht]; exact hP, va_K.moved hW.alike hK⟩, hS.F ht⟩) hS.2.2 dX6_told_17)
