set_option maxHeartbeats 4000000 in
set_option maxRecDepth 100000 in
theorem m_ReplenishRules_mostUrgentFace (l : Launch) (G : va_G) (cA : Nat → ClassId) (ad : Nat → Nat) (σ : St) : Met l yX6_mostUrgentFace (wX6_mostUrgentFace :: wG) ({ frames := 0, cells := 0, slots := 0, locals := 0 }) (va_Pc [.ref (ad 66)] (rrW G cA ad σ)) (va_Sq (fun r => r = Option.map ad (c_urgent σ))) 0 0 (fun _ => False) := by
  refine Met.ofW (cc := cX6_mostUrgentFace) (maxL := 4) (ret := (some (.object "ReplenishRules$Place"))) (by decide) rfl ?_
  intro p e s m args below meth c s₁ B hml hv
  obtain ⟨rfl, hP, hK⟩ := hv
  have hx := B.exec
  have hb := B.bytes
  have hr := B.returns
  have hts := atoms_spec (ws := wX6_mostUrgentFace :: wG) B.pre
  have hg : ∀ w ∈ wG, w.before _ s = true := fun w h => hts w (List.mem_cons_of_mem _ h)
  have hown : s.vm.findClass RX6 = some m.cls := findClass_of_methodNamed B.named
  have hlocks := B.notSynchronized
  have hl := lv_entry ([.ref (ad 66)]) (n := 4) (Nat.le_of_ble_eq_true rfl)
  rw [lg_entry_eq]
  generalize (lg_sl ([.ref (ad 66)]) ++ List.replicate (4 - (lg_sl ([.ref (ad 66)])).length) Slot.unset).toArray = ls at hl ⊢
  have hl : lv_has ls 4 [(0, .ref (ad 66))] := hl
  refine lv_null hx hb dX6_mostUrgentFace_0 ?_
  refine lv_astore_nN (lv' := [(1, .null), (0, .ref (ad 66))]) hx hb dX6_mostUrgentFace_1 rfl hl (by decide) rfl (fun ls hl => ?_)
  refine lv_iconst (v := 0) hx hb dX6_mostUrgentFace_2 (by decide) ?_
  refine lv_topi (fun y_3 ey_3 => ?_)
  obtain rfl : y_3 = nI 0 := ey_3.trans (nI_0.symm)
  refine lv_istore_n (lv' := [(2, .int (nI 0)), (1, .null), (0, .ref (ad 66))]) hx hb dX6_mostUrgentFace_3 rfl hl (by decide) rfl (fun ls hl => ?_)
  refine lp_ri (f := c_urgF σ) (t := 16) (nL := 4) (fun _ a => ∀ j, a = some j → j < 16) (fun k a => [(2, .int (nI k)), (1, va_rf (Option.map ad a)), (0, .ref (ad 66))]) 16 0 none (by decide) ?_ ?_ (fun _ h => by cases h) ls (lv_sub hl [0, 1, 2] rfl)
  · intro k a hk hIa IH ls hl
    have hIb := urgF_lt (σ := σ) hk hIa
    rcases a with _ | j
    · have hl : lv_has ls 4 [(2, .int (nI k)), (1, .null), (0, .ref (ad 66))] := hl
      refine lv_iload_n hx hb dX6_mostUrgentFace_4 rfl (lv_at hl 0 rfl) ?_
      refine lv_bipush (v := 16) hx hb dX6_mostUrgentFace_5 (by decide) ?_
      refine lv_icmp_ge (tgt := 47) hx hb dX6_mostUrgentFace_7 (by decide) (fun c_7 => ?_) (fun c_7 => ?_)
      · -- if_icmpge taken
        exact absurd c_7 (nI_ge hk (by decide))
      · -- if_icmpge not taken
        refine lv_aload_n hx hb dX6_mostUrgentFace_10 rfl (lv_at hl 2 rfl) ?_
        refine va_get (D := G) (ci := 6) (v := .ref (ad 67)) (C := RX6) (T := TX6) (N := 8) hx hb hg hinX6 hown hK hP 66 rl_main rfl 0 (by decide) (hg _ qF_X6_11) (fun _ h9 => h9) rfl dX6_mostUrgentFace_11 ?_
        refine lv_iload_n hx hb dX6_mostUrgentFace_14 rfl (lv_at hl 0 rfl) ?_
        refine va_aldq hx hb hK hP 67 2 rl_placesA rfl (nI_in16 hk) dX6_mostUrgentFace_15 ?_
        show W _ _ _ _ _ _ _ _ _ _ _ _ _ _ _ (F0 m _ ls (.ref (ad (nx (nI k))) :: []))
        refine lv_astore_n (lv' := [(3, .ref (ad (nx (nI k)))), (2, .int (nI k)), (1, .null), (0, .ref (ad 66))]) hx hb dX6_mostUrgentFace_16 rfl hl (by decide) rfl (fun ls hl => ?_)
        refine lv_aload_n hx hb dX6_mostUrgentFace_17 rfl (lv_at hl 0 rfl) ?_
        refine va_get (D := G) (ci := 2) (v := .int (σ 9 (nx (nI k)))) (C := RX2) (T := TX2) (N := 13) hx hb hg hinX2 hown hK hP (nx (nI k)) (rl_Place (vp_lt (nI_in16 hk))) rfl 11 (by decide) (hg _ qF_X6_297) (fun _ h9 => h9) rfl dX6_mostUrgentFace_18 ?_
        refine lv_if_le (tgt := 41) hx hb dX6_mostUrgentFace_21 (by decide) (fun c_21 => ?_) (fun c_21 => ?_)
        · -- ifle taken
          refine lv_iinc (v := nI (k + 1)) (lv' := [(2, .int (nI (k + 1))), (3, .ref (ad (nx (nI k)))), (1, .null), (0, .ref (ad 66))]) hx hb dX6_mostUrgentFace_41 hl (k := 1) rfl (nI_1 k) (by decide) rfl (fun ls hl => ?_)
          refine lv_goto (tgt := 4) hx hb dX6_mostUrgentFace_44 (by decide) ?_
          have eF : c_urgF σ k none = none := by simp only [c_urgF, if_neg c_7, if_pos c_21]
          refine IH ls hIb ?_
          show lv_has ls 4 [(2, .int (nI (k + 1))), (1, va_rf (Option.map ad (c_urgF σ k none))), (0, .ref (ad 66))]
          rw [eF]
          exact lv_sub hl [0, 2, 3] rfl
        · -- ifle not taken
          refine lv_aload_nN hx hb dX6_mostUrgentFace_24 rfl (lv_at hl 2 rfl) ?_
          refine lv_ifnullN (tgt := 39) hx hb dX6_mostUrgentFace_25 (by decide) ?_
          refine lv_aload_n hx hb dX6_mostUrgentFace_39 rfl (lv_at hl 0 rfl) ?_
          refine lv_astore_n (lv' := [(1, .ref (ad (nx (nI k)))), (3, .ref (ad (nx (nI k)))), (2, .int (nI k)), (0, .ref (ad 66))]) hx hb dX6_mostUrgentFace_40 rfl hl (by decide) rfl (fun ls hl => ?_)
          refine lv_iinc (v := nI (k + 1)) (lv' := [(2, .int (nI (k + 1))), (1, .ref (ad (nx (nI k)))), (3, .ref (ad (nx (nI k)))), (0, .ref (ad 66))]) hx hb dX6_mostUrgentFace_41 hl (k := 2) rfl (nI_1 k) (by decide) rfl (fun ls hl => ?_)
          refine lv_goto (tgt := 4) hx hb dX6_mostUrgentFace_44 (by decide) ?_
          have eF : c_urgF σ k none = some (nx (nI k)) := by simp only [c_urgF, if_neg c_7, if_neg c_21]
          refine IH ls hIb ?_
          show lv_has ls 4 [(2, .int (nI (k + 1))), (1, va_rf (Option.map ad (c_urgF σ k none))), (0, .ref (ad 66))]
          rw [eF]
          exact lv_sub hl [0, 1, 3] rfl
    · have hl : lv_has ls 4 [(2, .int (nI k)), (1, .ref (ad j)), (0, .ref (ad 66))] := hl
      have hj : j < 16 := hIa j rfl
      refine lv_iload_n hx hb dX6_mostUrgentFace_4 rfl (lv_at hl 0 rfl) ?_
      refine lv_bipush (v := 16) hx hb dX6_mostUrgentFace_5 (by decide) ?_
      refine lv_icmp_ge (tgt := 47) hx hb dX6_mostUrgentFace_7 (by decide) (fun c_7 => ?_) (fun c_7 => ?_)
      · -- if_icmpge taken
        exact absurd c_7 (nI_ge hk (by decide))
      · -- if_icmpge not taken
        refine lv_aload_n hx hb dX6_mostUrgentFace_10 rfl (lv_at hl 2 rfl) ?_
        refine va_get (D := G) (ci := 6) (v := .ref (ad 67)) (C := RX6) (T := TX6) (N := 8) hx hb hg hinX6 hown hK hP 66 rl_main rfl 0 (by decide) (hg _ qF_X6_11) (fun _ h9 => h9) rfl dX6_mostUrgentFace_11 ?_
        refine lv_iload_n hx hb dX6_mostUrgentFace_14 rfl (lv_at hl 0 rfl) ?_
        refine va_aldq hx hb hK hP 67 2 rl_placesA rfl (nI_in16 hk) dX6_mostUrgentFace_15 ?_
        show W _ _ _ _ _ _ _ _ _ _ _ _ _ _ _ (F0 m _ ls (.ref (ad (nx (nI k))) :: []))
        refine lv_astore_n (lv' := [(3, .ref (ad (nx (nI k)))), (2, .int (nI k)), (1, .ref (ad j)), (0, .ref (ad 66))]) hx hb dX6_mostUrgentFace_16 rfl hl (by decide) rfl (fun ls hl => ?_)
        refine lv_aload_n hx hb dX6_mostUrgentFace_17 rfl (lv_at hl 0 rfl) ?_
        refine va_get (D := G) (ci := 2) (v := .int (σ 9 (nx (nI k)))) (C := RX2) (T := TX2) (N := 13) hx hb hg hinX2 hown hK hP (nx (nI k)) (rl_Place (vp_lt (nI_in16 hk))) rfl 11 (by decide) (hg _ qF_X6_297) (fun _ h9 => h9) rfl dX6_mostUrgentFace_18 ?_
        refine lv_if_le (tgt := 41) hx hb dX6_mostUrgentFace_21 (by decide) (fun c_21 => ?_) (fun c_21 => ?_)
        · -- ifle taken
          refine lv_iinc (v := nI (k + 1)) (lv' := [(2, .int (nI (k + 1))), (3, .ref (ad (nx (nI k)))), (1, .ref (ad j)), (0, .ref (ad 66))]) hx hb dX6_mostUrgentFace_41 hl (k := 1) rfl (nI_1 k) (by decide) rfl (fun ls hl => ?_)
          refine lv_goto (tgt := 4) hx hb dX6_mostUrgentFace_44 (by decide) ?_
          have eF : c_urgF σ k (some j) = some j := by simp only [c_urgF, if_neg c_7, if_pos c_21]
          refine IH ls hIb ?_
          show lv_has ls 4 [(2, .int (nI (k + 1))), (1, va_rf (Option.map ad (c_urgF σ k (some j)))), (0, .ref (ad 66))]
          rw [eF]
          exact lv_sub hl [0, 2, 3] rfl
        · -- ifle not taken
          refine lv_aload_n hx hb dX6_mostUrgentFace_24 rfl (lv_at hl 2 rfl) ?_
          refine lv_ifnull hx hb dX6_mostUrgentFace_25 ?_
          refine lv_aload_n hx hb dX6_mostUrgentFace_28 rfl (lv_at hl 0 rfl) ?_
          refine va_get (D := G) (ci := 2) (v := .int (σ 10 (nx (nI k)))) (C := RX2) (T := TX2) (N := 13) hx hb hg hinX2 hown hK hP (nx (nI k)) (rl_Place (vp_lt (nI_in16 hk))) rfl 12 (by decide) (hg _ qF_X6_307) (fun _ h9 => h9) rfl dX6_mostUrgentFace_29 ?_
          refine lv_aload_n hx hb dX6_mostUrgentFace_32 rfl (lv_at hl 2 rfl) ?_
          refine va_get (D := G) (ci := 2) (v := .int (σ 10 j)) (C := RX2) (T := TX2) (N := 13) hx hb hg hinX2 hown hK hP j (rl_Place hj) rfl 12 (by decide) (hg _ qF_X6_307) (fun _ h9 => h9) rfl dX6_mostUrgentFace_33 ?_
          refine lv_icmp_ge (tgt := 41) hx hb dX6_mostUrgentFace_36 (by decide) (fun c_36 => ?_) (fun c_36 => ?_)
          · -- if_icmpge taken
            refine lv_iinc (v := nI (k + 1)) (lv' := [(2, .int (nI (k + 1))), (3, .ref (ad (nx (nI k)))), (1, .ref (ad j)), (0, .ref (ad 66))]) hx hb dX6_mostUrgentFace_41 hl (k := 1) rfl (nI_1 k) (by decide) rfl (fun ls hl => ?_)
            refine lv_goto (tgt := 4) hx hb dX6_mostUrgentFace_44 (by decide) ?_
            have eF : c_urgF σ k (some j) = some j := by simp only [c_urgF, if_neg c_7, if_neg c_21, if_pos c_36]
            refine IH ls hIb ?_
            show lv_has ls 4 [(2, .int (nI (k + 1))), (1, va_rf (Option.map ad (c_urgF σ k (some j)))), (0, .ref (ad 66))]
            rw [eF]
            exact lv_sub hl [0, 2, 3] rfl
          · -- if_icmpge not taken
            refine lv_aload_n hx hb dX6_mostUrgentFace_39 rfl (lv_at hl 0 rfl) ?_
            refine lv_astore_n (lv' := [(1, .ref (ad (nx (nI k)))), (3, .ref (ad (nx (nI k)))), (2, .int (nI k)), (0, .ref (ad 66))]) hx hb dX6_mostUrgentFace_40 rfl hl (by decide) rfl (fun ls hl => ?_)
            refine lv_iinc (v := nI (k + 1)) (lv' := [(2, .int (nI (k + 1))), (1, .ref (ad (nx (nI k)))), (3, .ref (ad (nx (nI k)))), (0, .ref (ad 66))]) hx hb dX6_mostUrgentFace_41 hl (k := 2) rfl (nI_1 k) (by decide) rfl (fun ls hl => ?_)
            refine lv_goto (tgt := 4) hx hb dX6_mostUrgentFace_44 (by decide) ?_
            have eF : c_urgF σ k (some j) = some (nx (nI k)) := by simp only [c_urgF, if_neg c_7, if_neg c_21, if_neg c_36]
            refine IH ls hIb ?_
            show lv_has ls 4 [(2, .int (nI (k + 1))), (1, va_rf (Option.map ad (c_urgF σ k (some j)))), (0, .ref (ad 66))]
            rw [eF]
            exact lv_sub hl [0, 1, 3] rfl
  · intro hIa ls hl
    have hu : foldN (c_urgF σ) 16 0 none = c_urgent σ := rfl
    rw [hu] at hIa hl
    rcases hv : c_urgent σ with _ | j
    · rw [hv] at hl
      have hl : lv_has ls 4 [(2, .int (nI 16)), (1, .null), (0, .ref (ad 66))] := hl
      refine lv_iload_n hx hb dX6_mostUrgentFace_4 rfl (lv_at hl 0 rfl) ?_
      refine lv_bipush (v := 16) hx hb dX6_mostUrgentFace_5 (by decide) ?_
      refine lv_icmp_ge (tgt := 47) hx hb dX6_mostUrgentFace_7 (by decide) (fun c_7 => ?_) (fun c_7 => ?_)
      · -- if_icmpge taken
        refine lv_aload_nN hx hb dX6_mostUrgentFace_47 rfl (lv_at hl 1 rfl) ?_
        exact W.aret (v := .null) (rt := .object "ReplenishRules$Place") hx hb hr (Or.inl ⟨_, rfl⟩) (Or.inl rfl) (fun t ht hW => ⟨none, rfl, rfl, ht⟩) (fun _ h => nomatch h) dX6_mostUrgentFace_48
      · -- if_icmpge not taken
        exact absurd (Int32.le_refl _) c_7
    · rw [hv] at hl
      have hl : lv_has ls 4 [(2, .int (nI 16)), (1, .ref (ad j)), (0, .ref (ad 66))] := hl
      refine lv_iload_n hx hb dX6_mostUrgentFace_4 rfl (lv_at hl 0 rfl) ?_
      refine lv_bipush (v := 16) hx hb dX6_mostUrgentFace_5 (by decide) ?_
      refine lv_icmp_ge (tgt := 47) hx hb dX6_mostUrgentFace_7 (by decide) (fun c_7 => ?_) (fun c_7 => ?_)
      · -- if_icmpge taken
        refine lv_aload_n hx hb dX6_mostUrgentFace_47 rfl (lv_at hl 1 rfl) ?_
        exact W.aret (v := .ref (ad j)) (rt := .object "ReplenishRules$Place") hx hb hr (Or.inl ⟨_, rfl⟩) (Or.inr ⟨_, rfl⟩) (fun t ht hW => ⟨some (ad j), rfl, rfl, ht⟩) (fun _ h => nomatch h) dX6_mostUrgentFace_48
      · -- if_icmpge not taken
        exact absurd (Int32.le_refl _) c_7
