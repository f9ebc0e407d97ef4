set_option maxHeartbeats 4000000 in
set_option maxRecDepth 100000 in
theorem la_day {p : Program} {l : Launch} {e : Env} {s : State} {m : MethodId} {below : List Frame} {meth : Method} {c : Code} {b L : Nat} {xs : Nat → Int32} {G : va_G} {cA : Nat → ClassId} {ad am : Nat → Nat} {qo : Nat} {cJ : ClassId} {σ μ : St} {z : Int64} {H : Heap} {locs : List Loc} {cells slots n : Nat} {Q : State → Prop} (D : LD l p s m meth c b L xs G cA ad am qo cJ) (hR : Rel n σ μ) (hn : n < 512) (hL5 : 5 * n + 5 ≤ L) (hL : L ≤ 2560) (hH : LH s G cA ad am qo cJ σ μ z H locs) (hf : cells + 5 ≤ 601024 ∧ slots + 30 ≤ 7293034)
    (IH : ∀ (σ1 μ1 : St) (z1 : Int64) (H1 : Heap) (locs1 : List Loc) (ls1 : Array Slot), Rel (n + 1) σ1 μ1 → LH s G cA ad am qo cJ σ1 μ1 z1 H1 locs1 → lv_has ls1 8 [(0, .ref b), (1, .ref (ad 66)), (2, .ref (am 0)), (3, .ref qo), (4, .int (nI (5 * n)))] → W p l e room_1 s m #[Value.ref b] below meth c H1 locs1 (cells + 5) (slots + 30) Q (F0 m 1214 ls1 []))
    (ls : Array Slot) (hl : lv_has ls 8 [(0, .ref b), (1, .ref (ad 66)), (2, .ref (am 0)), (3, .ref qo), (4, .int (nI (5 * n)))]) : W p l e room_1 s m #[Value.ref b] below meth c H locs cells slots Q (F0 m 720 ls []) := by
  have hx := D.1.1
  have hb := D.1.2.1
  have hg := (la_fix D).2.2.2.2
  refine lv_aload_n hx hb dL_law_720 rfl (lv_at hl 1 rfl) ?_
  refine lv_aload_n hx hb dL_law_721 rfl (lv_at hl 0 rfl) ?_
  refine lv_iload hx hb dL_law_722 (lv_at hl 4 rfl) ?_
  refine lv_iconst (v := 1) hx hb dL_law_724 (by decide) ?_
  refine lv_iadd hx hb dL_law_725 ?_
  refine la_sld D hH (ix_in (k := 1) (by decide) hL5 hL) dL_law_726 ?_
  have hq := q_day hR (xs (nx ((nI (5 * n)) + 1)))
  have hM := l_day l D.2.1 G cA ad σ D.2.2.2.2.2.2.1.1 (xs (nx ((nI (5 * n)) + 1)))
  have hN := m_ReplenishRulesModel_day l G cA am μ D.2.2.2.2.2.2.1.2 (xs (nx ((nI (5 * n)) + 1)))
  refine la_V (n := 2) D hH hM (by decide) kL_day qN_L qM_L_129 qT_L_day (by decide +kernel) rfl hl.1 rfl dL_law_727 hf (fun H locs hH => ?_)
  refine lv_istore (lv' := [(5, .int (nI (c_dayK σ (xs (nx ((nI (5 * n)) + 1)))))), (0, .ref b), (1, .ref (ad 66)), (2, .ref (am 0)), (3, .ref qo), (4, .int (nI (5 * n)))]) hx hb dL_law_730 hl (by decide) rfl (fun ls hl => ?_)
  refine lv_aload_n hx hb dL_law_732 rfl (lv_at hl 3 rfl) ?_
  refine lv_aload_n hx hb dL_law_733 rfl (lv_at hl 1 rfl) ?_
  refine lv_iload hx hb dL_law_734 (lv_at hl 5 rfl) ?_
  refine lv_iconst (v := 1) hx hb dL_law_736 (by decide) ?_
  refine lv_iadd hx hb dL_law_737 ?_
  refine la_sld D hH (ix_in (k := 1) (by decide) hL5 hL) dL_law_738 ?_
  refine la_Mv D hH hN (cwV 1 hg (gV qM_L_132 qI_X7_day qS_X7_day qN_X7 kX7_day) rfl rfl rfl (by decide +kernel) ⟨Nat.le_of_ble_eq_true rfl, Nat.le_of_ble_eq_true rfl⟩) rfl hl.1 rfl dL_law_739 hf (fun H locs hH => ?_)
  refine lv_aload_n hx hb dL_law_742 rfl (lv_at hl 3 rfl) ?_
  refine la_Th D hH (cwV 0 hg (gV qM_L_96 qI_X7_thrown qS_X7_thrown qN_X7 kX7_thrown) rfl rfl rfl (by decide +kernel) ⟨Nat.le_of_ble_eq_true rfl, Nat.le_of_ble_eq_true rfl⟩) hl.1 dL_law_743 hf ?_
  refine lv_iload hx hb dL_law_746 (lv_at hl 0 rfl) ?_
  refine lv_icmp_eq (tgt := 753) hx hb dL_law_748 (by decide) (fun c_748 => ?_) (fun c_748 => ?_)
  · -- if_icmpeq taken
    refine lv_goto (tgt := 1214) hx hb dL_law_753 (by decide) ?_
    exact IH _ _ _ H locs ls (rel_up hq.2) hH (lv_sub hl [1, 2, 3, 4, 5] rfl)
  · -- if_icmpeq not taken
    exact absurd hq.1 c_748

set_option maxHeartbeats 4000000 in
set_option maxRecDepth 100000 in
theorem la_mean {p : Program} {l : Launch} {e : Env} {s : State} {m : MethodId} {below : List Frame} {meth : Method} {c : Code} {b L : Nat} {xs : Nat → Int32} {G : va_G} {cA : Nat → ClassId} {ad am : Nat → Nat} {qo : Nat} {cJ : ClassId} {σ μ : St} {z : Int64} {H : Heap} {locs : List Loc} {cells slots n : Nat} {Q : State → Prop} (D : LD l p s m meth c b L xs G cA ad am qo cJ) (hR : Rel n σ μ) (hn : n < 512) (hL5 : 5 * n + 5 ≤ L) (hL : L ≤ 2560) (hH : LH s G cA ad am qo cJ σ μ z H locs) (hf : cells + 5 ≤ 601024 ∧ slots + 30 ≤ 7293034)
    (IH : ∀ (σ1 μ1 : St) (z1 : Int64) (H1 : Heap) (locs1 : List Loc) (ls1 : Array Slot), Rel (n + 1) σ1 μ1 → LH s G cA ad am qo cJ σ1 μ1 z1 H1 locs1 → lv_has ls1 8 [(0, .ref b), (1, .ref (ad 66)), (2, .ref (am 0)), (3, .ref qo), (4, .int (nI (5 * n)))] → W p l e room_1 s m #[Value.ref b] below meth c H1 locs1 (cells + 5) (slots + 30) Q (F0 m 1214 ls1 []))
    (ls : Array Slot) (hl : lv_has ls 8 [(0, .ref b), (1, .ref (ad 66)), (2, .ref (am 0)), (3, .ref qo), (4, .int (nI (5 * n)))]) : W p l e room_1 s m #[Value.ref b] below meth c H locs cells slots Q (F0 m 756 ls []) := by
  have hx := D.1.1
  have hb := D.1.2.1
  have hg := (la_fix D).2.2.2.2
  refine lv_aload_n hx hb dL_law_756 rfl (lv_at hl 1 rfl) ?_
  refine lv_aload_n hx hb dL_law_757 rfl (lv_at hl 0 rfl) ?_
  refine lv_iload hx hb dL_law_758 (lv_at hl 4 rfl) ?_
  refine lv_iconst (v := 1) hx hb dL_law_760 (by decide) ?_
  refine lv_iadd hx hb dL_law_761 ?_
  refine la_sld D hH (ix_in (k := 1) (by decide) hL5 hL) dL_law_762 ?_
  refine lv_aload_n hx hb dL_law_763 rfl (lv_at hl 0 rfl) ?_
  refine lv_iload hx hb dL_law_764 (lv_at hl 4 rfl) ?_
  refine lv_iconst (v := 2) hx hb dL_law_766 (by decide) ?_
  refine lv_iadd hx hb dL_law_767 ?_
  refine la_sld D hH (ix_in (k := 2) (by decide) hL5 hL) dL_law_768 ?_
  refine lv_aload_n hx hb dL_law_769 rfl (lv_at hl 3 rfl) ?_
  have hq := q_mean hR (Nat.le_of_lt hn) (xs (nx ((nI (5 * n)) + 1))) (xs (nx ((nI (5 * n)) + 2)))
  have hM := l_mean l D.2.1 G cA ad σ D.2.2.2.2.2.2.1.1 (rel_inv hR) (xs (nx ((nI (5 * n)) + 1))) (xs (nx ((nI (5 * n)) + 2))) qo cJ z
  have hN := m_ReplenishRulesModel_mean l G cA am μ D.2.2.2.2.2.2.1.2 (rel_minv hR) (xs (nx ((nI (5 * n)) + 1))) (xs (nx ((nI (5 * n)) + 2)))
  refine la_L (n := 4) D hH hM (by decide) kL_mean qN_L qM_L_133 qT_L_mean (by decide +kernel) rfl hl.1 rfl dL_law_770 hf (fun z1 H locs hz hH => ?_)
  refine lv_istore (lv' := [(5, .int (nI (cdE (c_meanK σ (xs (nx ((nI (5 * n)) + 1))) (xs (nx ((nI (5 * n)) + 2))))))), (0, .ref b), (1, .ref (ad 66)), (2, .ref (am 0)), (3, .ref qo), (4, .int (nI (5 * n)))]) hx hb dL_law_773 hl (by decide) rfl (fun ls hl => ?_)
  refine lv_aload_n hx hb dL_law_775 rfl (lv_at hl 3 rfl) ?_
  refine lv_aload_n hx hb dL_law_776 rfl (lv_at hl 1 rfl) ?_
  refine lv_iload hx hb dL_law_777 (lv_at hl 5 rfl) ?_
  refine lv_iconst (v := 1) hx hb dL_law_779 (by decide) ?_
  refine lv_iadd hx hb dL_law_780 ?_
  refine la_sld D hH (ix_in (k := 1) (by decide) hL5 hL) dL_law_781 ?_
  refine lv_aload_n hx hb dL_law_782 rfl (lv_at hl 1 rfl) ?_
  refine lv_iload hx hb dL_law_783 (lv_at hl 5 rfl) ?_
  refine lv_iconst (v := 2) hx hb dL_law_785 (by decide) ?_
  refine lv_iadd hx hb dL_law_786 ?_
  refine la_sld D hH (ix_in (k := 2) (by decide) hL5 hL) dL_law_787 ?_
  refine la_Mi D hH hN (cwV 2 hg (gV qM_L_136 qI_X7_mean qS_X7_mean qN_X7 kX7_mean) rfl rfl rfl (by decide +kernel) ⟨Nat.le_of_ble_eq_true rfl, Nat.le_of_ble_eq_true rfl⟩) rfl hl.1 rfl dL_law_788 hf (fun H locs hH => ?_)
  refine lv_istore (lv' := [(6, .int (m_meanR μ (xs (nx ((nI (5 * n)) + 1))) (xs (nx ((nI (5 * n)) + 2))))), (5, .int (nI (cdE (c_meanK σ (xs (nx ((nI (5 * n)) + 1))) (xs (nx ((nI (5 * n)) + 2))))))), (0, .ref b), (1, .ref (ad 66)), (2, .ref (am 0)), (3, .ref qo), (4, .int (nI (5 * n)))]) hx hb dL_law_791 hl (by decide) rfl (fun ls hl => ?_)
  refine lv_aload_n hx hb dL_law_793 rfl (lv_at hl 4 rfl) ?_
  refine la_Th D hH (cwV 0 hg (gV qM_L_96 qI_X7_thrown qS_X7_thrown qN_X7 kX7_thrown) rfl rfl rfl (by decide +kernel) ⟨Nat.le_of_ble_eq_true rfl, Nat.le_of_ble_eq_true rfl⟩) hl.1 dL_law_794 hf ?_
  refine lv_iload hx hb dL_law_797 (lv_at hl 1 rfl) ?_
  refine lv_icmp_eq (tgt := 804) hx hb dL_law_799 (by decide) (fun c_799 => ?_) (fun c_799 => ?_)
  · -- if_icmpeq taken
    refine lv_iload hx hb dL_law_804 (lv_at hl 1 rfl) ?_
    refine lv_if_ne (tgt := 821) hx hb dL_law_806 (by decide) (fun c_806 => ?_) (fun c_806 => ?_)
    · -- ifne taken
      refine lv_goto (tgt := 1214) hx hb dL_law_821 (by decide) ?_
      exact IH _ _ _ H locs ls (rel_up hq.2.1) hH (lv_sub hl [2, 3, 4, 5, 6] rfl)
    · -- ifne not taken
      have e0 : cdE (c_meanK σ (xs (nx ((nI (5 * n)) + 1))) (xs (nx ((nI (5 * n)) + 2)))) = 0 := nI_z (by rcases rn_mean σ (xs (nx ((nI (5 * n)) + 1))) (xs (nx ((nI (5 * n)) + 2))) with h | h | h | h <;> rw [h] <;> decide) c_806
      have k0 : c_meanK σ (xs (nx ((nI (5 * n)) + 1))) (xs (nx ((nI (5 * n)) + 2))) = 0 := by
        rcases rn_mean σ (xs (nx ((nI (5 * n)) + 1))) (xs (nx ((nI (5 * n)) + 2))) with h | h | h | h
        · exact h
        all_goals (rw [h] at e0; exact absurd e0 (by decide))
      refine lv_aload_n hx hb dL_law_809 rfl (lv_at hl 5 rfl) ?_
      refine lv_iconst (v := 0) hx hb dL_law_810 (by decide) ?_
      refine la_ld D hH dL_law_811 ?_
      refine lv_iload hx hb dL_law_812 (lv_at hl 0 rfl) ?_
      refine lv_i2l (v := (m_meanR μ (xs (nx ((nI (5 * n)) + 1))) (xs (nx ((nI (5 * n)) + 2)))).toInt64) hx hb dL_law_814 rfl ?_
      refine W.lcmp hx hb dL_law_815 ?_
      refine lv_if_eq (tgt := 821) hx hb dL_law_816 (by decide) (fun c_816 => ?_) (fun c_816 => ?_)
      · -- ifeq taken
        refine lv_goto (tgt := 1214) hx hb dL_law_821 (by decide) ?_
        exact IH _ _ _ H locs ls (rel_up hq.2.1) hH (lv_sub hl [2, 3, 4, 5, 6] rfl)
      · -- ifeq not taken
        exact absurd (cmp_self ((hz e0).trans (by rw [hq.2.2 k0]))) c_816
  · -- if_icmpeq not taken
    exact absurd hq.1 c_799

set_option maxHeartbeats 4000000 in
set_option maxRecDepth 100000 in
theorem la_forecast {p : Program} {l : Launch} {e : Env} {s : State} {m : MethodId} {below : List Frame} {meth : Method} {c : Code} {b L : Nat} {xs : Nat → Int32} {G : va_G} {cA : Nat → ClassId} {ad am : Nat → Nat} {qo : Nat} {cJ : ClassId} {σ μ : St} {z : Int64} {H : Heap} {locs : List Loc} {cells slots n : Nat} {Q : State → Prop} (D : LD l p s m meth c b L xs G cA ad am qo cJ) (hR : Rel n σ μ) (hn : n < 512) (hL5 : 5 * n + 5 ≤ L) (hL : L ≤ 2560) (hH : LH s G cA ad am qo cJ σ μ z H locs) (hf : cells + 5 ≤ 601024 ∧ slots + 30 ≤ 7293034)
    (IH : ∀ (σ1 μ1 : St) (z1 : Int64) (H1 : Heap) (locs1 : List Loc) (ls1 : Array Slot), Rel (n + 1) σ1 μ1 → LH s G cA ad am qo cJ σ1 μ1 z1 H1 locs1 → lv_has ls1 8 [(0, .ref b), (1, .ref (ad 66)), (2, .ref (am 0)), (3, .ref qo), (4, .int (nI (5 * n)))] → W p l e room_1 s m #[Value.ref b] below meth c H1 locs1 (cells + 5) (slots + 30) Q (F0 m 1214 ls1 []))
    (ls : Array Slot) (hl : lv_has ls 8 [(0, .ref b), (1, .ref (ad 66)), (2, .ref (am 0)), (3, .ref qo), (4, .int (nI (5 * n)))]) : W p l e room_1 s m #[Value.ref b] below meth c H locs cells slots Q (F0 m 824 ls []) := by
  have hx := D.1.1
  have hb := D.1.2.1
  have hg := (la_fix D).2.2.2.2
  refine lv_aload_n hx hb dL_law_824 rfl (lv_at hl 1 rfl) ?_
  refine lv_aload_n hx hb dL_law_825 rfl (lv_at hl 0 rfl) ?_
  refine lv_iload hx hb dL_law_826 (lv_at hl 4 rfl) ?_
  refine lv_iconst (v := 1) hx hb dL_law_828 (by decide) ?_
  refine lv_iadd hx hb dL_law_829 ?_
  refine la_sld D hH (ix_in (k := 1) (by decide) hL5 hL) dL_law_830 ?_
  refine lv_aload_n hx hb dL_law_831 rfl (lv_at hl 3 rfl) ?_
  have hq := q_forecast hR (Nat.le_of_lt hn) (xs (nx ((nI (5 * n)) + 1)))
  have hM := l_forecast l D.2.1 G cA ad σ D.2.2.2.2.2.2.1.1 (rel_inv hR) (xs (nx ((nI (5 * n)) + 1))) qo cJ z
  have hN := m_ReplenishRulesModel_forecast l G cA am μ D.2.2.2.2.2.2.1.2 (rel_minv hR) (xs (nx ((nI (5 * n)) + 1)))
  refine la_L (n := 3) D hH hM (by decide) kL_forecast qN_L qM_L_137 qT_L_forecast (by decide +kernel) rfl hl.1 rfl dL_law_832 hf (fun z1 H locs hz hH => ?_)
  refine lv_istore (lv' := [(5, .int (nI (c_faceAt σ (xs (nx ((nI (5 * n)) + 1)))))), (0, .ref b), (1, .ref (ad 66)), (2, .ref (am 0)), (3, .ref qo), (4, .int (nI (5 * n)))]) hx hb dL_law_835 hl (by decide) rfl (fun ls hl => ?_)
  refine lv_aload_n hx hb dL_law_837 rfl (lv_at hl 3 rfl) ?_
  refine lv_aload_n hx hb dL_law_838 rfl (lv_at hl 1 rfl) ?_
  refine lv_iload hx hb dL_law_839 (lv_at hl 5 rfl) ?_
  refine lv_iconst (v := 1) hx hb dL_law_841 (by decide) ?_
  refine lv_iadd hx hb dL_law_842 ?_
  refine la_sld D hH (ix_in (k := 1) (by decide) hL5 hL) dL_law_843 ?_
  refine la_Ml D hH hN (cwV 1 hg (gV qM_L_140 qI_X7_forecast qS_X7_forecast qN_X7 kX7_forecast) rfl rfl rfl (by decide +kernel) ⟨Nat.le_of_ble_eq_true rfl, Nat.le_of_ble_eq_true rfl⟩) rfl hl.1 rfl dL_law_844 hf (fun H locs hH => ?_)
  refine lv_lstore (lv' := [(6, .long (m_forecastR μ (xs (nx ((nI (5 * n)) + 1))))), (5, .int (nI (c_faceAt σ (xs (nx ((nI (5 * n)) + 1)))))), (0, .ref b), (1, .ref (ad 66)), (2, .ref (am 0)), (3, .ref qo), (4, .int (nI (5 * n)))]) hx hb dL_law_847 hl (by decide) rfl (fun ls hl => ?_)
  refine lv_aload_n hx hb dL_law_849 rfl (lv_at hl 4 rfl) ?_
  refine la_Th D hH (cwV 0 hg (gV qM_L_96 qI_X7_thrown qS_X7_thrown qN_X7 kX7_thrown) rfl rfl rfl (by decide +kernel) ⟨Nat.le_of_ble_eq_true rfl, Nat.le_of_ble_eq_true rfl⟩) hl.1 dL_law_850 hf ?_
  refine lv_iload hx hb dL_law_853 (lv_at hl 1 rfl) ?_
  refine lv_icmp_eq (tgt := 860) hx hb dL_law_855 (by decide) (fun c_855 => ?_) (fun c_855 => ?_)
  · -- if_icmpeq taken
    refine lv_iload hx hb dL_law_860 (lv_at hl 1 rfl) ?_
    refine lv_if_ne (tgt := 876) hx hb dL_law_862 (by decide) (fun c_862 => ?_) (fun c_862 => ?_)
    · -- ifne taken
      refine lv_goto (tgt := 1214) hx hb dL_law_876 (by decide) ?_
      exact IH _ _ _ H locs ls (rel_up hq.2.1) hH (lv_sub hl [2, 3, 4, 5, 6] rfl)
    · -- ifne not taken
      have e0 : c_faceAt σ (xs (nx ((nI (5 * n)) + 1))) = 0 := nI_z (by rcases rn_forecast σ (xs (nx ((nI (5 * n)) + 1))) with h | h | h <;> rw [h] <;> decide) c_862
      have k0 := e0
      refine lv_aload_n hx hb dL_law_865 rfl (lv_at hl 5 rfl) ?_
      refine lv_iconst (v := 0) hx hb dL_law_866 (by decide) ?_
      refine la_ld D hH dL_law_867 ?_
      refine lv_lload hx hb dL_law_868 (lv_at hl 0 rfl) ?_
      refine W.lcmp hx hb dL_law_870 ?_
      refine lv_if_eq (tgt := 876) hx hb dL_law_871 (by decide) (fun c_871 => ?_) (fun c_871 => ?_)
      · -- ifeq taken
        refine lv_goto (tgt := 1214) hx hb dL_law_876 (by decide) ?_
        exact IH _ _ _ H locs ls (rel_up hq.2.1) hH (lv_sub hl [2, 3, 4, 5, 6] rfl)
      · -- ifeq not taken
        exact absurd (cmp_self ((hz e0).trans (by rw [hq.2.2 k0]))) c_871
  · -- if_icmpeq not taken
    exact absurd hq.1 c_855

set_option maxHeartbeats 4000000 in
set_option maxRecDepth 100000 in
theorem la_threshold {p : Program} {l : Launch} {e : Env} {s : State} {m : MethodId} {below : List Frame} {meth : Method} {c : Code} {b L : Nat} {xs : Nat → Int32} {G : va_G} {cA : Nat → ClassId} {ad am : Nat → Nat} {qo : Nat} {cJ : ClassId} {σ μ : St} {z : Int64} {H : Heap} {locs : List Loc} {cells slots n : Nat} {Q : State → Prop} (D : LD l p s m meth c b L xs G cA ad am qo cJ) (hR : Rel n σ μ) (hn : n < 512) (hL5 : 5 * n + 5 ≤ L) (hL : L ≤ 2560) (hH : LH s G cA ad am qo cJ σ μ z H locs) (hf : cells + 5 ≤ 601024 ∧ slots + 30 ≤ 7293034)
    (IH : ∀ (σ1 μ1 : St) (z1 : Int64) (H1 : Heap) (locs1 : List Loc) (ls1 : Array Slot), Rel (n + 1) σ1 μ1 → LH s G cA ad am qo cJ σ1 μ1 z1 H1 locs1 → lv_has ls1 8 [(0, .ref b), (1, .ref (ad 66)), (2, .ref (am 0)), (3, .ref qo), (4, .int (nI (5 * n)))] → W p l e room_1 s m #[Value.ref b] below meth c H1 locs1 (cells + 5) (slots + 30) Q (F0 m 1214 ls1 []))
    (ls : Array Slot) (hl : lv_has ls 8 [(0, .ref b), (1, .ref (ad 66)), (2, .ref (am 0)), (3, .ref qo), (4, .int (nI (5 * n)))]) : W p l e room_1 s m #[Value.ref b] below meth c H locs cells slots Q (F0 m 879 ls []) := by
  have hx := D.1.1
  have hb := D.1.2.1
  have hg := (la_fix D).2.2.2.2
  refine lv_aload_n hx hb dL_law_879 rfl (lv_at hl 1 rfl) ?_
  refine lv_aload_n hx hb dL_law_880 rfl (lv_at hl 0 rfl) ?_
  refine lv_iload hx hb dL_law_881 (lv_at hl 4 rfl) ?_
  refine lv_iconst (v := 1) hx hb dL_law_883 (by decide) ?_
  refine lv_iadd hx hb dL_law_884 ?_
  refine la_sld D hH (ix_in (k := 1) (by decide) hL5 hL) dL_law_885 ?_
  refine lv_aload_n hx hb dL_law_886 rfl (lv_at hl 3 rfl) ?_
  have hq := q_threshold hR (Nat.le_of_lt hn) (xs (nx ((nI (5 * n)) + 1)))
  have hM := l_threshold l D.2.1 G cA ad σ D.2.2.2.2.2.2.1.1 (rel_inv hR) (xs (nx ((nI (5 * n)) + 1))) qo cJ z
  have hN := m_ReplenishRulesModel_threshold l G cA am μ D.2.2.2.2.2.2.1.2 (rel_minv hR) (xs (nx ((nI (5 * n)) + 1)))
  refine la_L (n := 3) D hH hM (by decide) kL_threshold qN_L qM_L_141 qT_L_threshold (by decide +kernel) rfl hl.1 rfl dL_law_887 hf (fun z1 H locs hz hH => ?_)
  refine lv_istore (lv' := [(5, .int (nI (c_faceAt σ (xs (nx ((nI (5 * n)) + 1)))))), (0, .ref b), (1, .ref (ad 66)), (2, .ref (am 0)), (3, .ref qo), (4, .int (nI (5 * n)))]) hx hb dL_law_890 hl (by decide) rfl (fun ls hl => ?_)
  refine lv_aload_n hx hb dL_law_892 rfl (lv_at hl 3 rfl) ?_
  refine lv_aload_n hx hb dL_law_893 rfl (lv_at hl 1 rfl) ?_
  refine lv_iload hx hb dL_law_894 (lv_at hl 5 rfl) ?_
  refine lv_iconst (v := 1) hx hb dL_law_896 (by decide) ?_
  refine lv_iadd hx hb dL_law_897 ?_
  refine la_sld D hH (ix_in (k := 1) (by decide) hL5 hL) dL_law_898 ?_
  refine la_Mi D hH hN (cwV 1 hg (gV qM_L_143 qI_X7_threshold qS_X7_threshold qN_X7 kX7_threshold) rfl rfl rfl (by decide +kernel) ⟨Nat.le_of_ble_eq_true rfl, Nat.le_of_ble_eq_true rfl⟩) rfl hl.1 rfl dL_law_899 hf (fun H locs hH => ?_)
  refine lv_istore (lv' := [(6, .int (m_thresholdR μ (xs (nx ((nI (5 * n)) + 1))))), (5, .int (nI (c_faceAt σ (xs (nx ((nI (5 * n)) + 1)))))), (0, .ref b), (1, .ref (ad 66)), (2, .ref (am 0)), (3, .ref qo), (4, .int (nI (5 * n)))]) hx hb dL_law_902 hl (by decide) rfl (fun ls hl => ?_)
  refine lv_aload_n hx hb dL_law_904 rfl (lv_at hl 4 rfl) ?_
  refine la_Th D hH (cwV 0 hg (gV qM_L_96 qI_X7_thrown qS_X7_thrown qN_X7 kX7_thrown) rfl rfl rfl (by decide +kernel) ⟨Nat.le_of_ble_eq_true rfl, Nat.le_of_ble_eq_true rfl⟩) hl.1 dL_law_905 hf ?_
  refine lv_iload hx hb dL_law_908 (lv_at hl 1 rfl) ?_
  refine lv_icmp_eq (tgt := 915) hx hb dL_law_910 (by decide) (fun c_910 => ?_) (fun c_910 => ?_)
  · -- if_icmpeq taken
    refine lv_iload hx hb dL_law_915 (lv_at hl 1 rfl) ?_
    refine lv_if_ne (tgt := 932) hx hb dL_law_917 (by decide) (fun c_917 => ?_) (fun c_917 => ?_)
    · -- ifne taken
      refine lv_goto (tgt := 1214) hx hb dL_law_932 (by decide) ?_
      exact IH _ _ _ H locs ls (rel_up hq.2.1) hH (lv_sub hl [2, 3, 4, 5, 6] rfl)
    · -- ifne not taken
      have e0 : c_faceAt σ (xs (nx ((nI (5 * n)) + 1))) = 0 := nI_z (by rcases rn_threshold σ (xs (nx ((nI (5 * n)) + 1))) with h | h | h <;> rw [h] <;> decide) c_917
      have k0 := e0
      refine lv_aload_n hx hb dL_law_920 rfl (lv_at hl 5 rfl) ?_
      refine lv_iconst (v := 0) hx hb dL_law_921 (by decide) ?_
      refine la_ld D hH dL_law_922 ?_
      refine lv_iload hx hb dL_law_923 (lv_at hl 0 rfl) ?_
      refine lv_i2l (v := (m_thresholdR μ (xs (nx ((nI (5 * n)) + 1)))).toInt64) hx hb dL_law_925 rfl ?_
      refine W.lcmp hx hb dL_law_926 ?_
      refine lv_if_eq (tgt := 932) hx hb dL_law_927 (by decide) (fun c_927 => ?_) (fun c_927 => ?_)
      · -- ifeq taken
        refine lv_goto (tgt := 1214) hx hb dL_law_932 (by decide) ?_
        exact IH _ _ _ H locs ls (rel_up hq.2.1) hH (lv_sub hl [2, 3, 4, 5, 6] rfl)
      · -- ifeq not taken
        exact absurd (cmp_self ((hz e0).trans (by rw [hq.2.2 k0]))) c_927
  · -- if_icmpeq not taken
    exact absurd hq.1 c_910

set_option maxHeartbeats 4000000 in
set_option maxRecDepth 100000 in
theorem la_above {p : Program} {l : Launch} {e : Env} {s : State} {m : MethodId} {below : List Frame} {meth : Method} {c : Code} {b L : Nat} {xs : Nat → Int32} {G : va_G} {cA : Nat → ClassId} {ad am : Nat → Nat} {qo : Nat} {cJ : ClassId} {σ μ : St} {z : Int64} {H : Heap} {locs : List Loc} {cells slots n : Nat} {Q : State → Prop} (D : LD l p s m meth c b L xs G cA ad am qo cJ) (hR : Rel n σ μ) (hn : n < 512) (hL5 : 5 * n + 5 ≤ L) (hL : L ≤ 2560) (hH : LH s G cA ad am qo cJ σ μ z H locs) (hf : cells + 5 ≤ 601024 ∧ slots + 30 ≤ 7293034)
    (IH : ∀ (σ1 μ1 : St) (z1 : Int64) (H1 : Heap) (locs1 : List Loc) (ls1 : Array Slot), Rel (n + 1) σ1 μ1 → LH s G cA ad am qo cJ σ1 μ1 z1 H1 locs1 → lv_has ls1 8 [(0, .ref b), (1, .ref (ad 66)), (2, .ref (am 0)), (3, .ref qo), (4, .int (nI (5 * n)))] → W p l e room_1 s m #[Value.ref b] below meth c H1 locs1 (cells + 5) (slots + 30) Q (F0 m 1214 ls1 []))
    (ls : Array Slot) (hl : lv_has ls 8 [(0, .ref b), (1, .ref (ad 66)), (2, .ref (am 0)), (3, .ref qo), (4, .int (nI (5 * n)))]) : W p l e room_1 s m #[Value.ref b] below meth c H locs cells slots Q (F0 m 935 ls []) := by
  have hx := D.1.1
  have hb := D.1.2.1
  have hg := (la_fix D).2.2.2.2
  refine lv_aload_n hx hb dL_law_935 rfl (lv_at hl 1 rfl) ?_
  refine lv_aload_n hx hb dL_law_936 rfl (lv_at hl 0 rfl) ?_
  refine lv_iload hx hb dL_law_937 (lv_at hl 4 rfl) ?_
  refine lv_iconst (v := 1) hx hb dL_law_939 (by decide) ?_
  refine lv_iadd hx hb dL_law_940 ?_
  refine la_sld D hH (ix_in (k := 1) (by decide) hL5 hL) dL_law_941 ?_
  refine lv_aload_n hx hb dL_law_942 rfl (lv_at hl 3 rfl) ?_
  have hq := q_above hR (Nat.le_of_lt hn) (xs (nx ((nI (5 * n)) + 1)))
  have hM := l_above l D.2.1 G cA ad σ D.2.2.2.2.2.2.1.1 (rel_inv hR) (xs (nx ((nI (5 * n)) + 1))) qo cJ z
  have hN := m_ReplenishRulesModel_above l G cA am μ D.2.2.2.2.2.2.1.2 (rel_minv hR) (xs (nx ((nI (5 * n)) + 1)))
  refine la_L (n := 3) D hH hM (by decide) kL_above qN_L qM_L_144 qT_L_above (by decide +kernel) rfl hl.1 rfl dL_law_943 hf (fun z1 H locs hz hH => ?_)
  refine lv_istore (lv' := [(5, .int (nI (c_faceAt σ (xs (nx ((nI (5 * n)) + 1)))))), (0, .ref b), (1, .ref (ad 66)), (2, .ref (am 0)), (3, .ref qo), (4, .int (nI (5 * n)))]) hx hb dL_law_946 hl (by decide) rfl (fun ls hl => ?_)
  refine lv_aload_n hx hb dL_law_948 rfl (lv_at hl 3 rfl) ?_
  refine lv_aload_n hx hb dL_law_949 rfl (lv_at hl 1 rfl) ?_
  refine lv_iload hx hb dL_law_950 (lv_at hl 5 rfl) ?_
  refine lv_iconst (v := 1) hx hb dL_law_952 (by decide) ?_
  refine lv_iadd hx hb dL_law_953 ?_
  refine la_sld D hH (ix_in (k := 1) (by decide) hL5 hL) dL_law_954 ?_
  refine la_Mi D hH hN (cwV 1 hg (gV qM_L_146 qI_X7_above qS_X7_above qN_X7 kX7_above) rfl rfl rfl (by decide +kernel) ⟨Nat.le_of_ble_eq_true rfl, Nat.le_of_ble_eq_true rfl⟩) rfl hl.1 rfl dL_law_955 hf (fun H locs hH => ?_)
  refine lv_istore (lv' := [(6, .int (m_aboveR μ (xs (nx ((nI (5 * n)) + 1))))), (5, .int (nI (c_faceAt σ (xs (nx ((nI (5 * n)) + 1)))))), (0, .ref b), (1, .ref (ad 66)), (2, .ref (am 0)), (3, .ref qo), (4, .int (nI (5 * n)))]) hx hb dL_law_958 hl (by decide) rfl (fun ls hl => ?_)
  refine lv_aload_n hx hb dL_law_960 rfl (lv_at hl 4 rfl) ?_
  refine la_Th D hH (cwV 0 hg (gV qM_L_96 qI_X7_thrown qS_X7_thrown qN_X7 kX7_thrown) rfl rfl rfl (by decide +kernel) ⟨Nat.le_of_ble_eq_true rfl, Nat.le_of_ble_eq_true rfl⟩) hl.1 dL_law_961 hf ?_
  refine lv_iload hx hb dL_law_964 (lv_at hl 1 rfl) ?_
  refine lv_icmp_eq (tgt := 971) hx hb dL_law_966 (by decide) (fun c_966 => ?_) (fun c_966 => ?_)
  · -- if_icmpeq taken
    refine lv_iload hx hb dL_law_971 (lv_at hl 1 rfl) ?_
    refine lv_if_ne (tgt := 995) hx hb dL_law_973 (by decide) (fun c_973 => ?_) (fun c_973 => ?_)
    · -- ifne taken
      refine lv_goto (tgt := 1214) hx hb dL_law_995 (by decide) ?_
      exact IH _ _ _ H locs ls (rel_up hq.2.1) hH (lv_sub hl [2, 3, 4, 5, 6] rfl)
    · -- ifne not taken
      have e0 : c_faceAt σ (xs (nx ((nI (5 * n)) + 1))) = 0 := nI_z (by rcases rn_above σ (xs (nx ((nI (5 * n)) + 1))) with h | h | h <;> rw [h] <;> decide) c_973
      have k0 := e0
      refine lv_aload_n hx hb dL_law_976 rfl (lv_at hl 5 rfl) ?_
      refine lv_iconst (v := 0) hx hb dL_law_977 (by decide) ?_
      refine la_ld D hH dL_law_978 ?_
      refine lv_iload hx hb dL_law_979 (lv_at hl 0 rfl) ?_
      refine lv_if_eq (tgt := 988) hx hb dL_law_981 (by decide) (fun c_981 => ?_) (fun c_981 => ?_)
      · -- ifeq taken
        refine lv_lconst (v := 0) hx hb dL_law_988 (by decide) ?_
        have hv : z1 = 0 := (hz e0).trans (by rw [← hq.2.2 k0]; exact if_pos c_981)
        refine W.lcmp hx hb dL_law_989 ?_
        refine lv_if_eq (tgt := 995) hx hb dL_law_990 (by decide) (fun c_990 => ?_) (fun c_990 => ?_)
        · -- ifeq taken
          refine lv_goto (tgt := 1214) hx hb dL_law_995 (by decide) ?_
          exact IH _ _ _ H locs ls (rel_up hq.2.1) hH (lv_sub hl [2, 3, 4, 5, 6] rfl)
        · -- ifeq not taken
          exact absurd (cmp_self hv) c_990
      · -- ifeq not taken
        refine lv_lconst (v := 1) hx hb dL_law_984 (by decide) ?_
        refine lv_goto (tgt := 989) hx hb dL_law_985 (by decide) ?_
        have hv : z1 = 1 := (hz e0).trans (by rw [← hq.2.2 k0]; exact if_neg c_981)
        refine W.lcmp hx hb dL_law_989 ?_
        refine lv_if_eq (tgt := 995) hx hb dL_law_990 (by decide) (fun c_990 => ?_) (fun c_990 => ?_)
        · -- ifeq taken
          refine lv_goto (tgt := 1214) hx hb dL_law_995 (by decide) ?_
          exact IH _ _ _ H locs ls (rel_up hq.2.1) hH (lv_sub hl [2, 3, 4, 5, 6] rfl)
        · -- ifeq not taken
          exact absurd (cmp_self hv) c_990
  · -- if_icmpeq not taken
    exact absurd hq.1 c_966

set_option maxHeartbeats 4000000 in
set_option maxRecDepth 100000 in
theorem la_run {p : Program} {l : Launch} {e : Env} {s : State} {m : MethodId} {below : List Frame} {meth : Method} {c : Code} {b L : Nat} {xs : Nat → Int32} {G : va_G} {cA : Nat → ClassId} {ad am : Nat → Nat} {qo : Nat} {cJ : ClassId} {σ μ : St} {z : Int64} {H : Heap} {locs : List Loc} {cells slots n : Nat} {Q : State → Prop} (D : LD l p s m meth c b L xs G cA ad am qo cJ) (hR : Rel n σ μ) (hn : n < 512) (hL5 : 5 * n + 5 ≤ L) (hL : L ≤ 2560) (hH : LH s G cA ad am qo cJ σ μ z H locs) (hf : cells + 5 ≤ 601024 ∧ slots + 30 ≤ 7293034)
    (IH : ∀ (σ1 μ1 : St) (z1 : Int64) (H1 : Heap) (locs1 : List Loc) (ls1 : Array Slot), Rel (n + 1) σ1 μ1 → LH s G cA ad am qo cJ σ1 μ1 z1 H1 locs1 → lv_has ls1 8 [(0, .ref b), (1, .ref (ad 66)), (2, .ref (am 0)), (3, .ref qo), (4, .int (nI (5 * n)))] → W p l e room_1 s m #[Value.ref b] below meth c H1 locs1 (cells + 5) (slots + 30) Q (F0 m 1214 ls1 []))
    (ls : Array Slot) (hl : lv_has ls 8 [(0, .ref b), (1, .ref (ad 66)), (2, .ref (am 0)), (3, .ref qo), (4, .int (nI (5 * n)))]) : W p l e room_1 s m #[Value.ref b] below meth c H locs cells slots Q (F0 m 998 ls []) := by
  have hx := D.1.1
  have hb := D.1.2.1
  have hg := (la_fix D).2.2.2.2
  refine lv_aload_n hx hb dL_law_998 rfl (lv_at hl 1 rfl) ?_
  refine lv_aload_n hx hb dL_law_999 rfl (lv_at hl 3 rfl) ?_
  have hq := q_run hR (Nat.le_of_lt hn)
  have hM := l_run l D.2.1 G cA ad σ D.2.2.2.2.2.2.1.1 (rel_inv hR) qo cJ z
  have hN := m_ReplenishRulesModel_run l G cA am μ D.2.2.2.2.2.2.1.2 (rel_minv hR)
  generalize (if c_runK σ = 0 then c_runS σ else σ) = τ0 at hM hq
  generalize c_runS σ 42 0 = v0 at hM hq
  generalize m_runS μ = μ1 at hN hq
  generalize m_runR μ = r1 at hN hq
  refine la_L (n := 2) D hH hM (by decide) kL_run qN_L qM_L_147 qT_L_run (by decide +kernel) rfl hl.1 rfl dL_law_1000 hf (fun z1 H locs hz hH => ?_)
  refine lv_istore (lv' := [(5, .int (nI (cdR (c_runK σ)))), (0, .ref b), (1, .ref (ad 66)), (2, .ref (am 0)), (3, .ref qo), (4, .int (nI (5 * n)))]) hx hb dL_law_1003 hl (by decide) rfl (fun ls hl => ?_)
  refine lv_aload_n hx hb dL_law_1005 rfl (lv_at hl 3 rfl) ?_
  refine la_Mi D hH hN (cwV 0 hg (gV qM_L_150 qI_X7_run qS_X7_run qN_X7 kX7_run) rfl rfl rfl (by decide +kernel) ⟨Nat.le_of_ble_eq_true rfl, Nat.le_of_ble_eq_true rfl⟩) rfl hl.1 rfl dL_law_1006 hf (fun H locs hH => ?_)
  refine lv_istore (lv' := [(6, .int r1), (5, .int (nI (cdR (c_runK σ)))), (0, .ref b), (1, .ref (ad 66)), (2, .ref (am 0)), (3, .ref qo), (4, .int (nI (5 * n)))]) hx hb dL_law_1009 hl (by decide) rfl (fun ls hl => ?_)
  refine lv_aload_n hx hb dL_law_1011 rfl (lv_at hl 4 rfl) ?_
  refine la_Th D hH (cwV 0 hg (gV qM_L_96 qI_X7_thrown qS_X7_thrown qN_X7 kX7_thrown) rfl rfl rfl (by decide +kernel) ⟨Nat.le_of_ble_eq_true rfl, Nat.le_of_ble_eq_true rfl⟩) hl.1 dL_law_1012 hf ?_
  refine lv_iload hx hb dL_law_1015 (lv_at hl 1 rfl) ?_
  refine lv_icmp_eq (tgt := 1022) hx hb dL_law_1017 (by decide) (fun c_1017 => ?_) (fun c_1017 => ?_)
  · -- if_icmpeq taken
    refine lv_iload hx hb dL_law_1022 (lv_at hl 1 rfl) ?_
    refine lv_if_ne (tgt := 1039) hx hb dL_law_1024 (by decide) (fun c_1024 => ?_) (fun c_1024 => ?_)
    · -- ifne taken
      refine lv_goto (tgt := 1214) hx hb dL_law_1039 (by decide) ?_
      exact IH _ _ _ H locs ls (rel_up hq.2.1) hH (lv_sub hl [2, 3, 4, 5, 6] rfl)
    · -- ifne not taken
      have e0 : cdR (c_runK σ) = 0 := nI_z (by rcases rn_run σ with h | h <;> rw [h] <;> decide) c_1024
      have k0 : c_runK σ = 0 := by
        rcases rn_run σ with h | h
        · exact h
        all_goals (rw [h] at e0; exact absurd e0 (by decide))
      refine lv_aload_n hx hb dL_law_1027 rfl (lv_at hl 5 rfl) ?_
      refine lv_iconst (v := 0) hx hb dL_law_1028 (by decide) ?_
      refine la_ld D hH dL_law_1029 ?_
      refine lv_iload hx hb dL_law_1030 (lv_at hl 0 rfl) ?_
      refine lv_i2l (v := r1.toInt64) hx hb dL_law_1032 rfl ?_
      refine W.lcmp hx hb dL_law_1033 ?_
      refine lv_if_eq (tgt := 1039) hx hb dL_law_1034 (by decide) (fun c_1034 => ?_) (fun c_1034 => ?_)
      · -- ifeq taken
        refine lv_goto (tgt := 1214) hx hb dL_law_1039 (by decide) ?_
        exact IH _ _ _ H locs ls (rel_up hq.2.1) hH (lv_sub hl [2, 3, 4, 5, 6] rfl)
      · -- ifeq not taken
        exact absurd (cmp_self ((hz e0).trans (by rw [hq.2.2 k0]))) c_1034
  · -- if_icmpeq not taken
    exact absurd hq.1 c_1017

set_option maxHeartbeats 4000000 in
set_option maxRecDepth 100000 in
theorem la_move {p : Program} {l : Launch} {e : Env} {s : State} {m : MethodId} {below : List Frame} {meth : Method} {c : Code} {b L : Nat} {xs : Nat → Int32} {G : va_G} {cA : Nat → ClassId} {ad am : Nat → Nat} {qo : Nat} {cJ : ClassId} {σ μ : St} {z : Int64} {H : Heap} {locs : List Loc} {cells slots n : Nat} {Q : State → Prop} (D : LD l p s m meth c b L xs G cA ad am qo cJ) (hR : Rel n σ μ) (hn : n < 512) (hL5 : 5 * n + 5 ≤ L) (hL : L ≤ 2560) (hH : LH s G cA ad am qo cJ σ μ z H locs) (hf : cells + 5 ≤ 601024 ∧ slots + 30 ≤ 7293034)
    (IH : ∀ (σ1 μ1 : St) (z1 : Int64) (H1 : Heap) (locs1 : List Loc) (ls1 : Array Slot), Rel (n + 1) σ1 μ1 → LH s G cA ad am qo cJ σ1 μ1 z1 H1 locs1 → lv_has ls1 8 [(0, .ref b), (1, .ref (ad 66)), (2, .ref (am 0)), (3, .ref qo), (4, .int (nI (5 * n)))] → W p l e room_1 s m #[Value.ref b] below meth c H1 locs1 (cells + 5) (slots + 30) Q (F0 m 1214 ls1 []))
    (ls : Array Slot) (hl : lv_has ls 8 [(0, .ref b), (1, .ref (ad 66)), (2, .ref (am 0)), (3, .ref qo), (4, .int (nI (5 * n)))]) : W p l e room_1 s m #[Value.ref b] below meth c H locs cells slots Q (F0 m 1042 ls []) := by
  have hx := D.1.1
  have hb := D.1.2.1
  have hg := (la_fix D).2.2.2.2
  refine lv_aload_n hx hb dL_law_1042 rfl (lv_at hl 1 rfl) ?_
  refine lv_aload_n hx hb dL_law_1043 rfl (lv_at hl 0 rfl) ?_
  refine lv_iload hx hb dL_law_1044 (lv_at hl 4 rfl) ?_
  refine lv_iconst (v := 1) hx hb dL_law_1046 (by decide) ?_
  refine lv_iadd hx hb dL_law_1047 ?_
  refine la_sld D hH (ix_in (k := 1) (by decide) hL5 hL) dL_law_1048 ?_
  refine lv_aload_n hx hb dL_law_1049 rfl (lv_at hl 0 rfl) ?_
  refine lv_iload hx hb dL_law_1050 (lv_at hl 4 rfl) ?_
  refine lv_iconst (v := 2) hx hb dL_law_1052 (by decide) ?_
  refine lv_iadd hx hb dL_law_1053 ?_
  refine la_sld D hH (ix_in (k := 2) (by decide) hL5 hL) dL_law_1054 ?_
  refine lv_aload_n hx hb dL_law_1055 rfl (lv_at hl 3 rfl) ?_
  have hq := q_move hR (xs (nx ((nI (5 * n)) + 1))) (xs (nx ((nI (5 * n)) + 2)))
  have hM := l_move l D.2.1 G cA ad σ D.2.2.2.2.2.2.1.1 (rel_inv hR) (xs (nx ((nI (5 * n)) + 1))) (xs (nx ((nI (5 * n)) + 2))) qo cJ z
  have hN := m_ReplenishRulesModel_move l G cA am μ D.2.2.2.2.2.2.1.2 (rel_minv hR) (xs (nx ((nI (5 * n)) + 1))) (xs (nx ((nI (5 * n)) + 2)))
  refine la_L (n := 4) D hH hM (by decide) kL_move qN_L qM_L_151 qT_L_move (by decide +kernel) rfl hl.1 rfl dL_law_1056 hf (fun z1 H locs hz hH => ?_)
  refine lv_istore (lv' := [(5, .int (nI (cdM (c_moveK σ (xs (nx ((nI (5 * n)) + 1))) (xs (nx ((nI (5 * n)) + 2))))))), (0, .ref b), (1, .ref (ad 66)), (2, .ref (am 0)), (3, .ref qo), (4, .int (nI (5 * n)))]) hx hb dL_law_1059 hl (by decide) rfl (fun ls hl => ?_)
  refine lv_aload_n hx hb dL_law_1061 rfl (lv_at hl 3 rfl) ?_
  refine lv_aload_n hx hb dL_law_1062 rfl (lv_at hl 1 rfl) ?_
  refine lv_iload hx hb dL_law_1063 (lv_at hl 5 rfl) ?_
  refine lv_iconst (v := 1) hx hb dL_law_1065 (by decide) ?_
  refine lv_iadd hx hb dL_law_1066 ?_
  refine la_sld D hH (ix_in (k := 1) (by decide) hL5 hL) dL_law_1067 ?_
  refine lv_aload_n hx hb dL_law_1068 rfl (lv_at hl 1 rfl) ?_
  refine lv_iload hx hb dL_law_1069 (lv_at hl 5 rfl) ?_
  refine lv_iconst (v := 2) hx hb dL_law_1071 (by decide) ?_
  refine lv_iadd hx hb dL_law_1072 ?_
  refine la_sld D hH (ix_in (k := 2) (by decide) hL5 hL) dL_law_1073 ?_
  refine la_Mi D hH hN (cwV 2 hg (gV qM_L_153 qI_X7_move qS_X7_move qN_X7 kX7_move) rfl rfl rfl (by decide +kernel) ⟨Nat.le_of_ble_eq_true rfl, Nat.le_of_ble_eq_true rfl⟩) rfl hl.1 rfl dL_law_1074 hf (fun H locs hH => ?_)
  refine lv_istore (lv' := [(6, .int (m_moveR μ (xs (nx ((nI (5 * n)) + 1))) (xs (nx ((nI (5 * n)) + 2))))), (5, .int (nI (cdM (c_moveK σ (xs (nx ((nI (5 * n)) + 1))) (xs (nx ((nI (5 * n)) + 2))))))), (0, .ref b), (1, .ref (ad 66)), (2, .ref (am 0)), (3, .ref qo), (4, .int (nI (5 * n)))]) hx hb dL_law_1077 hl (by decide) rfl (fun ls hl => ?_)
  refine lv_aload_n hx hb dL_law_1079 rfl (lv_at hl 4 rfl) ?_
  refine la_Th D hH (cwV 0 hg (gV qM_L_96 qI_X7_thrown qS_X7_thrown qN_X7 kX7_thrown) rfl rfl rfl (by decide +kernel) ⟨Nat.le_of_ble_eq_true rfl, Nat.le_of_ble_eq_true rfl⟩) hl.1 dL_law_1080 hf ?_
  refine lv_iload hx hb dL_law_1083 (lv_at hl 1 rfl) ?_
  refine lv_icmp_eq (tgt := 1090) hx hb dL_law_1085 (by decide) (fun c_1085 => ?_) (fun c_1085 => ?_)
  · -- if_icmpeq taken
    refine lv_iload hx hb dL_law_1090 (lv_at hl 1 rfl) ?_
    refine lv_if_ne (tgt := 1107) hx hb dL_law_1092 (by decide) (fun c_1092 => ?_) (fun c_1092 => ?_)
    · -- ifne taken
      refine lv_goto (tgt := 1214) hx hb dL_law_1107 (by decide) ?_
      exact IH _ _ _ H locs ls (rel_up hq.2.1) hH (lv_sub hl [2, 3, 4, 5, 6] rfl)
    · -- ifne not taken
      have e0 : cdM (c_moveK σ (xs (nx ((nI (5 * n)) + 1))) (xs (nx ((nI (5 * n)) + 2)))) = 0 := nI_z (by rcases rn_move σ (xs (nx ((nI (5 * n)) + 1))) (xs (nx ((nI (5 * n)) + 2))) with h | h | h <;> rw [h] <;> decide) c_1092
      have k0 : c_moveK σ (xs (nx ((nI (5 * n)) + 1))) (xs (nx ((nI (5 * n)) + 2))) = 0 := by
        rcases rn_move σ (xs (nx ((nI (5 * n)) + 1))) (xs (nx ((nI (5 * n)) + 2))) with h | h | h
        · exact h
        all_goals (rw [h] at e0; exact absurd e0 (by decide))
      refine lv_aload_n hx hb dL_law_1095 rfl (lv_at hl 5 rfl) ?_
      refine lv_iconst (v := 0) hx hb dL_law_1096 (by decide) ?_
      refine la_ld D hH dL_law_1097 ?_
      refine lv_iload hx hb dL_law_1098 (lv_at hl 0 rfl) ?_
      refine lv_i2l (v := (m_moveR μ (xs (nx ((nI (5 * n)) + 1))) (xs (nx ((nI (5 * n)) + 2)))).toInt64) hx hb dL_law_1100 rfl ?_
      refine W.lcmp hx hb dL_law_1101 ?_
      refine lv_if_eq (tgt := 1107) hx hb dL_law_1102 (by decide) (fun c_1102 => ?_) (fun c_1102 => ?_)
      · -- ifeq taken
        refine lv_goto (tgt := 1214) hx hb dL_law_1107 (by decide) ?_
        exact IH _ _ _ H locs ls (rel_up hq.2.1) hH (lv_sub hl [2, 3, 4, 5, 6] rfl)
      · -- ifeq not taken
        exact absurd (cmp_self ((hz e0).trans (by rw [hq.2.2 k0]))) c_1102
  · -- if_icmpeq not taken
    exact absurd hq.1 c_1085

set_option maxHeartbeats 4000000 in
set_option maxRecDepth 100000 in
theorem la_done {p : Program} {l : Launch} {e : Env} {s : State} {m : MethodId} {below : List Frame} {meth : Method} {c : Code} {b L : Nat} {xs : Nat → Int32} {G : va_G} {cA : Nat → ClassId} {ad am : Nat → Nat} {qo : Nat} {cJ : ClassId} {σ μ : St} {z : Int64} {H : Heap} {locs : List Loc} {cells slots n : Nat} {Q : State → Prop} (D : LD l p s m meth c b L xs G cA ad am qo cJ) (hR : Rel n σ μ) (hn : n < 512) (hL5 : 5 * n + 5 ≤ L) (hL : L ≤ 2560) (hH : LH s G cA ad am qo cJ σ μ z H locs) (hf : cells + 5 ≤ 601024 ∧ slots + 30 ≤ 7293034)
    (IH : ∀ (σ1 μ1 : St) (z1 : Int64) (H1 : Heap) (locs1 : List Loc) (ls1 : Array Slot), Rel (n + 1) σ1 μ1 → LH s G cA ad am qo cJ σ1 μ1 z1 H1 locs1 → lv_has ls1 8 [(0, .ref b), (1, .ref (ad 66)), (2, .ref (am 0)), (3, .ref qo), (4, .int (nI (5 * n)))] → W p l e room_1 s m #[Value.ref b] below meth c H1 locs1 (cells + 5) (slots + 30) Q (F0 m 1214 ls1 []))
    (ls : Array Slot) (hl : lv_has ls 8 [(0, .ref b), (1, .ref (ad 66)), (2, .ref (am 0)), (3, .ref qo), (4, .int (nI (5 * n)))]) : W p l e room_1 s m #[Value.ref b] below meth c H locs cells slots Q (F0 m 1110 ls []) := by
  have hx := D.1.1
  have hb := D.1.2.1
  have hg := (la_fix D).2.2.2.2
  refine lv_aload_n hx hb dL_law_1110 rfl (lv_at hl 1 rfl) ?_
  refine lv_aload_n hx hb dL_law_1111 rfl (lv_at hl 0 rfl) ?_
  refine lv_iload hx hb dL_law_1112 (lv_at hl 4 rfl) ?_
  refine lv_iconst (v := 1) hx hb dL_law_1114 (by decide) ?_
  refine lv_iadd hx hb dL_law_1115 ?_
  refine la_sld D hH (ix_in (k := 1) (by decide) hL5 hL) dL_law_1116 ?_
  have hq := q_done hR (xs (nx ((nI (5 * n)) + 1)))
  have hM := l_done l D.2.1 G cA ad σ D.2.2.2.2.2.2.1.1 (rel_inv hR) (xs (nx ((nI (5 * n)) + 1)))
  have hN := m_ReplenishRulesModel_done l G cA am μ D.2.2.2.2.2.2.1.2 (rel_minv hR) (xs (nx ((nI (5 * n)) + 1)))
  refine la_V (n := 2) D hH hM (by decide) kL_done qN_L qM_L_154 qT_L_done (by decide +kernel) rfl hl.1 rfl dL_law_1117 hf (fun H locs hH => ?_)
  refine lv_istore (lv' := [(5, .int (nI (cdD (c_doneK2 σ (xs (nx ((nI (5 * n)) + 1))))))), (0, .ref b), (1, .ref (ad 66)), (2, .ref (am 0)), (3, .ref qo), (4, .int (nI (5 * n)))]) hx hb dL_law_1120 hl (by decide) rfl (fun ls hl => ?_)
  refine lv_aload_n hx hb dL_law_1122 rfl (lv_at hl 3 rfl) ?_
  refine lv_aload_n hx hb dL_law_1123 rfl (lv_at hl 1 rfl) ?_
  refine lv_iload hx hb dL_law_1124 (lv_at hl 5 rfl) ?_
  refine lv_iconst (v := 1) hx hb dL_law_1126 (by decide) ?_
  refine lv_iadd hx hb dL_law_1127 ?_
  refine la_sld D hH (ix_in (k := 1) (by decide) hL5 hL) dL_law_1128 ?_
  refine la_Mv D hH hN (cwV 1 hg (gV qM_L_156 qI_X7_done qS_X7_done qN_X7 kX7_done) rfl rfl rfl (by decide +kernel) ⟨Nat.le_of_ble_eq_true rfl, Nat.le_of_ble_eq_true rfl⟩) rfl hl.1 rfl dL_law_1129 hf (fun H locs hH => ?_)
  refine lv_aload_n hx hb dL_law_1132 rfl (lv_at hl 3 rfl) ?_
  refine la_Th D hH (cwV 0 hg (gV qM_L_96 qI_X7_thrown qS_X7_thrown qN_X7 kX7_thrown) rfl rfl rfl (by decide +kernel) ⟨Nat.le_of_ble_eq_true rfl, Nat.le_of_ble_eq_true rfl⟩) hl.1 dL_law_1133 hf ?_
  refine lv_iload hx hb dL_law_1136 (lv_at hl 0 rfl) ?_
  refine lv_icmp_eq (tgt := 1143) hx hb dL_law_1138 (by decide) (fun c_1138 => ?_) (fun c_1138 => ?_)
  · -- if_icmpeq taken
    refine lv_goto (tgt := 1214) hx hb dL_law_1143 (by decide) ?_
    exact IH _ _ _ H locs ls (rel_up hq.2) hH (lv_sub hl [1, 2, 3, 4, 5] rfl)
  · -- if_icmpeq not taken
    exact absurd hq.1 c_1138

set_option maxHeartbeats 4000000 in
set_option maxRecDepth 100000 in
theorem la_told {p : Program} {l : Launch} {e : Env} {s : State} {m : MethodId} {below : List Frame} {meth : Method} {c : Code} {b L : Nat} {xs : Nat → Int32} {G : va_G} {cA : Nat → ClassId} {ad am : Nat → Nat} {qo : Nat} {cJ : ClassId} {σ μ : St} {z : Int64} {H : Heap} {locs : List Loc} {cells slots n : Nat} {Q : State → Prop} (D : LD l p s m meth c b L xs G cA ad am qo cJ) (hR : Rel n σ μ) (hn : n < 512) (hL5 : 5 * n + 5 ≤ L) (hL : L ≤ 2560) (hH : LH s G cA ad am qo cJ σ μ z H locs) (hf : cells + 5 ≤ 601024 ∧ slots + 30 ≤ 7293034)
    (IH : ∀ (σ1 μ1 : St) (z1 : Int64) (H1 : Heap) (locs1 : List Loc) (ls1 : Array Slot), Rel (n + 1) σ1 μ1 → LH s G cA ad am qo cJ σ1 μ1 z1 H1 locs1 → lv_has ls1 8 [(0, .ref b), (1, .ref (ad 66)), (2, .ref (am 0)), (3, .ref qo), (4, .int (nI (5 * n)))] → W p l e room_1 s m #[Value.ref b] below meth c H1 locs1 (cells + 5) (slots + 30) Q (F0 m 1214 ls1 []))
    (ls : Array Slot) (hl : lv_has ls 8 [(0, .ref b), (1, .ref (ad 66)), (2, .ref (am 0)), (3, .ref qo), (4, .int (nI (5 * n)))]) : W p l e room_1 s m #[Value.ref b] below meth c H locs cells slots Q (F0 m 1146 ls []) := by
  have hx := D.1.1
  have hb := D.1.2.1
  have hg := (la_fix D).2.2.2.2
  refine lv_aload_n hx hb dL_law_1146 rfl (lv_at hl 1 rfl) ?_
  refine lv_aload_n hx hb dL_law_1147 rfl (lv_at hl 0 rfl) ?_
  refine lv_iload hx hb dL_law_1148 (lv_at hl 4 rfl) ?_
  refine lv_iconst (v := 1) hx hb dL_law_1150 (by decide) ?_
  refine lv_iadd hx hb dL_law_1151 ?_
  refine la_sld D hH (ix_in (k := 1) (by decide) hL5 hL) dL_law_1152 ?_
  refine lv_aload_n hx hb dL_law_1153 rfl (lv_at hl 0 rfl) ?_
  refine lv_iload hx hb dL_law_1154 (lv_at hl 4 rfl) ?_
  refine lv_iconst (v := 2) hx hb dL_law_1156 (by decide) ?_
  refine lv_iadd hx hb dL_law_1157 ?_
  refine la_sld D hH (ix_in (k := 2) (by decide) hL5 hL) dL_law_1158 ?_
  refine lv_aload_n hx hb dL_law_1159 rfl (lv_at hl 3 rfl) ?_
  have hq := q_told hR (xs (nx ((nI (5 * n)) + 1))) (xs (nx ((nI (5 * n)) + 2)))
  have hM := l_told l D.2.1 G cA ad σ D.2.2.2.2.2.2.1.1 (xs (nx ((nI (5 * n)) + 1))) (xs (nx ((nI (5 * n)) + 2))) qo cJ z
  have hN := m_ReplenishRulesModel_told l G cA am μ D.2.2.2.2.2.2.1.2 (xs (nx ((nI (5 * n)) + 1))) (xs (nx ((nI (5 * n)) + 2)))
  refine la_L (n := 4) D hH hM (by decide) kL_told qN_L qM_L_157 qT_L_told (by decide +kernel) rfl hl.1 rfl dL_law_1160 hf (fun z1 H locs hz hH => ?_)
  refine lv_istore (lv' := [(5, .int (nI (c_toldK (xs (nx ((nI (5 * n)) + 1))) (xs (nx ((nI (5 * n)) + 2)))))), (0, .ref b), (1, .ref (ad 66)), (2, .ref (am 0)), (3, .ref qo), (4, .int (nI (5 * n)))]) hx hb dL_law_1163 hl (by decide) rfl (fun ls hl => ?_)
  refine lv_aload_n hx hb dL_law_1165 rfl (lv_at hl 3 rfl) ?_
  refine lv_aload_n hx hb dL_law_1166 rfl (lv_at hl 1 rfl) ?_
  refine lv_iload hx hb dL_law_1167 (lv_at hl 5 rfl) ?_
  refine lv_iconst (v := 1) hx hb dL_law_1169 (by decide) ?_
  refine lv_iadd hx hb dL_law_1170 ?_
  refine la_sld D hH (ix_in (k := 1) (by decide) hL5 hL) dL_law_1171 ?_
  refine lv_aload_n hx hb dL_law_1172 rfl (lv_at hl 1 rfl) ?_
  refine lv_iload hx hb dL_law_1173 (lv_at hl 5 rfl) ?_
  refine lv_iconst (v := 2) hx hb dL_law_1175 (by decide) ?_
  refine lv_iadd hx hb dL_law_1176 ?_
  refine la_sld D hH (ix_in (k := 2) (by decide) hL5 hL) dL_law_1177 ?_
  refine la_Mi D hH hN (cwV 2 hg (gV qM_L_159 qI_X7_told qS_X7_told qN_X7 kX7_told) rfl rfl rfl (by decide +kernel) ⟨Nat.le_of_ble_eq_true rfl, Nat.le_of_ble_eq_true rfl⟩) rfl hl.1 rfl dL_law_1178 hf (fun H locs hH => ?_)
  refine lv_istore (lv' := [(6, .int (m_toldR μ (xs (nx ((nI (5 * n)) + 1))) (xs (nx ((nI (5 * n)) + 2))))), (5, .int (nI (c_toldK (xs (nx ((nI (5 * n)) + 1))) (xs (nx ((nI (5 * n)) + 2)))))), (0, .ref b), (1, .ref (ad 66)), (2, .ref (am 0)), (3, .ref qo), (4, .int (nI (5 * n)))]) hx hb dL_law_1181 hl (by decide) rfl (fun ls hl => ?_)
  refine lv_aload_n hx hb dL_law_1183 rfl (lv_at hl 4 rfl) ?_
  refine la_Th D hH (cwV 0 hg (gV qM_L_96 qI_X7_thrown qS_X7_thrown qN_X7 kX7_thrown) rfl rfl rfl (by decide +kernel) ⟨Nat.le_of_ble_eq_true rfl, Nat.le_of_ble_eq_true rfl⟩) hl.1 dL_law_1184 hf ?_
  refine lv_iload hx hb dL_law_1187 (lv_at hl 1 rfl) ?_
  refine lv_icmp_eq (tgt := 1194) hx hb dL_law_1189 (by decide) (fun c_1189 => ?_) (fun c_1189 => ?_)
  · -- if_icmpeq taken
    refine lv_iload hx hb dL_law_1194 (lv_at hl 1 rfl) ?_
    refine lv_if_ne (tgt := 1211) hx hb dL_law_1196 (by decide) (fun c_1196 => ?_) (fun c_1196 => ?_)
    · -- ifne taken
      refine lv_goto (tgt := 1214) hx hb dL_law_1211 (by decide) ?_
      exact IH _ _ _ H locs ls (rel_up hq.2.1) hH (lv_sub hl [2, 3, 4, 5, 6] rfl)
    · -- ifne not taken
      have e0 : c_toldK (xs (nx ((nI (5 * n)) + 1))) (xs (nx ((nI (5 * n)) + 2))) = 0 := nI_z (by rcases rn_told (xs (nx ((nI (5 * n)) + 1))) (xs (nx ((nI (5 * n)) + 2))) with h | h <;> rw [h] <;> decide) c_1196
      have k0 := e0
      refine lv_aload_n hx hb dL_law_1199 rfl (lv_at hl 5 rfl) ?_
      refine lv_iconst (v := 0) hx hb dL_law_1200 (by decide) ?_
      refine la_ld D hH dL_law_1201 ?_
      refine lv_iload hx hb dL_law_1202 (lv_at hl 0 rfl) ?_
      refine lv_i2l (v := (m_toldR μ (xs (nx ((nI (5 * n)) + 1))) (xs (nx ((nI (5 * n)) + 2)))).toInt64) hx hb dL_law_1204 rfl ?_
      refine W.lcmp hx hb dL_law_1205 ?_
      refine lv_if_eq (tgt := 1211) hx hb dL_law_1206 (by decide) (fun c_1206 => ?_) (fun c_1206 => ?_)
      · -- ifeq taken
        refine lv_goto (tgt := 1214) hx hb dL_law_1211 (by decide) ?_
        exact IH _ _ _ H locs ls (rel_up hq.2.1) hH (lv_sub hl [2, 3, 4, 5, 6] rfl)
      · -- ifeq not taken
        exact absurd (cmp_self ((hz e0).trans (by rw [hq.2.2 k0]))) c_1206
  · -- if_icmpeq not taken
    exact absurd hq.1 c_1189
