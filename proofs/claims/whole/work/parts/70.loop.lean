set_option maxHeartbeats 4000000 in
set_option maxRecDepth 100000 in
theorem law_loop {p : Program} {l : Launch} {e : Env} {s : State} {m : MethodId} {below : List Frame} {meth : Method} {c : Code} {b L : Nat} {xs : Nat → Int32} {G : va_G} {cA : Nat → ClassId} {ad am : Nat → Nat} {qo : Nat} {cJ : ClassId} (D : LD l p s m meth c b L xs G cA ad am qo cJ) (hL : L ≤ 2560) : ∀ (f n : Nat) (σ μ : St) (z : Int64) (H : Heap) (locs : List Loc) (ls : Array Slot), 5 * n ≤ L → L + 1 ≤ 5 * n + 5 * f → Rel n σ μ → LH s G cA ad am qo cJ σ μ z H locs → lv_has ls 8 [(0, .ref b), (1, .ref (ad 66)), (2, .ref (am 0)), (3, .ref qo), (4, .int (nI (5 * n)))] → W p l e room_1 s m #[Value.ref b] below meth c H locs (111 + 5 * n) (14775 + 30 * n) (lw_Z below #[Value.ref b] s) (F0 m 23 ls []) := by
  have hx := D.1.1
  have hb := D.1.2.1
  have hX := D.1.2.2.2.2.2.2.1
  have hbl := D.1.2.2.2.2.2.2.2.1
  have hbA : ¬ (fun q : Nat => s.heap.size ≤ q) b := Nat.not_le.mpr hbl
  intro f
  induction f with
  | zero =>
    intro n σ μ z H locs ls h1 h2
    exact absurd h2 (by omega)
  | succ f ih =>
    intro n σ μ z H locs ls h1 h2 hR hH hl
    have eL : (nI L).toInt = (L : Int) := nI_toInt (by omega)
    have en : (nI (5 * n)).toInt = ((5 * n : Nat) : Int) := nI_toInt (by omega)
    have e5 : (5 : Int32).toInt = 5 := by decide
    have es := i_sub (x := nI L) (y := 5) (by rw [eL, e5]; omega) (by rw [eL, e5]; omega)
    refine lv_iload hx hb dL_law_23 (lv_at hl 4 rfl) ?_
    refine lv_aload_n hx hb dL_law_25 rfl (lv_at hl 0 rfl) ?_
    refine va_slen hx hb hX hbl hbA hH.2.2.2 dL_law_26 ?_
    refine lv_iconst (v := 5) hx hb dL_law_27 (by decide) ?_
    refine lv_isub hx hb dL_law_28 ?_
    refine lv_icmp_gt (tgt := 1220) hx hb dL_law_29 (by decide) (fun c_29 => ?_) (fun c_29 => ?_)
    · refine lv_iconst (v := 1) hx hb dL_law_1220 (by decide) ?_
      refine va_forget (fun q hq => hH.2.2.2.2.2 q hq) ?_
      refine W.widen (k := 601024) (n := 7293034) (by omega) (by omega) ?_
      exact lw_ret hx hb D.1.2.2.1 D.1.2.2.2.2.2.2.2.2.1 dL_law_1221
    · have hL5 : 5 * n + 5 ≤ L := by
        have c2 : ¬ (nI L - 5).toInt < (nI (5 * n)).toInt := fun q => c_29 (i_lt.mpr q)
        rw [es, eL, en, e5] at c2
        omega
      have hn : n < 512 := by omega
      have hf : 111 + 5 * n + 5 ≤ 601024 ∧ 14775 + 30 * n + 30 ≤ 7293034 := ⟨by omega, by omega⟩
      have IH : ∀ (σ1 μ1 : St) (z1 : Int64) (H1 : Heap) (locs1 : List Loc) (ls1 : Array Slot), Rel (n + 1) σ1 μ1 → LH s G cA ad am qo cJ σ1 μ1 z1 H1 locs1 → lv_has ls1 8 [(0, .ref b), (1, .ref (ad 66)), (2, .ref (am 0)), (3, .ref qo), (4, .int (nI (5 * n)))] → W p l e room_1 s m #[Value.ref b] below meth c H1 locs1 (111 + 5 * n + 5) (14775 + 30 * n + 30) (lw_Z below #[Value.ref b] s) (F0 m 1214 ls1 []) := fun σ1 μ1 z1 H1 locs1 ls1 r1 h1 l1 => by
        refine lv_iinc (v := nI (5 * (n + 1))) (lv' := [(4, .int (nI (5 * (n + 1)))), (0, .ref b), (1, .ref (ad 66)), (2, .ref (am 0)), (3, .ref qo)]) hx hb dL_law_1214 l1 (k := 4) rfl (by show nI (5 * n) + nI 5 = nI (5 * (n + 1)); rw [nI_add]; rfl) (by decide) rfl (fun ls hl => ?_)
        refine lv_goto (tgt := 23) hx hb dL_law_1217 (by decide) ?_
        refine W.widen (k := 111 + 5 * (n + 1)) (n := 14775 + 30 * (n + 1)) (by omega) (by omega) ?_
        exact ih (n + 1) σ1 μ1 z1 H1 locs1 ls (by omega) (by omega) r1 h1 (lv_sub hl [1, 2, 3, 4, 0] rfl)
      refine lv_aload_n hx hb dL_law_32 rfl (lv_at hl 0 rfl) ?_
      refine lv_iload hx hb dL_law_33 (lv_at hl 4 rfl) ?_
      refine la_sld D hH (vp_in_nI (by omega) (by omega)) dL_law_35 ?_
      refine lv_bipush (v := 31) hx hb dL_law_36 (by decide) ?_
      refine lv_iand hx hb dL_law_38 ?_
      refine lv_topi (fun y ey => ?_)
      clear ey
      by_cases c_0 : y = 0
      · refine lv_tableIn (tgt := 128) hx hb dL_law_39 (by rw [c_0]; decide) (by rw [c_0]; decide) (by rw [c_0]; rfl) (by decide) ?_
        exact la_place D hR hn hL5 hL hH hf IH ls hl
      by_cases c_1 : y = 1
      · refine lv_tableIn (tgt := 188) hx hb dL_law_39 (by rw [c_1]; decide) (by rw [c_1]; decide) (by rw [c_1]; rfl) (by decide) ?_
        exact la_face D hR hn hL5 hL hH hf IH ls hl
      by_cases c_2 : y = 2
      · refine lv_tableIn (tgt := 260) hx hb dL_law_39 (by rw [c_2]; decide) (by rw [c_2]; decide) (by rw [c_2]; rfl) (by decide) ?_
        exact la_put D hR hn hL5 hL hH hf IH ls hl
      by_cases c_3 : y = 3
      · refine lv_tableIn (tgt := 320) hx hb dL_law_39 (by rw [c_3]; decide) (by rw [c_3]; decide) (by rw [c_3]; rfl) (by decide) ?_
        exact la_use D hR hn hL5 hL hH hf IH ls hl
      by_cases c_4 : y = 4
      · refine lv_tableIn (tgt := 368) hx hb dL_law_39 (by rw [c_4]; decide) (by rw [c_4]; decide) (by rw [c_4]; rfl) (by decide) ?_
        exact la_hold D hR hn hL5 hL hH hf IH ls hl
      by_cases c_5 : y = 5
      · refine lv_tableIn (tgt := 416) hx hb dL_law_39 (by rw [c_5]; decide) (by rw [c_5]; decide) (by rw [c_5]; rfl) (by decide) ?_
        exact la_cases D hR hn hL5 hL hH hf IH ls hl
      by_cases c_6 : y = 6
      · refine lv_tableIn (tgt := 464) hx hb dL_law_39 (by rw [c_6]; decide) (by rw [c_6]; decide) (by rw [c_6]; rfl) (by decide) ?_
        exact la_rule D hR hn hL5 hL hH hf IH ls hl
      by_cases c_7 : y = 7
      · refine lv_tableIn (tgt := 536) hx hb dL_law_39 (by rw [c_7]; decide) (by rw [c_7]; decide) (by rw [c_7]; rfl) (by decide) ?_
        exact la_factor D hR hn hL5 hL hH hf IH ls hl
      by_cases c_8 : y = 8
      · refine lv_tableIn (tgt := 596) hx hb dL_law_39 (by rw [c_8]; decide) (by rw [c_8]; decide) (by rw [c_8]; rfl) (by decide) ?_
        exact la_wave D hR hn hL5 hL hH hf IH ls hl
      by_cases c_9 : y = 9
      · refine lv_tableIn (tgt := 656) hx hb dL_law_39 (by rw [c_9]; decide) (by rw [c_9]; decide) (by rw [c_9]; rfl) (by decide) ?_
        exact la_open D hR hn hL5 hL hH hf IH ls hl
      by_cases c_10 : y = 10
      · refine lv_tableIn (tgt := 720) hx hb dL_law_39 (by rw [c_10]; decide) (by rw [c_10]; decide) (by rw [c_10]; rfl) (by decide) ?_
        exact la_day D hR hn hL5 hL hH hf IH ls hl
      by_cases c_11 : y = 11
      · refine lv_tableIn (tgt := 756) hx hb dL_law_39 (by rw [c_11]; decide) (by rw [c_11]; decide) (by rw [c_11]; rfl) (by decide) ?_
        exact la_mean D hR hn hL5 hL hH hf IH ls hl
      by_cases c_12 : y = 12
      · refine lv_tableIn (tgt := 824) hx hb dL_law_39 (by rw [c_12]; decide) (by rw [c_12]; decide) (by rw [c_12]; rfl) (by decide) ?_
        exact la_forecast D hR hn hL5 hL hH hf IH ls hl
      by_cases c_13 : y = 13
      · refine lv_tableIn (tgt := 879) hx hb dL_law_39 (by rw [c_13]; decide) (by rw [c_13]; decide) (by rw [c_13]; rfl) (by decide) ?_
        exact la_threshold D hR hn hL5 hL hH hf IH ls hl
      by_cases c_14 : y = 14
      · refine lv_tableIn (tgt := 935) hx hb dL_law_39 (by rw [c_14]; decide) (by rw [c_14]; decide) (by rw [c_14]; rfl) (by decide) ?_
        exact la_above D hR hn hL5 hL hH hf IH ls hl
      by_cases c_15 : y = 15
      · refine lv_tableIn (tgt := 998) hx hb dL_law_39 (by rw [c_15]; decide) (by rw [c_15]; decide) (by rw [c_15]; rfl) (by decide) ?_
        exact la_run D hR hn hL5 hL hH hf IH ls hl
      by_cases c_16 : y = 16
      · refine lv_tableIn (tgt := 1042) hx hb dL_law_39 (by rw [c_16]; decide) (by rw [c_16]; decide) (by rw [c_16]; rfl) (by decide) ?_
        exact la_move D hR hn hL5 hL hH hf IH ls hl
      by_cases c_17 : y = 17
      · refine lv_tableIn (tgt := 1110) hx hb dL_law_39 (by rw [c_17]; decide) (by rw [c_17]; decide) (by rw [c_17]; rfl) (by decide) ?_
        exact la_done D hR hn hL5 hL hH hf IH ls hl
      by_cases c_18 : y = 18
      · refine lv_tableIn (tgt := 1146) hx hb dL_law_39 (by rw [c_18]; decide) (by rw [c_18]; decide) (by rw [c_18]; rfl) (by decide) ?_
        exact la_told D hR hn hL5 hL hH hf IH ls hl
      refine lv_tableOut (tgt := 1214) hx hb dL_law_39 (by have z0 := lv_neT c_0 (a := 0) rfl; have z1 := lv_neT c_1 (a := 1) rfl; have z2 := lv_neT c_2 (a := 2) rfl; have z3 := lv_neT c_3 (a := 3) rfl; have z4 := lv_neT c_4 (a := 4) rfl; have z5 := lv_neT c_5 (a := 5) rfl; have z6 := lv_neT c_6 (a := 6) rfl; have z7 := lv_neT c_7 (a := 7) rfl; have z8 := lv_neT c_8 (a := 8) rfl; have z9 := lv_neT c_9 (a := 9) rfl; have z10 := lv_neT c_10 (a := 10) rfl; have z11 := lv_neT c_11 (a := 11) rfl; have z12 := lv_neT c_12 (a := 12) rfl; have z13 := lv_neT c_13 (a := 13) rfl; have z14 := lv_neT c_14 (a := 14) rfl; have z15 := lv_neT c_15 (a := 15) rfl; have z16 := lv_neT c_16 (a := 16) rfl; have z17 := lv_neT c_17 (a := 17) rfl; have z18 := lv_neT c_18 (a := 18) rfl; omega) (by decide) ?_
      refine W.widen (k := 111 + 5 * n + 5) (n := 14775 + 30 * n + 30) (by omega) (by omega) ?_
      exact IH σ μ z H locs ls (rel_up hR) hH hl
