theorem qA_X6 : Cond.instantiable RX6 8 ∈ wG := mG 19 (by decide +kernel) rfl
theorem qA_X7 : Cond.instantiable RX7 33 ∈ wG := mG 704 (by decide +kernel) rfl
/-! the law: what its premises give at the beginning -/
theorem ws_self {s : State} {E : String} {A : Array Value} (h : (Cond.castable E E).before A s = true) : ∃ c, s.vm.findClass E = some c ∧ s.vm.assignable c c = true := by
  obtain ⟨c, t, h1, h2, h3⟩ := Cond.castable_spec h
  cases h1.symm.trans h2
  exact ⟨c, h1, h3⟩
theorem ws_not {s : State} {E F : String} {A : Array Value} {c d : ClassId} (h : (Cond.not (.castable E F)).before A s = true) (hc : s.vm.findClass E = some c) (hd : s.vm.findClass F = some d) : s.vm.assignable c d = false := by
  have hv := Cond.holds_not_iff.mp h
  simp only [Cond.value, hc, hd] at hv
  exact Option.some.inj hv
theorem ws_A {p : Program} {s : State} {m : MethodId} {meth : Method} {c : Code} {b L : Nat} {xs : Nat → Int32} (C0 : lw_At p s m meth c b L xs) : ct_A s := by
  obtain ⟨-, -, -, -, -, hts, -, -, -, hgv⟩ := C0
  have hs := flat_of_before _ hgv
  obtain ⟨c1, f1, g1⟩ := ws_self (E := "java/lang/IllegalArgumentException") (hts _ (List.mem_append_right _ (List.mem_of_getElem? (i := 252) (by decide +kernel))))
  obtain ⟨c2, f2, g2⟩ := ws_self (E := "java/lang/IllegalStateException") (hts _ (List.mem_append_right _ (List.mem_of_getElem? (i := 323) (by decide +kernel))))
  obtain ⟨c3, f3, g3⟩ := ws_self (E := "java/lang/UnsupportedOperationException") (hts _ (List.mem_append_right _ (List.mem_of_getElem? (i := 375) (by decide +kernel))))
  obtain ⟨c4, f4, g4⟩ := ws_self (E := "java/util/NoSuchElementException") (hts _ (List.mem_append_right _ (List.mem_of_getElem? (i := 664) (by decide +kernel))))
  obtain ⟨c5, f5, g5⟩ := ws_self (E := "java/lang/ArithmeticException") (hts _ (List.mem_append_right _ (List.mem_of_getElem? (i := 494) (by decide +kernel))))
  have n12 := ws_not (hs (.not (.castable "java/lang/IllegalArgumentException" "java/lang/IllegalStateException")) (by decide +kernel)) f1 f2
  have n13 := ws_not (hs (.not (.castable "java/lang/IllegalArgumentException" "java/lang/UnsupportedOperationException")) (by decide +kernel)) f1 f3
  have n14 := ws_not (hs (.not (.castable "java/lang/IllegalArgumentException" "java/util/NoSuchElementException")) (by decide +kernel)) f1 f4
  have n15 := ws_not (hs (.not (.castable "java/lang/IllegalArgumentException" "java/lang/ArithmeticException")) (by decide +kernel)) f1 f5
  have n21 := ws_not (hs (.not (.castable "java/lang/IllegalStateException" "java/lang/IllegalArgumentException")) (by decide +kernel)) f2 f1
  have n23 := ws_not (hs (.not (.castable "java/lang/IllegalStateException" "java/lang/UnsupportedOperationException")) (by decide +kernel)) f2 f3
  have n24 := ws_not (hs (.not (.castable "java/lang/IllegalStateException" "java/util/NoSuchElementException")) (by decide +kernel)) f2 f4
  have n25 := ws_not (hs (.not (.castable "java/lang/IllegalStateException" "java/lang/ArithmeticException")) (by decide +kernel)) f2 f5
  have n31 := ws_not (hs (.not (.castable "java/lang/UnsupportedOperationException" "java/lang/IllegalArgumentException")) (by decide +kernel)) f3 f1
  have n32 := ws_not (hs (.not (.castable "java/lang/UnsupportedOperationException" "java/lang/IllegalStateException")) (by decide +kernel)) f3 f2
  have n34 := ws_not (hs (.not (.castable "java/lang/UnsupportedOperationException" "java/util/NoSuchElementException")) (by decide +kernel)) f3 f4
  have n35 := ws_not (hs (.not (.castable "java/lang/UnsupportedOperationException" "java/lang/ArithmeticException")) (by decide +kernel)) f3 f5
  have n41 := ws_not (hs (.not (.castable "java/util/NoSuchElementException" "java/lang/IllegalArgumentException")) (by decide +kernel)) f4 f1
  have n42 := ws_not (hs (.not (.castable "java/util/NoSuchElementException" "java/lang/IllegalStateException")) (by decide +kernel)) f4 f2
  have n43 := ws_not (hs (.not (.castable "java/util/NoSuchElementException" "java/lang/UnsupportedOperationException")) (by decide +kernel)) f4 f3
  have n45 := ws_not (hs (.not (.castable "java/util/NoSuchElementException" "java/lang/ArithmeticException")) (by decide +kernel)) f4 f5
  have n51 := ws_not (hs (.not (.castable "java/lang/ArithmeticException" "java/lang/IllegalArgumentException")) (by decide +kernel)) f5 f1
  have n52 := ws_not (hs (.not (.castable "java/lang/ArithmeticException" "java/lang/IllegalStateException")) (by decide +kernel)) f5 f2
  have n53 := ws_not (hs (.not (.castable "java/lang/ArithmeticException" "java/lang/UnsupportedOperationException")) (by decide +kernel)) f5 f3
  have n54 := ws_not (hs (.not (.castable "java/lang/ArithmeticException" "java/util/NoSuchElementException")) (by decide +kernel)) f5 f4
  intro i i1 i5 j j1 j5
  rcases (show i = 1 ∨ i = 2 ∨ i = 3 ∨ i = 4 ∨ i = 5 by omega) with rfl | rfl | rfl | rfl | rfl <;> rcases (show j = 1 ∨ j = 2 ∨ j = 3 ∨ j = 4 ∨ j = 5 by omega) with rfl | rfl | rfl | rfl | rfl
  · exact ⟨c1, c1, f1, f1, g1, Vm.classAt_of_findClass f1⟩
  · exact ⟨c1, c2, f1, f2, n12, Vm.classAt_of_findClass f1⟩
  · exact ⟨c1, c3, f1, f3, n13, Vm.classAt_of_findClass f1⟩
  · exact ⟨c1, c4, f1, f4, n14, Vm.classAt_of_findClass f1⟩
  · exact ⟨c1, c5, f1, f5, n15, Vm.classAt_of_findClass f1⟩
  · exact ⟨c2, c1, f2, f1, n21, Vm.classAt_of_findClass f2⟩
  · exact ⟨c2, c2, f2, f2, g2, Vm.classAt_of_findClass f2⟩
  · exact ⟨c2, c3, f2, f3, n23, Vm.classAt_of_findClass f2⟩
  · exact ⟨c2, c4, f2, f4, n24, Vm.classAt_of_findClass f2⟩
  · exact ⟨c2, c5, f2, f5, n25, Vm.classAt_of_findClass f2⟩
  · exact ⟨c3, c1, f3, f1, n31, Vm.classAt_of_findClass f3⟩
  · exact ⟨c3, c2, f3, f2, n32, Vm.classAt_of_findClass f3⟩
  · exact ⟨c3, c3, f3, f3, g3, Vm.classAt_of_findClass f3⟩
  · exact ⟨c3, c4, f3, f4, n34, Vm.classAt_of_findClass f3⟩
  · exact ⟨c3, c5, f3, f5, n35, Vm.classAt_of_findClass f3⟩
  · exact ⟨c4, c1, f4, f1, n41, Vm.classAt_of_findClass f4⟩
  · exact ⟨c4, c2, f4, f2, n42, Vm.classAt_of_findClass f4⟩
  · exact ⟨c4, c3, f4, f3, n43, Vm.classAt_of_findClass f4⟩
  · exact ⟨c4, c4, f4, f4, g4, Vm.classAt_of_findClass f4⟩
  · exact ⟨c4, c5, f4, f5, n45, Vm.classAt_of_findClass f4⟩
  · exact ⟨c5, c1, f5, f1, n51, Vm.classAt_of_findClass f5⟩
  · exact ⟨c5, c2, f5, f2, n52, Vm.classAt_of_findClass f5⟩
  · exact ⟨c5, c3, f5, f3, n53, Vm.classAt_of_findClass f5⟩
  · exact ⟨c5, c4, f5, f4, n54, Vm.classAt_of_findClass f5⟩
  · exact ⟨c5, c5, f5, f5, g5, Vm.classAt_of_findClass f5⟩
theorem ws_st {s : State} {A : Array Value} {B : Nat → Prop} {C n d : String} (hl : (Cond.laysStatic C n d).before A s = true) (hini : (Cond.initialized C).before A s = true) (hr : (Cond.isRef (.static C n d)).before A s = true) (hB : ∀ a : Nat, a < s.heap.size → ¬ B a) : rr_st C n d B s s.heap := by
  obtain ⟨c, k, i, f, a, cell, hc, hi, hst, ha, hcell, hs, hcls, hlt, hty⟩ := Cond.laysStatic_spec hl
  obtain ⟨v, hv, hvr⟩ := Cond.isRef_spec hr
  obtain ⟨hst', a', cell', ha', hcell', -, hslot⟩ := Term.static_spec hi hv
  cases ha.symm.trans ha'
  cases hcell.symm.trans hcell'
  exact ⟨c, k, i, f, a, cell, v, hc, hi, hst, Cond.initialized_spec hc (State.fieldFound?_spec hi).1 hini, ha, hcell, hs, hcls, hslot, hvr, hty, hB a (Array.getElem?_eq_some_iff.mp hcell).1⟩
theorem ws_str {s : State} {A : Array Value} {own tx : String} {k : Nat} (h1 : (Cond.stringRef own k tx).before A s = true) (h2 : (Cond.exactly (.string own k) "java/lang/String").before A s = true) : ∃ a : Nat, vk_R own k tx a s := by
  obtain ⟨a2, c, cA, kA, q1, -⟩ := Cond.exactly_spec (args := A) (first := s) (o := none) (s := s) (idx := []) (t := .string own k) (cls := "java/lang/String") h2
  exact ⟨a2, vk_R.of h1 q1⟩
theorem ws_strs {p : Program} {s : State} {m : MethodId} {meth : Method} {c : Code} {b L : Nat} {xs : Nat → Int32} (C0 : lw_At p s m meth c b L xs) : ∀ q ∈ rr_strs, ∃ sa : Nat, vk_R q.1 q.2.1 q.2.2 sa s := by
  obtain ⟨-, -, -, -, -, hts, -, -, -, hgv⟩ := C0
  have hs := flat_of_before _ hgv
  have s0 := ws_str (tx := "the place has more, or its face\'s most is more") (hts _ (List.mem_append_right _ (List.mem_of_getElem? (i := 330) (by decide +kernel)))) (hs (.exactly (.string "ReplenishRules" 74) "java/lang/String") (by decide +kernel))
  have s1 := ws_str (tx := "the place holds another good") (hts _ (List.mem_append_right _ (List.mem_of_getElem? (i := 348) (by decide +kernel)))) (hs (.exactly (.string "ReplenishRules" 89) "java/lang/String") (by decide +kernel))
  have s2 := ws_str (tx := "the place is for another good") (hts _ (List.mem_append_right _ (List.mem_of_getElem? (i := 365) (by decide +kernel)))) (hs (.exactly (.string "ReplenishRules" 100) "java/lang/String") (by decide +kernel))
  have s3 := ws_str (tx := "the face has not so many that are not held") (hts _ (List.mem_append_right _ (List.mem_of_getElem? (i := 410) (by decide +kernel)))) (hs (.exactly (.string "ReplenishRules" 117) "java/lang/String") (by decide +kernel))
  have s4 := ws_str (tx := "the number is below 0") (hts _ (List.mem_append_right _ (List.mem_of_getElem? (i := 422) (by decide +kernel)))) (hs (.exactly (.string "ReplenishRules" 130) "java/lang/String") (by decide +kernel))
  have s5 := ws_str (tx := "the place has not so many") (hts _ (List.mem_append_right _ (List.mem_of_getElem? (i := 423) (by decide +kernel)))) (hs (.exactly (.string "ReplenishRules" 133) "java/lang/String") (by decide +kernel))
  have s6 := ws_str (tx := "thirty waves are told") (hts _ (List.mem_append_right _ (List.mem_of_getElem? (i := 452) (by decide +kernel)))) (hs (.exactly (.string "ReplenishRules" 152) "java/lang/String") (by decide +kernel))
  have s7 := ws_str (tx := "the day is before today") (hts _ (List.mem_append_right _ (List.mem_of_getElem? (i := 464) (by decide +kernel)))) (hs (.exactly (.string "ReplenishRules" 161) "java/lang/String") (by decide +kernel))
  have s8 := ws_str (tx := "none of the days was open") (hts _ (List.mem_append_right _ (List.mem_of_getElem? (i := 501) (by decide +kernel)))) (hs (.exactly (.string "ReplenishRules" 173) "java/lang/String") (by decide +kernel))
  have s9 := ws_str (tx := "today is closed") (hts _ (List.mem_append_right _ (List.mem_of_getElem? (i := 590) (by decide +kernel)))) (hs (.exactly (.string "ReplenishRules" 194) "java/lang/String") (by decide +kernel))
  have s10 := ws_str (tx := "the move was done") (hts _ (List.mem_append_right _ (List.mem_of_getElem? (i := 689) (by decide +kernel)))) (hs (.exactly (.string "ReplenishRules" 230) "java/lang/String") (by decide +kernel))
  have s11 := ws_str (tx := "the reserve has not so many free pieces of the good") (hts _ (List.mem_append_right _ (List.mem_of_getElem? (i := 690) (by decide +kernel)))) (hs (.exactly (.string "ReplenishRules" 236) "java/lang/String") (by decide +kernel))
  have s12 := ws_str (tx := "the face holds another good") (hts _ (List.mem_append_right _ (List.mem_of_getElem? (i := 691) (by decide +kernel)))) (hs (.exactly (.string "ReplenishRules" 238) "java/lang/String") (by decide +kernel))
  have s13 := ws_str (tx := "a number is outside its range") (hts _ (List.mem_append_right _ (List.mem_of_getElem? (i := 293) (by decide +kernel)))) (hs (.exactly (.string "ReplenishRules" 241) "java/lang/String") (by decide +kernel))
  have s14 := ws_str (tx := "the place has no room for so many") (hts _ (List.mem_append_right _ (List.mem_of_getElem? (i := 382) (by decide +kernel)))) (hs (.exactly (.string "ReplenishRules" 246) "java/lang/String") (by decide +kernel))
  have s15 := ws_str (tx := "the place is no face") (hts _ (List.mem_append_right _ (List.mem_of_getElem? (i := 405) (by decide +kernel)))) (hs (.exactly (.string "ReplenishRules" 252) "java/lang/String") (by decide +kernel))
  have s16 := ws_str (tx := "there is no such move") (hts _ (List.mem_append_right _ (List.mem_of_getElem? (i := 671) (by decide +kernel)))) (hs (.exactly (.string "ReplenishRules$Plan" 33) "java/lang/String") (by decide +kernel))
  exact List.forall_mem_cons.mpr ⟨s0, List.forall_mem_cons.mpr ⟨s1, List.forall_mem_cons.mpr ⟨s2, List.forall_mem_cons.mpr ⟨s3, List.forall_mem_cons.mpr ⟨s4, List.forall_mem_cons.mpr ⟨s5, List.forall_mem_cons.mpr ⟨s6, List.forall_mem_cons.mpr ⟨s7, List.forall_mem_cons.mpr ⟨s8, List.forall_mem_cons.mpr ⟨s9, List.forall_mem_cons.mpr ⟨s10, List.forall_mem_cons.mpr ⟨s11, List.forall_mem_cons.mpr ⟨s12, List.forall_mem_cons.mpr ⟨s13, List.forall_mem_cons.mpr ⟨s14, List.forall_mem_cons.mpr ⟨s15, List.forall_mem_cons.mpr ⟨s16, fun _ h => absurd h List.not_mem_nil⟩⟩⟩⟩⟩⟩⟩⟩⟩⟩⟩⟩⟩⟩⟩⟩⟩
theorem ws_T {p : Program} {s : State} {m : MethodId} {meth : Method} {c : Code} {b L : Nat} {xs : Nat → Int32} (C0 : lw_At p s m meth c b L xs) {B : Nat → Prop} (hB : ∀ a : Nat, a < s.heap.size → ¬ B a) : rr_T B s s.heap := by
  have hst := ws_strs C0
  obtain ⟨-, -, -, -, -, hts, -, -, -, hgv⟩ := C0
  have hs := flat_of_before _ hgv
  refine ⟨ws_st (hts _ (List.mem_append_right _ (List.mem_of_getElem? (i := 277) (by decide +kernel)))) (hts _ (List.mem_append_right _ (List.mem_of_getElem? (i := 9) (by decide +kernel)))) (hs _ (by decide +kernel)) hB, ws_st (hts _ (List.mem_append_right _ (List.mem_of_getElem? (i := 279) (by decide +kernel)))) (hts _ (List.mem_append_right _ (List.mem_of_getElem? (i := 9) (by decide +kernel)))) (hs _ (by decide +kernel)) hB, fun w hw => va_Nw.of (rr_bad_tab w hw) (hts w ((by decide +kernel : ∀ w ∈ rr_bad, w ∈ lw_tbl) w hw)), hst⟩
theorem ws_C {p : Program} {s : State} {m : MethodId} {meth : Method} {c : Code} {b L : Nat} {xs : Nat → Int32} (C0 : lw_At p s m meth c b L xs) : rrC s := by
  obtain ⟨-, -, -, -, -, hts, -, -, -, hgv⟩ := C0
  exact ⟨fun w hw => va_Nw.of (rr_nest_tab w hw) (hts w ((by decide +kernel : ∀ w ∈ rr_nest, w ∈ lw_tbl) w hw)), va_AO.of (hts _ (List.mem_append_right _ (List.mem_of_getElem? (i := 27) (by decide +kernel)))), va_AO.of (hts _ (List.mem_append_right _ (List.mem_of_getElem? (i := 29) (by decide +kernel)))), va_AO.of (hts _ (List.mem_append_right _ (List.mem_of_getElem? (i := 74) (by decide +kernel))))⟩
theorem ws_ty {s : State} {A : Array Value} {t : FieldType} (h : (Cond.arrayClass t).before A s = true) : ∃ c, s.vm.findClass ("[" ++ t.toString) = some c ∧ ArrOfT s c t := by
  obtain ⟨c, k, comp, h1, h2, h3⟩ := Cond.arrayClass_spec h
  exact ⟨c, h1, fun n z => ⟨fun k h => (by cases h), k, h2, comp, h3⟩⟩
theorem ws_to {s : State} {C : String} (h : va_AO C s) : ∃ c, ArrOfT s c (.object C) ∧ va_RA s c (.object C) := by
  obtain ⟨comp, c, k, h1, -, h2, h3, h4⟩ := Cond.arrayOver_spec h
  exact ⟨c, fun n z => ⟨fun k h => (by cases h), k, h2, comp, h3⟩, k, comp, h2, h3, h1, h4⟩
theorem ws_K {p : Program} {s : State} {m : MethodId} {meth : Method} {c : Code} {b L : Nat} {xs : Nat → Int32} (C0 : lw_At p s m meth c b L xs) : ∃ (G : va_G) (cA : Nat → ClassId), va_K G vwCl (rrTy cA) s := by
  have hC := ws_C C0
  obtain ⟨-, -, -, -, -, hts, -, -, -, hgv⟩ := C0
  have hg : ∀ w ∈ wG, w.before #[Value.ref b] s = true := fun w h => hts w (List.mem_filter.mp h).1
  obtain ⟨kX0, iX0, hX0⟩ := u_known (C := RX0) (T := TX0) (N := 2) (n := 2) hg hinX0 (hg _ qA_X0)
  obtain ⟨kX1, iX1, hX1⟩ := u_known (C := RX1) (T := TX1) (N := 7) (n := 7) hg hinX1 (hg _ qA_X1)
  obtain ⟨kX2, iX2, hX2⟩ := u_known (C := RX2) (T := TX2) (N := 13) (n := 13) hg hinX2 (hg _ qA_X2)
  obtain ⟨kX3, iX3, hX3⟩ := u_known (C := RX3) (T := TX3) (N := 5) (n := 5) hg hinX3 (hg _ qA_X3)
  obtain ⟨kX4, iX4, hX4⟩ := u_known (C := RX4) (T := TX4) (N := 3) (n := 3) hg hinX4 (hg _ qA_X4)
  obtain ⟨kX5, iX5, hX5⟩ := u_known (C := RX5) (T := TX5) (N := 4) (n := 4) hg hinX5 (hg _ qA_X5)
  obtain ⟨kX6, iX6, hX6⟩ := u_known (C := RX6) (T := TX6) (N := 8) (n := 8) hg hinX6 (hg _ qA_X6)
  obtain ⟨kX7, iX7, hX7⟩ := u_known (C := RX7) (T := TX7) (N := 33) (n := 33) hg hinX7 (hg _ qA_X7)
  obtain ⟨a0, e0, t0⟩ := ws_ty (hg _ qB_int)
  obtain ⟨a1, e1, t1⟩ := ws_ty (hg _ qB_boolean)
  obtain ⟨a2, t2, e2⟩ := ws_to hC.2.1
  obtain ⟨a3, t3, e3⟩ := ws_to hC.2.2.1
  obtain ⟨a4, t4, e4⟩ := ws_to hC.2.2.2
  refine ⟨(fun k => if k = 0 then kX0 else if k = 1 then kX1 else if k = 2 then kX2 else if k = 3 then kX3 else if k = 4 then kX4 else if k = 5 then kX5 else if k = 6 then kX6 else kX7, fun k => if k = 0 then iX0 else if k = 1 then iX1 else if k = 2 then iX2 else if k = 3 then iX3 else if k = 4 then iX4 else if k = 5 then iX5 else if k = 6 then iX6 else iX7), fun k => if k = 0 then a0 else if k = 1 then a1 else if k = 2 then a2 else if k = 3 then a3 else a4, ?_, ?_⟩
  · intro k q hq
    match k, hq with
    | 0, hq => cases hq; exact hX0
    | 1, hq => cases hq; exact hX1
    | 2, hq => cases hq; exact hX2
    | 3, hq => cases hq; exact hX3
    | 4, hq => cases hq; exact hX4
    | 5, hq => cases hq; exact hX5
    | 6, hq => cases hq; exact hX6
    | 7, hq => cases hq; exact hX7
    | k + 8, hq => simp [vwCl] at hq
  · intro k q hq
    match k, hq with
    | 0, hq => cases hq; exact ⟨t0, e0⟩
    | 1, hq => cases hq; exact ⟨t1, e1⟩
    | 2, hq => cases hq; exact ⟨t2, e2⟩
    | 3, hq => cases hq; exact ⟨t3, e3⟩
    | 4, hq => cases hq; exact ⟨t4, e4⟩
    | k + 5, hq => simp [rrTy] at hq
