/-! the law: its end (given for pasting), its world, its calls -/
def R_law : String := "ReplenishRulesLaw"
def lw_P (b : Addr) (xs : List Int32) (args : Array Value) (s : State) : Prop := args = #[.ref b] ∧ s.IntsAt b xs ∧ xs.length ≤ 2560 ∧ (Jvm.Cond.and given_1 narrow_1).before args s = true
def lw_Q (_ : Array Value) (s : State) (o : Outcome) (t : State) : Prop := o = .returned (some (.int 1)) ∧ Framed s o t [] 601024 7293034
def lw_Z (below : List Frame) (a : Array Value) (s : State) : State → Prop := fun t => ∃ o, t.status = .running ∧ Ended t below o ∧ lw_Q a s o t
/-- the law's own end, with 1 on the stack, nothing written that was there before, its room as the claim has it -/
theorem lw_ret {p : Program} {l : Launch} {e : Env} {s : State} {m : MethodId} {below : List Frame} {meth : Method} {c : Code} {b : Nat} (hx : p.tables.exec = Jvm.exec) (hb : c.code = code) (hr : meth.sig.returnType = ret) (hlocks : meth.locks = false) {pc : Nat} {H : Heap} {ls : Array Slot} (hdg : decode code pc = .ok (.ireturn, 1)) : W p l e room_1 s m #[Value.ref b] below meth c H [] 601024 7293034 (lw_Z below #[Value.ref b] s) (F0 m pc ls [.int 1]) := by
  intro T hT X
  obtain ⟨fs, hret, hrun, hended, hW, hframe⟩ := X.leave (v := some (.int 1)) (hlocks := hlocks) (fun h => by rw [hr] at h; cases h)
  have hmeth' : T.vm.method? m = some meth := X.method'
  refine ⟨T.setFrames fs, ?_, .returned (some (.int 1)), hrun, hended, rfl, ⟨_, rfl⟩, hW, hframe⟩
  jvm_step X.here [X.here.top, hx, hb, hdg, hmeth', hr, ret, narrow_b1]
  (try refine ⟨rfl, ?_⟩); (try refine ⟨rfl, ?_⟩)
  first | (intro acts; rw [hret _ acts rfl rfl rfl]) | rw [hret _ _ rfl rfl rfl]
  exact Steps.refl _
/-- what holds at the law's entry -/
def lw_At (p : Program) (s : State) (m : MethodId) (meth : Method) (c : Code) (b L : Nat) (xs : Nat → Int32) : Prop :=
  p.tables.exec = Jvm.exec ∧ c.code = code ∧ meth.sig.returnType = ret ∧ c.maxLocals = 8 ∧ s.vm.findClass R_law = some m.cls ∧ (∀ w ∈ lw_tbl, w.before #[Value.ref b] s = true) ∧ va_X b L xs s s.heap ∧ b < s.heap.size ∧ meth.locks = false ∧ (Jvm.Cond.and given_1 narrow_1).before #[Value.ref b] s = true
/-- what stays true behind the law's beginning -/
def LD (l : Launch) (p : Program) (s : State) (m : MethodId) (meth : Method) (c : Code) (b L : Nat) (xs : Nat → Int32) (G : va_G) (cA : Nat → ClassId) (ad am : Nat → Nat) (qo : Nat) (cJ : ClassId) : Prop :=
  lw_At p s m meth c b L xs ∧ l.stackTraces = false ∧ va_K G vwCl (rrTy cA) s ∧ ArrOfT s cJ .long ∧ ct_A s ∧ rr_T (rrA ad) s s.heap ∧ (rr_inj ad ∧ mm_inj am) ∧ ((∀ k, k < 80 → s.heap.size ≤ ad k) ∧ (∀ k, k < 30 → s.heap.size ≤ am k) ∧ s.heap.size ≤ qo) ∧ ((∀ i, i < 80 → ∀ j, j < 30 → ¬ ad i = am j) ∧ (∀ i, i < 80 → ¬ ad i = qo) ∧ ∀ j, j < 30 → ¬ am j = qo)
/-- the heap: the class's object, the reference's, the array for the answers -/
def LH (s : State) (G : va_G) (cA : Nat → ClassId) (ad am : Nat → Nat) (qo : Nat) (cJ : ClassId) (σ μ : St) (z : Int64) (H : Heap) (locs : List Loc) : Prop :=
  va_P G vwCl (rrL cA ad σ) H ∧ va_P G vwCl (mmL cA am μ) H ∧ H[qo]? = some (oC cJ z) ∧ va_S (fun q : Nat => s.heap.size ≤ q) s.heap H locs
theorem la_key {cA : Nat → ClassId} {ad : Nat → Nat} {σ : St} {k : Nat} {q : Nat × va_E} (hk : (rrL cA ad σ)[k]? = some q) : k < 80 ∧ q.1 = ad k := by
  have k80 : k < 80 := by
    have := (List.getElem?_eq_some_iff.mp hk).1
    simpa [rrL] using this
  rw [rr_look k80] at hk
  cases hk
  exact ⟨k80, rfl⟩
theorem lm_key {cA : Nat → ClassId} {ad : Nat → Nat} {σ : St} {k : Nat} {q : Nat × va_E} (hk : (mmL cA ad σ)[k]? = some q) : k < 30 ∧ q.1 = ad k := by
  have k30 : k < 30 := by
    have := (List.getElem?_eq_some_iff.mp hk).1
    simpa [mmL] using this
  rw [mm_look k30] at hk
  cases hk
  exact ⟨k30, rfl⟩
theorem la_T2 {B : Nat → Prop} {s : State} {H : Heap} {locs : List Loc} (h : rr_T B s s.heap) (hS : va_S (fun q : Nat => s.heap.size ≤ q) s.heap H locs) : rr_T B s H := ⟨h.1.kept (fun a ha _ => hS.2.1 a ha (Nat.not_le.mpr ha)), h.2.1.kept (fun a ha _ => hS.2.1 a ha (Nat.not_le.mpr ha)), h.2.2⟩
section
variable {p : Program} {l : Launch} {e : Env} {s : State} {m : MethodId} {below : List Frame} {meth : Method} {c : Code} {b L : Nat} {xs : Nat → Int32} {G : va_G} {cA : Nat → ClassId} {ad am : Nat → Nat} {qo : Nat} {cJ : ClassId} {σ μ : St} {z : Int64} {H : Heap} {locs : List Loc} {cells slots : Nat} {Q : State → Prop}
theorem la_fix (D : LD l p s m meth c b L xs G cA ad am qo cJ) : CallFix p m c code 8 s #[Value.ref b] wG RL :=
  ⟨D.1.1, D.1.2.1, D.1.2.2.2.1, D.1.2.2.2.2.1, fun w h => D.1.2.2.2.2.2.1 w (List.mem_filter.mp h).1⟩
/-- a call of the law's own that gives no answer but what was thrown -/
theorem la_V (D : LD l p s m meth c b L xs G cA ad am qo cJ) (hH : LH s G cA ad am qo cJ σ μ z H locs) {y : MethodName} {bytes : ByteArray} {maxL index n pc : Nat} {hh : List (Nat × Nat × Nat × Nat)} {r0 : Nat} {τ0 : St} {As st0 : List Value} {ls : Array Slot}
    (hM : Met l y (Cond.codeWith y bytes maxL (some .int) hh :: wG) { frames := 10, cells := 5, slots := 30, locals := 200 } (va_Pc As (lxV G cA ad σ)) (lqV G cA ad r0 τ0) 5 30 (rrA ad)) (hmL : maxL ≤ 8) (kc : Cond.codeWith y bytes maxL (some .int) hh ∈ wG) (ki : Cond.initialized y.cls ∈ wG) (kl : Cond.methodLink RL index y ∈ wG) (ks : Cond.static y ∈ wG)
    (hd : y.cls ≠ "java/lang/invoke/MethodHandle" ∧ y.cls ≠ "java/lang/invoke/VarHandle" ∧ (parseMethodDescriptor y.desc).map (fun d => d.parameters.length) = some n) (hn : As.length = n) (hsize : ls.size = 8) (hstack : st0 = As.reverse) (hdg : decode code pc = .ok (.invokestatic index, 3)) (hf : cells + 5 ≤ 601024 ∧ slots + 30 ≤ 7293034)
    (kk : ∀ (H1 : Heap) (locs1 : List Loc), LH s G cA ad am qo cJ τ0 μ z H1 locs1 → W p l e room_1 s m #[Value.ref b] below meth c H1 locs1 (cells + 5) (slots + 30) Q (F0 m (pc + 3) ls [.int (nI r0)])) : W p l e room_1 s m #[Value.ref b] below meth c H locs cells slots Q (F0 m pc ls st0) := by
  have hFx := la_fix D
  have hg := hFx.2.2.2.2
  obtain ⟨-, hl9, hK, hoT, hA9, hT, ⟨hJ, hJm⟩, ⟨a1, a2, a3⟩, ⟨d1, d2, d3⟩⟩ := D
  obtain ⟨hP, hPm, ho, hS⟩ := hH
  have hAA : ∀ q, rrA ad q → s.heap.size ≤ q := fun q h => by obtain ⟨k, hk, e⟩ := h; rw [e]; exact a1 k hk
  refine va_calli (ct_runS (rest := []) hFx hM rfl rfl ⟨Nat.le_of_ble_eq_true rfl, by show 8 + (maxL + 11) + 200 ≤ 476; omega⟩ kc (hg _ ki) (hg _ kl) (hg _ ks) hd ⟨lxV_bl, fun U hU hW => ⟨rfl, ⟨by rw [hU]; exact hP, va_K.moved hW.alike hK, by rw [hU]; exact (la_T2 hT hS).warm hW⟩, hA9.moved hW.alike⟩⟩ rfl hn hsize (by rw [List.append_nil]; exact hstack) (lv_room (Nat.le_of_ble_eq_true rfl)) hdg hf) hS (fun q _ h => hAA q h) hAA (fun r τ t H1 locs1 ht hvm hpost hB hz9 hk9 hS1 => ?_)
  obtain ⟨rfl, rfl⟩ := hpost
  have hP1 := hB.1
  rw [ht] at hP1
  refine kk H1 locs1 ⟨hP1, hPm.kept fun k q hk => ?_, ?_, hS1⟩
  · refine hk9 q.1 ((hPm k q hk).lt) fun h => ?_
    obtain ⟨i, hi, e⟩ := h
    obtain ⟨g1, g2⟩ := lm_key hk
    exact d1 i hi k g1 (by rw [← e, g2])
  · rw [hk9 qo (Array.getElem?_eq_some_iff.mp ho).1 fun h => by obtain ⟨i, hi, e⟩ := h; exact d2 i hi e.symm]; exact ho
/-- a call of the law's own that lays its answer into the array -/
theorem la_L (D : LD l p s m meth c b L xs G cA ad am qo cJ) (hH : LH s G cA ad am qo cJ σ μ z H locs) {y : MethodName} {bytes : ByteArray} {maxL index n pc : Nat} {hh : List (Nat × Nat × Nat × Nat)} {r0 : Nat} {τ0 : St} {w0 : Int64} {As st0 : List Value} {ls : Array Slot}
    (hM : Met l y (Cond.codeWith y bytes maxL (some .int) hh :: wG) { frames := 10, cells := 5, slots := 30, locals := 200 } (va_Pc As (lxL G cA ad σ qo cJ z)) (lqL G cA ad qo cJ r0 τ0 w0) 5 30 (oA ad qo)) (hmL : maxL ≤ 8) (kc : Cond.codeWith y bytes maxL (some .int) hh ∈ wG) (ki : Cond.initialized y.cls ∈ wG) (kl : Cond.methodLink RL index y ∈ wG) (ks : Cond.static y ∈ wG)
    (hd : y.cls ≠ "java/lang/invoke/MethodHandle" ∧ y.cls ≠ "java/lang/invoke/VarHandle" ∧ (parseMethodDescriptor y.desc).map (fun d => d.parameters.length) = some n) (hn : As.length = n) (hsize : ls.size = 8) (hstack : st0 = As.reverse) (hdg : decode code pc = .ok (.invokestatic index, 3)) (hf : cells + 5 ≤ 601024 ∧ slots + 30 ≤ 7293034)
    (kk : ∀ (z1 : Int64) (H1 : Heap) (locs1 : List Loc), (r0 = 0 → z1 = w0) → LH s G cA ad am qo cJ τ0 μ z1 H1 locs1 → W p l e room_1 s m #[Value.ref b] below meth c H1 locs1 (cells + 5) (slots + 30) Q (F0 m (pc + 3) ls [.int (nI r0)])) : W p l e room_1 s m #[Value.ref b] below meth c H locs cells slots Q (F0 m pc ls st0) := by
  have hFx := la_fix D
  have hg := hFx.2.2.2.2
  obtain ⟨-, hl9, hK, hoT, hA9, hT, ⟨hJ, hJm⟩, ⟨a1, a2, a3⟩, ⟨d1, d2, d3⟩⟩ := D
  obtain ⟨hP, hPm, ho, hS⟩ := hH
  have hAA : ∀ q, oA ad qo q → s.heap.size ≤ q := fun q h => by
    rcases h with ⟨k, hk, e⟩ | e
    · rw [e]; exact a1 k hk
    · rw [e]; exact a3
  refine va_calli (ct_runS (rest := []) hFx hM rfl rfl ⟨Nat.le_of_ble_eq_true rfl, by show 8 + (maxL + 11) + 200 ≤ 476; omega⟩ kc (hg _ ki) (hg _ kl) (hg _ ks) hd ⟨lxL_bl, fun U hU hW => ⟨rfl, ⟨by rw [hU]; exact hP, va_K.moved hW.alike hK, by rw [hU]; exact (la_T2 hT hS).warm hW⟩, hA9.moved hW.alike, by rw [hU]; exact ho, arrOfT_moved hW.alike hoT, fun h => by obtain ⟨i, hi, e⟩ := h; exact d2 i hi e.symm⟩⟩ rfl hn hsize (by rw [List.append_nil]; exact hstack) (lv_room (Nat.le_of_ble_eq_true rfl)) hdg hf) hS (fun q _ h => hAA q h) hAA (fun r u t H1 locs1 ht hvm hpost hB hz9 hk9 hS1 => ?_)
  obtain ⟨τ, z1⟩ := u
  obtain ⟨rfl, hτ, hz⟩ := hpost
  have hτ : τ = τ0 := hτ
  subst hτ
  have hP1 := hB.1.1
  have ho1 := hB.2
  rw [ht] at hP1 ho1
  refine kk z1 H1 locs1 hz ⟨hP1, hPm.kept fun k q hk => ?_, ho1, hS1⟩
  refine hk9 q.1 ((hPm k q hk).lt) fun h => ?_
  obtain ⟨g1, g2⟩ := lm_key hk
  rcases h with ⟨i, hi, e⟩ | e
  · exact d1 i hi k g1 (by rw [← e, g2])
  · exact d3 k g1 (by rw [← g2, e])
/-- what a call of the reference leaves -/
theorem la_keep (D : LD l p s m meth c b L xs G cA ad am qo cJ) (hH : LH s G cA ad am qo cJ σ μ z H locs) {μ1 : St} {H1 : Heap} {locs1 : List Loc} (hP1 : va_P G vwCl (mmL cA am μ1) H1) (hk9 : ∀ q : Nat, q < H.size → ¬ mmA am q → H1[q]? = H[q]?) (hS1 : va_S (fun q : Nat => s.heap.size ≤ q) s.heap H1 locs1) : LH s G cA ad am qo cJ σ μ1 z H1 locs1 := by
  obtain ⟨-, hl9, hK, hoT, hA9, hT, ⟨hJ, hJm⟩, ⟨a1, a2, a3⟩, ⟨d1, d2, d3⟩⟩ := D
  obtain ⟨hP, hPm, ho, hS⟩ := hH
  refine ⟨hP.kept fun k q hk => ?_, hP1, ?_, hS1⟩
  · refine hk9 q.1 ((hP k q hk).lt) fun h => ?_
    obtain ⟨i, hi, e⟩ := h
    obtain ⟨g1, g2⟩ := la_key hk
    exact d1 k g1 i hi (by rw [← g2, e])
  · rw [hk9 qo (Array.getElem?_eq_some_iff.mp ho).1 fun h => by obtain ⟨i, hi, e⟩ := h; exact d3 i hi e.symm]; exact ho
theorem la_mA (D : LD l p s m meth c b L xs G cA ad am qo cJ) : ∀ q, mmA am q → s.heap.size ≤ q := fun q h => by
  obtain ⟨k, hk, e⟩ := h; rw [e]; exact D.2.2.2.2.2.2.2.1.2.1 k hk
theorem la_Mv (D : LD l p s m meth c b L xs G cA ad am qo cJ) (hH : LH s G cA ad am qo cJ σ μ z H locs) {y : MethodName} {bytes : ByteArray} {maxL index n pc : Nat} {rm : Room} {μ1 : St} {As st0 : List Value} {ls : Array Slot}
    (hM : Met l y (Cond.code y bytes maxL none :: wG) rm (va_Pc (.ref (am 0) :: As) (mmW G cA am μ)) (va_Qv (fun σ' => σ' = μ1) (mmW G cA am) (mmA am)) 0 0 (mmA am)) (cw : CallW room_1 s #[Value.ref b] RL RX7 index y bytes maxL none (Cond.code y bytes maxL none :: wG) rm 0 0 n) (hn : As.length = n) (hsize : ls.size = 8) (hstack : st0 = As.reverse ++ [.ref (am 0)]) (hdg : decode code pc = .ok (.invokevirtual index, 3)) (hf : cells ≤ 601024 ∧ slots ≤ 7293034)
    (kk : ∀ (H1 : Heap) (locs1 : List Loc), LH s G cA ad am qo cJ σ μ1 z H1 locs1 → W p l e room_1 s m #[Value.ref b] below meth c H1 locs1 cells slots Q (F0 m (pc + 3) ls [])) : W p l e room_1 s m #[Value.ref b] below meth c H locs cells slots Q (F0 m pc ls st0) := by
  have hFx := la_fix D
  have hK := D.2.2.1
  refine va_callv (va_runV (As := As) (rest := []) hFx hM cw (mm_pv hK hH.2.1 (va_recv hK hH.2.1 (ci := 7) (q0 := 0) rfl ml_obj)) rfl hn hsize hstack (lv_room (Nat.le_of_ble_eq_true rfl)) hdg hf) hH.2.2.2 (fun q _ h => la_mA D q h) (la_mA D) (fun u t H1 locs1 ht hvm hpost hB hz9 hk9 hS1 => ?_)
  subst hpost
  have hP1 := hB.1
  rw [ht] at hP1
  exact kk H1 locs1 (la_keep D hH hP1 hk9 hS1)
theorem la_Mi (D : LD l p s m meth c b L xs G cA ad am qo cJ) (hH : LH s G cA ad am qo cJ σ μ z H locs) {y : MethodName} {bytes : ByteArray} {maxL index n pc : Nat} {rm : Room} {ret : Option FieldType} {μ1 : St} {r1 : Int32} {As st0 : List Value} {ls : Array Slot}
    (hM : Met l y (Cond.code y bytes maxL ret :: wG) rm (va_Pc (.ref (am 0) :: As) (mmW G cA am μ)) (va_Qi (fun r σ' => r = r1 ∧ σ' = μ1) (mmW G cA am) (mmA am)) 0 0 (mmA am)) (cw : CallW room_1 s #[Value.ref b] RL RX7 index y bytes maxL ret (Cond.code y bytes maxL ret :: wG) rm 0 0 n) (hn : As.length = n) (hsize : ls.size = 8) (hstack : st0 = As.reverse ++ [.ref (am 0)]) (hdg : decode code pc = .ok (.invokevirtual index, 3)) (hf : cells ≤ 601024 ∧ slots ≤ 7293034)
    (kk : ∀ (H1 : Heap) (locs1 : List Loc), LH s G cA ad am qo cJ σ μ1 z H1 locs1 → W p l e room_1 s m #[Value.ref b] below meth c H1 locs1 cells slots Q (F0 m (pc + 3) ls [.int r1])) : W p l e room_1 s m #[Value.ref b] below meth c H locs cells slots Q (F0 m pc ls st0) := by
  have hFx := la_fix D
  have hK := D.2.2.1
  refine va_calli (va_runV (As := As) (rest := []) hFx hM cw (mm_pv hK hH.2.1 (va_recv hK hH.2.1 (ci := 7) (q0 := 0) rfl ml_obj)) rfl hn hsize hstack (lv_room (Nat.le_of_ble_eq_true rfl)) hdg hf) hH.2.2.2 (fun q _ h => la_mA D q h) (la_mA D) (fun r u t H1 locs1 ht hvm hpost hB hz9 hk9 hS1 => ?_)
  obtain ⟨h1, h2⟩ := hpost
  subst h1
  subst h2
  have hP1 := hB.1
  rw [ht] at hP1
  exact kk H1 locs1 (la_keep D hH hP1 hk9 hS1)
theorem la_Ml (D : LD l p s m meth c b L xs G cA ad am qo cJ) (hH : LH s G cA ad am qo cJ σ μ z H locs) {y : MethodName} {bytes : ByteArray} {maxL index n pc : Nat} {rm : Room} {ret : Option FieldType} {μ1 : St} {r1 : Int64} {As st0 : List Value} {ls : Array Slot}
    (hM : Met l y (Cond.code y bytes maxL ret :: wG) rm (va_Pc (.ref (am 0) :: As) (mmW G cA am μ)) (va_Ql (fun r σ' => r = r1 ∧ σ' = μ1) (mmW G cA am) (mmA am)) 0 0 (mmA am)) (cw : CallW room_1 s #[Value.ref b] RL RX7 index y bytes maxL ret (Cond.code y bytes maxL ret :: wG) rm 0 0 n) (hn : As.length = n) (hsize : ls.size = 8) (hstack : st0 = As.reverse ++ [.ref (am 0)]) (hdg : decode code pc = .ok (.invokevirtual index, 3)) (hf : cells ≤ 601024 ∧ slots ≤ 7293034)
    (kk : ∀ (H1 : Heap) (locs1 : List Loc), LH s G cA ad am qo cJ σ μ1 z H1 locs1 → W p l e room_1 s m #[Value.ref b] below meth c H1 locs1 cells slots Q (F0 m (pc + 3) ls [.long r1])) : W p l e room_1 s m #[Value.ref b] below meth c H locs cells slots Q (F0 m pc ls st0) := by
  have hFx := la_fix D
  have hK := D.2.2.1
  refine va_calll (va_runV (As := As) (rest := []) hFx hM cw (mm_pv hK hH.2.1 (va_recv hK hH.2.1 (ci := 7) (q0 := 0) rfl ml_obj)) rfl hn hsize hstack (lv_room (Nat.le_of_ble_eq_true rfl)) hdg hf) hH.2.2.2 (fun q _ h => la_mA D q h) (la_mA D) (fun r u t H1 locs1 ht hvm hpost hB hz9 hk9 hS1 => ?_)
  obtain ⟨h1, h2⟩ := hpost
  subst h1
  subst h2
  have hP1 := hB.1
  rw [ht] at hP1
  exact kk H1 locs1 (la_keep D hH hP1 hk9 hS1)
/-- what the reference says was thrown -/
theorem la_Th (D : LD l p s m meth c b L xs G cA ad am qo cJ) (hH : LH s G cA ad am qo cJ σ μ z H locs) {index pc : Nat} {ls : Array Slot} (cw : CallW room_1 s #[Value.ref b] RL RX7 index yX7_thrown cX7_thrown 1 (some .int) (wX7_thrown :: wG) { frames := 0, cells := 0, slots := 0, locals := 0 } 0 0 0) (hsize : ls.size = 8) (hdg : decode code pc = .ok (.invokevirtual index, 3)) (hf : cells ≤ 601024 ∧ slots ≤ 7293034)
    (kk : W p l e room_1 s m #[Value.ref b] below meth c H locs cells slots Q (F0 m (pc + 3) ls [.int (μ 0 0)])) : W p l e room_1 s m #[Value.ref b] below meth c H locs cells slots Q (F0 m pc ls [.ref (am 0)]) := by
  have hFx := la_fix D
  have hK := D.2.2.1
  exact vp_callSi (W.runV (As := []) (rest := []) hFx (m_ReplenishRulesModel_thrown l G cA am μ) cw (mm_pv hK hH.2.1 (va_recv hK hH.2.1 (ci := 7) (q0 := 0) rfl ml_obj)) rfl rfl hsize rfl (lv_room (Nat.le_of_ble_eq_true rfl)) hdg hf) (nm_e kk)
/-- the script's ints -/
theorem la_sld (D : LD l p s m meth c b L xs G cA ad am qo cJ) (hH : LH s G cA ad am qo cJ σ μ z H locs) {i : Int32} {pc : Nat} {ls : Array Slot} {rest : List Value} (hin : vp_in i L) (hdg : decode code pc = .ok (.iaload, 1))
    (kk : W p l e room_1 s m #[Value.ref b] below meth c H locs cells slots Q (F0 m (pc + 1) ls (.int (xs (nx i)) :: rest))) : W p l e room_1 s m #[Value.ref b] below meth c H locs cells slots Q (F0 m pc ls (.int i :: .ref b :: rest)) :=
  va_sld D.1.1 D.1.2.1 D.1.2.2.2.2.2.2.1 D.1.2.2.2.2.2.2.2.1 (Nat.not_le.mpr D.1.2.2.2.2.2.2.2.1) hH.2.2.2 hin hdg kk
/-- the answer in the array -/
theorem la_ld (D : LD l p s m meth c b L xs G cA ad am qo cJ) (hH : LH s G cA ad am qo cJ σ μ z H locs) {pc : Nat} {ls : Array Slot} {rest : List Value} (hdg : decode code pc = .ok (.laload, 1))
    (kk : W p l e room_1 s m #[Value.ref b] below meth c H locs cells slots Q (F0 m (pc + 1) ls (.long z :: rest))) : W p l e room_1 s m #[Value.ref b] below meth c H locs cells slots Q (F0 m pc ls (.int 0 :: .ref qo :: rest)) :=
  W.lald (v := .long z) D.1.1 D.1.2.1 hH.2.2.1 (D.2.2.2.1 1 (fun _ => .long z)) (fun q => by cases q) (by show ¬ ((0 : Int32) < 0 ∨ (arrV _ _ _).slots.size ≤ _); rw [arrV_size]; decide) (by show (arrV _ _ _).slots[_]? = _; rw [arrV_read _ _ (by decide)]) rfl rfl hdg kk
end
theorem ix_in {n k L : Nat} (hk : k < 5) (h : 5 * n + 5 ≤ L) (hL : L ≤ 2560) : vp_in (nI (5 * n) + nI k) L := by
  rw [nI_add]; exact vp_in_nI (by omega) (by omega)
theorem nI_z {k : Nat} (h : k < 10) (q : nI k = 0) : k = 0 := Classical.byContradiction fun z => nI_ne z h q
theorem cmp_self {x y : Int64} (h : x = y) : lg_cmp x y = 0 := cmp_0.mpr h
