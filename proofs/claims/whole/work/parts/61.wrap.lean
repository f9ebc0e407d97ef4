/-! the law's own small methods: a call of the class, its throws caught -/
theorem ct_tab {p : Program} {l : Launch} {e : Env} {R : Room} {s : State} {m : MethodId} {args : Array Value} {below : List Frame} {meth : Method} {c : Code} {T : State} {locs : List Loc} {cells slots : Nat} {y : MethodName} {cc : ByteArray} {maxL : Nat} {ret : Option FieldType} {hh : List (Nat × Nat × Nat × Nat)} (X : Stand p l e R s m args below meth c T locs cells slots) (hn : s.methodNamed? y = some m) (h : (Cond.codeWith y cc maxL ret hh).before args s = true) : c.exceptionTable.toList = tableOf hh := by
  obtain ⟨m9, meth9, c9, hn9, h1, h2, -, -, h5, -⟩ := Cond.codeWith_spec h
  cases hn.symm.trans hn9
  cases X.method.symm.trans h1
  cases X.code.symm.trans h2
  rw [← h5]
  unfold tableOf
  rw [List.map_map]
  exact (List.map_id' _).symm
section
variable {p : Program} {l : Launch} {e : Env} {R : Room} {s : State} {m : MethodId} {args : Array Value} {below : List Frame} {meth : Method} {c : Code} {H : Heap} {locs : List Loc} {cells slots : Nat}
variable {G : va_G} {cA : Nat → ClassId} {ad : Nat → Nat} {σ : St}
theorem cx_go2 {fr : Nat → Prop} {T : State} (X : Stand p l e R s m args below meth c T locs cells slots) {y : MethodName} {bytes : ByteArray} {maxL : Nat} {ret : Option FieldType} {rm : Room} {av : List Value} {K' : Nat} {Ret' : Option Value → St → Prop} {mc' ms' : Nat} (hM : cx_Met fr l y (Cond.code y bytes maxL ret) rm av G cA ad σ K' Ret' mc' ms') (hrc : rm.cells = mc') (hrs : rm.slots = ms') (hfr : rm.frames + 1 ≤ R.frames) (hlo : 8 + (maxL + 11) + rm.locals ≤ R.locals)
    (hws : ∀ w ∈ Cond.code y bytes maxL ret :: wG, ∀ (a' : Array Value) (U : State), s.WarmedH U.vm → w.before a' U = true) (hini : (Cond.initialized y.cls).before args s = true)
    {g : JFrame} (hg : g.method = m) (hsize : g.locals.size = c.maxLocals) {ig : Instr} (hdg : decode c.code g.pc = .ok (ig, 3)) (hW : 2 * g.monitorRoom + (g.stack.map fun v => v.category).sum ≤ 8) {mk : MethodId} (hn : T.methodNamed? y = some mk) (hcells : cells + mc' ≤ R.cells) (hslots : slots + ms' ≤ R.slots) (hp : va_Pc av (rrX G cA ad σ) av.toArray T) :
    (K' = 0 ∧ ∃ (v : Option Value) (τ : St) (T' : State) (L : List Loc), Stand p l e R s m args below meth c T' (locs ++ L) (cells + mc') (slots + ms') ∧ (∀ z ∈ L, fr z.base) ∧ Ret' v τ ∧ va_P G vwCl (rrL cA ad τ) T'.heap ∧ T.heap.size ≤ T'.heap.size ∧ (∀ q : Nat, q < T.heap.size → ¬ fr q → T'.heap[q]? = T.heap[q]?) ∧ Steps p.tables e below (doInvoke e (T.setTop g) [] mk av.toArray).1 (T'.setTop { g with pc := g.pc + 3, stack := v.toList ++ g.stack })) ∨
    (¬ K' = 0 ∧ ∃ (q : Addr) (ce : Cell) (T' : State) (L : List Loc), Stand p l e R s m args below meth c T' (locs ++ L) (cells + mc') (slots + ms') ∧ (∀ z ∈ L, fr z.base) ∧ T'.heap[q]? = some ce ∧ ce.vm = .none ∧ s.vm.findClass (exN K') = some ce.cls ∧ va_P G vwCl (rrL cA ad σ) T'.heap ∧ T.heap.size ≤ T'.heap.size ∧ (∀ q : Nat, q < T.heap.size → ¬ fr q → T'.heap[q]? = T.heap[q]?) ∧ Steps p.tables e below (doInvoke e (T.setTop g) [] mk av.toArray).1 ((T'.setTop g).pushFrame (.throwing q))) := by
  have hin9 : (Cond.initialized y.cls).before av.toArray T = true := word_at X.warmed (Or.inl (by first | rfl | simp [Cond.onTables, Cond.keeps, Cond.steady])) hini
  obtain ⟨methY, cY, hmY, hcY, -, hlY, -, -, -, -⟩ := Cond.code_spec hn (hws _ List.mem_cons_self av.toArray T X.warmed)
  obtain ⟨kY, hkY, -⟩ := className_of_methodNamed hn
  have hinitY : kY.init = .initialized := Cond.initialized_spec (findClass_of_methodNamed hn) hkY hin9
  have h : At T g.method c below := by rw [hg]; exact X.here
  have happ : (headSpec (Cond.code y bytes maxL ret :: wG) rm).appliesLoose y e.platform (T.calling g mk av.toArray) = true :=
    Spec.appliesLoose_calling (g := g) h hdg hn hkY hinitY
      (X.room_calling (g := g) (R' := rm) hsize hmY hcY hfr (by rw [hlY]; omega) (by rw [hrc]; exact hcells) (by rw [hrs]; exact hslots)) (atoms_intro fun w hw => hws w hw _ _ X.warmed)
  obtain ⟨mid, hmid⟩ := h.above
  have hfr9 : (T.setTop g).frames = (.java g :: mid) ++ below := by rw [State.frames_setTop' g h.top, hmid]; rfl
  obtain ⟨o, s₂, hsteps, -, hend, ⟨⟨L, hW2, hsm, hL⟩, hF, hq⟩⟩ := Steps.callFree hM p X.admits X.cas X.clock (acts := []) hfr9 happ (rr_blx _ _ g mk hp) trivial
  rw [State.frames_setTop' g h.top, X.tail] at hend
  rcases hq with ⟨hk, v, τ, rfl, hr, hw⟩ | ⟨hk, q, ce, rfl, hce, hcv, hcl, hw⟩
  · obtain ⟨T', X', -, -, rfl⟩ := X.outOf hg hdg (mk := mk) (a := av.toArray) hend hW2 hsm
    exact Or.inl ⟨hk, v, τ, T', L, X', hL, hr, hw.1, hF.1, hF.2, hsteps⟩
  · obtain ⟨T', X', -, -, rfl⟩ := X.outOfThrown hg (mk := mk) (a := av.toArray) hend hW2 hsm
    have hh : ((T'.setTop g).pushFrame (.throwing q)).heap = T'.heap := Stand.throwing_heap T' g q
    rw [hh] at hce
    have hw1 := hw.1
    rw [hh] at hw1
    have hF1 := hF.1
    have hF2 := hF.2
    rw [hh] at hF1 hF2
    have hcl' : s.vm.findClass (exN K') = some ce.cls := by
      have : T.vm.findClass (exN K') = some ce.cls := hcl
      rwa [X.warmed.alike.findClass] at this
    exact Or.inr ⟨hk, q, ce, T', L, X', hL, hce, hcv, hcl', hw1, hF1, hF2, hsteps⟩
/-- the call of the class, at the head of a small method of the law's: it comes back, or what it throws is caught -/
theorem ct_callV {Q : State → Prop} {cc bytes : ByteArray} {nL maxL index n pc h : Nat} {own C : String} {y : MethodName} {ret : Option FieldType} {rm : Room} {K' : Nat} {Ret' : Option Value → St → Prop} {mc' ms' b : Nat} {As rest st0 : List Value} {ls : Array Slot} {hh : List (Nat × Nat × Nat × Nat)}
    (S : CallFix p m c cc nL s args wG own) (hM : cx_Met (rrA ad) l y (Cond.code y bytes maxL ret) rm (.ref b :: As) G cA ad σ K' Ret' mc' ms') (cw : CallW R s args own C index y bytes maxL ret (Cond.code y bytes maxL ret :: wG) rm mc' ms' n) (hX : rrX G cA ad σ s) (hA : ct_A s) (htab : c.exceptionTable.toList = tableOf hh)
    (hrv : ∃ cell : Cell, s.heap[b]? = some cell ∧ cell.vm.isStatics = false ∧ s.vm.findClass C = some cell.cls) (hn : As.length = n) (hsize : ls.size = nL) (hstack : st0 = As.reverse ++ .ref b :: rest) (hW : 2 * (F0 m pc ls st0).monitorRoom + (rest.map fun v => v.category).sum ≤ 8) (hdg : decode cc pc = .ok (.invokevirtual index, 3)) (hf : mc' ≤ R.cells ∧ ms' ≤ R.slots) (hK5 : K' ≤ 5)
    (road : ¬ K' = 0 → ∀ pl : Platform, pl.magicAccessors = ({} : Platform).magicAccessors → ∀ o, s.vm.findClass (exN K') = some o → ct_road s pl m.cls pc o (tableOf hh) h)
    (kk : K' = 0 → ∀ (v : Option Value) (τ : St) (H1 : Heap) (locs1 : List Loc), Ret' v τ → va_P G vwCl (rrL cA ad τ) H1 → va_S (rrA ad) s.heap H1 locs1 → W p l e R s m args below meth c H1 locs1 mc' ms' Q (F0 m (pc + 3) ls (v.toList ++ rest)))
    (kx : ¬ K' = 0 → ∀ (q : Nat) (H1 : Heap) (locs1 : List Loc), va_P G vwCl (rrL cA ad σ) H1 → va_S (rrA ad) s.heap H1 locs1 → W p l e R s m args below meth c H1 locs1 mc' ms' Q (F0 m h ls [.ref q])) :
    W p l e R s m args below meth c s.heap [] 0 0 Q (F0 m pc ls st0) := by
  obtain ⟨⟨hrc, hrs, hfr, hlo, hws, -, hcode, hini, hy, hlen, hl⟩, hin, hse⟩ := cw
  obtain ⟨hx, hb, hml, ho, -⟩ := S
  obtain ⟨cellB, hcB, hoB, hclB⟩ := hrv
  subst hstack
  intro T hT' X
  obtain ⟨mk, methM, hnamed, hmethM, hstM, habM⟩ := Cond.instanceMethod_spec hin
  obtain ⟨methM', cM, hmethM', -, -, -, -, -, -, hsigM⟩ := Cond.code_spec hnamed hcode
  cases hmethM.symm.trans hmethM'
  obtain ⟨c2, r2, m2, q1, q2, q3, q4, kP, hkP, hkPi⟩ := Cond.selects_spec hse
  cases hclB.symm.trans q1
  cases (State.methodFound?_of_named hnamed hy).symm.trans q2
  cases hnamed.symm.trans q3
  have hselP : selectMethod e.platform s.vm cellB.cls mk = .method mk := by rw [Launch.admits_selectMethod X.admits]; exact q4
  obtain ⟨vm₁, X₁, hstep₁⟩ := X.invokevirtual hx ho hl hnamed hmethM hstM hkP hkPi hy (a := b) (cell := cellB) (by rw [hT']; exact hcB)
    (fun z h => by rw [h] at hoB; cases hoB) hselP hmethM habM hkP hkPi (g := F0 m pc ls (As.reverse ++ .ref b :: rest)) rfl (argsL := As) (rest := rest) (hn.trans (hlen _ hsigM)) rfl (by rw [hb]; exact hdg)
  have hp : va_Pc (.ref b :: As) (rrX G cA ad σ) (Value.ref b :: As).toArray (T.setVm vm₁) := ⟨rfl, by rw [show (T.setVm vm₁).heap = s.heap from hT']; exact hX.1, va_K.moved X₁.warmed.alike hX.2.1, by rw [show (T.setVm vm₁).heap = s.heap from hT']; exact hX.2.2.warm X₁.warmed⟩
  have keep : ∀ {T' : State} {L : List Loc}, (∀ z ∈ L, rrA ad z.base) → (T.setVm vm₁).heap.size ≤ T'.heap.size → (∀ q : Nat, q < (T.setVm vm₁).heap.size → ¬ rrA ad q → T'.heap[q]? = (T.setVm vm₁).heap[q]?) → va_S (rrA ad) s.heap T'.heap ([] ++ L) := fun hL h1 h2 => by
    rw [show (T.setVm vm₁).heap = s.heap from hT'] at h1 h2
    exact ⟨h1, h2, hL⟩
  rcases cx_go2 X₁ hM hrc hrs hfr hlo hws hini (g := F0 m pc ls rest) rfl (hsize.trans hml.symm) (by rw [hb]; exact hdg) hW (X₁.named hnamed) (by rw [Nat.zero_add]; exact hf.1) (by rw [Nat.zero_add]; exact hf.2) hp with ⟨hk, v, τ, T', L, X', hL, hr, hP1, h1, h2, st⟩ | ⟨hk, q, ce, T', L, X', hL, hce, hcv, hcl, hP1, h1, h2, st⟩
  · rw [Nat.zero_add, Nat.zero_add] at X'
    obtain ⟨t, a1, b1⟩ := kk hk v τ T'.heap ([] ++ L) hr hP1 (keep hL h1 h2) T' rfl X'
    exact ⟨t, hstep₁ _ fun acts => by rw [doInvoke_state]; exact st.trans a1, b1⟩
  · rw [Nat.zero_add, Nat.zero_add] at X'
    have hpl : e.platform.magicAccessors = ({} : Platform).magicAccessors := by rw [X.admits.platform]
    obtain ⟨c1, d1, g1, -, -, kc⟩ := hA K' (by omega) hK5 K' (by omega) hK5
    cases g1.symm.trans hcl
    obtain ⟨vm', X2, hgo⟩ := ct_catch X' (g := F0 m pc ls rest) rfl hce hcv kc (by rw [htab]; exact road hk e.platform hpl _ hcl)
    obtain ⟨t, a1, b1⟩ := kx hk q T'.heap ([] ++ L) hP1 (keep hL h1 h2) (T'.setVm vm') rfl X2
    exact ⟨t, hstep₁ _ fun acts => by rw [doInvoke_state]; exact st.trans (hgo _ a1), b1⟩
/-- a call of a static method that has a table -/
theorem ct_runS {y : MethodName} {bytes cc : ByteArray} {maxL nL mc ms n index : Nat} {ret : Option FieldType} {hh : List (Nat × Nat × Nat × Nat)} {rm : Room} {Pc : Array Value → State → Prop} {Qc : Array Value → State → Outcome → State → Prop} {free : Addr → Prop} {own : String} {As rest : List Value} {g : JFrame}
    (S : CallFix p m c cc nL s args wG own) (hM : Met l y (Cond.codeWith y bytes maxL ret hh :: wG) rm Pc Qc mc ms free) (hrc : rm.cells = mc) (hrs : rm.slots = ms) (hR : rm.frames + 1 ≤ R.frames ∧ 8 + (maxL + 11) + rm.locals ≤ R.locals) (kc : Cond.codeWith y bytes maxL ret hh ∈ wG) (hini : (Cond.initialized y.cls).before args s = true) (hl : (Cond.methodLink own index y).before args s = true) (hstt : (Cond.static y).before args s = true)
    (hd : y.cls ≠ "java/lang/invoke/MethodHandle" ∧ y.cls ≠ "java/lang/invoke/VarHandle" ∧ (parseMethodDescriptor y.desc).map (fun d => d.parameters.length) = some n) (hp : PreS s H Pc As)
    (hg : g.method = m) (hn : As.length = n) (hsize : g.locals.size = nL) (hstack : g.stack = As.reverse ++ rest) (hW : 2 * g.monitorRoom + (rest.map fun v => v.category).sum ≤ 8) (hdg : decode cc g.pc = .ok (.invokestatic index, 3)) (hf : cells + mc ≤ R.cells ∧ slots + ms ≤ R.slots) :
    va_Run p l e R s m args below meth c H locs cells slots mc ms g rest (Qc As.toArray) (free) := by
  obtain ⟨hx, hb, hml, ho, ht⟩ := S
  have hws := pay_in ht (gI kc)
  have hcode : (Cond.codeWith y bytes maxL ret hh).before args s = true := ht _ kc
  have hK : Back l R p e below s args y 3 8 (PreOf R mc ms Pc) (PostOf Qc mc ms free) := va_backW (hh := hh) (bytes := bytes) (maxL := maxL) (ret := ret) hM hp.1 hrc hrs hR.1 hR.2 hws List.mem_cons_self (fun a' U hW => word_at hW (Or.inl (by first | rfl | simp [Cond.onTables, Cond.keeps, Cond.steady])) hini)
  intro T hT X
  obtain ⟨mk, methM, cM, hnamed, hmethM, -, -, -, -, -, -, hsigM⟩ := Cond.codeWith_spec hcode
  have hstatic : methM.isStatic = true := Cond.static_spec hnamed hmethM hstt
  obtain ⟨kP, hkP, -⟩ := className_of_methodNamed hnamed
  have hinitP : kP.init = .initialized := Cond.initialized_spec (findClass_of_methodNamed hnamed) hkP hini
  have hlen : As.length = methM.sig.parameters.length := by
    have h2 := hd.2.2
    rw [hsigM] at h2
    rw [hn]; exact (Option.some.inj h2).symm
  obtain ⟨vm₁, X₁, hstep₁⟩ := X.invokestatic hx ho hl hnamed hmethM hstatic hkP hinitP ⟨hd.1, hd.2.1⟩ (g := g) hg (argsL := As) (rest := rest) hlen hstack (by rw [hb]; exact hdg)
  obtain ⟨v, ⟨U', l2, c2, s2⟩, X', ⟨g', mk', t, L, e1, e2, hq, h1, hL, h2, h3⟩, st⟩ := hK m meth c ⟨T.setVm vm₁, locs, cells, slots⟩ { g with stack := rest } (.invokestatic index) mk As.toArray X₁ hg (hsize.trans hml.symm) (by rw [hb]; exact hdg) hW (X₁.named hnamed) ⟨hf.1, hf.2, hp.2 (T.setVm vm₁) hT X₁.warmed⟩
  dsimp only [Pt.U, Pt.locs, Pt.cells, Pt.slots] at X' e1 e2 h1 h2 h3 st
  subst h1; subst h2; subst h3
  exact ⟨v, (T.setVm vm₁).calling g' mk' As.toArray, t, U', L, hT, X', hL, e1, e2, hq, fun target hz => hstep₁ _ fun acts => by rw [doInvoke_state]; exact st.trans hz⟩
end
/-- the law's worlds of a small method: without and with the array for the answer -/
def lxV (G : va_G) (cA : Nat → ClassId) (ad : Nat → Nat) (σ : St) (U : State) : Prop := rrX G cA ad σ U ∧ ct_A U
def oC (cJ : ClassId) (z : Int64) : Cell := arrV cJ 1 (fun _ => .long z)
def lxL (G : va_G) (cA : Nat → ClassId) (ad : Nat → Nat) (σ : St) (qo : Nat) (cJ : ClassId) (z : Int64) (U : State) : Prop := rrX G cA ad σ U ∧ ct_A U ∧ U.heap[qo]? = some (oC cJ z) ∧ ArrOfT U cJ .long ∧ ¬ rrA ad qo
theorem lxV_bl {G : va_G} {cA : Nat → ClassId} {ad : Nat → Nat} {σ : St} {av : List Value} : FrameBlind (va_Pc av (lxV G cA ad σ)) := fun a U g mk q => ⟨q.1, (rr_blx (av := av) a U g mk ⟨q.1, q.2.1⟩).2, ct_A.moved (u := U) (U := U.calling g mk a) (Vm.Alike.refl U.vm) q.2.2⟩
theorem lxL_bl {G : va_G} {cA : Nat → ClassId} {ad : Nat → Nat} {σ : St} {qo : Nat} {cJ : ClassId} {z : Int64} {av : List Value} : FrameBlind (va_Pc av (lxL G cA ad σ qo cJ z)) := fun a U g mk q => ⟨q.1, (rr_blx (av := av) a U g mk ⟨q.1, q.2.1⟩).2, ct_A.moved (u := U) (U := U.calling g mk a) (Vm.Alike.refl U.vm) q.2.2.1, q.2.2.2.1, (by exact arrOfT_moved (Vm.Alike.refl U.vm) q.2.2.2.2.1), q.2.2.2.2.2⟩
def lqV (G : va_G) (cA : Nat → ClassId) (ad : Nat → Nat) (r0 : Nat) (τ0 : St) : Array Value → State → Outcome → State → Prop := va_Qi (fun r τ => r = nI r0 ∧ τ = τ0) (rrW G cA ad) (rrA ad)
def oA (ad : Nat → Nat) (qo : Nat) : Nat → Prop := fun q => rrA ad q ∨ q = qo
def lqL (G : va_G) (cA : Nat → ClassId) (ad : Nat → Nat) (qo : Nat) (cJ : ClassId) (r0 : Nat) (τ0 : St) (w0 : Int64) : Array Value → State → Outcome → State → Prop := va_Qi (fun r (u : St × Int64) => r = nI r0 ∧ u.1 = τ0 ∧ (r0 = 0 → u.2 = w0)) (fun u t => rrW G cA ad u.1 t ∧ t.heap[qo]? = some (oC cJ u.2)) (oA ad qo)
theorem oS {ad : Nat → Nat} {qo : Nat} {H0 H : Heap} {locs : List Loc} (h : va_S (rrA ad) H0 H locs) : va_S (oA ad qo) H0 H locs := cx_wide (fun _ z => Or.inl z) h
theorem oKeep {ad : Nat → Nat} {qo : Nat} {cJ : ClassId} {z : Int64} {H0 H : Heap} {locs : List Loc} (h : H0[qo]? = some (oC cJ z)) (hq : ¬ rrA ad qo) (hS : va_S (rrA ad) H0 H locs) : H[qo]? = some (oC cJ z) := by
  rw [hS.2.1 qo (Array.getElem?_eq_some_iff.mp h).1 hq]; exact h
section
variable {p : Program} {l : Launch} {e : Env} {R : Room} {s : State} {m : MethodId} {args : Array Value} {below : List Frame} {meth : Method} {c : Code} {H : Heap} {locs : List Loc} {cells slots : Nat} {Q : State → Prop}
variable {G : va_G} {cA : Nat → ClassId} {ad : Nat → Nat} {σ : St}
/-- the answer is laid into the array -/
theorem o_st {cc : ByteArray} {pc : Nat} {ls : Array Slot} {rest : List Value} {qo : Nat} {cJ : ClassId} {z x : Int64} (hx : p.tables.exec = Jvm.exec) (hb : c.code = cc) (hT : ArrOfT s cJ .long) (ho : H[qo]? = some (oC cJ z)) (hP : va_P G vwCl (rrL cA ad σ) H) (hq : ¬ rrA ad qo) (hS : va_S (oA ad qo) s.heap H locs) (hdg : decode cc pc = .ok (.lastore, 1))
    (kk : ∀ (H1 : Heap) (locs1 : List Loc), va_P G vwCl (rrL cA ad σ) H1 → H1[qo]? = some (oC cJ x) → va_S (oA ad qo) s.heap H1 locs1 → W p l e R s m args below meth c H1 locs1 cells slots Q (F0 m (pc + 1) ls rest)) : W p l e R s m args below meth c H locs cells slots Q (F0 m pc ls (.long x :: .int 0 :: .ref qo :: rest)) := by
  refine W.last hx hb ho (hT 1 (fun _ => .long z)) (fun q => by cases q) (by show ¬ ((0 : Int32) < 0 ∨ (arrV _ _ _).slots.size ≤ _); rw [arrV_size]; decide) rfl rfl hdg fun H1 e z oq => ?_
  refine kk H1 _ (hP.kept fun k q hk => oq q.1 fun he => hq ?_) ?_ (hS.put z oq (Or.inr rfl))
  · have k80 : k < 80 := by
      have := (List.getElem?_eq_some_iff.mp hk).1
      simpa [rrL] using this
    rw [rr_look k80] at hk
    cases hk
    exact ⟨k, k80, he.symm⟩
  · rw [e]
    show some ((arrV _ _ _).setSlot _ _) = _
    rw [arrV_store]
    unfold oC
    congr 1
end
