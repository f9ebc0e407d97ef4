def rr_strs : List (String × Nat × String) := [("ReplenishRules", 74, "the place has more, or its face\'s most is more"), ("ReplenishRules", 89, "the place holds another good"), ("ReplenishRules", 100, "the place is for another good"), ("ReplenishRules", 117, "the face has not so many that are not held"), ("ReplenishRules", 130, "the number is below 0"), ("ReplenishRules", 133, "the place has not so many"), ("ReplenishRules", 152, "thirty waves are told"), ("ReplenishRules", 161, "the day is before today"), ("ReplenishRules", 173, "none of the days was open"), ("ReplenishRules", 194, "today is closed"), ("ReplenishRules", 230, "the move was done"), ("ReplenishRules", 236, "the reserve has not so many free pieces of the good"), ("ReplenishRules", 238, "the face holds another good"), ("ReplenishRules", 241, "a number is outside its range"), ("ReplenishRules", 246, "the place has no room for so many"), ("ReplenishRules", 252, "the place is no face"), ("ReplenishRules$Plan", 33, "there is no such move")]
/-! a method of the class that returns or throws: my own contract over the class's world, and its rows -/
def rr_bad : List Cond := [.castable "java/lang/IllegalArgumentException" "java/lang/IllegalArgumentException", .castable "java/lang/IllegalStateException" "java/lang/IllegalStateException", .castable "java/lang/UnsupportedOperationException" "java/lang/UnsupportedOperationException", .castable "java/util/NoSuchElementException" "java/util/NoSuchElementException", .castable "java/lang/ArithmeticException" "java/lang/ArithmeticException", .declares ⟨"java/lang/RuntimeException", "<init>", "(Ljava/lang/String;)V"⟩, .declares ⟨"java/lang/Exception", "<init>", "(Ljava/lang/String;)V"⟩, .declares ⟨"java/lang/Throwable", "<init>", "(Ljava/lang/String;)V"⟩]
/-- a static of a class of the JDK's: where it lies, and that it holds null or a reference -/
def rr_st (C n d : String) (A : Nat → Prop) (U : State) (H : Heap) : Prop := ∃ (c : ClassId) (k : Class) (i : Nat) (f : Field) (a : Nat) (cell : Cell) (v : Value), U.vm.findClass C = some c ∧ U.fieldFound? C n d = some (c, k, i, f) ∧ f.isStatic = true ∧ k.init = .initialized ∧ k.statics = some a ∧ H[a]? = some cell ∧ cell.vm.isStatics = true ∧ cell.cls = c ∧ cell.slots[f.slot]? = some v ∧ v.isRef = true ∧ k.staticTypes[f.slot]? = some f.type ∧ ¬ A a
theorem rr_st.moved {C n d : String} {A : Nat → Prop} {u U : State} {H : Heap} (hvm : u.vm.Alike U.vm) (h : rr_st C n d A u H) : rr_st C n d A U H := by
  obtain ⟨c, k, i, f, a, cell, v, h1, h2, h3, h4, h5, h6⟩ := h
  obtain ⟨k', hi', he⟩ := State.fieldFound?_setVm hvm h2
  exact ⟨c, k', i, f, a, cell, v, by rw [hvm.findClass]; exact h1, hi', h3, by rw [he]; exact h4, by rw [he]; exact h5, by rw [he]; exact h6⟩
theorem rr_st.kept {C n d : String} {A : Nat → Prop} {U : State} {H H1 : Heap} (h : rr_st C n d A U H) (hq : ∀ a : Nat, a < H.size → ¬ A a → H1[a]? = H[a]?) : rr_st C n d A U H1 := by
  obtain ⟨c, k, i, f, a, cell, v, h1, h2, h3, h4, h5, h6, h7, h8, h9, h10, h11, h12⟩ := h
  exact ⟨c, k, i, f, a, cell, v, h1, h2, h3, h4, h5, by rw [hq a (Array.getElem?_eq_some_iff.mp h6).1 h12]; exact h6, h7, h8, h9, h10, h11, h12⟩
def rr_T (A : Nat → Prop) (U : State) (H : Heap) : Prop := rr_st Bundle.tN "UNASSIGNED_STACK" Bundle.steD A U H ∧ rr_st Bundle.tN "SUPPRESSED_SENTINEL" Bundle.listD A U H ∧ (∀ w ∈ rr_bad, va_Nw w U) ∧ ∀ q ∈ rr_strs, ∃ sa : Nat, vk_R q.1 q.2.1 q.2.2 sa U
theorem rr_bad_warm {s U : State} (hW : s.WarmedH U.vm) {w : Cond} (hw : w ∈ rr_bad) (h : va_Nw w s) : va_Nw w U := by
  simp only [rr_bad, List.mem_cons, List.not_mem_nil, or_false] at hw
  rcases hw with rfl | rfl | rfl | rfl | rfl | rfl | rfl | rfl
  · exact va_Nw.warmC hW h
  · exact va_Nw.warmC hW h
  · exact va_Nw.warmC hW h
  · exact va_Nw.warmC hW h
  · exact va_Nw.warmC hW h
  · exact va_Nw.warmD hW h
  · exact va_Nw.warmD hW h
  · exact va_Nw.warmD hW h
theorem rr_bad_tab : ∀ w ∈ rr_bad, w.onTables = true := by decide +kernel
theorem rr_T.kept {A : Nat → Prop} {U : State} {H H1 : Heap} {locs : List Loc} (h : rr_T A U H) (hS : va_S A H H1 locs) : rr_T A U H1 := ⟨h.1.kept hS.2.1, h.2.1.kept hS.2.1, h.2.2⟩
theorem rr_T.warm {A : Nat → Prop} {s U : State} {H : Heap} (hW : s.WarmedH U.vm) (h : rr_T A s H) : rr_T A U H := ⟨h.1.moved hW.alike, h.2.1.moved hW.alike, fun w hw => rr_bad_warm hW hw (h.2.2.1 w hw), fun q hq => (h.2.2.2 q hq).imp fun _ z => z.warm hW⟩
theorem rr_T.same {A : Nat → Prop} {s U : State} {H : Heap} (hv : s.vm = U.vm) (h : rr_T A s H) : rr_T A U H := ⟨h.1.moved (by rw [← hv]; exact Vm.Alike.refl _), h.2.1.moved (by rw [← hv]; exact Vm.Alike.refl _), fun w hw => va_Nw.same (rr_bad_tab w hw) hv (h.2.2.1 w hw), fun q hq => (h.2.2.2 q hq).imp fun _ z => z.same hv.symm⟩
def rrX (G : va_G) (cA : Nat → ClassId) (ad : Nat → Nat) (σ : St) (U : State) : Prop := va_P G vwCl (rrL cA ad σ) U.heap ∧ va_K G vwCl (rrTy cA) U ∧ rr_T (rrA ad) U U.heap
theorem rr_blx {G : va_G} {cA : Nat → ClassId} {ad : Nat → Nat} {σ : St} {av : List Value} : FrameBlind (va_Pc av (rrX G cA ad σ)) := fun a U g mk q => ⟨q.1, q.2.1, va_K.moved (u := U) (U := U.calling g mk a) (Vm.Alike.refl U.vm) q.2.2.1, rr_T.same (s := U) (U := U.calling g mk a) rfl q.2.2.2⟩
/-- the class's cells are objects and arrays, no statics -/
theorem rr_nst {G : va_G} {cA : Nat → ClassId} {ad : Nat → Nat} {σ : St} {H : Heap} (hP : va_P G vwCl (rrL cA ad σ) H) {q : Nat} (hq : rrA ad q) {cell : Cell} (hc : H[q]? = some cell) : cell.vm.isStatics = false := by
  obtain ⟨k, hk, rfl⟩ := hq
  have h := hP k _ (rr_look hk)
  unfold va_at at h
  split at h
  · rename_i x _
    rw [hc] at h
    cases h
    unfold vp_cell
    split <;> rfl
  · obtain ⟨r, -, cl, h2, h3⟩ := h
    rw [hc] at h2
    cases h2
    rw [h3.2.1]
    rfl
def cx_Q (fr : Nat → Prop) (G : va_G) (cA : Nat → ClassId) (ad : Nat → Nat) (σ : St) (K : Nat) (Ret : Option Value → St → Prop) (mc ms : Nat) : Array Value → State → Outcome → State → Prop := fun _ st o t =>
  (∃ L, st.WarmedH t.vm ∧ st.sameButNew ({ t with vm := st.vm } : State) L mc ms ∧ ∀ z ∈ L, fr z.base) ∧ va_F fr st t ∧
  ((K = 0 ∧ ∃ (v : Option Value) (τ : St), o = .returned v ∧ Ret v τ ∧ rrW G cA ad τ t) ∨ (¬ K = 0 ∧ ∃ (q : Addr) (ce : Cell), o = .threw q ∧ t.heap[q]? = some ce ∧ ce.vm = .none ∧ st.vm.findClass (exN K) = some ce.cls ∧ rrW G cA ad σ t))
def cx_Met (fr : Nat → Prop) (l : Launch) (y : MethodName) (cw : Cond) (rm : Room) (av : List Value) (G : va_G) (cA : Nat → ClassId) (ad : Nat → Nat) (σ : St) (K : Nat) (Ret : Option Value → St → Prop) (mc ms : Nat) : Prop :=
  MetFree l y (headSpec (cw :: wG) rm) (va_Pc av (rrX G cA ad σ)) (fun _ _ _ _ _ => True) (cx_Q fr G cA ad σ K Ret mc ms)
def cx_E (fr : Nat → Prop) (below : List Frame) (G : va_G) (cA : Nat → ClassId) (ad : Nat → Nat) (σ : St) (K : Nat) (Ret : Option Value → St → Prop) (a : Array Value) (s : State) (mc ms : Nat) : State → Prop := fun t =>
  ∃ o, t.status = .running ∧ Ended t below o ∧ cx_Q fr G cA ad σ K Ret mc ms a s o t
def cx_R (fr : Nat → Prop) (G : va_G) (cA : Nat → ClassId) (ad : Nat → Nat) (Ret : Option Value → St → Prop) : Array Value → State → Outcome → State → Prop := fun _ st o t => (∃ (v : Option Value) (τ : St), o = .returned v ∧ Ret v τ ∧ rrW G cA ad τ t) ∧ va_F fr st t
section
variable {p : Program} {l : Launch} {e : Env} {R : Room} {s : State} {m : MethodId} {args : Array Value} {below : List Frame} {meth : Method} {c : Code} {H : Heap} {locs : List Loc} {cells slots : Nat}
variable {G : va_G} {cA : Nat → ClassId} {ad : Nat → Nat} {σ : St} {K : Nat} {Ret : Option Value → St → Prop} {mc ms : Nat} {fr : Nat → Prop}
theorem cx_ofW {y : MethodName} {cc : ByteArray} {maxL : Nat} {ret : Option FieldType} {rm : Room} {av : List Value} (hy : plainName y.cls = true)
    (body : ∀ p e s m args below meth c s₁, BodyLoose p l y (headSpec (Cond.code y cc maxL ret :: wG) rm) cc maxL ret e s m args below meth c s₁ → c.maxLocals = maxL → (∀ x ∈ c.exceptionTable.toList, False) → va_Pc av (rrX G cA ad σ) args s →
      W p l e (headSpec (Cond.code y cc maxL ret :: wG) rm).room s m args below meth c s.heap [] 0 0 (cx_E fr below G cA ad σ K Ret args s mc ms) (entryFrame m args maxL)) : cx_Met fr l y (Cond.code y cc maxL ret) rm av G cA ad σ K Ret mc ms := by
  refine MetFree.of_bodyS (code := cc) (maxLocals := maxL) (ret := ret) hy ?_ ?_
  · intro args s m h hn
    obtain ⟨meth, c, h1, h2, h3, h4, h5, h6, -, -⟩ := Cond.code_spec hn (atoms_spec (ws := Cond.code y cc maxL ret :: wG) h _ List.mem_cons_self)
    exact ⟨meth, c, h1, h2, h3, h4, h5, h6⟩
  · intro p e s m args below meth c s₁ B hml hP _
    have hh0 : s₁.heap = s.heap := by rw [B.state]; rfl
    have hne := BodyLoose.noHandlers B (atoms_spec (ws := Cond.code y cc maxL ret :: wG) B.pre _ List.mem_cons_self)
    have hEx : ∀ x ∈ c.exceptionTable.toList, False := fun x hx => by
      rw [Array.isEmpty_iff.mp hne] at hx
      cases hx
    obtain ⟨t, a1, o, b1, b2, b3⟩ := body p e s m args below meth c s₁ B hml hEx hP s₁ hh0 (Stand.of_body B)
    exact ⟨t, o, a1, b1, b2, b3⟩
theorem cx_ret {g : JFrame} (hK0 : K = 0) (k : W p l e R s m args below meth c H locs cells slots (MQ below (cx_R fr G cA ad Ret) args s mc ms fr) g) : W p l e R s m args below meth c H locs cells slots (cx_E fr below G cA ad σ K Ret args s mc ms) g := by
  intro T hT X
  obtain ⟨t, a1, o, b1, b2, ⟨b3, b4⟩, L, ⟨-, hW, hsm⟩, hL⟩ := k T hT X
  exact ⟨t, a1, o, b1, b2, ⟨L, hW, hsm, hL⟩, b4, Or.inl ⟨hK0, b3⟩⟩
/-- the frame g with q thrown over it leaves the method -/
theorem cx_out {T : State} (X : Stand p l e R s m args below meth c T locs cells slots) {g : JFrame} (hg : g.method = m) (h1 : g.locked = none) (h2 : g.entered = []) (hEx : ∀ x ∈ c.exceptionTable.toList, False) (hlocks : meth.locks = false) {q : Addr} {ce : Cell} (hce : T.heap[q]? = some ce) (hcv : ce.vm = .none) (hcl : s.vm.findClass (exN K) = some ce.cls) (hKn : ¬ K = 0) (hP : va_P G vwCl (rrL cA ad σ) T.heap) (hK : va_K G vwCl (rrTy cA) s) (hS : va_S fr s.heap T.heap locs) (hc : cells ≤ mc) (hs : slots ≤ ms) :
    ∃ t, Steps p.tables e below ((T.setTop g).pushFrame (.throwing q)) t ∧ cx_E fr below G cA ad σ K Ret args s mc ms t := by
  obtain ⟨st1, hrun, hend, hW, hsm⟩ := X.leaveThrown q (g := g) hg h1 h2 (fun x hx => (hEx x hx).elim) hlocks
  exact ⟨_, st1, .threw q, hrun, hend, ⟨locs, hW, hsm.mono hc hs, hS.2.2⟩, ⟨hS.1, hS.2.1⟩, Or.inr ⟨hKn, q, ce, rfl, hce, hcv, hcl, hP, va_K.moved hW.alike hK⟩⟩
/-- a call comes back, or throws -/
theorem cx_go {T : State} (X : Stand p l e R s m args below meth c T locs cells slots) {y : MethodName} {bytes : ByteArray} {maxL : Nat} {ret : Option FieldType} {rm : Room} {av : List Value} {K' : Nat} {Ret' : Option Value → St → Prop} {mc' ms' : Nat} (hM : cx_Met (fun _ => False) l y (Cond.code y bytes maxL ret) rm av G cA ad σ K' Ret' mc' ms') (hrc : rm.cells = mc') (hrs : rm.slots = ms') (hfr : rm.frames + 1 ≤ R.frames) (hlo : 8 + (maxL + 11) + rm.locals ≤ R.locals)
    (hws : ∀ w ∈ Cond.code y bytes maxL ret :: wG, ∀ (a' : Array Value) (U : State), s.WarmedH U.vm → w.before a' U = true) (hini : (Cond.initialized y.cls).before args s = true)
    {g : JFrame} (hg : g.method = m) (hsize : g.locals.size = c.maxLocals) {ig : Instr} (hdg : decode c.code g.pc = .ok (ig, 3)) (hW : 2 * g.monitorRoom + (g.stack.map fun v => v.category).sum ≤ 8) {mk : MethodId} (hn : T.methodNamed? y = some mk) (hcells : cells + mc' ≤ R.cells) (hslots : slots + ms' ≤ R.slots) (hp : va_Pc av (rrX G cA ad σ) av.toArray T) :
    (K' = 0 ∧ ∃ (v : Option Value) (τ : St) (T' : State), Stand p l e R s m args below meth c T' locs (cells + mc') (slots + ms') ∧ Ret' v τ ∧ va_P G vwCl (rrL cA ad τ) T'.heap ∧ T.heap.size ≤ T'.heap.size ∧ (∀ q : Nat, q < T.heap.size → T'.heap[q]? = T.heap[q]?) ∧ Steps p.tables e below (doInvoke e (T.setTop g) [] mk av.toArray).1 (T'.setTop { g with pc := g.pc + 3, stack := v.toList ++ g.stack })) ∨
    (¬ K' = 0 ∧ ∃ (q : Addr) (ce : Cell) (T' : State), Stand p l e R s m args below meth c T' locs (cells + mc') (slots + ms') ∧ T'.heap[q]? = some ce ∧ ce.vm = .none ∧ s.vm.findClass (exN K') = some ce.cls ∧ va_P G vwCl (rrL cA ad σ) T'.heap ∧ T.heap.size ≤ T'.heap.size ∧ (∀ q : Nat, q < T.heap.size → T'.heap[q]? = T.heap[q]?) ∧ Steps p.tables e below (doInvoke e (T.setTop g) [] mk av.toArray).1 ((T'.setTop g).pushFrame (.throwing q))) := by
  have hin9 : (Cond.initialized y.cls).before av.toArray T = true := word_at X.warmed (Or.inl (by first | rfl | simp [Cond.onTables, Cond.keeps, Cond.steady])) hini
  obtain ⟨methY, cY, hmY, hcY, -, hlY, -, -, -, -⟩ := Cond.code_spec hn (hws _ List.mem_cons_self av.toArray T X.warmed)
  obtain ⟨kY, hkY, -⟩ := className_of_methodNamed hn
  have hinitY : kY.init = .initialized := Cond.initialized_spec (findClass_of_methodNamed hn) hkY hin9
  have h : At T g.method c below := by rw [hg]; exact X.here
  have happ : (headSpec (Cond.code y bytes maxL ret :: wG) rm).appliesLoose y e.platform (T.calling g mk av.toArray) = true :=
    Spec.appliesLoose_calling (g := g) h hdg hn hkY hinitY
      (X.room_calling (g := g) (R' := rm) hsize hmY hcY hfr (by rw [hlY]; omega) (by rw [hrc]; exact hcells) (by rw [hrs]; exact hslots)) (atoms_intro fun w hw => hws w hw _ _ X.warmed)
  obtain ⟨mid, hmid⟩ := h.above
  have hfr9 : (T.setTop g).frames = (.java g :: mid) ++ below := by rw [State.frames_setTop' g h.top, hmid]; rfl
  obtain ⟨o, s₂, hsteps, -, hend, ⟨⟨L, hW2, hsm, hL⟩, hF, hq⟩⟩ := Steps.callFree hM p X.admits X.cas X.clock (acts := []) hfr9 happ (rr_blx _ _ g mk hp) trivial
  rw [State.frames_setTop' g h.top, X.tail] at hend
  obtain rfl : L = [] := by
    cases L with
    | nil => rfl
    | cons z _ => exact (hL z List.mem_cons_self).elim
  rcases hq with ⟨hk, v, τ, rfl, hr, hw⟩ | ⟨hk, q, ce, rfl, hce, hcv, hcl, hw⟩
  · obtain ⟨T', X', -, -, rfl⟩ := X.outOf hg hdg (mk := mk) (a := av.toArray) hend hW2 hsm
    rw [List.append_nil] at X'
    exact Or.inl ⟨hk, v, τ, T', X', hr, hw.1, hF.1, fun q hq => hF.2 q hq id, hsteps⟩
  · obtain ⟨T', X', -, -, rfl⟩ := X.outOfThrown hg (mk := mk) (a := av.toArray) hend hW2 hsm
    rw [List.append_nil] at X'
    have hh : ((T'.setTop g).pushFrame (.throwing q)).heap = T'.heap := Stand.throwing_heap T' g q
    rw [hh] at hce
    have hw1 := hw.1
    rw [hh] at hw1
    have hF1 := hF.1
    have hF2 := hF.2
    rw [hh] at hF1 hF2
    have hcl' : s.vm.findClass (exN K') = some ce.cls := by
      have : T.vm.findClass (exN K') = some ce.cls := hcl
      rwa [X.warmed.alike.findClass] at this
    exact Or.inr ⟨hk, q, ce, T', X', hce, hcv, hcl', hw1, hF1, fun q hq => hF2 q hq id, hsteps⟩
theorem cx_keep {H1 : Heap} (hS : va_S fr s.heap H locs) (h1 : H.size ≤ H1.size) (h2 : ∀ q : Nat, q < H.size → H1[q]? = H[q]?) : va_S fr s.heap H1 locs :=
  ⟨Nat.le_trans hS.1 h1, fun q hq hn => by rw [h2 q (Nat.lt_of_lt_of_le hq hS.1)]; exact hS.2.1 q hq hn, hS.2.2⟩
theorem cx_wide {A B : Nat → Prop} {H0 H1 : Heap} (h : ∀ q, A q → B q) (hS : va_S A H0 H1 locs) : va_S B H0 H1 locs :=
  ⟨hS.1, fun q hq hn => hS.2.1 q hq fun z => hn (h q z), fun z hz => h _ (hS.2.2 z hz)⟩
theorem cx_callV {cc bytes : ByteArray} {nL maxL index n pc : Nat} {own C : String} {y : MethodName} {ret : Option FieldType} {rm : Room} {K' : Nat} {Ret' : Option Value → St → Prop} {mc' ms' b : Nat} {As rest st0 : List Value} {ls : Array Slot}
    (S : CallFix p m c cc nL s args wG own) (hM : cx_Met (fun _ => False) l y (Cond.code y bytes maxL ret) rm (.ref b :: As) G cA ad σ K' Ret' mc' ms') (cw : CallW R s args own C index y bytes maxL ret (Cond.code y bytes maxL ret :: wG) rm mc' ms' n) (hK : va_K G vwCl (rrTy cA) s) (hP : va_P G vwCl (rrL cA ad σ) H) (hT : rr_T (rrA ad) s s.heap) (hfq : ∀ q, fr q → rrA ad q) (hS : va_S fr s.heap H locs)
    (hrv : ∃ cell : Cell, H[b]? = some cell ∧ cell.vm.isStatics = false ∧ s.vm.findClass C = some cell.cls) (hn : As.length = n) (hsize : ls.size = nL) (hstack : st0 = As.reverse ++ .ref b :: rest) (hW : 2 * (F0 m pc ls st0).monitorRoom + (rest.map fun v => v.category).sum ≤ 8) (hdg : decode cc pc = .ok (.invokevirtual index, 3)) (hf : cells + mc' ≤ R.cells ∧ slots + ms' ≤ R.slots)
    (hEx : ∀ x ∈ c.exceptionTable.toList, False) (hlocks : meth.locks = false) (hc : cells + mc' ≤ mc) (hs : slots + ms' ≤ ms) (hKK : ¬ K' = 0 → K = K')
    (kk : K' = 0 → ∀ (v : Option Value) (τ : St) (H1 : Heap), Ret' v τ → va_P G vwCl (rrL cA ad τ) H1 → va_S fr s.heap H1 locs → (∀ q : Nat, q < H.size → H1[q]? = H[q]?) → W p l e R s m args below meth c H1 locs (cells + mc') (slots + ms') (cx_E fr below G cA ad σ K Ret args s mc ms) (F0 m (pc + 3) ls (v.toList ++ rest))) :
    W p l e R s m args below meth c H locs cells slots (cx_E fr below G cA ad σ K Ret args s mc ms) (F0 m pc ls st0) := by
  obtain ⟨⟨hrc, hrs, hfr, hlo, hws, -, hcode, hini, hy, hlen, hl⟩, hin, hse⟩ := cw
  obtain ⟨hx, hb, hml, ho, -⟩ := S
  obtain ⟨cellB, hcB, hoB, hclB⟩ := hrv
  subst hstack
  intro T hT' X
  obtain ⟨mk, methM, hnamed, hmethM, hstM, habM⟩ := Cond.instanceMethod_spec hin
  obtain ⟨methM', cM, hmethM', -, -, -, -, -, -, hsigM⟩ := Cond.code_spec hnamed hcode
  cases hmethM.symm.trans hmethM'
  obtain ⟨c2, r2, m2, q1, q2, q3, q4, kP, hkP, hkPi⟩ := Cond.selects_spec hse
  cases hclB.symm.trans q1
  cases (State.methodFound?_of_named hnamed hy).symm.trans q2
  cases hnamed.symm.trans q3
  have hselP : selectMethod e.platform s.vm cellB.cls mk = .method mk := by rw [Launch.admits_selectMethod X.admits]; exact q4
  obtain ⟨vm₁, X₁, hstep₁⟩ := X.invokevirtual hx ho hl hnamed hmethM hstM hkP hkPi hy (a := b) (cell := cellB) (by rw [hT']; exact hcB)
    (fun z h => by rw [h] at hoB; cases hoB) hselP hmethM habM hkP hkPi (g := F0 m pc ls (As.reverse ++ .ref b :: rest)) rfl (argsL := As) (rest := rest) (hn.trans (hlen _ hsigM)) rfl (by rw [hb]; exact hdg)
  have hp : va_Pc (.ref b :: As) (rrX G cA ad σ) (Value.ref b :: As).toArray (T.setVm vm₁) := ⟨rfl, by rw [show (T.setVm vm₁).heap = H from hT']; exact hP, va_K.moved X₁.warmed.alike hK, by rw [show (T.setVm vm₁).heap = H from hT']; exact (hT.kept (cx_wide hfq hS)).warm X₁.warmed⟩
  rcases cx_go X₁ hM hrc hrs hfr hlo hws hini (g := F0 m pc ls rest) rfl (hsize.trans hml.symm) (by rw [hb]; exact hdg) hW (X₁.named hnamed) hf.1 hf.2 hp with ⟨hk, v, τ, T', X', hr, hP1, h1, h2, st⟩ | ⟨hk, q, ce, T', X', hce, hcv, hcl, hP1, h1, h2, st⟩
  · rw [show (T.setVm vm₁).heap = H from hT'] at h1 h2
    obtain ⟨t, a1, b1⟩ := kk hk v τ T'.heap hr hP1 (cx_keep hS h1 h2) h2 T' rfl X'
    exact ⟨t, hstep₁ _ fun acts => by rw [doInvoke_state]; exact st.trans a1, b1⟩
  · rw [show (T.setVm vm₁).heap = H from hT'] at h1 h2
    obtain ⟨t, a1, b1⟩ := cx_out (Ret := Ret) (mc := mc) (ms := ms) (σ := σ) (K := K) X' (g := F0 m pc ls rest) rfl rfl rfl hEx hlocks hce hcv (by rw [hKK hk]; exact hcl) (by rw [hKK hk]; exact hk) hP1 hK (cx_keep hS h1 h2) hc hs
    exact ⟨t, hstep₁ _ fun acts => by rw [doInvoke_state]; exact st.trans a1, b1⟩
theorem cx_callS {cc bytes : ByteArray} {nL maxL index n pc : Nat} {own : String} {y : MethodName} {ret : Option FieldType} {rm : Room} {K' : Nat} {Ret' : Option Value → St → Prop} {mc' ms' : Nat} {As rest st0 : List Value} {ls : Array Slot}
    (S : CallFix p m c cc nL s args wG own) (hM : cx_Met (fun _ => False) l y (Cond.code y bytes maxL ret) rm As G cA ad σ K' Ret' mc' ms') (cw : CallB R s args own index y bytes maxL ret (Cond.code y bytes maxL ret :: wG) rm mc' ms' n ∧ (Cond.static y).before args s = true) (hK : va_K G vwCl (rrTy cA) s) (hP : va_P G vwCl (rrL cA ad σ) H) (hT : rr_T (rrA ad) s s.heap) (hfq : ∀ q, fr q → rrA ad q) (hS : va_S fr s.heap H locs)
    (hn : As.length = n) (hsize : ls.size = nL) (hstack : st0 = As.reverse ++ rest) (hW : 2 * (F0 m pc ls st0).monitorRoom + (rest.map fun v => v.category).sum ≤ 8) (hdg : decode cc pc = .ok (.invokestatic index, 3)) (hf : cells + mc' ≤ R.cells ∧ slots + ms' ≤ R.slots)
    (hEx : ∀ x ∈ c.exceptionTable.toList, False) (hlocks : meth.locks = false) (hc : cells + mc' ≤ mc) (hs : slots + ms' ≤ ms) (hKK : ¬ K' = 0 → K = K')
    (kk : K' = 0 → ∀ (v : Option Value) (τ : St) (H1 : Heap), Ret' v τ → va_P G vwCl (rrL cA ad τ) H1 → va_S fr s.heap H1 locs → (∀ q : Nat, q < H.size → H1[q]? = H[q]?) → W p l e R s m args below meth c H1 locs (cells + mc') (slots + ms') (cx_E fr below G cA ad σ K Ret args s mc ms) (F0 m (pc + 3) ls (v.toList ++ rest))) :
    W p l e R s m args below meth c H locs cells slots (cx_E fr below G cA ad σ K Ret args s mc ms) (F0 m pc ls st0) := by
  obtain ⟨⟨hrc, hrs, hfr, hlo, hws, -, hcode, hini, hy, hlen, hl⟩, hstt⟩ := cw
  obtain ⟨hx, hb, hml, ho, -⟩ := S
  subst hstack
  intro T hT' X
  obtain ⟨mk, hnamed⟩ := Cond.code_named hcode
  obtain ⟨methM, cM, hmethM, -, -, -, -, -, -, hsigM⟩ := Cond.code_spec hnamed hcode
  have hstatic : methM.isStatic = true := Cond.static_spec hnamed hmethM hstt
  obtain ⟨kP, hkP, -⟩ := className_of_methodNamed hnamed
  have hinitP : kP.init = .initialized := Cond.initialized_spec (findClass_of_methodNamed hnamed) hkP hini
  obtain ⟨vm₁, X₁, hstep₁⟩ := X.invokestatic hx ho hl hnamed hmethM hstatic hkP hinitP hy (g := F0 m pc ls (As.reverse ++ rest)) rfl (argsL := As) (rest := rest) (hn.trans (hlen _ hsigM)) rfl (by rw [hb]; exact hdg)
  have hp : va_Pc As (rrX G cA ad σ) As.toArray (T.setVm vm₁) := ⟨rfl, by rw [show (T.setVm vm₁).heap = H from hT']; exact hP, va_K.moved X₁.warmed.alike hK, by rw [show (T.setVm vm₁).heap = H from hT']; exact (hT.kept (cx_wide hfq hS)).warm X₁.warmed⟩
  rcases cx_go X₁ hM hrc hrs hfr hlo hws hini (g := F0 m pc ls rest) rfl (hsize.trans hml.symm) (by rw [hb]; exact hdg) hW (X₁.named hnamed) hf.1 hf.2 hp with ⟨hk, v, τ, T', X', hr, hP1, h1, h2, st⟩ | ⟨hk, q, ce, T', X', hce, hcv, hcl, hP1, h1, h2, st⟩
  · rw [show (T.setVm vm₁).heap = H from hT'] at h1 h2
    obtain ⟨t, a1, b1⟩ := kk hk v τ T'.heap hr hP1 (cx_keep hS h1 h2) h2 T' rfl X'
    exact ⟨t, hstep₁ _ fun acts => by rw [doInvoke_state]; exact st.trans a1, b1⟩
  · rw [show (T.setVm vm₁).heap = H from hT'] at h1 h2
    obtain ⟨t, a1, b1⟩ := cx_out (Ret := Ret) (mc := mc) (ms := ms) (σ := σ) (K := K) X' (g := F0 m pc ls rest) rfl rfl rfl hEx hlocks hce hcv (by rw [hKK hk]; exact hcl) (by rw [hKK hk]; exact hk) hP1 hK (cx_keep hS h1 h2) hc hs
    exact ⟨t, hstep₁ _ fun acts => by rw [doInvoke_state]; exact st.trans a1, b1⟩
end
