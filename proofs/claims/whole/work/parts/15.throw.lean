/-! a throw: the words that it needs, the row -/
theorem c_then_z {b : Nat} : c_then 0 b = b := rfl
def rr_hw : List Cond := [.isRef (.static Bundle.tN "UNASSIGNED_STACK" Bundle.steD), .isRef (.static Bundle.tN "SUPPRESSED_SENTINEL" Bundle.listD), .laysStatic Bundle.tN "UNASSIGNED_STACK" Bundle.steD, .laysStatic Bundle.tN "SUPPRESSED_SENTINEL" Bundle.listD]
theorem rr_st.ref {C n d : String} {A : Nat → Prop} {s : State} {args : Array Value} (h : rr_st C n d A s s.heap) : (Cond.isRef (.static C n d)).before args s = true := by
  obtain ⟨c, k, i, f, a, cell, v, h1, h2, h3, h4, h5, h6, h7, h8, h9, h10, h11, h12⟩ := h
  have e := Term.static_eval (args := args) (first := s) (o := none) (idx := []) h2 h3 h5 h6 h7 h9
  simp only [Cond.before, Cond.holds, Cond.value, e, Option.map_some]
  cases v <;> first | rfl | cases h10
theorem rr_st.lay {C n d : String} {A : Nat → Prop} {s : State} {args : Array Value} (h : rr_st C n d A s s.heap) : (Cond.laysStatic C n d).before args s = true := by
  obtain ⟨c, k, i, f, a, cell, v, h1, h2, h3, h4, h5, h6, h7, h8, h9, h10, h11, h12⟩ := h
  exact Cond.laysStatic_of h1 h2 h3 h5 h6 h7 h8 (Array.getElem?_eq_some_iff.mp h9).1 h11
def rr_nm : List String := ["java/lang/RuntimeException", "java/lang/Exception"]
theorem rr_nm_fit : ∀ n ∈ rr_nm, Bundle.fit n = true := by decide +kernel
theorem rr_at1 : ∀ w ∈ Bundle.ownAtoms RX6 132 "java/lang/IllegalArgumentException" rr_nm, (w ∈ lw_tbl ∧ goodWord w = true) ∨ w ∈ rr_bad ∨ w ∈ rr_hw := by decide +kernel
theorem rr_at2 : ∀ w ∈ Bundle.ownAtoms RX6 76 "java/lang/IllegalStateException" rr_nm, (w ∈ lw_tbl ∧ goodWord w = true) ∨ w ∈ rr_bad ∨ w ∈ rr_hw := by decide +kernel
theorem rr_at3 : ∀ w ∈ Bundle.ownAtoms RX6 154 "java/lang/UnsupportedOperationException" rr_nm, (w ∈ lw_tbl ∧ goodWord w = true) ∨ w ∈ rr_bad ∨ w ∈ rr_hw := by decide +kernel
theorem rr_at5 : ∀ w ∈ Bundle.ownAtoms RX6 175 "java/lang/ArithmeticException" rr_nm, (w ∈ lw_tbl ∧ goodWord w = true) ∨ w ∈ rr_bad ∨ w ∈ rr_hw := by decide +kernel
/-! NoSuchElementException passes its message on by the link 13: a throw of it -/
def nse : String := "java/util/NoSuchElementException"
def nseB : ByteArray := ⟨#[0x2a, 0x2b, 0xb7, 0x00, 0x0d, 0xb1]⟩
def nseW (own : String) (ic : Nat) : List Cond := Bundle.throwableAtoms ++ Bundle.throwableSAtoms ++ Bundle.passSAtoms nse "java/lang/RuntimeException" 13 nseB ++ Bundle.chainSAtoms "java/lang/RuntimeException" ["java/lang/Exception"] ++
  [.methodLink own ic (Bundle.initS nse), .instantiable nse 6, .selects nse Bundle.tFill0 Bundle.tFill0, .selects nse Bundle.tFill Bundle.tFill, .lays nse Bundle.tN "cause" "Ljava/lang/Throwable;", .lays nse Bundle.tN "stackTrace" Bundle.steD, .lays nse Bundle.tN "suppressedExceptions" Bundle.listD, .lays nse Bundle.tN "detailMessage" "Ljava/lang/String;",
   .isRef (.static Bundle.tN "UNASSIGNED_STACK" Bundle.steD), .isRef (.static Bundle.tN "SUPPRESSED_SENTINEL" Bundle.listD), .fieldLink Bundle.tN 198 Bundle.tN "backtrace" "Ljava/lang/Object;", .lays Bundle.tN Bundle.tN "backtrace" "Ljava/lang/Object;", .lays nse Bundle.tN "backtrace" "Ljava/lang/Object;"]
theorem rr_at4 : ∀ w ∈ nseW RX3 35, (w ∈ lw_tbl ∧ goodWord w = true) ∨ w ∈ rr_bad ∨ w ∈ rr_hw := by decide +kernel
theorem nseB_0 : decode nseB 0 = .ok (.aload_n 0, 1) := by decide +kernel
theorem nseB_1 : decode nseB 1 = .ok (.aload_n 1, 1) := by decide +kernel
theorem nseB_2 : decode nseB 2 = .ok (.invokespecial 13, 3) := by decide +kernel
theorem nseB_5 : decode nseB 5 = .ok (.return_, 1) := by decide +kernel
section
variable {p : Program} {l : Launch} {e : Env} {R : Room} {s : State} {m : MethodId} {args : Array Value} {below : List Frame} {meth : Method} {c : Code} {W : State} {locs : List Loc} {cells slots : Nat}
set_option maxHeartbeats 1000000 in
theorem nse_throw (X : Stand p l e R s m args below meth c W [] cells slots) (hexec : p.tables.exec = Jvm.exec) (htr : e.platform.stackTraces = false) {own : String} {ic : Nat} (hown : s.vm.findClass own = some m.cls) (h : ∀ a ∈ nseW own ic, a.before args s = true)
    {a : Addr} {cX : ClassId} {kX : Class} (hfX : s.vm.findClass nse = some cX) (hkX : s.vm.classes[cX]? = some kX) (hcell : W.heap[a]? = some (freshCell cX kX)) (hnew : s.heap.size ≤ a) {msg : Value} (hmsg : msg.isRef = true)
    {g : JFrame} (hg : g.method = m) (hsize : g.locals.size = c.maxLocals) (hlocked : g.locked = none) (hentered : g.entered = []) {rest : List Value} (hstack : g.stack = msg :: .ref a :: .ref a :: rest)
    (hd6 : decode c.code g.pc = .ok (.invokespecial ic, 3)) (hd9 : decode c.code (g.pc + 3) = .ok (.athrow, 1)) (hout : ∀ x ∈ c.exceptionTable.toList, covers x (g.pc + 3) = false)
    (hRf : 5 < R.frames) (hRl : 2 * g.monitorRoom + ((Value.ref a :: rest).map fun v => v.category).sum + 81 ≤ R.locals) (hlocks : meth.locks = false) :
    ∃ U : State, Steps p.tables e below (W.setTop g) U ∧ U.status = .running ∧ Ended U below (.threw a) ∧ s.WarmedH U.vm ∧ s.sameButNew ({ U with vm := s.vm } : State) [] cells slots ∧ ∃ ce : Cell, U.heap[a]? = some ce ∧ ce.vm = .none ∧ s.vm.findClass nse = some ce.cls := by
  have hpl : e.platform.magicAccessors = ({} : Platform).magicAccessors := by rw [X.admits.platform]
  have q : ∀ x, x ∈ nseW own ic → x.holds args s none s [] = true := fun x hx => h x hx
  obtain ⟨T, Z0, L, -, Y⟩ := ThrowableC.of_atoms (args := args) (by rw [X.admits.platform]) (by rw [X.admits.platform]) hpl (fun x hx => h x (by simp [nseW, hx]))
  obtain ⟨Z, M, LZ, LM, hnZ⟩ := Init0T.ofS_atoms (args := args) hpl L Y (fun x hx => h x (by simp [nseW, hx]))
  obtain ⟨P2, Ps, hlen, L2, hL, hP2m, hlink2, hlink⟩ := Bundle.chainS (args := args) hpl hnZ ["java/lang/Exception"] "java/lang/RuntimeException" (by decide +kernel) (by decide +kernel) (fun x hx => h x (by simp [nseW, hx]))
  obtain ⟨P1, L1, hP1m, hP1s⟩ := PassC.ofS_atoms (args := args) (s := s) hpl (X := nse) (Y := "java/lang/RuntimeException") (index := 13) (bytes := nseB) (by decide +kernel) (by decide +kernel) nseB_0 nseB_1 nseB_2 nseB_5 (fun x hx => h x (by simp [nseW, hx]))
  have hsup1 : P1.sup = P2.m := Option.some.inj (hP1s.symm.trans hP2m)
  have hf : s.vm.findClass nse = some P1.m.cls := findClass_of_methodNamed hP1m
  cases Option.some.inj (hfX.symm.trans hf)
  obtain ⟨c1, kX', hc1, hk, hord, -, -, -⟩ := Cond.instantiable_spec (q (.instantiable nse 6) (by simp [nseW]))
  cases Option.some.inj (hc1.symm.trans hf)
  cases Option.some.inj (hkX.symm.trans hk)
  have sel : ∀ {y : MethodName} {n : MethodId}, (y.cls ≠ "java/lang/invoke/MethodHandle" ∧ y.cls ≠ "java/lang/invoke/VarHandle") → s.methodNamed? y = some n → (Cond.selects nse y y).holds args s none s [] = true → selectMethod e.platform s.vm P1.m.cls n = .method n := by
    intro y n hy hn hs
    obtain ⟨c2, r2, m2, q1, q2, q3, q4, -⟩ := Cond.selects_spec hs
    cases Option.some.inj (q1.symm.trans hf)
    cases Option.some.inj (q2.symm.trans (State.methodFound?_of_named hn hy))
    cases Option.some.inj (q3.symm.trans hn)
    rw [Launch.admits_selectMethod X.admits]; exact q4
  obtain ⟨cellS0, hcS0, hiss⟩ := Y.statics
  obtain ⟨u0, hu0⟩ := Cond.staticRefV Y.unassigned L.unassignedStatic L.statics hcS0 hiss (q (.isRef (.static Bundle.tN "UNASSIGNED_STACK" Bundle.steD)) (by simp [nseW]))
  obtain ⟨sen, hsen⟩ := Cond.staticRefV Y.sentinel L.sentinelStatic L.statics hcS0 hiss (q (.isRef (.static Bundle.tN "SUPPRESSED_SENTINEL" Bundle.listD)) (by simp [nseW]))
  obtain ⟨ci198, i198, fB, hk198, hg198, ha198, hsB, -, hnB, htB, hffB⟩ := Cond.ownField (t := .object "java/lang/Object") Y.found L.cls (by decide +kernel) (q (.fieldLink Bundle.tN 198 Bundle.tN "backtrace" "Ljava/lang/Object;") (by simp [nseW])) (q (.lays Bundle.tN Bundle.tN "backtrace" "Ljava/lang/Object;") (by simp [nseW])) e.platform hpl
  obtain ⟨cellS, hcS', heS, -, hkeep⟩ := X.same.2.2.2.2.2 T.aS cellS0 hcS0
  have hcellS : W.heap[T.aS]? = some cellS := hcS'
  have hkn : cellS.vm ≠ .unknown := by
    rw [heS]; intro hu
    rw [show cellS0.vm = .unknown from hu] at hiss
    cases hiss
  have hne : T.aS ≠ a := Nat.ne_of_lt (Nat.lt_of_lt_of_le (Array.getElem?_eq_some_iff.mp hcS0).1 hnew)
  obtain ⟨iM, hffM⟩ := Y.msg
  obtain ⟨tyC, dC, hdC, hdnC⟩ := Cond.laysAt hf hk Y.cause (q (.lays nse Bundle.tN "cause" "Ljava/lang/Throwable;") (by simp [nseW]))
  obtain ⟨tyS, dS, hdS, hdnS⟩ := Cond.laysAt hf hk Y.stack (q (.lays nse Bundle.tN "stackTrace" Bundle.steD) (by simp [nseW]))
  obtain ⟨tyP, dP, hdP, hdnP⟩ := Cond.laysAt hf hk Y.supp (q (.lays nse Bundle.tN "suppressedExceptions" Bundle.listD) (by simp [nseW]))
  obtain ⟨tyM, dM, hdM, hdnM⟩ := Cond.laysAt hf hk hffM (q (.lays nse Bundle.tN "detailMessage" "Ljava/lang/String;") (by simp [nseW]))
  obtain ⟨tyB, dB, hdB, hdnB⟩ := Cond.laysAt hf hk hffB (q (.lays nse Bundle.tN "backtrace" "Ljava/lang/Object;") (by simp [nseW]))
  have bC := Cond.laysApart hdB hdC hdnB hdnC (by rw [hnB, Y.causeName]; decide)
  have bS := Cond.laysApart hdB hdS hdnB hdnS (by rw [hnB, Y.stackName]; decide)
  have bP := Cond.laysApart hdB hdP hdnB hdnP (by rw [hnB, Y.suppName]; decide)
  have hskip : SkipFacts T e.platform s (fun u => u) u0 ((preparedCellV T.toThrowableT (freshCell P1.m.cls kX) a u0 sen).withEntry W.cur) :=
    ⟨{ ci198 := ci198, i198 := i198, fBack := fB }, ⟨hk198, hg198, ha198, hsB⟩, by
      have := fresh_default (c := P1.m.cls) tyB
      rw [htB] at this
      simpa [preparedCellV, Cell.setSlot, Cell.withEntry, Array.getElem?_setIfInBounds, bC, bS, bP, bC.symm, bS.symm, bP.symm, defaultValue] using this, fun _ _ => rfl⟩
  obtain ⟨tm, methC, cdC, kC, vm₁, hnC, -, -, -, -, -, -, -, hW₁, st1⟩ := Steps.initColdS (tb := p.tables) (e := e) (below := below) (s := s) (U := W) X.here hexec X.warmed hpl hown (t := Bundle.initS nse) rfl rfl (by decide +kernel)
    (q (.methodLink own ic (Bundle.initS nse)) (by simp [nseW])) (h (.instanceMethod (Bundle.initS nse)) (by simp [nseW, Bundle.passSAtoms])) (bytes := nseB) (maxL := 2) (h (.code (Bundle.initS nse) nseB 2 none) (by simp [nseW, Bundle.passSAtoms]))
    (f := g) hg (a := a) (msg := msg) (rest := .ref a :: rest) hstack hd6
  cases Option.some.inj (hnC.symm.trans hP1m)
  have X₁ := X.noted hW₁
  obtain ⟨vm₂, X₂, st2⟩ := X₁.ctorMessageOffV hexec (g := { g with stack := .ref a :: rest }) hg hsize T L Z LZ M LM (P1 :: P2 :: Ps)
    (fun P hP => by rcases List.mem_cons.mp hP with rfl | hP; exact L1; rcases List.mem_cons.mp hP with rfl | hP; exact L2; exact hL P hP) ⟨hsup1, hlink2, hlink⟩ (u0 := u0) (sen := sen) (self := a) hmsg (cell := freshCell P1.m.cls kX) (cellS := cellS)
    hcell (fun _ => by simp) (by simp) rfl rfl (sel (by decide) Y.fill0 (q (.selects nse Bundle.tFill0 Bundle.tFill0) (by simp [nseW]))) (sel (by decide) Y.fill (q (.selects nse Bundle.tFill Bundle.tFill) (by simp [nseW]))) hcellS hne hkn (by rw [hkeep _ (fun hm => nomatch hm)]; exact hu0) (by rw [hkeep _ (fun hm => nomatch hm)]; exact hsen)
    (Takes.of_laid hk hord tyC (by rw [Y.causeType]; rfl)) (Takes.of_laid hk hord tyS (by rw [Y.stackType]; exact fits_refV_array _ u0)) (Takes.of_laid hk hord tyP (by rw [Y.suppType]; exact fits_refV_object _ sen))
    (Takes.of_laid hk hord tyM (by rw [Y.msgType]; exact fits_refV_object _ ⟨msg, hmsg⟩)) Y.objLocals hskip htr [] hd6
    (by simp only [List.length_cons, hlen, List.length_nil]; omega) (by simp only [List.length_cons, hlen, List.length_nil]; exact hRl)
  obtain ⟨hwalk, hrun, hended, hWU, hsame⟩ := X₂.athrowLeaves hexec (g := { g with stack := .ref a :: rest, pc := g.pc + 3 }) hg hlocked hentered hout (a := a) (rest := rest) rfl hd9
  have hU := heapAt_setCell_self (s := (W.setVm vm₁).setVm vm₂) (plainBareV T.toThrowableT (freshCell P1.m.cls kX) a u0 sen msg) (Array.getElem?_eq_some_iff.mp hcell).1
  refine ⟨_, st1 _ (fun acts => ?_), hrun, hended, hWU, hsame.weaken (fun y hy hlt' => ?_) (Nat.le_refl _) (Nat.le_refl _), _, hU, rfl, hf⟩
  · rw [doInvoke_state]
    exact st2 _ hwalk
  · exfalso
    rcases List.mem_append.mp hy with h1 | h1
    · cases h1
    · have hb : y.base = a := by
        simp only [List.mem_cons, List.not_mem_nil, or_false] at h1
        rcases h1 with rfl | rfl | rfl | rfl | rfl <;> rfl
      rw [hb] at hlt'
      exact Nat.not_lt.mpr hnew hlt'
end
theorem cx_words {L : List Cond} {A : Nat → Prop} {s : State} {args : Array Value} (hL : ∀ w ∈ L, (w ∈ lw_tbl ∧ goodWord w = true) ∨ w ∈ rr_bad ∨ w ∈ rr_hw) (hg : ∀ w ∈ wG, w.before args s = true) (hT : rr_T A s s.heap) : ∀ w ∈ L, w.before args s = true := by
  intro w hw
  rcases hL w hw with h | h | h
  · exact hg w (List.mem_filter.mpr h)
  · exact va_Nw.use (rr_bad_tab w h) (hT.2.2.1 w h)
  · simp only [rr_hw, List.mem_cons, List.not_mem_nil, or_false] at h
    rcases h with rfl | rfl | rfl | rfl
    · exact hT.1.ref
    · exact hT.2.1.ref
    · exact hT.1.lay
    · exact hT.2.1.lay
section
variable {p : Program} {l : Launch} {e : Env} {R : Room} {s : State} {m : MethodId} {args : Array Value} {below : List Frame} {meth : Method} {c : Code} {H : Heap} {locs : List Loc} {cells slots : Nat}
variable {G : va_G} {cA : Nat → ClassId} {ad : Nat → Nat} {σ : St} {K : Nat} {Ret : Option Value → St → Prop} {mc ms : Nat} {fr : Nat → Prop} {T0 : State}
/-- the end of a throw: the machine behind it -/
theorem cx_thrown {U : State} {a : Nat} {ce : Cell} (st : Steps p.tables e below (T0) U) (hrun : U.status = .running) (hend : Ended U below (.threw a)) (hW : s.WarmedH U.vm) (hsm : s.sameButNew ({ U with vm := s.vm } : State) [] cells slots) (hce : U.heap[a]? = some ce) (hcv : ce.vm = .none) (hcl : s.vm.findClass (exN K) = some ce.cls) (hP0 : va_P G vwCl (rrL cA ad σ) s.heap) (hK : va_K G vwCl (rrTy cA) s) (hKn : ¬ K = 0) (hc : cells ≤ mc) (hs : slots ≤ ms) :
    ∃ t, Steps p.tables e below T0 t ∧ cx_E fr below G cA ad σ K Ret args s mc ms t := by
  have hsz : s.heap.size ≤ U.heap.size := hsm.2.1
  have hfr : ∀ q : Nat, q < s.heap.size → U.heap[q]? = s.heap[q]? := by
    intro q hq
    obtain ⟨-, -, -, -, -, h6⟩ := hsm
    obtain ⟨c9, e1, e2, e3, e4⟩ := h6 q _ (Array.getElem?_eq_getElem hq)
    have hs9 : c9.slots = (s.heap[q]).slots := Array.ext_getElem? fun i => e4 i fun hm => nomatch hm
    have h9 : c9 = s.heap[q] := by
      rw [hs9] at e2
      exact e2
    have e5 : U.heap[q]? = some c9 := e1
    rw [e5, h9, Array.getElem?_eq_getElem hq]
  exact ⟨U, st, .threw a, hrun, hend, ⟨[], hW, hsm.mono hc hs, fun _ h => nomatch h⟩, ⟨hsz, fun q hq _ => hfr q hq⟩, Or.inr ⟨hKn, a, ce, rfl, hce, hcv, hcl, hP0.kept (fun k q hk => hfr _ (hP0 k q hk).lt), va_K.moved hW.alike hK⟩⟩
theorem cx_throw {cc : ByteArray} {pc : Nat} {ls : Array Slot} {rest : List Value} (hx : p.tables.exec = Jvm.exec) (hb : c.code = cc) (hl9 : l.stackTraces = false) {own cls text : String} {names : List String} {ik is ic sa : Nat}
    (hown : s.vm.findClass own = some m.cls) (hcls : Bundle.fit cls = true) (hnames : ∀ n ∈ names, Bundle.fit n = true) (hk : (Cond.classLink own ik cls).before args s = true) (hins : (Cond.instantiable cls 6).before args s = true) (hini : (Cond.initialized cls).before args s = true)
    (hstr : vk_R own is text sa s) (hat : ∀ w ∈ Bundle.ownAtoms own ic cls names, w.before args s = true) (hP0 : va_P G vwCl (rrL cA ad σ) s.heap) (hK : va_K G vwCl (rrTy cA) s) (hS : va_S fr s.heap H []) (hsize : ls.size = c.maxLocals)
    (d0 : decode cc pc = .ok (.new ik, 3)) (d3 : decode cc (pc + 3) = .ok (.dup, 1)) (d4 : decode cc (pc + 4) = .ok (.ldc is, 2)) (d6 : decode cc (pc + 6) = .ok (.invokespecial ic, 3)) (d9 : decode cc (pc + 9) = .ok (.athrow, 1))
    (hEx : ∀ x ∈ c.exceptionTable.toList, False) (hlocks : meth.locks = false) (hRf : names.length + 3 < R.frames) (hRl : (rest.map fun v => v.category).sum + (13 * (names.length + 1) + 43) ≤ R.locals) (hRc : cells + 1 ≤ R.cells) (hRs : slots + 6 ≤ R.slots) (hKn : ¬ K = 0) (hE : exN K = cls) (hc : cells + 1 ≤ mc) (hs : slots + 6 ≤ ms) :
    W p l e R s m args below meth c H [] cells slots (cx_E fr below G cA ad σ K Ret args s mc ms) (F0 m pc ls rest) := by
  refine W.newc hx hb hown hk hins hini (g := F0 m pc ls rest) rfl d0 hRc hRs (fun cC kC f1 f2 f3 f4 => ?_)
  refine W.eq (g2 := F0 m (pc + 3) ls (.ref H.size :: rest)) rfl ?_
  refine lv_dup hx hb d3 rfl ?_
  refine va_ldcS hx hb hown hstr d4 ?_
  intro T hT X
  have htr : e.platform.stackTraces = false := by rw [X.admits.platform]; exact hl9
  have hce0 : T.heap[H.size]? = some (freshCell cC kC) := by rw [hT]; simp
  have hcat : (Value.ref H.size).category = 1 := rfl
  obtain ⟨U, st, hrun, hend, hW, hsm, ce, hce, hO⟩ := X.ctorThrowS hx htr (own := own) (cls := cls) (names := names) (ic := ic) hown hcls hnames hat
    (fun x hx' => nomatch hx') f1 f2 hce0 hS.1 (msg := .ref sa) rfl (g := F0 m (pc + 6) ls (.ref sa :: .ref H.size :: .ref H.size :: rest)) rfl hsize rfl rfl (rest := rest) rfl
    (by rw [hb]; exact d6) (by rw [hb]; exact d9) (fun x hx => (hEx x hx).elim) hRf (by show 2 * 0 + _ + _ ≤ _; simp only [List.map_cons, List.sum_cons, hcat]; omega) hlocks
  exact cx_thrown st hrun hend hW hsm hce hO.vm (by rw [hE]; exact hO.cls) hP0 hK hKn hc hs
theorem cx_throwN {cc : ByteArray} {pc : Nat} {ls : Array Slot} {rest : List Value} (hx : p.tables.exec = Jvm.exec) (hb : c.code = cc) (hl9 : l.stackTraces = false) {own text : String} {ik is ic sa : Nat}
    (hown : s.vm.findClass own = some m.cls) (hk : (Cond.classLink own ik nse).before args s = true) (hins : (Cond.instantiable nse 6).before args s = true) (hini : (Cond.initialized nse).before args s = true)
    (hstr : vk_R own is text sa s) (hat : ∀ w ∈ nseW own ic, w.before args s = true) (hP0 : va_P G vwCl (rrL cA ad σ) s.heap) (hK : va_K G vwCl (rrTy cA) s) (hS : va_S fr s.heap H []) (hsize : ls.size = c.maxLocals)
    (d0 : decode cc pc = .ok (.new ik, 3)) (d3 : decode cc (pc + 3) = .ok (.dup, 1)) (d4 : decode cc (pc + 4) = .ok (.ldc is, 2)) (d6 : decode cc (pc + 6) = .ok (.invokespecial ic, 3)) (d9 : decode cc (pc + 9) = .ok (.athrow, 1))
    (hEx : ∀ x ∈ c.exceptionTable.toList, False) (hlocks : meth.locks = false) (hRf : 5 < R.frames) (hRl : (rest.map fun v => v.category).sum + 82 ≤ R.locals) (hRc : cells + 1 ≤ R.cells) (hRs : slots + 6 ≤ R.slots) (hKn : ¬ K = 0) (hE : exN K = nse) (hc : cells + 1 ≤ mc) (hs : slots + 6 ≤ ms) :
    W p l e R s m args below meth c H [] cells slots (cx_E fr below G cA ad σ K Ret args s mc ms) (F0 m pc ls rest) := by
  refine W.newc hx hb hown hk hins hini (g := F0 m pc ls rest) rfl d0 hRc hRs (fun cC kC f1 f2 f3 f4 => ?_)
  refine W.eq (g2 := F0 m (pc + 3) ls (.ref H.size :: rest)) rfl ?_
  refine lv_dup hx hb d3 rfl ?_
  refine va_ldcS hx hb hown hstr d4 ?_
  intro T hT X
  have htr : e.platform.stackTraces = false := by rw [X.admits.platform]; exact hl9
  have hce0 : T.heap[H.size]? = some (freshCell cC kC) := by rw [hT]; simp
  have hcat : (Value.ref H.size).category = 1 := rfl
  obtain ⟨U, st, hrun, hend, hW, hsm, ce, hce, hcv, hcl⟩ := nse_throw X hx htr (own := own) (ic := ic) hown hat f1 f2 hce0 hS.1 (msg := .ref sa) rfl (g := F0 m (pc + 6) ls (.ref sa :: .ref H.size :: .ref H.size :: rest)) rfl hsize rfl rfl (rest := rest) rfl
    (by rw [hb]; exact d6) (by rw [hb]; exact d9) (fun x hx => (hEx x hx).elim) hRf (by show 2 * 0 + _ + _ ≤ _; simp only [List.map_cons, List.sum_cons, hcat]; omega) hlocks
  exact cx_thrown st hrun hend hW hsm hce hcv (by rw [hE]; exact hcl) hP0 hK hKn hc hs
end
