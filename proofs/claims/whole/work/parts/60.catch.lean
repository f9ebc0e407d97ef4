/-! a throw is caught by the method's own table (mine): the classes that the table names may not be linked yet -/
/-- one row of the table that reaches the pc -/
theorem ct_one {Q : Handler → Pre} {E : CtlPost} {e : Env} {d : Bool} {acts : List Action} {s : State} {f : JFrame} {a : Addr} {x : ExceptionTableEntry} {t : List ExceptionTableEntry} {c : ClassId} {cell : Cell} (hx : covers x f.pc = true) (h0 : x.catchType ≠ 0)
    (hl : s.vm.ClassLinks e.platform f.method.cls x.catchType c) (hcell : s.heap[a]? = some cell) (hobj : ∀ k, cell.vm ≠ .statics k) (hk : ∃ k, s.vm.classes[cell.cls]? = some k) (hc : ∃ k, s.vm.classes[c]? = some k) :
    wp (findHandler.go f a (x :: t)) Q E e d acts s ↔ if s.vm.assignable cell.cls c = true then Q (.found x.handlerPc) d acts (s.setVm (s.vm.noted f.method.cls x.catchType (.cls c))) else wp (findHandler.go f a t) Q E e d acts (s.setVm (s.vm.noted f.method.cls x.catchType (.cls c))) := by
  have hal : s.vm.Alike (s.vm.noted f.method.cls x.catchType (.cls c)) := (Vm.Alike.refl s.vm).noted _ _ _
  obtain ⟨k1, g1⟩ := hk
  obtain ⟨k2, g2⟩ := hc
  obtain ⟨j1, i1, -⟩ := hal.2.2 _ _ g1
  obtain ⟨j2, i2, -⟩ := hal.2.2 _ _ g2
  obtain ⟨op1, op2⟩ := (resolveClass_links e.toSetting hl).op (op := VmOp.resolveClass f.method.cls x.catchType) rfl
  have hr : decide (x.startPc ≤ f.pc) && decide (f.pc < x.endPc) := hx
  have he := hal.assignable cell.cls c
  by_cases q : s.vm.assignable cell.cls c = true
  · rw [q] at he
    rw [if_pos q]
    simp [findHandler.go, hr, h0, op1, op2, hcell, hobj, i1, i2, he, VmOp.dirties, VmOp.acts]
  · rw [Bool.not_eq_true] at q
    rw [q] at he
    rw [if_neg (by rw [q]; decide)]
    simp [findHandler.go, hr, h0, op1, op2, hcell, hobj, i1, i2, he, VmOp.dirties, VmOp.acts]
/-- the road of an object of class o through a table: past the rows whose class it is not of, to the handler at h -/
def ct_road (U : State) (pl : Platform) (d : ClassId) (pc : Nat) (o : ClassId) : List ExceptionTableEntry → Nat → Prop
  | [], _ => False
  | x :: t, h => (covers x pc = true ∧ x.catchType ≠ 0) ∧ ∃ c, U.vm.ClassLinks pl d x.catchType c ∧ ((U.vm.assignable o c = true ∧ x.handlerPc = h) ∨ (U.vm.assignable o c = false ∧ ct_road U pl d pc o t h))
theorem ct_go {e : Env} {s0 : State} {f : JFrame} {a : Addr} {cell : Cell} (hobj : ∀ k, cell.vm ≠ .statics k) (hk : ∃ k, s0.vm.classes[cell.cls]? = some k) {h : Nat} :
    ∀ (xs : List ExceptionTableEntry) (S : State), ct_road s0 e.platform f.method.cls f.pc cell.cls xs h → s0.WarmedH S.vm → S.heap[a]? = some cell →
      ∃ vm', s0.WarmedH vm' ∧ ∀ (Q : Handler → Pre) (E : CtlPost) (d : Bool) (acts : List Action), wp (findHandler.go f a xs) Q E e d acts S ↔ Q (.found h) d acts (S.setVm vm') := by
  obtain ⟨k0, hk0⟩ := hk
  intro xs
  induction xs with
  | nil => intro S r; exact r.elim
  | cons x t ih =>
    intro S r hW hcell
    obtain ⟨⟨r1, r2⟩, c, hl, r3⟩ := r
    obtain ⟨k0', g0, -⟩ := hW.alike.2.2 _ _ hk0
    obtain ⟨dk, _, _, kt, hd, _, _, _, _, hkt, _, hopen⟩ := hl.here
    obtain ⟨kt', gt, -⟩ := hW.alike.2.2 _ _ hkt
    have hW' : s0.WarmedH (S.vm.noted f.method.cls x.catchType (.cls c)) := hW.noted hd hopen (State.rightAt_cls hl)
    have he := hW.alike.assignable cell.cls c
    rcases r3 with ⟨y1, y2⟩ | ⟨y1, y2⟩
    · refine ⟨_, hW', fun Q E d acts => ?_⟩
      rw [ct_one r1 r2 (hW.classLinks hl) hcell hobj ⟨k0', g0⟩ ⟨kt', gt⟩, if_pos (he.trans y1), y2]
    · obtain ⟨vm', hV, hq⟩ := ih (S.setVm (S.vm.noted f.method.cls x.catchType (.cls c))) y2 hW' hcell
      refine ⟨vm', hV, fun Q E d acts => ?_⟩
      rw [ct_one r1 r2 (hW.classLinks hl) hcell hobj ⟨k0', g0⟩ ⟨kt', gt⟩, if_neg (by rw [he, y1]; decide), hq]
      rfl
section
variable {p : Program} {l : Launch} {e : Env} {R : Room} {s : State} {m : MethodId} {args : Array Value} {below : List Frame} {meth : Method} {c : Code} {T : State} {locs : List Loc} {cells slots : Nat}
/-- into the handler -/
theorem ct_catch (X : Stand p l e R s m args below meth c T locs cells slots) {g : JFrame} (hg : g.method = m) {q : Addr} {ce : Cell} (hce : T.heap[q]? = some ce) (hcv : ce.vm = .none) (hk : ∃ k, s.vm.classes[ce.cls]? = some k) {h : Nat} (road : ct_road s e.platform m.cls g.pc ce.cls c.exceptionTable.toList h) :
    ∃ vm', Stand p l e R s m args below meth c (T.setVm vm') locs cells slots ∧ ∀ target, Steps p.tables e below ((T.setVm vm').setTop { g with pc := h, stack := [.ref q] }) target → Steps p.tables e below ((T.setTop g).pushFrame (.throwing q)) target := by
  subst hg
  obtain ⟨vm', hW, hq⟩ := ct_go (e := e) (f := g) (a := q) (fun k z => by rw [hcv] at z; cases z) hk c.exceptionTable.toList ((T.setTop g).pushFrame (.throwing q)) road (by rw [Stand.throwing_vm]; exact X.warmed) (by rw [Stand.throwing_heap]; exact hce)
  refine ⟨vm', X.noted hW, fun target hrest => ?_⟩
  have hm : ((T.setTop g).pushFrame (.throwing q)).vm.method? g.method = some meth := by rw [Stand.throwing_vm]; exact X.method'
  have hfind : ∀ (Q : Handler → Pre) (E : CtlPost) (d : Bool) (acts : List Action), wp (findHandler g q) Q E e d acts ((T.setTop g).pushFrame (.throwing q)) ↔ Q (.found h) d acts (((T.setTop g).pushFrame (.throwing q)).setVm vm') := fun Q E d acts => by rw [W.findHandler_eq hm X.code]; exact hq Q E d acts
  have A := X.here
  obtain ⟨hgo, hw⟩ := A.throwing q
  refine Steps.head hgo hw ?_
  have hstep : ∀ r : List Frame, (stepThrowing e ((T.setTop g).pushFrame (.throwing q)) q (.java g :: r)).Is ((((T.setTop g).pushFrame (.throwing q)).setVm vm').setFrames (.java { g with pc := h, stack := [.ref q] } :: r)) [] := fun r => by
    simp only [stepThrowing, searchFrame, vmDo]
    generalize hr : Sem.go _ e false [] _ = res
    obtain ⟨as, rfl, ha⟩ := Sem.eq_ok_of hr (a := Handler.found h) (s' := ((T.setTop g).pushFrame (.throwing q)).setVm vm') (acts' := []) (by simp [hfind _ _ _ _])
    exact ⟨rfl, ha⟩
  rw [stepThread_throwing (frames_entered A.top _), (hstep _).1]
  obtain ⟨g₀, hg0⟩ := Option.isSome_iff_exists.mp A.top
  obtain ⟨r, hr⟩ := State.topJava?_eq_some.mp hg0
  have hr' : (T.setVm vm').frames = .java g₀ :: r := hr
  rw [State.setTop_of_frames _ hr'] at hrest
  have e1 : (((T.setTop g).pushFrame (.throwing q)).setVm vm').setFrames (.java { g with pc := h, stack := [.ref q] } :: T.frames.tail) = (T.setVm vm').setFrames (.java { g with pc := h, stack := [.ref q] } :: r) := by
    rw [hr, List.tail_cons, State.setTop_of_frames _ hr, State.pushFrame, State.setFrames_setFrames]
    exact State.setFrames_setFrames (T.setVm vm') _ _
  rw [e1]
  exact hrest
end
/-- which of the five thrown classes is which -/
def ct_A (U : State) : Prop := ∀ i, 1 ≤ i → i ≤ 5 → ∀ j, 1 ≤ j → j ≤ 5 → ∃ c d, U.vm.findClass (exN i) = some c ∧ U.vm.findClass (exN j) = some d ∧ U.vm.assignable c d = decide (i = j) ∧ ∃ k, U.vm.classes[c]? = some k
theorem ct_A.moved {u U : State} (hvm : u.vm.Alike U.vm) (h : ct_A u) : ct_A U := fun i a1 a2 j b1 b2 => by
  obtain ⟨c, d, h1, h2, h3, k, h4⟩ := h i a1 a2 j b1 b2
  obtain ⟨k', g, -⟩ := hvm.2.2 _ _ h4
  exact ⟨c, d, by rw [hvm.findClass]; exact h1, by rw [hvm.findClass]; exact h2, by rw [hvm.assignable]; exact h3, k', g⟩
/-- a row whose class is another: passed -/
theorem ct_pass {U : State} {args : Array Value} {pl : Platform} (hpl : pl.magicAccessors = ({} : Platform).magicAccessors) {own : String} {d o : ClassId} {pc h K j : Nat} {x : ExceptionTableEntry} {t : List ExceptionTableEntry} (hA : ct_A U) (hown : U.vm.findClass own = some d) (hx : covers x pc = true) (h0 : x.catchType ≠ 0) (hlink : (Cond.classLink own x.catchType (exN j)).before args U = true) (ho : U.vm.findClass (exN K) = some o)
    (hK : 1 ≤ K ∧ K ≤ 5) (hj : 1 ≤ j ∧ j ≤ 5) (hne : ¬ K = j) (r : ct_road U pl d pc o t h) : ct_road U pl d pc o (x :: t) h := by
  obtain ⟨c, hc, hl⟩ := Cond.classLink_spec hown hlink pl hpl
  obtain ⟨c1, d1, h1, h2, h3, -⟩ := hA K hK.1 hK.2 j hj.1 hj.2
  cases h1.symm.trans ho
  cases h2.symm.trans hc
  exact ⟨⟨hx, h0⟩, _, hl, Or.inr ⟨by rw [h3]; exact decide_eq_false hne, r⟩⟩
/-- a row whose class it is: taken -/
theorem ct_take {U : State} {args : Array Value} {pl : Platform} (hpl : pl.magicAccessors = ({} : Platform).magicAccessors) {own : String} {d o : ClassId} {pc K : Nat} {x : ExceptionTableEntry} {t : List ExceptionTableEntry} (hA : ct_A U) (hown : U.vm.findClass own = some d) (hx : covers x pc = true) (h0 : x.catchType ≠ 0) (hlink : (Cond.classLink own x.catchType (exN K)).before args U = true) (ho : U.vm.findClass (exN K) = some o)
    (hK : 1 ≤ K ∧ K ≤ 5) : ct_road U pl d pc o (x :: t) x.handlerPc := by
  obtain ⟨c, hc, hl⟩ := Cond.classLink_spec hown hlink pl hpl
  obtain ⟨c1, d1, h1, h2, h3, -⟩ := hA K hK.1 hK.2 K hK.1 hK.2
  cases h1.symm.trans ho
  cases h2.symm.trans hc
  exact ⟨⟨hx, h0⟩, _, hl, Or.inl ⟨by rw [h3]; exact decide_eq_true rfl, rfl⟩⟩
