/-! a throw: the words that it needs, the row -/
def rr_hw : List Cond := [.isRef (.static Bundle.tN "UNASSIGNED_STACK" Bundle.steD), .isRef (.static Bundle.tN "SUPPRESSED_SENTINEL" Bundle.listD), .laysStatic Bundle.tN "UNASSIGNED_STACK" Bundle.steD, .laysStatic Bundle.tN "SUPPRESSED_SENTINEL" Bundle.listD]
theorem rr_st.ref {C n d : String} {A : Nat → Prop} {s : State} {args : Array Value} (h : rr_st C n d A s s.heap) : (Cond.isRef (.static C n d)).before args s = true := by
  obtain ⟨c, k, i, f, a, cell, v, h1, h2, h3, h4, h5, h6, h7, h8, h9, h10, h11, h12⟩ := h
  have e := Term.static_eval (args := args) (first := s) (o := none) (idx := []) h2 h3 h5 h6 h7 h9
  simp only [Cond.before, Cond.holds, Cond.value, e, Option.map_some]
  cases v <;> first | rfl | cases h10
theorem rr_st.lay {C n d : String} {A : Nat → Prop} {s : State} {args : Array Value} (h : rr_st C n d A s s.heap) : (Cond.laysStatic C n d).before args s = true := by
  obtain ⟨c, k, i, f, a, cell, v, h1, h2, h3, h4, h5, h6, h7, h8, h9, h10, h11, h12⟩ := h
  exact Cond.laysStatic_of h1 h2 h3 h5 h6 h7 h8 (Array.getElem?_eq_some_iff.mp h9).1 h11
theorem cx_words {L : List Cond} {A : Nat → Prop} {s : State} {args : Array Value} (hL : ∀ w ∈ L, (w ∈ lw_tbl ∧ goodWord w = true) ∨ w ∈ rr_bad ∨ w ∈ rr_hw) (hg : ∀ w ∈ wG, w.before args s = true) (hT : rr_T A s s.heap) : ∀ w ∈ L, w.before args s = true := by
  intro w hw
  rcases hL w hw with h | h | h
  · exact hg w (List.mem_filter.mpr h)
  · exact va_Nw.use (rr_bad_tab w h) (hT.2.2.1 w h)
  · simp only [rr_hw, List.mem_cons, List.not_mem_nil, or_false] at h
    rcases h with rfl | rfl | rfl | rfl
    · exact hT.1.ref
    · exact hT.2.1.ref
    · exact hT.1.lay
    · exact hT.2.1.lay
section
variable {p : Program} {l : Launch} {e : Env} {R : Room} {s : State} {m : MethodId} {args : Array Value} {below : List Frame} {meth : Method} {c : Code} {H : Heap} {locs : List Loc} {cells slots : Nat}
variable {G : va_G} {cA : Nat → ClassId} {ad : Nat → Nat} {σ : St} {K : Nat} {Ret : Option Value → St → Prop} {mc ms : Nat} {fr : Nat → Prop}
theorem cx_throw {cc : ByteArray} {pc : Nat} {ls : Array Slot} {rest : List Value} (hx : p.tables.exec = Jvm.exec) (hb : c.code = cc) (hl9 : l.stackTraces = false) {own cls text : String} {names : List String} {ik is ic sa : Nat}
    (hown : s.vm.findClass own = some m.cls) (hcls : Bundle.fit cls = true) (hnames : ∀ n ∈ names, Bundle.fit n = true) (hk : (Cond.classLink own ik cls).before args s = true) (hins : (Cond.instantiable cls 6).before args s = true) (hini : (Cond.initialized cls).before args s = true)
    (hstr : vk_R own is text sa s) (hat : ∀ w ∈ Bundle.ownAtoms own ic cls names, w.before args s = true) (hP0 : va_P G vwCl (rrL cA ad σ) s.heap) (hK : va_K G vwCl (rrTy cA) s) (hS : va_S fr s.heap H []) (hsize : ls.size = c.maxLocals)
    (d0 : decode cc pc = .ok (.new ik, 3)) (d3 : decode cc (pc + 3) = .ok (.dup, 1)) (d4 : decode cc (pc + 4) = .ok (.ldc is, 2)) (d6 : decode cc (pc + 6) = .ok (.invokespecial ic, 3)) (d9 : decode cc (pc + 9) = .ok (.athrow, 1))
    (hEx : ∀ x ∈ c.exceptionTable.toList, False) (hlocks : meth.locks = false) (hRf : names.length + 3 < R.frames) (hRl : (rest.map fun v => v.category).sum + (13 * (names.length + 1) + 43) ≤ R.locals) (hRc : cells + 1 ≤ R.cells) (hRs : slots + 6 ≤ R.slots) (hKn : ¬ K = 0) (hE : exN K = cls) (hc : cells + 1 ≤ mc) (hs : slots + 6 ≤ ms) :
    W p l e R s m args below meth c H [] cells slots (cx_E fr below G cA ad σ K Ret args s mc ms) (F0 m pc ls rest) := by
  refine W.newc hx hb hown hk hins hini (g := F0 m pc ls rest) rfl d0 hRc hRs (fun cC kC f1 f2 f3 f4 => ?_)
  refine W.eq (g2 := F0 m (pc + 3) ls (.ref H.size :: rest)) rfl ?_
  refine lv_dup hx hb d3 rfl ?_
  refine va_ldcS hx hb hown hstr d4 ?_
  intro T hT X
  have htr : e.platform.stackTraces = false := by rw [X.admits.platform]; exact hl9
  have hce0 : T.heap[H.size]? = some (freshCell cC kC) := by rw [hT]; simp
  have hcat : (Value.ref H.size).category = 1 := rfl
  obtain ⟨U, st, hrun, hend, hW, hsm, ce, hce, hO⟩ := X.ctorThrowS hx htr (own := own) (cls := cls) (names := names) (ic := ic) hown hcls hnames hat
    (fun x hx' => nomatch hx') f1 f2 hce0 hS.1 (msg := .ref sa) rfl (g := F0 m (pc + 6) ls (.ref sa :: .ref H.size :: .ref H.size :: rest)) rfl hsize rfl rfl (rest := rest) rfl
    (by rw [hb]; exact d6) (by rw [hb]; exact d9) (fun x hx => (hEx x hx).elim) hRf (by show 2 * 0 + _ + _ ≤ _; simp only [List.map_cons, List.sum_cons, hcat]; omega) hlocks
  have hsz : s.heap.size ≤ U.heap.size := hsm.2.1
  have hfr : ∀ q : Nat, q < s.heap.size → U.heap[q]? = s.heap[q]? := by
    intro q hq
    obtain ⟨-, -, -, -, -, h6⟩ := hsm
    obtain ⟨c9, e1, e2, e3, e4⟩ := h6 q _ (Array.getElem?_eq_getElem hq)
    have hs9 : c9.slots = (s.heap[q]).slots := Array.ext_getElem? fun i => e4 i fun hm => nomatch hm
    have h9 : c9 = s.heap[q] := by
      rw [hs9] at e2
      exact e2
    have e5 : U.heap[q]? = some c9 := e1
    rw [e5, h9, Array.getElem?_eq_getElem hq]
  exact ⟨U, st, .threw H.size, hrun, hend, ⟨[], hW, hsm.mono hc hs, fun _ h => nomatch h⟩, ⟨hsz, fun q hq _ => hfr q hq⟩, Or.inr ⟨hKn, H.size, ce, rfl, hce, hO.vm, by rw [hE]; exact hO.cls, hP0.kept (fun k q hk => hfr _ (hP0 k q hk).lt), va_K.moved hW.alike hK⟩⟩
end
