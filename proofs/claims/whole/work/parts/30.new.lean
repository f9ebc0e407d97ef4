/-! new objects: rows over worlds that grow (mine) -/
def rr_nest : List Cond := [.methodLinkNest RX6 33 yX0_init "ReplenishRules", .methodLinkNest RX6 40 yX5_init "ReplenishRules", .methodLinkNest RX3 30 yX1_init "ReplenishRules", .methodLinkNest RX6 55 yX4_init "ReplenishRules"]
/-- what the makers need of the tables beside the good words -/
def rrC (U : State) : Prop := (∀ w ∈ rr_nest, va_Nw w U) ∧ va_AO RX2 U ∧ va_AO RX4 U ∧ va_AO RX1 U
theorem rrC.warm {s U : State} (hW : s.WarmedH U.vm) (h : rrC s) : rrC U := by
  refine ⟨fun w hw => ?_, h.2.1.moved hW.alike, h.2.2.1.moved hW.alike, h.2.2.2.moved hW.alike⟩
  have hz := h.1 w hw
  simp only [rr_nest, List.mem_cons, List.not_mem_nil, or_false] at hw
  rcases hw with rfl | rfl | rfl | rfl <;> exact va_Nw.warmM hW hz
theorem rr_nest_tab : ∀ w ∈ rr_nest, w.onTables = true := by decide +kernel
theorem rrC.same {s U : State} (hv : s.vm = U.vm) (h : rrC s) : rrC U :=
  ⟨fun w hw => va_Nw.same (rr_nest_tab w hw) hv (h.1 w hw), h.2.1.moved (by rw [← hv]; exact Vm.Alike.refl _), h.2.2.1.moved (by rw [← hv]; exact Vm.Alike.refl _), h.2.2.2.moved (by rw [← hv]; exact Vm.Alike.refl _)⟩
def ncP (G : va_G) (cA : Nat → ClassId) (h ci : Nat) (fs : List Value) (sz : Nat) (U : State) : Prop := U.heap.size = sz ∧ rrC U ∧ va_K G vwCl (rrTy cA) U ∧ va_P G vwCl [(h, .inr (ci, fs))] U.heap
def ncA (h sz : Nat) : Nat → Prop := fun r => r = h ∨ sz ≤ r
def ncB (G : va_G) (h sz : Nat) (u : va_E × va_W) (t : State) : Prop := va_P G vwCl ((h, u.1) :: u.2) t.heap ∧ va_D (ncA h sz) ((h, u.1) :: u.2)
theorem nc_bl {G : va_G} {cA : Nat → ClassId} {h ci sz : Nat} {fs : List Value} {av : List Value} : FrameBlind (va_Pc av (ncP G cA h ci fs sz)) := fun a U g mk q => ⟨q.1, q.2.1, rrC.same (s := U) (U := U.calling g mk a) rfl q.2.2.1, va_K.moved (u := U) (U := U.calling g mk a) (Vm.Alike.refl U.vm) q.2.2.2.1, q.2.2.2.2⟩
theorem nc_ps {s : State} {H : Heap} {G : va_G} {cA : Nat → ClassId} {h ci : Nat} {fs : List Value} {As : List Value} (hC : rrC s) (hK : va_K G vwCl (rrTy cA) s) (hP : va_P G vwCl [(h, .inr (ci, fs))] H) : PreS s H (va_Pc (.ref h :: As) (ncP G cA h ci fs H.size)) (.ref h :: As) :=
  ⟨nc_bl, fun U hU hW => ⟨rfl, by rw [hU], hC.warm hW, va_K.moved hW.alike hK, by rw [hU]; exact hP⟩⟩
theorem pn_one {A : Nat → Prop} {h : Nat} {e : va_E} (hA : A h) : va_D A [(h, e)] := by
  refine ⟨fun i j p q hi hj _ => ?_, fun k q hk => ?_⟩
  · have h1 := (List.getElem?_eq_some_iff.mp hi).1
    have h2 := (List.getElem?_eq_some_iff.mp hj).1
    simp only [List.length_cons, List.length_nil] at h1 h2
    omega
  · have h1 := (List.getElem?_eq_some_iff.mp hk).1
    simp only [List.length_cons, List.length_nil] at h1
    obtain rfl : k = 0 := by omega
    cases hk
    exact hA
theorem pn_last {ws : va_W} {x : Nat × va_E} {Y : va_W} : (ws ++ x :: Y)[ws.length]? = some x := by simp
theorem pn_lP {D : va_G} {cl : List vw_C} {X Y : va_W} {H : Heap} (h : va_P D cl (X ++ Y) H) : va_P D cl X H := fun k q hk => h k q (by rw [List.getElem?_append_left (List.getElem?_eq_some_iff.mp hk).1]; exact hk)
theorem pn_rP {D : va_G} {cl : List vw_C} {X Y : va_W} {H : Heap} (h : va_P D cl (X ++ Y) H) : va_P D cl Y H := fun k q hk => h (X.length + k) q (by rw [List.getElem?_append_right (by omega), Nat.add_sub_cancel_left]; exact hk)
theorem pn_lD {A : Nat → Prop} {X Y : va_W} (h : va_D A (X ++ Y)) : va_D A X :=
  ⟨fun i j p q hi hj he => h.1 i j p q (by rw [List.getElem?_append_left (List.getElem?_eq_some_iff.mp hi).1]; exact hi) (by rw [List.getElem?_append_left (List.getElem?_eq_some_iff.mp hj).1]; exact hj) he, fun k q hk => h.2 k q (by rw [List.getElem?_append_left (List.getElem?_eq_some_iff.mp hk).1]; exact hk)⟩
/-- a maker came back: its object and what it made lie beside the rest -/
theorem pn_join {A : Nat → Prop} {D : va_G} {cl : List vw_C} {ws Y : va_W} {q : Nat} {e0 e1 : va_E} {H H1 : Heap} (hP : va_P D cl (ws ++ [(q, e0)]) H) (hD : va_D A (ws ++ [(q, e0)])) (hk : ∀ r : Nat, r < H.size → ¬ ncA q H.size r → H1[r]? = H[r]?) (hB : va_P D cl ((q, e1) :: Y) H1 ∧ va_D (ncA q H.size) ((q, e1) :: Y)) (hA : ∀ r, H.size ≤ r → A r) : va_P D cl (ws ++ (q, e1) :: Y) H1 ∧ va_D A (ws ++ (q, e1) :: Y) := by
  have hAq : A q := hD.2 ws.length (q, e0) pn_last
  have hne : ∀ (k : Nat) (x : Nat × va_E), ws[k]? = some x → x.1 ≠ q := fun k x hx he => by
    have hl := (List.getElem?_eq_some_iff.mp hx).1
    have := hD.1 k ws.length x (q, e0) (by rw [List.getElem?_append_left hl]; exact hx) pn_last he
    omega
  have hlt : ∀ (k : Nat) (x : Nat × va_E), ws[k]? = some x → x.1 < H.size := fun k x hx => (pn_lP hP k x hx).lt
  refine ⟨((pn_lP hP).kept fun k x hx => hk x.1 (hlt k x hx) fun h => ?_).app hB.1, (pn_lD hD).app (hB.2.weaken fun k x hx h => ?_) fun i j x y hx hy he => ?_⟩
  · rcases h with h | h
    · exact hne k x hx h
    · exact absurd (hlt k x hx) (Nat.not_lt.mpr h)
  · rcases h with h | h
    · rw [h]; exact hAq
    · exact hA _ h
  · rcases hB.2.2 j y hy with h | h
    · exact hne i x hx (he.trans h)
    · have := hlt i x hx
      omega
theorem pn_as {F T0 T Z : va_W} : (F ++ (T0 ++ T)) ++ Z = F ++ (T0 ++ (T ++ Z)) := by simp only [List.append_assoc]
theorem pn_at {F T0 T Y : va_W} {x : Nat × va_E} : (F ++ (T0 ++ (T ++ x :: Y)))[F.length + (T0.length + T.length)]? = some x := by
  rw [List.getElem?_append_right (by omega), Nat.add_sub_cancel_left, List.getElem?_append_right (by omega), Nat.add_sub_cancel_left]
  exact pn_last
section
variable {p : Program} {l : Launch} {e : Env} {R : Room} {s : State} {m : MethodId} {args : Array Value} {below : List Frame} {meth : Method} {c : Code} {H : Heap} {locs : List Loc} {cells slots : Nat} {Q : State → Prop}
variable {cc : ByteArray} {pc : Nat} {ls : Array Slot} {rest : List Value} {D : va_G} {A : Nat → Prop} {cA : Nat → ClassId} {ws : va_W} {H0 : Heap}
theorem pn_newi (hexec : p.tables.exec = Jvm.exec) (hb : c.code = cc) (harr : (Cond.arrayClass .int).before args s = true) (hK : va_K D vwCl (rrTy cA) s) (hP : va_P D vwCl ws H) (hD : va_D A ws) (hS : va_S A H0 H locs) (hA : ∀ q, H0.size ≤ q → A q) {n : Int32} (N' : Nat) (hn : ¬ n < 0) (hN : n.toNatClampNeg = N') (hbytes : N' * componentBytes .int ≤ 536870912) (hcells : cells + 1 ≤ R.cells) (hslots : slots + N' ≤ R.slots) (hdg : decode cc pc = .ok (.newarray .int, 2))
    (kk : ∀ (q : Nat) (H1 : Heap), va_P D vwCl (ws ++ [(q, .inl (cA 0, N', .inl (fun _ => 0)))]) H1 → va_D A (ws ++ [(q, .inl (cA 0, N', .inl (fun _ => 0)))]) → va_S A H0 H1 locs → W p l e R s m args below meth c H1 locs (cells + 1) (slots + N') Q (F0 m (pc + 2) ls (.ref q :: rest))) : W p l e R s m args below meth c H locs cells slots Q (F0 m pc ls (.int n :: rest)) := by
  refine va_newa (atype := .int) (ty := .int) (a0 := (N', .inl fun _ => 0)) hexec hb harr rfl hK hP hD hS hA (fun _ => rfl) hn hN hbytes hcells hslots hdg (fun q cA' H1 hK' hP' hD' hS' => ?_)
  have h1 : s.vm.findClass ("[" ++ FieldType.int.toString) = some cA' := (hK'.2 5 _ rfl).2
  have h2 : s.vm.findClass ("[" ++ FieldType.int.toString) = some (cA 0) := (hK.2 0 _ rfl).2
  obtain rfl : cA' = cA 0 := Option.some.inj (h1.symm.trans h2)
  exact kk q H1 hP' hD' hS'
theorem pn_newz (hexec : p.tables.exec = Jvm.exec) (hb : c.code = cc) (harr : (Cond.arrayClass .boolean).before args s = true) (hK : va_K D vwCl (rrTy cA) s) (hP : va_P D vwCl ws H) (hD : va_D A ws) (hS : va_S A H0 H locs) (hA : ∀ q, H0.size ≤ q → A q) {n : Int32} (N' : Nat) (hn : ¬ n < 0) (hN : n.toNatClampNeg = N') (hbytes : N' * componentBytes .boolean ≤ 536870912) (hcells : cells + 1 ≤ R.cells) (hslots : slots + N' ≤ R.slots) (hdg : decode cc pc = .ok (.newarray .boolean, 2))
    (kk : ∀ (q : Nat) (H1 : Heap), va_P D vwCl (ws ++ [(q, .inl (cA 1, N', .inl (fun _ => 0)))]) H1 → va_D A (ws ++ [(q, .inl (cA 1, N', .inl (fun _ => 0)))]) → va_S A H0 H1 locs → W p l e R s m args below meth c H1 locs (cells + 1) (slots + N') Q (F0 m (pc + 2) ls (.ref q :: rest))) : W p l e R s m args below meth c H locs cells slots Q (F0 m pc ls (.int n :: rest)) := by
  refine va_newa (atype := .boolean) (ty := .boolean) (a0 := (N', .inl fun _ => 0)) hexec hb harr rfl hK hP hD hS hA (fun _ => rfl) hn hN hbytes hcells hslots hdg (fun q cA' H1 hK' hP' hD' hS' => ?_)
  have h1 : s.vm.findClass ("[" ++ FieldType.boolean.toString) = some cA' := (hK'.2 5 _ rfl).2
  have h2 : s.vm.findClass ("[" ++ FieldType.boolean.toString) = some (cA 1) := (hK.2 1 _ rfl).2
  obtain rfl : cA' = cA 1 := Option.some.inj (h1.symm.trans h2)
  exact kk q H1 hP' hD' hS'
theorem pn_newq (hexec : p.tables.exec = Jvm.exec) (hb : c.code = cc) {own C : String} {index : Nat} (t0 : Nat) {cC : ClassId} (ht0 : (rrTy cA)[t0]? = some (cC, .object C)) (ht5 : t0 < 5) (hown : s.vm.findClass own = some m.cls) (hclink : (Cond.classLink own index C).before args s = true) (hover : va_AO C s) (hK : va_K D vwCl (rrTy cA) s) (hP : va_P D vwCl ws H) (hD : va_D A ws) (hS : va_S A H0 H locs) (hA : ∀ q, H0.size ≤ q → A q)
    {n : Int32} (N' : Nat) (hn : ¬ n < 0) (hN : n.toNatClampNeg = N') (hbytes : N' * 4 ≤ 536870912) (hcells : cells + 1 ≤ R.cells) (hslots : slots + N' ≤ R.slots) (hdg : decode cc pc = .ok (.anewarray index, 3))
    (kk : ∀ (q : Nat) (H1 : Heap), va_P D vwCl (ws ++ [(q, .inl (cC, N', .inr (.inr (.inr (.inr (fun _ => none))))))]) H1 → va_D A (ws ++ [(q, .inl (cC, N', .inr (.inr (.inr (.inr (fun _ => none))))))]) → va_S A H0 H1 locs →
      W p l e R s m args below meth c H1 locs (cells + 1) (slots + N') Q (F0 m (pc + 3) ls (.ref q :: rest))) : W p l e R s m args below meth c H locs cells slots Q (F0 m pc ls (.int n :: rest)) := by
  refine va_newq hexec hb hown hclink hover hK hP hD hS hA hn hN hbytes hcells hslots hdg (fun q cA' H1 hK' hP' hD' hS' => ?_)
  obtain ⟨k1, c1, -, -, -, h1⟩ := (hK'.2 5 _ rfl).2
  obtain ⟨k2, c2, -, -, -, h2⟩ := (hK.2 t0 _ ht0).2
  obtain rfl : cA' = cC := Option.some.inj (h1.symm.trans h2)
  exact kk q H1 hP' hD' hS'
/-- a loop of a maker: cells grow -/
theorem pn_loop {nL t : Nat} (Iv : Nat → Heap → List Loc → Prop) (cf sf : Nat → Nat) (LV : Nat → List (Nat × Value))
    (step : ∀ (k : Nat) (H : Heap) (locs : List Loc), k < t → Iv k H locs → (∀ (H : Heap) (locs : List Loc) (ls : Array Slot), Iv (k + 1) H locs → lv_has ls nL (LV (k + 1)) → W p l e R s m args below meth c H locs (cf (k + 1)) (sf (k + 1)) Q (F0 m pc ls [])) → ∀ ls : Array Slot, lv_has ls nL (LV k) → W p l e R s m args below meth c H locs (cf k) (sf k) Q (F0 m pc ls []))
    (exit : ∀ (H : Heap) (locs : List Loc), Iv t H locs → ∀ ls : Array Slot, lv_has ls nL (LV t) → W p l e R s m args below meth c H locs (cf t) (sf t) Q (F0 m pc ls [])) :
    ∀ (n k : Nat), k + n = t → ∀ (H : Heap) (locs : List Loc) (ls : Array Slot), Iv k H locs → lv_has ls nL (LV k) → W p l e R s m args below meth c H locs (cf k) (sf k) Q (F0 m pc ls []) := by
  intro n
  induction n with
  | zero =>
    intro k h H locs ls hI hl
    obtain rfl : k = t := by omega
    exact exit H locs hI ls hl
  | succ n ih => exact fun k h H locs ls hI hl => step k H locs (by omega) hI (fun H locs ls hI hl => ih (k + 1) (by omega) H locs ls hI hl) ls hl
end
theorem nx_nI {k : Nat} (h : k < 2 ^ 31) : nx (nI k) = k := nI_clamp h
/-- the first k places of f are the objects of T, all alike -/
def mvI (e1 : va_E) (k : Nat) (f : Nat → Option Nat) (T : va_W) : Prop := T.length = k ∧ ∀ j, j < k → ∃ a : Nat, f j = some a ∧ T[j]? = some (a, e1)
theorem mvI_step {e1 : va_E} {k : Nat} {f : Nat → Option Nat} {T : va_W} {q : Nat} (hk : k < 2 ^ 31) (h : mvI e1 k f T) : mvI e1 (k + 1) (va_up f (nx (nI k)) (some q)) (T ++ [(q, e1)]) := by
  rw [nx_nI hk]
  refine ⟨by rw [List.length_append, h.1]; rfl, fun j hj => ?_⟩
  by_cases e : j = k
  · refine ⟨q, by unfold va_up; rw [if_pos e], ?_⟩
    rw [e, ← h.1]
    exact pn_last
  · obtain ⟨a, h1, h2⟩ := h.2 j (by omega)
    exact ⟨a, by unfold va_up; rw [if_neg e]; exact h1, by rw [List.getElem?_append_left (by rw [h.1]; omega)]; exact h2⟩
def ePl (j u : Nat) : va_E := .inr (2, [.int (nI j), .ref u, .int 1000, .int 0, .int 0, .int 0, .int (-1), .int (-1), .int 0, .int 0, .int 0, .int 0, .int 0])
def eUs (cA : Nat → ClassId) : va_E := .inl (cA 0, 400, .inl (fun _ => 0))
def plI (cA : Nat → ClassId) (k : Nat) (f : Nat → Option Nat) (T : va_W) : Prop := T.length = 2 * k ∧ ∀ j, j < k → ∃ a u : Nat, f j = some a ∧ T[2 * j]? = some (a, ePl j u) ∧ T[2 * j + 1]? = some (u, eUs cA)
theorem plI_step {cA : Nat → ClassId} {k : Nat} {f : Nat → Option Nat} {T : va_W} {q u : Nat} (hk : k < 2 ^ 31) (h : plI cA k f T) : plI cA (k + 1) (va_up f (nx (nI k)) (some q)) (T ++ [(q, ePl k u), (u, eUs cA)]) := by
  rw [nx_nI hk]
  have hl := h.1
  refine ⟨by rw [List.length_append, h.1]; simp only [List.length_cons, List.length_nil]; omega, fun j hj => ?_⟩
  by_cases e : j = k
  · refine ⟨q, u, by unfold va_up; rw [if_pos e], ?_, ?_⟩
    · rw [e, ← h.1, pn_last]
    · rw [e, List.getElem?_append_right (by omega), show 2 * k + 1 - T.length = 1 by omega]
      rfl
  · obtain ⟨a, u', h1, h2, h3⟩ := h.2 j (by omega)
    exact ⟨a, u', by unfold va_up; rw [if_neg e]; exact h1, by rw [List.getElem?_append_left (by omega)]; exact h2, by rw [List.getElem?_append_left (by omega)]; exact h3⟩
theorem pn_upd {f : Nat → Int32} {k : Nat} {v : Int32} (hk : k < 2 ^ 31) (h : ∀ j, j < k → f j = v) : ∀ j, j < k + 1 → upd f (nx (nI k)) v j = v := by
  intro j hj
  rw [nx_nI hk]
  by_cases e : j = k
  · rw [e]; exact pk_us
  · rw [pk_un e]; exact h j (by omega)
/-- the cells of a new object beside itself, its moves, places and rules -/
def mkF (cA : Nat → ClassId) (qP qR qC qU qD qCal qCl qW qWf qWp qWd qPl qM : Nat) (fM fP fR : Nat → Option Nat) (fc fu fd : Nat → Int32) : va_W :=
  [(qP, .inl (cA 2, 16, .inr (.inr (.inr (.inr fP))))), (qR, .inl (cA 3, 4, .inr (.inr (.inr (.inr fR))))), (qC, .inl (cA 0, 8, .inl fc)), (qU, .inl (cA 0, 12, .inl fu)), (qD, .inl (cA 0, 12, .inl fd)), (qCal, .inr (0, [.ref qCl, .int 0])), (qCl, .inl (cA 1, 400, .inl (fun _ => 0))), (qW, .inr (5, [.ref qWf, .ref qWp, .ref qWd, .int 0])), (qWf, .inl (cA 0, 30, .inl (fun _ => 0))), (qWp, .inl (cA 0, 30, .inl (fun _ => 0))), (qWd, .inl (cA 0, 30, .inl (fun _ => 0))), (qPl, .inr (3, [.ref qM, .int 0, .int (-1), .int (-1), .int 0])), (qM, .inl (cA 4, 30, .inr (.inr (.inr (.inr fM)))))]
