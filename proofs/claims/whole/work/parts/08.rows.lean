/-! rows of mine over the kit: stores into a world that is given by a state, calls, throws -/
theorem vp_lt {x : Int32} {n : Nat} (h : vp_in x n) : nx x < n := Nat.not_le.mp fun q => h (Or.inr q)
theorem c_then_0 {a b : Nat} (h : a = 0) : c_then a b = b := by simp [c_then, h]
theorem c_then_n {a b : Nat} (h : ¬ a = 0) : c_then a b = a := by simp [c_then, h]
def exN (k : Nat) : String := match k with
  | 1 => "java/lang/IllegalArgumentException"
  | 2 => "java/lang/IllegalStateException"
  | 3 => "java/lang/UnsupportedOperationException"
  | 4 => "java/util/NoSuchElementException"
  | _ => "java/lang/ArithmeticException"
section
variable {p : Program} {l : Launch} {e : Env} {R : Room} {s : State} {m : MethodId} {args : Array Value} {below : List Frame} {meth : Method} {c : Code} {H : Heap} {locs : List Loc} {cells slots : Nat} {Q : State → Prop}
variable {cc : ByteArray} {pc : Nat} {ls : Array Slot} {rest : List Value} {D : va_G} {cl : List vw_C} {A : Nat → Prop} {a : Nat} {tys : List (ClassId × FieldType)} {ws ws' : va_W} {H0 : Heap}
theorem pp_put (hexec : p.tables.exec = Jvm.exec) (hb : c.code = cc) {own ref C : String} {T : u_T} {N ci index : Nat} {Ts : List Cond} (hts : ∀ w ∈ Ts, w.before args s = true) (hin : ∀ w ∈ u_ws C T N, w ∈ Ts) (ty0 : Nat → FieldType) (hty : ∀ k, k < N → parseFieldDescriptor (T k).2.2.1 = some (ty0 k)) (hnm : ∀ a, a < N → ∀ b, b < N → a ≠ b → (T a).2.1 ≠ (T b).2.1) (hown : s.vm.findClass own = some m.cls) (hK : va_K D cl tys s) (hP : va_P D cl ws H) (hD : va_D A ws) (hS0 : va_S A H0 H locs) (q0 : Nat) {fs : List Value} (he : ws[q0]? = some (a, .inr (ci, fs))) (hc : cl[ci]? = some (C, T, N)) (k : Nat) (hk : k < N) (hlink : (Cond.fieldLink own index ref (T k).2.1 (T k).2.2.1).before args s = true) (hsame : ∀ x, s.fieldFound? (T k).1 (T k).2.1 (T k).2.2.1 = some x → s.fieldFound? ref (T k).2.1 (T k).2.2.1 = some x) (hfin : (T k).2.2.2 = false) {ty : FieldType} {v : Value} (hd : parseFieldDescriptor (T k).2.2.1 = some ty) (hn : narrow ty v = v) (hfit : fits ty v = true) (hl : k < fs.length) (hset : ws.set q0 (a, .inr (ci, fs.set k v)) = ws')
    (hdg : decode cc pc = .ok (.putfield index, 3)) (kk : ∀ (H1 : Heap) (locs1 : List Loc), va_P D cl ws' H1 → va_S A H0 H1 locs1 → W p l e R s m args below meth c H1 locs1 cells slots Q (F0 m (pc + 3) ls rest)) : W p l e R s m args below meth c H locs cells slots Q (F0 m pc ls (v :: .ref a :: rest)) :=
  va_put hexec hb hts hin ty0 hty hnm hown hK hP hD hS0 q0 he hc k hk hlink hsame hfin hd hn hfit hl hdg (fun H1 locs1 h1 _ h3 => kk H1 locs1 (hset ▸ h1) h3)
theorem pp_iast (hexec : p.tables.exec = Jvm.exec) (hb : c.code = cc) (hK : va_K D cl tys s) (hP : va_P D cl ws H) (hD : va_D A ws) (hS : va_S A H0 H locs) (q0 t0 : Nat) {cA : ClassId} {n : Nat} {f : Nat → Int32} (ha : ws[q0]? = some (a, .inl (cA, n, .inl f))) (ht : tys[t0]? = some (cA, .int)) {i : Int32} {x : Int32} (hin : vp_in i n) (hset : ws.set q0 (a, .inl (cA, n, .inl (upd f i.toNatClampNeg x))) = ws') (hdg : decode cc pc = .ok (.iastore, 1))
    (kk : ∀ (H1 : Heap) (locs1 : List Loc), va_P D cl ws' H1 → va_S A H0 H1 locs1 → W p l e R s m args below meth c H1 locs1 cells slots Q (F0 m (pc + 1) ls rest)) : W p l e R s m args below meth c H locs cells slots Q (F0 m pc ls (.int x :: .int i :: .ref a :: rest)) :=
  va_iast hexec hb hK hP hD hS q0 t0 ha ht hin hdg (fun H1 locs1 h1 _ h3 => kk H1 locs1 (hset ▸ h1) h3)
theorem pp_zast (hexec : p.tables.exec = Jvm.exec) (hb : c.code = cc) (hK : va_K D cl tys s) (hP : va_P D cl ws H) (hD : va_D A ws) (hS : va_S A H0 H locs) (q0 t0 : Nat) {cA : ClassId} {n : Nat} {f : Nat → Int32} (ha : ws[q0]? = some (a, .inl (cA, n, .inl f))) (ht : tys[t0]? = some (cA, .boolean)) {i : Int32} {x : Int32} (hx : vp_nar .boolean x = x) (hin : vp_in i n) (hset : ws.set q0 (a, .inl (cA, n, .inl (upd f i.toNatClampNeg x))) = ws') (hdg : decode cc pc = .ok (.bastore, 1))
    (kk : ∀ (H1 : Heap) (locs1 : List Loc), va_P D cl ws' H1 → va_S A H0 H1 locs1 → W p l e R s m args below meth c H1 locs1 cells slots Q (F0 m (pc + 1) ls rest)) : W p l e R s m args below meth c H locs cells slots Q (F0 m pc ls (.int x :: .int i :: .ref a :: rest)) :=
  va_zast hexec hb hK hP hD hS q0 t0 ha ht hin hdg (fun H1 locs1 h1 _ h3 => kk H1 locs1 (hset ▸ (by rw [hx] at h1; exact h1)) h3)
end
theorem rr_bl {G : va_G} {cA : Nat → ClassId} {ad : Nat → Nat} {σ : St} {av : List Value} : FrameBlind (va_Pc av (rrW G cA ad σ)) := fun a U g mk q => ⟨q.1, q.2.1, va_K.moved (u := U) (U := U.calling g mk a) (Vm.Alike.refl U.vm) q.2.2⟩
theorem rr_pv {s : State} {H : Heap} {G : va_G} {cA : Nat → ClassId} {ad : Nat → Nat} {σ : St} {C : String} {b : Nat} {As : List Value} (hK : va_K G vwCl (rrTy cA) s) (hP : va_P G vwCl (rrL cA ad σ) H) (hr : ∃ cell : Cell, H[b]? = some cell ∧ cell.vm.isStatics = false ∧ s.vm.findClass C = some cell.cls) : PreV s H C b (va_Pc (.ref b :: As) (rrW G cA ad σ)) As :=
  ⟨rr_bl, hr, fun U hU hW => ⟨rfl, by rw [hU]; exact hP, va_K.moved hW.alike hK⟩⟩
theorem rr_ps {s : State} {H : Heap} {G : va_G} {cA : Nat → ClassId} {ad : Nat → Nat} {σ : St} {As : List Value} (hK : va_K G vwCl (rrTy cA) s) (hP : va_P G vwCl (rrL cA ad σ) H) : PreS s H (va_Pc As (rrW G cA ad σ)) As :=
  ⟨rr_bl, fun U hU hW => ⟨rfl, by rw [hU]; exact hP, va_K.moved hW.alike hK⟩⟩
/-! loops and small numbers (mine) -/
section
variable {p : Program} {l : Launch} {e : Env} {R : Room} {s : State} {m : MethodId} {args : Array Value} {below : List Frame} {meth : Method} {c : Code} {H : Heap} {locs : List Loc} {cells slots : Nat} {Q : State → Prop}
theorem lp_ro {α : Type} {f : Nat → α → α} {t nL pc : Nat} (LV : Nat → α → List (Nat × Value)) (n k : Nat) (a : α) (hk : k + n = t)
    (step : ∀ (k : Nat) (a : α), k < t → (∀ ls : Array Slot, lv_has ls nL (LV (k + 1) (f k a)) → W p l e R s m args below meth c H locs cells slots Q (F0 m pc ls [])) → ∀ ls : Array Slot, lv_has ls nL (LV k a) → W p l e R s m args below meth c H locs cells slots Q (F0 m pc ls []))
    (exit : ∀ ls : Array Slot, lv_has ls nL (LV t (foldN f n k a)) → W p l e R s m args below meth c H locs cells slots Q (F0 m pc ls []))
    (ls : Array Slot) (hl : lv_has ls nL (LV k a)) : W p l e R s m args below meth c H locs cells slots Q (F0 m pc ls []) :=
  loopN (f := f) (t := t) (Wh := fun k a => ∀ ls : Array Slot, lv_has ls nL (LV k a) → W p l e R s m args below meth c H locs cells slots Q (F0 m pc ls [])) (fun k a hk ih => step k a hk ih) n k a hk exit ls hl
theorem lp_ri {α : Type} {f : Nat → α → α} {t nL pc : Nat} (Iv : Nat → α → Prop) (LV : Nat → α → List (Nat × Value)) (n k : Nat) (a : α) (hk : k + n = t)
    (step : ∀ (k : Nat) (a : α), k < t → Iv k a → (∀ ls : Array Slot, Iv (k + 1) (f k a) → lv_has ls nL (LV (k + 1) (f k a)) → W p l e R s m args below meth c H locs cells slots Q (F0 m pc ls [])) → ∀ ls : Array Slot, lv_has ls nL (LV k a) → W p l e R s m args below meth c H locs cells slots Q (F0 m pc ls []))
    (exit : Iv t (foldN f n k a) → ∀ ls : Array Slot, lv_has ls nL (LV t (foldN f n k a)) → W p l e R s m args below meth c H locs cells slots Q (F0 m pc ls []))
    (hI : Iv k a) (ls : Array Slot) (hl : lv_has ls nL (LV k a)) : W p l e R s m args below meth c H locs cells slots Q (F0 m pc ls []) :=
  loopN (f := f) (t := t) (Wh := fun k a => ∀ ls : Array Slot, Iv k a → lv_has ls nL (LV k a) → W p l e R s m args below meth c H locs cells slots Q (F0 m pc ls [])) (fun k a hk ih ls hI hl => step k a hk hI ih ls hl) n k a hk (fun ls hI hl => exit hI ls hl) ls hI hl
theorem lp_rw {G : va_G} {cA : Nat → ClassId} {ad : Nat → Nat} {A : Nat → Prop} {H0 : Heap} {f : Nat → St → St} {t nL pc : Nat} (Iv : Nat → St → Prop) (LV : Nat → List (Nat × Value)) (n k : Nat) (σ : St) (hk : k + n = t)
    (step : ∀ (k : Nat) (σ : St) (H : Heap) (locs : List Loc), k < t → Iv k σ → va_P G vwCl (rrL cA ad σ) H → va_S A H0 H locs → (∀ (H : Heap) (locs : List Loc) (ls : Array Slot), Iv (k + 1) (f k σ) → va_P G vwCl (rrL cA ad (f k σ)) H → va_S A H0 H locs → lv_has ls nL (LV (k + 1)) → W p l e R s m args below meth c H locs cells slots Q (F0 m pc ls [])) → ∀ ls : Array Slot, lv_has ls nL (LV k) → W p l e R s m args below meth c H locs cells slots Q (F0 m pc ls []))
    (exit : ∀ (H : Heap) (locs : List Loc), Iv t (foldN f n k σ) → va_P G vwCl (rrL cA ad (foldN f n k σ)) H → va_S A H0 H locs → ∀ ls : Array Slot, lv_has ls nL (LV t) → W p l e R s m args below meth c H locs cells slots Q (F0 m pc ls []))
    (hI : Iv k σ) (hP : va_P G vwCl (rrL cA ad σ) H) (hS : va_S A H0 H locs) (ls : Array Slot) (hl : lv_has ls nL (LV k)) : W p l e R s m args below meth c H locs cells slots Q (F0 m pc ls []) :=
  loopN (f := f) (t := t) (Wh := fun k σ => ∀ (H : Heap) (locs : List Loc) (ls : Array Slot), Iv k σ → va_P G vwCl (rrL cA ad σ) H → va_S A H0 H locs → lv_has ls nL (LV k) → W p l e R s m args below meth c H locs cells slots Q (F0 m pc ls []))
    (fun k σ hk ih H locs ls hI hP hS hl => step k σ H locs hk hI hP hS ih ls hl) n k σ hk (fun H locs ls hI hP hS hl => exit H locs hI hP hS ls hl) H locs ls hI hP hS hl
end
theorem nI_nx {x : Int32} (h : ¬ x < 0) : nI (nx x) = x := by
  obtain ⟨j, hj, rfl⟩ := nI_of h
  show nI (nI j).toNatClampNeg = nI j
  rw [nI_clamp hj]
theorem nx_lt31 (x : Int32) : nx x < 2 ^ 31 := by
  by_cases h : x < 0
  · have h1 : x.toInt < 0 := by have := Int32.lt_iff_toInt_lt.mp h; simpa using this
    have : nx x = 0 := by show x.toInt.toNat = 0; omega
    omega
  · obtain ⟨j, hj, rfl⟩ := nI_of h
    show (nI j).toNatClampNeg < 2 ^ 31
    rw [nI_clamp hj]; exact hj
theorem vp_pos {x : Int32} {n : Nat} (h : vp_in x n) : ¬ x < 0 := fun q => h (Or.inl q)
/-- a counter under a bound that isn't negative -/
theorem nx_nle {x : Int32} (h : ¬ x < 0) {k : Nat} (hk : k < nx x) : ¬ x ≤ nI k := by
  rw [← nI_nx h]
  exact nI_ge hk (nx_lt31 x)
theorem nx_le {x : Int32} (h : ¬ x < 0) : x ≤ nI (nx x) := by rw [nI_nx h]; exact Int32.le_refl x
theorem vp_mk {x : Int32} {n : Nat} {b : Int32} (hb : b.toInt + 1 = n) (h1 : ¬ x < 0) (h2 : x ≤ b) : vp_in x n := by
  rw [vp_in_iff]
  have e1 : ¬ x.toInt < 0 := fun q => h1 (Int32.lt_iff_toInt_lt.mpr (by simpa using q))
  have e2 := Int32.le_iff_toInt_le.mp h2
  omega
