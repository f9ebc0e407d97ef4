theorem mm_made {G : va_G} {cA : Nat → ClassId} {h0 sz : Nat} {H : Heap} {q7 q15 q23 q31 q39 q47 q55 q63 q71 q79 q88 q97 q104 q111 q118 q126 q134 q142 q150 q158 q166 q174 q182 q190 q198 q206 q214 q222 q230 : Nat} {fa0 fa1 fb0 fc0 fc1 fd0 fd1 : Nat → Int32} {WL : va_W} (ha0 : ∀ j, j < 16 → fa0 j = 1000) (ha1 : ∀ j, j < 16 → fa1 j = -1) (hb0 : ∀ j, j < 8 → fb0 j = 1) (hc0 : ∀ j, j < 4 → fc0 j = 1) (hc1 : ∀ j, j < 4 → fc1 j = 399) (hd0 : ∀ j, j < 12 → fd0 j = 1) (hd1 : ∀ j, j < 12 → fd1 j = 1) (hP : va_P G vwCl WL H) (hD : va_D (ncA h0 sz) WL) (hlen : WL.length = 30) (L0 : WL[0]? = some (h0, .inr (7, [.int 0, .ref q7, .ref q15, .ref q23, .ref q31, .ref q39, .ref q47, .ref q55, .ref q63, .ref q71, .ref q79, .ref q88, .ref q97, .ref q104, .ref q111, .ref q118, .ref q126, .ref q134, .int 0, .int 0, .ref q142, .ref q150, .ref q158, .int 0, .ref q166, .ref q174, .ref q182, .ref q190, .ref q198, .ref q206, .ref q214, .ref q222, .ref q230]))) (L1 : WL[1]? = some (q7, .inl (cA 0, 16, .inl fa0))) (L2 : WL[2]? = some (q15, .inl (cA 0, 16, .inl (fun _ => 0)))) (L3 : WL[3]? = some (q23, .inl (cA 0, 16, .inl (fun _ => 0)))) (L4 : WL[4]? = some (q31, .inl (cA 0, 16, .inl fa1))) (L5 : WL[5]? = some (q39, .inl (cA 0, 16, .inl (fun _ => 0)))) (L6 : WL[6]? = some (q47, .inl (cA 1, 16, .inl (fun _ => 0)))) (L7 : WL[7]? = some (q55, .inl (cA 0, 16, .inl (fun _ => 0)))) (L8 : WL[8]? = some (q63, .inl (cA 0, 16, .inl (fun _ => 0)))) (L9 : WL[9]? = some (q71, .inl (cA 0, 16, .inl (fun _ => 0)))) (L10 : WL[10]? = some (q79, .inl (cA 0, 8, .inl fb0))) (L11 : WL[11]? = some (q88, .inl (cA 1, 400, .inl (fun _ => 0)))) (L12 : WL[12]? = some (q97, .inl (cA 0, 6400, .inl (fun _ => 0)))) (L13 : WL[13]? = some (q104, .inl (cA 0, 4, .inl (fun _ => 0)))) (L14 : WL[14]? = some (q111, .inl (cA 0, 4, .inl fc0))) (L15 : WL[15]? = some (q118, .inl (cA 0, 4, .inl fc1))) (L16 : WL[16]? = some (q126, .inl (cA 0, 12, .inl fd0))) (L17 : WL[17]? = some (q134, .inl (cA 0, 12, .inl fd1))) (L18 : WL[18]? = some (q142, .inl (cA 0, 30, .inl (fun _ => 0)))) (L19 : WL[19]? = some (q150, .inl (cA 0, 30, .inl (fun _ => 0)))) (L20 : WL[20]? = some (q158, .inl (cA 0, 30, .inl (fun _ => 0)))) (L21 : WL[21]? = some (q166, .inl (cA 0, 30, .inl (fun _ => 0)))) (L22 : WL[22]? = some (q174, .inl (cA 0, 30, .inl (fun _ => 0)))) (L23 : WL[23]? = some (q182, .inl (cA 0, 30, .inl (fun _ => 0)))) (L24 : WL[24]? = some (q190, .inl (cA 0, 30, .inl (fun _ => 0)))) (L25 : WL[25]? = some (q198, .inl (cA 0, 30, .inl (fun _ => 0)))) (L26 : WL[26]? = some (q206, .inl (cA 1, 30, .inl (fun _ => 0)))) (L27 : WL[27]? = some (q214, .inl (cA 1, 30, .inl (fun _ => 0)))) (L28 : WL[28]? = some (q222, .inl (cA 0, 16, .inl (fun _ => 0)))) (L29 : WL[29]? = some (q230, .inl (cA 1, 16, .inl (fun _ => 0)))) : ∃ am : Nat → Nat, am 0 = h0 ∧ mm_inj am ∧ va_P G vwCl (mmL cA am m_0) H ∧ ∀ k, k < 30 → ncA h0 sz (am k) := by
  have ok : ∀ k, k < 30 → ∃ q, WL[k]? = some q := fun k hk => ⟨_, List.getElem?_eq_getElem (by rw [hlen]; exact hk)⟩
  have key : ∃ ad : Nat → Nat, ∀ k q, WL[k]? = some q → ad k = q.1 := ⟨fun k => ((WL[k]?).map Prod.fst).getD 0, fun k q h => by simp [h]⟩
  obtain ⟨ad, had⟩ := key
  have a0 : ad 0 = h0 := had 0 _ L0
  have a1 : ad 1 = q7 := had 1 _ L1
  have a2 : ad 2 = q15 := had 2 _ L2
  have a3 : ad 3 = q23 := had 3 _ L3
  have a4 : ad 4 = q31 := had 4 _ L4
  have a5 : ad 5 = q39 := had 5 _ L5
  have a6 : ad 6 = q47 := had 6 _ L6
  have a7 : ad 7 = q55 := had 7 _ L7
  have a8 : ad 8 = q63 := had 8 _ L8
  have a9 : ad 9 = q71 := had 9 _ L9
  have a10 : ad 10 = q79 := had 10 _ L10
  have a11 : ad 11 = q88 := had 11 _ L11
  have a12 : ad 12 = q97 := had 12 _ L12
  have a13 : ad 13 = q104 := had 13 _ L13
  have a14 : ad 14 = q111 := had 14 _ L14
  have a15 : ad 15 = q118 := had 15 _ L15
  have a16 : ad 16 = q126 := had 16 _ L16
  have a17 : ad 17 = q134 := had 17 _ L17
  have a18 : ad 18 = q142 := had 18 _ L18
  have a19 : ad 19 = q150 := had 19 _ L19
  have a20 : ad 20 = q158 := had 20 _ L20
  have a21 : ad 21 = q166 := had 21 _ L21
  have a22 : ad 22 = q174 := had 22 _ L22
  have a23 : ad 23 = q182 := had 23 _ L23
  have a24 : ad 24 = q190 := had 24 _ L24
  have a25 : ad 25 = q198 := had 25 _ L25
  have a26 : ad 26 = q206 := had 26 _ L26
  have a27 : ad 27 = q214 := had 27 _ L27
  have a28 : ad 28 = q222 := had 28 _ L28
  have a29 : ad 29 = q230 := had 29 _ L29
  refine ⟨ad, a0, fun i j hi hj he => ?_, fun k q hk => ?_, fun k hk => ?_⟩
  · obtain ⟨x, hx⟩ := ok i hi
    obtain ⟨y, hy⟩ := ok j hj
    exact hD.1 _ _ x y hx hy (by rw [← had i x hx, ← had j y hy, he])
  · have k30 : k < 30 := by
      have := (List.getElem?_eq_some_iff.mp hk).1
      simpa [mmL] using this
    rw [mm_look k30] at hk
    obtain rfl := Option.some.inj hk
    clear hk hD ok had hlen
    have c5 : k = 0 ∨ k = 1 ∨ k = 2 ∨ k = 3 ∨ k = 4 ∨ k = 5 ∨ k = 6 ∨ k = 7 ∨ k = 8 ∨ k = 9 ∨ k = 10 ∨ k = 11 ∨ k = 12 ∨ k = 13 ∨ k = 14 ∨ k = 15 ∨ k = 16 ∨ k = 17 ∨ k = 18 ∨ k = 19 ∨ k = 20 ∨ k = 21 ∨ k = 22 ∨ k = 23 ∨ k = 24 ∨ k = 25 ∨ k = 26 ∨ k = 27 ∨ k = 28 ∨ k = 29 := by omega
    rcases c5 with rfl | rfl | rfl | rfl | rfl | rfl | rfl | rfl | rfl | rfl | rfl | rfl | rfl | rfl | rfl | rfl | rfl | rfl | rfl | rfl | rfl | rfl | rfl | rfl | rfl | rfl | rfl | rfl | rfl | rfl
    · show va_at G vwCl (ad 0, .inr (7, f_Model ad m_0)) H
      rw [show f_Model ad m_0 = [.int 0, .ref q7, .ref q15, .ref q23, .ref q31, .ref q39, .ref q47, .ref q55, .ref q63, .ref q71, .ref q79, .ref q88, .ref q97, .ref q104, .ref q111, .ref q118, .ref q126, .ref q134, .int 0, .int 0, .ref q142, .ref q150, .ref q158, .int 0, .ref q166, .ref q174, .ref q182, .ref q190, .ref q198, .ref q206, .ref q214, .ref q222, .ref q230] by unfold f_Model; rw [a1, a2, a3, a4, a5, a6, a7, a8, a9, a10, a11, a12, a13, a14, a15, a16, a17, a18, a19, a20, a21, a22, a23, a24, a25, a26, a27, a28, a29]; rfl, a0]; exact hP _ _ L0
    · show va_at G vwCl (ad 1, .inl (cA 0, 16, .inl (m_0 1))) H
      rw [a1]; exact at_i (hP _ _ L1) (fun j hj => ha0 j hj)
    · show va_at G vwCl (ad 2, .inl (cA 0, 16, .inl (m_0 2))) H
      rw [a2]; exact at_i (hP _ _ L2) (fun j hj => rfl)
    · show va_at G vwCl (ad 3, .inl (cA 0, 16, .inl (m_0 3))) H
      rw [a3]; exact at_i (hP _ _ L3) (fun j hj => rfl)
    · show va_at G vwCl (ad 4, .inl (cA 0, 16, .inl (m_0 4))) H
      rw [a4]; exact at_i (hP _ _ L4) (fun j hj => ha1 j hj)
    · show va_at G vwCl (ad 5, .inl (cA 0, 16, .inl (m_0 5))) H
      rw [a5]; exact at_i (hP _ _ L5) (fun j hj => rfl)
    · show va_at G vwCl (ad 6, .inl (cA 1, 16, .inl (m_0 6))) H
      rw [a6]; exact at_i (hP _ _ L6) (fun j hj => rfl)
    · show va_at G vwCl (ad 7, .inl (cA 0, 16, .inl (m_0 7))) H
      rw [a7]; exact at_i (hP _ _ L7) (fun j hj => rfl)
    · show va_at G vwCl (ad 8, .inl (cA 0, 16, .inl (m_0 8))) H
      rw [a8]; exact at_i (hP _ _ L8) (fun j hj => rfl)
    · show va_at G vwCl (ad 9, .inl (cA 0, 16, .inl (m_0 9))) H
      rw [a9]; exact at_i (hP _ _ L9) (fun j hj => rfl)
    · show va_at G vwCl (ad 10, .inl (cA 0, 8, .inl (m_0 10))) H
      rw [a10]; exact at_i (hP _ _ L10) (fun j hj => hb0 j hj)
    · show va_at G vwCl (ad 11, .inl (cA 1, 400, .inl (m_0 11))) H
      rw [a11]; exact at_i (hP _ _ L11) (fun j hj => rfl)
    · show va_at G vwCl (ad 12, .inl (cA 0, 6400, .inl (m_0 12))) H
      rw [a12]; exact at_i (hP _ _ L12) (fun j hj => rfl)
    · show va_at G vwCl (ad 13, .inl (cA 0, 4, .inl (m_0 13))) H
      rw [a13]; exact at_i (hP _ _ L13) (fun j hj => rfl)
    · show va_at G vwCl (ad 14, .inl (cA 0, 4, .inl (m_0 14))) H
      rw [a14]; exact at_i (hP _ _ L14) (fun j hj => hc0 j hj)
    · show va_at G vwCl (ad 15, .inl (cA 0, 4, .inl (m_0 15))) H
      rw [a15]; exact at_i (hP _ _ L15) (fun j hj => hc1 j hj)
    · show va_at G vwCl (ad 16, .inl (cA 0, 12, .inl (m_0 16))) H
      rw [a16]; exact at_i (hP _ _ L16) (fun j hj => hd0 j hj)
    · show va_at G vwCl (ad 17, .inl (cA 0, 12, .inl (m_0 17))) H
      rw [a17]; exact at_i (hP _ _ L17) (fun j hj => hd1 j hj)
    · show va_at G vwCl (ad 18, .inl (cA 0, 30, .inl (m_0 20))) H
      rw [a18]; exact at_i (hP _ _ L18) (fun j hj => rfl)
    · show va_at G vwCl (ad 19, .inl (cA 0, 30, .inl (m_0 21))) H
      rw [a19]; exact at_i (hP _ _ L19) (fun j hj => rfl)
    · show va_at G vwCl (ad 20, .inl (cA 0, 30, .inl (m_0 22))) H
      rw [a20]; exact at_i (hP _ _ L20) (fun j hj => rfl)
    · show va_at G vwCl (ad 21, .inl (cA 0, 30, .inl (m_0 24))) H
      rw [a21]; exact at_i (hP _ _ L21) (fun j hj => rfl)
    · show va_at G vwCl (ad 22, .inl (cA 0, 30, .inl (m_0 25))) H
      rw [a22]; exact at_i (hP _ _ L22) (fun j hj => rfl)
    · show va_at G vwCl (ad 23, .inl (cA 0, 30, .inl (m_0 26))) H
      rw [a23]; exact at_i (hP _ _ L23) (fun j hj => rfl)
    · show va_at G vwCl (ad 24, .inl (cA 0, 30, .inl (m_0 27))) H
      rw [a24]; exact at_i (hP _ _ L24) (fun j hj => rfl)
    · show va_at G vwCl (ad 25, .inl (cA 0, 30, .inl (m_0 28))) H
      rw [a25]; exact at_i (hP _ _ L25) (fun j hj => rfl)
    · show va_at G vwCl (ad 26, .inl (cA 1, 30, .inl (m_0 29))) H
      rw [a26]; exact at_i (hP _ _ L26) (fun j hj => rfl)
    · show va_at G vwCl (ad 27, .inl (cA 1, 30, .inl (m_0 30))) H
      rw [a27]; exact at_i (hP _ _ L27) (fun j hj => rfl)
    · show va_at G vwCl (ad 28, .inl (cA 0, 16, .inl (m_0 31))) H
      rw [a28]; exact at_i (hP _ _ L28) (fun j hj => rfl)
    · show va_at G vwCl (ad 29, .inl (cA 1, 16, .inl (m_0 32))) H
      rw [a29]; exact at_i (hP _ _ L29) (fun j hj => rfl)
  · obtain ⟨x, hx⟩ := ok k hk
    rw [had k x hx]; exact hD.2 _ x hx
