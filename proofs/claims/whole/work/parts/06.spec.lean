/-! what the class does, as functions of its state (mine) -/
abbrev St : Type := Nat → Nat → Int32
abbrev nx (x : Int32) : Nat := x.toNatClampNeg
def up (σ : St) (k j : Nat) (v : Int32) : St := fun a b => if a = k ∧ b = j then v else σ a b
theorem up_eq {σ : St} {k j : Nat} {v : Int32} : up σ k j v k j = v := by simp [up]
theorem up_row {σ : St} {k j : Nat} {v : Int32} {a : Nat} (h : a ≠ k) : up σ k j v a = σ a := by funext b; simp [up, h]
theorem up_ix {σ : St} {k j : Nat} {v : Int32} {a b : Nat} (h : b ≠ j) : up σ k j v a b = σ a b := by simp [up, h]
theorem up_upd {σ : St} {k j : Nat} {v : Int32} : up σ k j v k = upd (σ k) j v := by funext b; simp [up, upd]
def foldN {α : Type} (f : Nat → α → α) : Nat → Nat → α → α
  | 0, _, a => a
  | n + 1, k, a => foldN f n (k + 1) (f k a)
theorem foldN_0 {α : Type} (f : Nat → α → α) (k : Nat) (a : α) : foldN f 0 k a = a := rfl
theorem foldN_s {α : Type} (f : Nat → α → α) (n k : Nat) (a : α) : foldN f (n + 1) k a = foldN f n (k + 1) (f k a) := rfl
/-- a loop that counts k up to t: a step and the way out -/
theorem loopN {α : Type} {f : Nat → α → α} {Wh : Nat → α → Prop} {t : Nat} (step : ∀ (k : Nat) (a : α), k < t → Wh (k + 1) (f k a) → Wh k a) : ∀ (n k : Nat) (a : α), k + n = t → Wh t (foldN f n k a) → Wh k a := by
  intro n
  induction n with
  | zero => intro k a h hw; have e : k = t := by omega
            subst e; exact hw
  | succ n ih => intro k a h hw; exact step k a (by omega) (ih (k + 1) (f k a) (by omega) hw)
-- class: rows of the state. 0 room 1 zone 2 pieces 3 held 4 good 5 faceGood 6 least 7 most 8 planned 9 wanted 10 needTime; 20 kind 21 ahead 22 until;
-- 30 casePieces 31 ups 32 downs 33 closed 34 faces 35 pieces 36 days (waves); 40 today 41 waves.count 42 plan.count 43 trip 44 tripZone 45 tripMoves; 50 from 51 to 52 pieces 53 needTime 54 trip 55 emptiesReserve 56 isDone; 100 + i used
def c_isFace (σ : St) (i : Nat) : Int32 := if σ 5 i = -1 then 0 else 1
def c_isFaceOfAnother (σ : St) (i : Nat) (g : Int32) : Int32 := if c_isFace σ i = 0 then 0 else if σ 5 i = g then 0 else 1
def c_isReserveOf (σ : St) (i : Nat) (g : Int32) : Int32 := if c_isFace σ i = 0 then (if σ 4 i = g then 1 else 0) else 0
def c_holdsAnother (σ : St) (i : Nat) (g : Int32) : Int32 := if σ 4 i = -1 then 0 else if σ 4 i = g then 0 else 1
def c_space (σ : St) (i : Nat) : Int32 := σ 0 i - σ 2 i
def c_notHeld (σ : St) (i : Nat) : Int32 := σ 2 i - σ 3 i
def c_free (σ : St) (i : Nat) : Int32 := c_notHeld σ i - σ 8 i
def c_bring (σ : St) (i : Nat) (g n : Int32) : St := let σ1 := up σ 4 i g; up σ1 2 i (σ1 2 i + n)
def c_takeAway (σ : St) (i : Nat) (n : Int32) : St := let σ1 := up σ 2 i (σ 2 i - n); if σ1 2 i = 0 then up σ1 4 i (-1) else σ1
def c_tell (σ : St) (i : Nat) (w : Int32) : Int32 := if w = 0 then σ 2 i else if w = 1 then σ 3 i else if w = 2 then σ 4 i else if w = 3 then (if c_isFace σ i = 0 then 0 else 1) else if w = 4 then σ 6 i else σ 7 i
def c_kindOn (σ : St) (z : Nat) (d : Int32) : Int32 := if d ≤ σ 22 z then σ 20 z else 0
def c_aheadOn (σ : St) (z : Nat) (d : Int32) : Int32 := if d ≤ σ 22 z then σ 21 z else 1
def c_isOpen (σ : St) (d : Int32) : Int32 := if σ 33 (nx d) = 0 then 1 else 0
def c_month (σ : St) : Int32 := σ 40 0 / 30 - σ 40 0 / 30 / 12 * 12
def c_firstOf (σ : St) (n : Int32) : Int32 := if σ 40 0 ≤ n then 0 else σ 40 0 - n
def c_openF (σ : St) (k : Nat) (a : Int32) : Int32 := if c_isOpen σ (nI k) = 0 then a else a + 1
def c_openDays (σ : St) (n : Int32) : Int32 := foldN (c_openF σ) (nx (σ 40 0) - nx (c_firstOf σ n)) (nx (c_firstOf σ n)) 0
def c_wavesAdd (σ : St) (f n d : Int32) : St := if σ 41 0 < 30 then up (up (up (up σ 34 (nx (σ 41 0)) f) 35 (nx (σ 41 0)) n) 36 (nx (σ 41 0)) d) 41 0 (σ 41 0 + 1) else σ
def c_needF (σ : St) (f a b : Int32) (k : Nat) (s : Int64) : Int64 := if σ 34 (nx (nI k)) = f then (if σ 36 (nx (nI k)) < a then s else if b < σ 36 (nx (nI k)) then s else s + (σ 35 (nx (nI k))).toInt64) else s
def c_neededOf (σ : St) (f a b : Int32) : Int64 := foldN (c_needF σ f a b) (nx (σ 41 0)) 0 0
def c_usedAllF (σ : St) (i : Nat) (k : Nat) (s : Int64) : Int64 := s + (σ (100 + i) (nx (nI k))).toInt64
def c_usedAll (σ : St) (i : Nat) (n : Int32) : Int64 := foldN (c_usedAllF σ i) (nx (σ 40 0) - nx (c_firstOf σ n)) (nx (c_firstOf σ n)) 0
def c_usedPastF (σ : St) (i : Nat) (k : Nat) (s : Int64) : Int64 := if c_isOpen σ (nI k) = 0 then s else s + (σ (100 + i) (nx (nI k))).toInt64
def c_usedPast (σ : St) (i : Nat) : Int64 := foldN (c_usedPastF σ i) (nx (σ 40 0) - nx (c_firstOf σ 28)) (nx (c_firstOf σ 28)) 0
def c_fadeF (σ : St) (i : Nat) (k : Nat) (s : Int64) : Int64 := if c_isOpen σ (nI k) = 0 then s else (7 * s + 1000 * (σ (100 + i) (nx (nI k))).toInt64) / 8
def c_fade (σ : St) (i : Nat) : Int64 := foldN (c_fadeF σ i) (nx (σ 40 0) - nx (c_firstOf σ 28)) (nx (c_firstOf σ 28)) 0
def c_divideUp (n d : Int64) : Int64 := if 0 < lg_cmp d 0 then (n + d - 1) / d else 0
def c_forecastOf (σ : St) (i : Nat) : Int64 :=
  if c_kindOn σ (nx (σ 1 i)) (σ 40 0) = 1 then c_divideUp (c_usedPast σ i * ((c_aheadOn σ (nx (σ 1 i)) (σ 40 0)).toInt64 * (σ 31 (nx (c_month σ))).toInt64)) ((c_openDays σ 28).toInt64 * (σ 32 (nx (c_month σ))).toInt64)
  else if c_kindOn σ (nx (σ 1 i)) (σ 40 0) = 2 then c_divideUp (c_fade σ i * ((c_aheadOn σ (nx (σ 1 i)) (σ 40 0)).toInt64 * (σ 31 (nx (c_month σ))).toInt64)) (1000 * (σ 32 (nx (c_month σ))).toInt64)
  else 0
def c_maxL (x y : Int64) : Int64 := if y < x then x else y
def c_minL (x y : Int64) : Int64 := if y < x then y else x
def c_needOf (σ : St) (i : Nat) : Int64 := c_maxL (c_maxL (σ 6 i).toInt64 (c_forecastOf σ i)) (c_neededOf σ (nI i) (σ 40 0) (σ 40 0 + c_aheadOn σ (nx (σ 1 i)) (σ 40 0)))
def c_thresholdOf (σ : St) (i : Nat) : Int32 := (c_minL (c_needOf σ i) (σ 0 i).toInt64).toInt32
def c_needTimeOf (σ : St) (i : Nat) : Int32 := if lg_cmp (c_usedPast σ i) 0 = 0 then 9999 else ((σ 2 i).toInt64 * (c_openDays σ 28).toInt64 / c_usedPast σ i).toInt32
def c_inFullCases (m o s : Int32) : Int32 := if 1 < o then (if m - m / o * o = 0 then m else if s < m - (m - m / o * o) + o then m - (m - m / o * o) else m - (m - m / o * o) + o) else m
def c_maxI (x y : Int32) : Int32 := if x < y then y else x
def c_minI (x y : Int32) : Int32 := if y < x then y else x
def c_wantedBy (σ : St) (i : Nat) (th : Int32) : Int32 := if σ 2 i < th then c_inFullCases (c_maxI (σ 7 i) th - σ 2 i) (σ 30 (nx (σ 5 i))) (c_space σ i) else 0
def c_prep0 (σ : St) (i : Nat) : St := up (up σ 8 i 0) 9 i 0
def c_prep1 (σ : St) (i : Nat) : St := up (c_prep0 σ i) 9 i (c_wantedBy (c_prep0 σ i) i (c_thresholdOf (c_prep0 σ i) i))
def c_prepare (σ : St) (i : Nat) : St := if c_isFace (c_prep0 σ i) i = 0 then c_prep0 σ i else up (c_prep1 σ i) 10 i (c_needTimeOf (c_prep1 σ i) i)
def c_urgF (σ : St) (k : Nat) (r : Option Nat) : Option Nat := if σ 9 (nx (nI k)) ≤ 0 then r else match r with
  | none => some (nx (nI k))
  | some j => if σ 10 j ≤ σ 10 (nx (nI k)) then some j else some (nx (nI k))
def c_urgent (σ : St) : Option Nat := foldN (c_urgF σ) 16 0 none
def c_clear (σ : St) : St := up (up (up (up σ 42 0 0) 43 0 (-1)) 44 0 (-1)) 45 0 0
def c_joinA (σ : St) (z : Int32) : St := up (up (up σ 43 0 (σ 43 0 + 1)) 44 0 z) 45 0 0
def c_joinB (σ : St) : St := up σ 45 0 (σ 45 0 + 1)
def c_join (σ : St) (z : Int32) : St := if σ 44 0 = z then (if σ 45 0 < 3 then c_joinB σ else c_joinB (c_joinA σ z)) else c_joinB (c_joinA σ z)
def c_add (σ : St) (a b : Nat) (n : Int32) : St := if σ 42 0 < 30 then
    let σ1 := c_join σ (σ 1 a)
    let j := nx (σ1 42 0)
    let σ2 := up σ1 50 j (nI a)
    let σ3 := up σ2 51 j (nI b)
    let σ4 := up σ3 52 j n
    let σ5 := up σ4 53 j (σ4 10 b)
    let σ6 := up σ5 54 j (σ5 43 0)
    let σ7 := up σ6 55 j (if c_free σ6 a = 0 then 1 else 0)
    let σ8 := up σ7 56 j 0
    up σ8 42 0 (σ8 42 0 + 1)
  else σ
def c_planMove (σ : St) (a b : Nat) : St := let n := c_minI (c_free σ a) (σ 9 b); if n ≤ 0 then σ else if σ 42 0 < 30 then
    let σ1 := up σ 8 a (σ 8 a + n)
    let σ2 := up σ1 9 b (σ1 9 b - n)
    c_add σ2 a b n
  else σ
def c_takeF (b : Nat) (z : Int32) (k : Nat) (σ : St) : St := if (if σ 1 (nx (nI k)) = σ 1 b then (1 : Int32) else 0) = z then (if c_isReserveOf σ (nx (nI k)) (σ 5 b) = 0 then σ else c_planMove σ (nx (nI k)) b) else σ
def c_takeFrom (σ : St) (b : Nat) (z : Int32) : St := foldN (c_takeF b z) 16 0 σ
def c_serve (σ : St) (b : Nat) : St := up (c_takeFrom (c_takeFrom σ b 1) b 0) 9 b 0
def c_runF (σ : St) : St := match c_urgent σ with
  | none => σ
  | some b => c_serve σ b
def c_runS (σ : St) : St := foldN (fun _ σ => c_runF σ) 16 0 (foldN (fun k σ => c_prepare σ (nx (nI k))) 16 0 (c_clear σ))
def c_mtell (σ : St) (j : Nat) (w : Int32) : Int32 := if w = 0 then σ 50 j else if w = 1 then σ 51 j else if w = 2 then σ 52 j else if w = 3 then σ 53 j else if w = 4 then σ 54 j else if w = 5 then (if σ 55 j = 0 then 0 else 1) else (if σ 56 j = 0 then 0 else 1)
-- the face: (what is thrown, answer, state behind). 0 nothing, 1 IllegalArgument, 2 IllegalState, 3 UnsupportedOperation, 4 NoSuchElement, 5 Arithmetic
/-- the first of two refusals -/
def c_then (a b : Nat) : Nat := if a = 0 then b else a
def c_rg (x a b : Int32) : Nat := if x < a then 1 else if x ≤ b then 0 else 1
def c_placeAt (p : Int32) : Nat := c_rg p 0 15
def c_faceAt (σ : St) (p : Int32) : Nat := c_then (c_placeAt p) (if c_isFace σ (nx p) = 0 then 2 else 0)
def c_moveAt (σ : St) (i : Int32) : Nat := if i < 0 then 4 else if i < σ 42 0 then 0 else 4
def c_sp (σ : St) (i : Nat) (n : Int32) : Nat := if n ≤ c_space σ i then 0 else 3
def c_placeK (σ : St) (p r z : Int32) : Nat := c_then (c_placeAt p) (c_then (c_rg r 1 100000) (c_then (c_rg z 0 3) (if r < σ 2 (nx p) then 2 else if σ 7 (nx p) ≤ r then 0 else 2)))
def c_placeS (σ : St) (p r z : Int32) : St := up (up σ 0 (nx p) r) 1 (nx p) z
def c_faceK (σ : St) (p g a b : Int32) : Nat := c_then (c_placeAt p) (c_then (c_rg g 0 7) (c_then (c_rg b 0 (σ 0 (nx p))) (c_then (c_rg a 0 b) (if c_holdsAnother σ (nx p) g = 0 then 0 else 2))))
def c_faceS (σ : St) (p g a b : Int32) : St := up (up (up σ 5 (nx p) g) 6 (nx p) a) 7 (nx p) b
def c_putK (σ : St) (p g n : Int32) : Nat := c_then (c_placeAt p) (c_then (c_rg g 0 7) (c_then (c_rg n 1 100000) (if c_holdsAnother σ (nx p) g = 0 then (if c_isFaceOfAnother σ (nx p) g = 0 then c_sp σ (nx p) n else 2) else 2)))
def c_putS (σ : St) (p g n : Int32) : St := c_bring σ (nx p) g n
def c_useK (σ : St) (p n : Int32) : Nat := c_then (c_rg n 1 100000) (c_then (c_faceAt σ p) (if n ≤ c_notHeld σ (nx p) then 0 else 2))
def c_useS (σ : St) (p n : Int32) : St := let σ1 := c_takeAway σ (nx p) n; up σ1 (100 + nx p) (nx (σ1 40 0)) (σ1 (100 + nx p) (nx (σ1 40 0)) + n)
def c_holdK (σ : St) (p n : Int32) : Nat := c_then (c_placeAt p) (if 0 ≤ n then (if n ≤ σ 2 (nx p) then 0 else 2) else 1)
def c_holdS (σ : St) (p n : Int32) : St := up σ 3 (nx p) n
def c_casesK (g n : Int32) : Nat := c_then (c_rg g 0 7) (c_rg n 1 1000)
def c_casesS (σ : St) (g n : Int32) : St := up σ 30 (nx g) n
def c_ruleK (z k a u : Int32) : Nat := c_then (c_rg z 0 3) (c_then (c_rg k 0 2) (c_then (c_rg a 1 30) (c_rg u 0 399)))
def c_ruleS (σ : St) (z k a u : Int32) : St := up (up (up σ 20 (nx z) k) 21 (nx z) a) 22 (nx z) u
def c_factorK (m u d : Int32) : Nat := c_then (c_rg m 0 11) (c_then (c_rg u 0 1000) (c_rg d 1 1000))
def c_factorS (σ : St) (m u d : Int32) : St := up (up σ 31 (nx m) u) 32 (nx m) d
def c_waveK (σ : St) (p n d : Int32) : Nat := c_then (c_rg n 1 100000) (c_then (c_rg d (σ 40 0) 399) (c_then (c_faceAt σ p) (if σ 41 0 < 30 then 0 else 3)))
def c_waveS (σ : St) (p n d : Int32) : St := c_wavesAdd σ (nI (nx p)) n d
def c_openK (σ : St) (d : Int32) : Nat := c_then (c_rg d 0 399) (if σ 40 0 ≤ d then 0 else 2)
def c_openS (σ : St) (d o : Int32) : St := up σ 33 (nx d) (if o = 0 then 1 else 0)
def c_dayK (σ : St) (d : Int32) : Nat := c_rg d (σ 40 0) 399
def c_dayS (σ : St) (d : Int32) : St := up σ 40 0 d
def c_meanK (σ : St) (p n : Int32) : Nat := c_then (c_rg n 0 60) (c_then (c_faceAt σ p) (if c_openDays σ n = 0 then 5 else 0))
def c_meanR (σ : St) (p n : Int32) : Int32 := (c_usedAll σ (nx p) n / (c_openDays σ n).toInt64).toInt32
def c_aboveR (σ : St) (p : Int32) : Int32 := if lg_cmp (c_needOf σ (nx p)) (σ 0 (nx p)).toInt64 ≤ 0 then 0 else 1
def c_runK (σ : St) : Nat := if c_isOpen σ (σ 40 0) = 0 then 2 else 0
def c_moveK (σ : St) (i w : Int32) : Nat := c_then (c_moveAt σ i) (c_rg w 0 6)
def c_doneG (σ : St) (i : Int32) : Int32 := σ 5 (nx (σ 51 (nx i)))
def c_doneK (σ : St) (i : Int32) : Nat := c_then (c_moveAt σ i) (if σ 56 (nx i) = 0 then (if σ 4 (nx (σ 50 (nx i))) = c_doneG σ i then (if σ 52 (nx i) ≤ c_notHeld σ (nx (σ 50 (nx i))) then (if c_holdsAnother σ (nx (σ 51 (nx i))) (c_doneG σ i) = 0 then c_sp σ (nx (σ 51 (nx i))) (σ 52 (nx i)) else 2) else 2) else 2) else 2)
def c_doneS (σ : St) (i : Int32) : St :=
  let a := nx (σ 50 (nx i))
  let b := nx (σ 51 (nx i))
  let σ1 := c_takeAway σ a (σ 52 (nx i))
  let σ2 := c_bring σ1 b (σ 5 b) (σ1 52 (nx i))
  up σ2 56 (nx i) 1
def c_toldK (p w : Int32) : Nat := c_then (c_placeAt p) (c_rg w 0 5)
