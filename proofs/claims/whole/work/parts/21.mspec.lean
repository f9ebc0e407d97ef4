/-! what the reference does, as functions of its state (mine): rows are its fields in their order: 0 thrown 1 room 2 zone 3 pieces 4 good 5 held 6 isFace 7 faceGood 8 least 9 most 10 caseOf 11 closed 12 used 13 kinds 14 aheads 15 untils 16 ups 17 downs 18 today 19 waves 20 wavePlace 21 waveMany 22 waveDay 23 moves 24 from 25 to 26 many 27 needs 28 trips 29 isLast 30 isDone 31 planned 32 gone -/
def m_in (x a b : Int32) : Int32 := if x < a then 0 else if b < x then 0 else 1
def m_isPlace (p : Int32) : Int32 := m_in p 0 15
def m_holdsOther (σ : St) (p g : Int32) : Int32 := if σ 3 (nx p) ≤ 0 then 0 else if σ 4 (nx p) = g then 0 else 1
def m_placeT (σ : St) (p s z : Int32) : Int32 := if m_isPlace p = 0 then 1 else if m_in s 1 100000 = 0 then 1 else if m_in z 0 3 = 0 then 1 else if s < σ 3 (nx p) then 2 else if σ 6 (nx p) = 0 then 0 else if σ 9 (nx p) ≤ s then 0 else 2
def m_placeS (σ : St) (p s z : Int32) : St := let σ1 := up σ 0 0 (m_placeT σ p s z); if σ1 0 0 = 0 then up (up σ1 1 (nx p) s) 2 (nx p) z else σ1
def m_faceG (σ : St) (p g a b : Int32) : Int32 := if m_isPlace p = 0 then 0 else if m_in g 0 7 = 0 then 0 else if a < 0 then 0 else if b < a then 0 else if σ 1 (nx p) < b then 0 else 1
def m_faceT (σ : St) (p g a b : Int32) : Int32 := if m_faceG σ p g a b = 0 then 1 else if m_holdsOther σ p g = 0 then 0 else 2
def m_faceS (σ : St) (p g a b : Int32) : St := let σ1 := up σ 0 0 (m_faceT σ p g a b); if σ1 0 0 = 0 then up (up (up (up σ1 6 (nx p) 1) 7 (nx p) g) 8 (nx p) a) 9 (nx p) b else σ1
def m_putI (p g n : Int32) : Int32 := if m_isPlace p = 0 then 0 else if m_in g 0 7 = 0 then 0 else if m_in n 1 100000 = 0 then 0 else 1
def m_putQ (σ : St) (p n : Int32) : Int32 := if σ 3 (nx p) + n ≤ σ 1 (nx p) then 0 else 3
def m_putT (σ : St) (p g n : Int32) : Int32 := if m_putI p g n = 0 then 1 else if m_holdsOther σ p g = 0 then (if σ 6 (nx p) = 0 then m_putQ σ p n else if σ 7 (nx p) = g then m_putQ σ p n else 2) else 2
def m_putS (σ : St) (p g n : Int32) : St := let σ1 := up σ 0 0 (m_putT σ p g n); if σ1 0 0 = 0 then (let σ2 := up σ1 3 (nx p) (σ1 3 (nx p) + n); up σ2 4 (nx p) g) else σ1
def m_takes (σ : St) (p n : Int32) : St := let σ1 := up σ 3 (nx p) (σ 3 (nx p) - n); up σ1 4 (nx p) (if σ1 3 (nx p) = 0 then -1 else σ1 4 (nx p))
def m_free (σ : St) (p : Int32) : Int32 := σ 3 (nx p) - σ 5 (nx p)
def m_useT (σ : St) (p n : Int32) : Int32 := if m_isPlace p = 0 then 1 else if m_in n 1 100000 = 0 then 1 else if σ 6 (nx p) = 0 then 2 else if n ≤ m_free σ p then 0 else 2
def m_useS (σ : St) (p n : Int32) : St := let σ1 := up σ 0 0 (m_useT σ p n); if σ1 0 0 = 0 then (let σ2 := m_takes σ1 p n; up σ2 12 (nx (400 * p + σ2 18 0)) (σ2 12 (nx (400 * p + σ2 18 0)) + n)) else σ1
def m_holdT (σ : St) (p n : Int32) : Int32 := if m_isPlace p = 0 then 1 else if 0 ≤ n then (if n ≤ σ 3 (nx p) then 0 else 2) else 1
def m_holdS (σ : St) (p n : Int32) : St := let σ1 := up σ 0 0 (m_holdT σ p n); if σ1 0 0 = 0 then up σ1 5 (nx p) n else σ1
def m_casesT (g n : Int32) : Int32 := if m_in g 0 7 = 0 then 1 else if m_in n 1 1000 = 0 then 1 else 0
def m_casesS (σ : St) (g n : Int32) : St := let σ1 := up σ 0 0 (m_casesT g n); if σ1 0 0 = 0 then up σ1 10 (nx g) n else σ1
def m_ruleT (z k a u : Int32) : Int32 := if m_in z 0 3 = 0 then 1 else if m_in k 0 2 = 0 then 1 else if m_in a 1 30 = 0 then 1 else if m_in u 0 399 = 0 then 1 else 0
def m_ruleS (σ : St) (z k a u : Int32) : St := let σ1 := up σ 0 0 (m_ruleT z k a u); if σ1 0 0 = 0 then up (up (up σ1 13 (nx z) k) 14 (nx z) a) 15 (nx z) u else σ1
def m_factorT (m u d : Int32) : Int32 := if m_in m 0 11 = 0 then 1 else if m_in u 0 1000 = 0 then 1 else if m_in d 1 1000 = 0 then 1 else 0
def m_factorS (σ : St) (m u d : Int32) : St := let σ1 := up σ 0 0 (m_factorT m u d); if σ1 0 0 = 0 then up (up σ1 16 (nx m) u) 17 (nx m) d else σ1
def m_waveT (σ : St) (p n d : Int32) : Int32 := if m_isPlace p = 0 then 1 else if m_in n 1 100000 = 0 then 1 else if m_in d (σ 18 0) 399 = 0 then 1 else if σ 6 (nx p) = 0 then 2 else if σ 19 0 = 30 then 3 else 0
def m_waveS (σ : St) (p n d : Int32) : St := let σ1 := up σ 0 0 (m_waveT σ p n d); if σ1 0 0 = 0 then (let σ2 := up σ1 20 (nx (σ1 19 0)) p; let σ3 := up σ2 21 (nx (σ2 19 0)) n; let σ4 := up σ3 22 (nx (σ3 19 0)) d; up σ4 19 0 (σ4 19 0 + 1)) else σ1
def m_openT (σ : St) (d : Int32) : Int32 := if m_in d 0 399 = 0 then 1 else if σ 18 0 ≤ d then 0 else 2
def m_openS (σ : St) (d o : Int32) : St := let σ1 := up σ 0 0 (m_openT σ d); if σ1 0 0 = 0 then up σ1 11 (nx d) (if o = 0 then 1 else 0) else σ1
def m_dayT (σ : St) (d : Int32) : Int32 := if m_in d (σ 18 0) 399 = 0 then 1 else 0
def m_dayS (σ : St) (d : Int32) : St := let σ1 := up σ 0 0 (m_dayT σ d); if σ1 0 0 = 0 then up σ1 18 0 d else σ1
/-- the day k steps before yesterday -/
def m_d (σ : St) (k : Nat) : Int32 := σ 18 0 - 1 - nI k
def m_cnt (σ : St) (n : Int32) : Nat := nx (σ 18 0) - (nx (σ 18 0) - nx n)
def m_sumF (σ : St) (p o : Int32) (k : Nat) (a : Int32) : Int32 := if o = 0 then a + σ 12 (nx (400 * p + m_d σ k)) else if σ 11 (nx (m_d σ k)) = 0 then a + σ 12 (nx (400 * p + m_d σ k)) else a + 0
def m_sum (σ : St) (p n o : Int32) : Int32 := foldN (m_sumF σ p o) (m_cnt σ n) 0 0
def m_opF (σ : St) (k : Nat) (a : Int32) : Int32 := if σ 11 (nx (m_d σ k)) = 0 then a + 1 else a + 0
def m_openDays (σ : St) (n : Int32) : Int32 := foldN (m_opF σ) (m_cnt σ n) 0 0
def m_meanI (p n : Int32) : Int32 := if m_isPlace p = 0 then 0 else if m_in n 0 60 = 0 then 0 else 1
def m_meanT (σ : St) (p n : Int32) : Int32 := if m_meanI p n = 0 then 1 else if σ 6 (nx p) = 0 then 2 else if m_openDays σ n = 0 then 3 else 0
abbrev m_meanS (σ : St) (p n : Int32) : St := up σ 0 0 (m_meanT σ p n)
def m_meanR (σ : St) (p n : Int32) : Int32 := if m_meanS σ p n 0 0 = 0 then m_sum (m_meanS σ p n) p n 0 / m_openDays (m_meanS σ p n) n else 0
def m_kindOf (σ : St) (p : Int32) : Int32 := if σ 18 0 ≤ σ 15 (nx (σ 2 (nx p))) then σ 13 (nx (σ 2 (nx p))) else 0
def m_aheadOf (σ : St) (p : Int32) : Int32 := if σ 18 0 ≤ σ 15 (nx (σ 2 (nx p))) then σ 14 (nx (σ 2 (nx p))) else 1
def m_over (a b : Int64) : Int64 := a / b + (if lg_cmp (a - a / b * b) 0 ≤ 0 then 0 else 1)
def m_month (σ : St) : Int32 := σ 18 0 / 30 - σ 18 0 / 30 / 12 * 12
def m_first (σ : St) : Int32 := if 0 ≤ σ 18 0 - 28 then σ 18 0 - 28 else 0
def m_fadeF (σ : St) (p : Int32) (k : Nat) (a : Int64) : Int64 := if σ 11 (nx (nI k)) = 0 then (7 * a + 1000 * (σ 12 (nx (400 * p + nI k))).toInt64) / 8 else a
abbrev m_fade (σ : St) (p : Int32) : Int64 := foldN (m_fadeF σ p) (nx (σ 18 0) - nx (m_first σ)) (nx (m_first σ)) 0
def m_foresees (σ : St) (p : Int32) : Int64 := if m_kindOf σ p = 0 then 0 else if m_openDays σ 28 = 0 then 0
  else if m_kindOf σ p = 1 then m_over ((m_sum σ p 28 1).toInt64 * (m_aheadOf σ p).toInt64 * (σ 16 (nx (m_month σ))).toInt64) ((m_openDays σ 28).toInt64 * (σ 17 (nx (m_month σ))).toInt64)
  else m_over (m_fade σ p * (m_aheadOf σ p).toInt64 * (σ 16 (nx (m_month σ))).toInt64) (1000 * (σ 17 (nx (m_month σ))).toInt64)
def m_wantB (σ : St) (p : Int32) (k : Nat) : Int32 := if σ 20 (nx (nI k)) = p then (if m_in (σ 22 (nx (nI k))) (σ 18 0) (σ 18 0 + m_aheadOf σ p) = 0 then 0 else 1) else 0
def m_wantF (σ : St) (p : Int32) (k : Nat) (a : Int64) : Int64 := if m_wantB σ p k = 0 then a + 0 else a + (σ 21 (nx (nI k))).toInt64
abbrev m_waveN (σ : St) (p : Int32) : Int64 := foldN (m_wantF σ p) (nx (σ 19 0)) 0 0
def m_best (σ : St) (p : Int32) : Int64 := if lg_cmp (m_foresees σ p) (m_waveN σ p) ≤ 0 then m_waveN σ p else m_foresees σ p
def m_wants (σ : St) (p : Int32) : Int64 := if lg_cmp (m_best σ p) (σ 8 (nx p)).toInt64 ≤ 0 then (σ 8 (nx p)).toInt64 else m_best σ p
def m_asksT (σ : St) (p : Int32) : Int32 := if m_isPlace p = 0 then 1 else if σ 6 (nx p) = 0 then 2 else 0
abbrev m_asksS (σ : St) (p : Int32) : St := up σ 0 0 (m_asksT σ p)
def m_asksR (σ : St) (p : Int32) : Int32 := if m_asksS σ p 0 0 = 0 then 1 else 0
def m_forecastR (σ : St) (p : Int32) : Int64 := if m_asksR σ p = 0 then 0 else m_foresees (m_asksS σ p) p
def m_limit (σ : St) (p : Int32) : Int32 := if lg_cmp (m_wants σ p) (σ 1 (nx p)).toInt64 ≤ 0 then (m_wants σ p).toInt32 else σ 1 (nx p)
def m_thresholdR (σ : St) (p : Int32) : Int32 := if m_asksR σ p = 0 then 0 else m_limit (m_asksS σ p) p
def m_aboveR (σ : St) (p : Int32) : Int32 := if m_asksR σ p = 0 then 0 else if lg_cmp (m_wants (m_asksS σ p) p) (m_asksS σ p 1 (nx p)).toInt64 ≤ 0 then 0 else 1
def m_tgt1 (σ : St) (p : Int32) : Int32 := if σ 9 (nx p) ≤ m_limit σ p then m_limit σ p else σ 9 (nx p)
def m_tgt2 (σ : St) (p : Int32) : Int32 := if m_tgt1 σ p ≤ σ 1 (nx p) then m_tgt1 σ p else σ 1 (nx p)
def m_case (σ : St) (p : Int32) : Int32 := σ 10 (nx (σ 7 (nx p)))
def m_mn (σ : St) (p : Int32) : Int32 := m_tgt2 σ p - σ 3 (nx p)
def m_more (σ : St) (p : Int32) : Int32 := if m_mn σ p - m_mn σ p / m_case σ p * m_case σ p ≤ 0 then 0 else if σ 1 (nx p) < σ 3 (nx p) + (m_mn σ p / m_case σ p + 1) * m_case σ p then 0 else 1
def m_missing (σ : St) (p : Int32) : Int32 := if σ 6 (nx p) = 0 then 0 else if σ 3 (nx p) < m_limit σ p then (if m_more σ p = 0 then m_mn σ p / m_case σ p * m_case σ p else (m_mn σ p / m_case σ p + 1) * m_case σ p) else 0
def m_needTime (σ : St) (p : Int32) : Int32 := if m_sum σ p 28 1 = 0 then 9999 else ((σ 3 (nx p)).toInt64 * (m_openDays σ 28).toInt64 / (m_sum σ p 28 1).toInt64).toInt32
def m_nextB (σ : St) (k : Nat) : Int32 := if σ 6 (nx (nI k)) = 0 then 0 else if σ 32 (nx (nI k)) = 0 then (if m_missing σ (nI k) ≤ 0 then 0 else 1) else 0
def m_nextF (σ : St) (k : Nat) (b : Int32) : Int32 := if m_nextB σ k = 0 then b else if b = -1 then nI k else if m_needTime σ b ≤ m_needTime σ (nI k) then b else nI k
def m_next (σ : St) : Int32 := foldN (m_nextF σ) 16 0 (-1)
def m_left (σ : St) (p : Int32) : Int32 := m_free σ p - σ 31 (nx p)
/-- the place k steps before the last -/
def m_r (k : Nat) : Int32 := 15 - nI k
def m_resB (σ : St) (f : Int32) (k : Nat) : Int32 := if σ 6 (nx (m_r k)) = 0 then (if σ 4 (nx (m_r k)) = σ 7 (nx f) then (if m_left σ (m_r k) ≤ 0 then 0 else 1) else 0) else 0
def m_resN (σ : St) (f : Int32) (k : Nat) (a : Int32) : Int32 := if m_resB σ f k = 0 then a else if σ 2 (nx (m_r k)) = σ 2 (nx f) then m_r k else a
def m_resE (σ : St) (f : Int32) (k : Nat) (a : Int32) : Int32 := if m_resB σ f k = 0 then a else m_r k
def m_resF (σ : St) (f : Int32) (k : Nat) (a : Int32 × Int32) : Int32 × Int32 := (m_resN σ f k a.1, m_resE σ f k a.2)
def m_resP (σ : St) (f : Int32) : Int32 × Int32 := foldN (m_resF σ f) 16 0 (-1, -1)
def m_reserve (σ : St) (f : Int32) : Int32 := if (m_resP σ f).1 = -1 then (m_resP σ f).2 else (m_resP σ f).1
def m_p4 (σ : St) (p f n : Int32) : St :=
  let σ1 := up σ 31 (nx p) (σ 31 (nx p) + n)
  let σ2 := up σ1 24 (nx (σ1 23 0)) p
  let σ3 := up σ2 25 (nx (σ2 23 0)) f
  up σ3 26 (nx (σ3 23 0)) n
def m_p7 (σ : St) (p f n : Int32) : St :=
  let σ4 := m_p4 σ p f n
  let σ5 := up σ4 27 (nx (σ4 23 0)) (m_needTime σ4 f)
  let σ6 := up σ5 29 (nx (σ5 23 0)) (if m_left σ5 p = 0 then 1 else 0)
  up σ6 30 (nx (σ6 23 0)) 0
def m_trip (σ : St) : Int32 := if σ 23 0 = 0 then 0 else σ 28 (nx (σ 23 0 - 1))
def m_sizeF (σ : St) (t : Int32) (k : Nat) (a : Int32) : Int32 := if σ 28 (nx (nI k)) = t then a + 1 else a + 0
abbrev m_size (σ : St) : Int32 := foldN (m_sizeF σ (m_trip σ)) (nx (σ 23 0)) 0 0
def m_joins (σ : St) (p : Int32) : Int32 := if σ 23 0 = 0 then 1 else if σ 2 (nx (σ 24 (nx (σ 23 0 - 1)))) = σ 2 (nx p) then (if 3 ≤ m_size σ then 0 else 1) else 0
def m_p8 (σ : St) (p : Int32) : St := if m_joins σ p = 0 then up σ 28 (nx (σ 23 0)) (m_trip σ + 1) else up σ 28 (nx (σ 23 0)) (m_trip σ)
def m_plan (σ : St) (p f n : Int32) : St := let σ8 := m_p8 (m_p7 σ p f n) p; up σ8 23 0 (σ8 23 0 + 1)
def m_tk (σ : St) (p n : Int32) : Int32 := if n ≤ m_left σ p then n else m_left σ p
/-- the inner loop of run: what is left to plan, the next reserve -/
def m_inner (f : Int32) : Nat → Int32 → Int32 → St → St
  | 0, _, _, σ => σ
  | i + 1, n, p, σ => if n ≤ 0 then σ else if p = -1 then σ else if 30 ≤ σ 23 0 then σ else
      let σ1 := m_plan σ p f (m_tk σ p n)
      m_inner f i (n - m_tk σ p n) (m_reserve σ1 f) σ1
def m_serve (σ : St) (f : Int32) : St := let σ1 := up σ 32 (nx f) 1; m_inner f 31 (m_missing σ1 f) (m_reserve σ1 f) σ1
def m_outer : Nat → Int32 → St → St
  | 0, _, σ => σ
  | i + 1, f, σ => if f = -1 then σ else if 30 ≤ σ 23 0 then σ else let σ1 := m_serve σ f; m_outer i (m_next σ1) σ1
def m_runC (k : Nat) (σ : St) : St := up (up σ 31 (nx (nI k)) 0) 32 (nx (nI k)) 0
def m_runT (σ : St) : Int32 := if σ 11 (nx (σ 18 0)) = 0 then 0 else 1
def m_run0 (σ : St) : St := foldN m_runC 16 0 (up (up σ 0 0 (m_runT σ)) 23 0 0)
def m_runS (σ : St) : St := let σ1 := up σ 0 0 (m_runT σ); if σ1 0 0 ≤ 0 then m_outer 17 (m_next (m_run0 σ)) (m_run0 σ) else σ1
def m_runR (σ : St) : Int32 := if up σ 0 0 (m_runT σ) 0 0 ≤ 0 then m_runS σ 23 0 else 0
def m_moveT (σ : St) (i w : Int32) : Int32 := if m_in i 0 (σ 23 0 - 1) = 0 then 1 else if m_in w 0 6 = 0 then 2 else 0
abbrev m_moveS (σ : St) (i w : Int32) : St := up σ 0 0 (m_moveT σ i w)
def m_moveR (σ : St) (i w : Int32) : Int32 := if m_moveS σ i w 0 0 ≤ 0 then (if w = 0 then m_moveS σ i w 24 (nx i) else if w = 1 then m_moveS σ i w 25 (nx i) else if w = 2 then m_moveS σ i w 26 (nx i) else if w = 3 then m_moveS σ i w 27 (nx i) else if w = 4 then m_moveS σ i w 28 (nx i) else if w = 5 then (if m_moveS σ i w 29 (nx i) = 0 then 0 else 1) else (if m_moveS σ i w 30 (nx i) = 0 then 0 else 1)) else 0
def m_lacks (σ : St) (i : Int32) : Int32 := if σ 4 (nx (σ 24 (nx i))) = σ 7 (nx (σ 25 (nx i))) then (if σ 26 (nx i) ≤ m_free σ (σ 24 (nx i)) then 0 else 1) else 1
def m_doneT (σ : St) (i : Int32) : Int32 := if σ 30 (nx i) = 0 then (if m_lacks σ i = 0 then (if m_holdsOther σ (σ 25 (nx i)) (σ 7 (nx (σ 25 (nx i)))) = 0 then (if σ 3 (nx (σ 25 (nx i))) + σ 26 (nx i) ≤ σ 1 (nx (σ 25 (nx i))) then 0 else 3) else 2) else 2) else 2
def m_doneS (σ : St) (i : Int32) : St := if m_in i 0 (σ 23 0 - 1) = 0 then up σ 0 0 1 else
  let σ1 := up σ 0 0 (m_doneT σ i)
  if σ1 0 0 = 0 then
    let σ2 := m_takes σ1 (σ 24 (nx i)) (σ1 26 (nx i))
    let σ3 := up σ2 3 (nx (σ 25 (nx i))) (σ2 3 (nx (σ 25 (nx i))) + σ2 26 (nx i))
    let σ4 := up σ3 4 (nx (σ 25 (nx i))) (σ 7 (nx (σ 25 (nx i))))
    up σ4 30 (nx i) 1
  else σ1
def m_toldT (p w : Int32) : Int32 := if m_isPlace p = 0 then 1 else if m_in w 0 5 = 0 then 1 else 0
abbrev m_toldS (σ : St) (p w : Int32) : St := up σ 0 0 (m_toldT p w)
def m_toldR (σ : St) (p w : Int32) : Int32 := if m_toldS σ p w 0 0 ≤ 0 then (if w = 0 then m_toldS σ p w 3 (nx p) else if w = 1 then m_toldS σ p w 5 (nx p) else if w = 2 then m_toldS σ p w 4 (nx p) else if w = 3 then (if m_toldS σ p w 6 (nx p) = 0 then 0 else 1) else if w = 4 then (if m_toldS σ p w 6 (nx p) = 0 then 0 else m_toldS σ p w 8 (nx p)) else (if m_toldS σ p w 6 (nx p) = 0 then 0 else m_toldS σ p w 9 (nx p))) else 0
/-! what the reference keeps true of its numbers, as far as its own indices need it -/
def MInv (σ : St) : Prop := vp_in (σ 18 0) 400 ∧ (∀ i, i < 16 → vp_in (σ 2 i) 4) ∧ (∀ i, i < 16 → vp_in (σ 7 i) 8) ∧ (∀ i, i < 8 → ¬ σ 10 i = 0) ∧ (∀ i, i < 12 → 1 ≤ σ 17 i ∧ σ 17 i ≤ 1000) ∧ (¬ σ 19 0 < 0 ∧ nx (σ 19 0) ≤ 30) ∧ (¬ σ 23 0 < 0 ∧ nx (σ 23 0) ≤ 30) ∧ ∀ j, j < 30 → vp_in (σ 24 j) 16 ∧ vp_in (σ 25 j) 16
