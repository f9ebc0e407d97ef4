def RX0 : String := "ReplenishRules$Calendar"
def TX0 : u_T := fun k => match k with
  | 0 => ("ReplenishRules$Calendar", "closed", "[Z", true)
  | _ => ("ReplenishRules$Calendar", "today", "I", false)
def tyX0 : Nat → FieldType := fun k => match k with
  | 0 => .array .boolean
  | _ => .int
theorem nmX0 : ∀ a, a < 2 → ∀ b, b < 2 → a ≠ b → (TX0 a).2.1 ≠ (TX0 b).2.1 := by decide +kernel
theorem tyX0_ok : ∀ k, k < 2 → parseFieldDescriptor (TX0 k).2.2.1 = some (tyX0 k) := by decide +kernel
def RX1 : String := "ReplenishRules$Move"
def TX1 : u_T := fun k => match k with
  | 0 => ("ReplenishRules$Move", "from", "I", false)
  | 1 => ("ReplenishRules$Move", "to", "I", false)
  | 2 => ("ReplenishRules$Move", "pieces", "I", false)
  | 3 => ("ReplenishRules$Move", "needTime", "I", false)
  | 4 => ("ReplenishRules$Move", "trip", "I", false)
  | 5 => ("ReplenishRules$Move", "emptiesReserve", "Z", false)
  | _ => ("ReplenishRules$Move", "isDone", "Z", false)
def tyX1 : Nat → FieldType := fun k => match k with
  | 0 => .int
  | 1 => .int
  | 2 => .int
  | 3 => .int
  | 4 => .int
  | 5 => .boolean
  | _ => .boolean
theorem nmX1 : ∀ a, a < 7 → ∀ b, b < 7 → a ≠ b → (TX1 a).2.1 ≠ (TX1 b).2.1 := by decide +kernel
theorem tyX1_ok : ∀ k, k < 7 → parseFieldDescriptor (TX1 k).2.2.1 = some (tyX1 k) := by decide +kernel
def RX2 : String := "ReplenishRules$Place"
def TX2 : u_T := fun k => match k with
  | 0 => ("ReplenishRules$Place", "number", "I", true)
  | 1 => ("ReplenishRules$Place", "used", "[I", true)
  | 2 => ("ReplenishRules$Place", "room", "I", false)
  | 3 => ("ReplenishRules$Place", "zone", "I", false)
  | 4 => ("ReplenishRules$Place", "pieces", "I", false)
  | 5 => ("ReplenishRules$Place", "held", "I", false)
  | 6 => ("ReplenishRules$Place", "good", "I", false)
  | 7 => ("ReplenishRules$Place", "faceGood", "I", false)
  | 8 => ("ReplenishRules$Place", "least", "I", false)
  | 9 => ("ReplenishRules$Place", "most", "I", false)
  | 10 => ("ReplenishRules$Place", "planned", "I", false)
  | 11 => ("ReplenishRules$Place", "wanted", "I", false)
  | _ => ("ReplenishRules$Place", "needTime", "I", false)
def tyX2 : Nat → FieldType := fun k => match k with
  | 0 => .int
  | 1 => .array .int
  | 2 => .int
  | 3 => .int
  | 4 => .int
  | 5 => .int
  | 6 => .int
  | 7 => .int
  | 8 => .int
  | 9 => .int
  | 10 => .int
  | 11 => .int
  | _ => .int
theorem nmX2 : ∀ a, a < 13 → ∀ b, b < 13 → a ≠ b → (TX2 a).2.1 ≠ (TX2 b).2.1 := by decide +kernel
theorem tyX2_ok : ∀ k, k < 13 → parseFieldDescriptor (TX2 k).2.2.1 = some (tyX2 k) := by decide +kernel
def RX3 : String := "ReplenishRules$Plan"
def TX3 : u_T := fun k => match k with
  | 0 => ("ReplenishRules$Plan", "moves", "[LReplenishRules$Move;", true)
  | 1 => ("ReplenishRules$Plan", "count", "I", false)
  | 2 => ("ReplenishRules$Plan", "trip", "I", false)
  | 3 => ("ReplenishRules$Plan", "tripZone", "I", false)
  | _ => ("ReplenishRules$Plan", "tripMoves", "I", false)
def tyX3 : Nat → FieldType := fun k => match k with
  | 0 => .array (.object "ReplenishRules$Move")
  | 1 => .int
  | 2 => .int
  | 3 => .int
  | _ => .int
theorem nmX3 : ∀ a, a < 5 → ∀ b, b < 5 → a ≠ b → (TX3 a).2.1 ≠ (TX3 b).2.1 := by decide +kernel
theorem tyX3_ok : ∀ k, k < 5 → parseFieldDescriptor (TX3 k).2.2.1 = some (tyX3 k) := by decide +kernel
def RX4 : String := "ReplenishRules$Rule"
def TX4 : u_T := fun k => match k with
  | 0 => ("ReplenishRules$Rule", "kind", "I", false)
  | 1 => ("ReplenishRules$Rule", "ahead", "I", false)
  | _ => ("ReplenishRules$Rule", "until", "I", false)
def tyX4 : Nat → FieldType := fun k => match k with
  | 0 => .int
  | 1 => .int
  | _ => .int
theorem nmX4 : ∀ a, a < 3 → ∀ b, b < 3 → a ≠ b → (TX4 a).2.1 ≠ (TX4 b).2.1 := by decide +kernel
theorem tyX4_ok : ∀ k, k < 3 → parseFieldDescriptor (TX4 k).2.2.1 = some (tyX4 k) := by decide +kernel
def RX5 : String := "ReplenishRules$Waves"
def TX5 : u_T := fun k => match k with
  | 0 => ("ReplenishRules$Waves", "faces", "[I", true)
  | 1 => ("ReplenishRules$Waves", "pieces", "[I", true)
  | 2 => ("ReplenishRules$Waves", "days", "[I", true)
  | _ => ("ReplenishRules$Waves", "count", "I", false)
def tyX5 : Nat → FieldType := fun k => match k with
  | 0 => .array .int
  | 1 => .array .int
  | 2 => .array .int
  | _ => .int
theorem nmX5 : ∀ a, a < 4 → ∀ b, b < 4 → a ≠ b → (TX5 a).2.1 ≠ (TX5 b).2.1 := by decide +kernel
theorem tyX5_ok : ∀ k, k < 4 → parseFieldDescriptor (TX5 k).2.2.1 = some (tyX5 k) := by decide +kernel
def RX6 : String := "ReplenishRules"
def TX6 : u_T := fun k => match k with
  | 0 => ("ReplenishRules", "places", "[LReplenishRules$Place;", true)
  | 1 => ("ReplenishRules", "rules", "[LReplenishRules$Rule;", true)
  | 2 => ("ReplenishRules", "casePieces", "[I", true)
  | 3 => ("ReplenishRules", "ups", "[I", true)
  | 4 => ("ReplenishRules", "downs", "[I", true)
  | 5 => ("ReplenishRules", "calendar", "LReplenishRules$Calendar;", true)
  | 6 => ("ReplenishRules", "waves", "LReplenishRules$Waves;", true)
  | _ => ("ReplenishRules", "plan", "LReplenishRules$Plan;", true)
def tyX6 : Nat → FieldType := fun k => match k with
  | 0 => .array (.object "ReplenishRules$Place")
  | 1 => .array (.object "ReplenishRules$Rule")
  | 2 => .array .int
  | 3 => .array .int
  | 4 => .array .int
  | 5 => .object "ReplenishRules$Calendar"
  | 6 => .object "ReplenishRules$Waves"
  | _ => .object "ReplenishRules$Plan"
theorem nmX6 : ∀ a, a < 8 → ∀ b, b < 8 → a ≠ b → (TX6 a).2.1 ≠ (TX6 b).2.1 := by decide +kernel
theorem tyX6_ok : ∀ k, k < 8 → parseFieldDescriptor (TX6 k).2.2.1 = some (tyX6 k) := by decide +kernel
def RX7 : String := "ReplenishRulesModel"
def TX7 : u_T := fun k => match k with
  | 0 => ("ReplenishRulesModel", "thrown", "I", false)
  | 1 => ("ReplenishRulesModel", "room", "[I", true)
  | 2 => ("ReplenishRulesModel", "zone", "[I", true)
  | 3 => ("ReplenishRulesModel", "pieces", "[I", true)
  | 4 => ("ReplenishRulesModel", "good", "[I", true)
  | 5 => ("ReplenishRulesModel", "held", "[I", true)
  | 6 => ("ReplenishRulesModel", "isFace", "[Z", true)
  | 7 => ("ReplenishRulesModel", "faceGood", "[I", true)
  | 8 => ("ReplenishRulesModel", "least", "[I", true)
  | 9 => ("ReplenishRulesModel", "most", "[I", true)
  | 10 => ("ReplenishRulesModel", "caseOf", "[I", true)
  | 11 => ("ReplenishRulesModel", "closed", "[Z", true)
  | 12 => ("ReplenishRulesModel", "used", "[I", true)
  | 13 => ("ReplenishRulesModel", "kinds", "[I", true)
  | 14 => ("ReplenishRulesModel", "aheads", "[I", true)
  | 15 => ("ReplenishRulesModel", "untils", "[I", true)
  | 16 => ("ReplenishRulesModel", "ups", "[I", true)
  | 17 => ("ReplenishRulesModel", "downs", "[I", true)
  | 18 => ("ReplenishRulesModel", "today", "I", false)
  | 19 => ("ReplenishRulesModel", "waves", "I", false)
  | 20 => ("ReplenishRulesModel", "wavePlace", "[I", true)
  | 21 => ("ReplenishRulesModel", "waveMany", "[I", true)
  | 22 => ("ReplenishRulesModel", "waveDay", "[I", true)
  | 23 => ("ReplenishRulesModel", "moves", "I", false)
  | 24 => ("ReplenishRulesModel", "from", "[I", true)
  | 25 => ("ReplenishRulesModel", "to", "[I", true)
  | 26 => ("ReplenishRulesModel", "many", "[I", true)
  | 27 => ("ReplenishRulesModel", "needs", "[I", true)
  | 28 => ("ReplenishRulesModel", "trips", "[I", true)
  | 29 => ("ReplenishRulesModel", "isLast", "[Z", true)
  | 30 => ("ReplenishRulesModel", "isDone", "[Z", true)
  | 31 => ("ReplenishRulesModel", "planned", "[I", true)
  | _ => ("ReplenishRulesModel", "gone", "[Z", true)
def tyX7 : Nat → FieldType := fun k => match k with
  | 0 => .int
  | 1 => .array .int
  | 2 => .array .int
  | 3 => .array .int
  | 4 => .array .int
  | 5 => .array .int
  | 6 => .array .boolean
  | 7 => .array .int
  | 8 => .array .int
  | 9 => .array .int
  | 10 => .array .int
  | 11 => .array .boolean
  | 12 => .array .int
  | 13 => .array .int
  | 14 => .array .int
  | 15 => .array .int
  | 16 => .array .int
  | 17 => .array .int
  | 18 => .int
  | 19 => .int
  | 20 => .array .int
  | 21 => .array .int
  | 22 => .array .int
  | 23 => .int
  | 24 => .array .int
  | 25 => .array .int
  | 26 => .array .int
  | 27 => .array .int
  | 28 => .array .int
  | 29 => .array .boolean
  | 30 => .array .boolean
  | 31 => .array .int
  | _ => .array .boolean
theorem nmX7 : ∀ a, a < 33 → ∀ b, b < 33 → a ≠ b → (TX7 a).2.1 ≠ (TX7 b).2.1 := by decide +kernel
theorem tyX7_ok : ∀ k, k < 33 → parseFieldDescriptor (TX7 k).2.2.1 = some (tyX7 k) := by decide +kernel
def RL : String := "ReplenishRulesLaw"
abbrev vwCl : List vw_C := [(RX0, TX0, 2), (RX1, TX1, 7), (RX2, TX2, 13), (RX3, TX3, 5), (RX4, TX4, 3), (RX5, TX5, 4), (RX6, TX6, 8), (RX7, TX7, 33)]
/-- the tables' words that stay true as the machine goes on -/
def wG : List Cond := lw_tbl.filter goodWord
theorem mG {w : Cond} (i : Nat) (h : tables_1[i]? = some w) (hg : goodWord w = true) : w ∈ wG := List.mem_filter.mpr ⟨List.mem_append_right _ (List.mem_of_getElem? h), hg⟩
theorem mS {w : Cond} (i : Nat) (h : (k2_sels lw_privs)[i]? = some w) (hg : goodWord w = true) : w ∈ wG := List.mem_filter.mpr ⟨List.mem_append_left _ (List.mem_of_getElem? h), hg⟩
theorem gG {ws : List Cond} (h : ∀ w ∈ ws, w ∈ wG) : GoodIn wG ws := fun w hw => ⟨h w hw, good_of_word (List.mem_filter.mp (h w hw)).2⟩
theorem gV {own C : String} {i : Nat} {y : MethodName} {cw : Cond} (a : Cond.methodLink own i y ∈ wG) (b : Cond.instanceMethod y ∈ wG) (c : Cond.selects C y y ∈ wG) (d : Cond.initialized C ∈ wG) (e : cw ∈ wG) : GoodIn wG (wsV own i C y (cw :: wG)) := gG fun w hw => by
  simp only [wsV, List.mem_append, List.mem_cons, List.not_mem_nil, or_false] at hw
  rcases hw with (rfl | rfl | rfl | rfl) | rfl | hw <;> assumption
theorem gS {own : String} {i : Nat} {y : MethodName} {cw : Cond} (a : Cond.methodLink own i y ∈ wG) (b : Cond.static y ∈ wG) (d : Cond.initialized own ∈ wG) (e : cw ∈ wG) : GoodIn wG (wsS own i y (cw :: wG)) := gG fun w hw => by
  simp only [wsS, List.mem_append, List.mem_cons, List.not_mem_nil, or_false] at hw
  rcases hw with (rfl | rfl | rfl) | rfl | hw <;> assumption
theorem gI {cw : Cond} (e : cw ∈ wG) : GoodIn wG (cw :: wG) := gG fun w hw => by
  rcases List.mem_cons.mp hw with rfl | hw
  · exact e
  · exact hw
theorem hinX0 : ∀ w ∈ u_ws RX0 TX0 2, w ∈ wG := fun w hw => List.mem_filter.mpr ⟨(by decide +kernel : ∀ w ∈ u_ws RX0 TX0 2, w ∈ lw_tbl) w hw, (by decide +kernel : ∀ w ∈ u_ws RX0 TX0 2, goodWord w = true) w hw⟩
theorem hinX1 : ∀ w ∈ u_ws RX1 TX1 7, w ∈ wG := fun w hw => List.mem_filter.mpr ⟨(by decide +kernel : ∀ w ∈ u_ws RX1 TX1 7, w ∈ lw_tbl) w hw, (by decide +kernel : ∀ w ∈ u_ws RX1 TX1 7, goodWord w = true) w hw⟩
theorem hinX2 : ∀ w ∈ u_ws RX2 TX2 13, w ∈ wG := fun w hw => List.mem_filter.mpr ⟨(by decide +kernel : ∀ w ∈ u_ws RX2 TX2 13, w ∈ lw_tbl) w hw, (by decide +kernel : ∀ w ∈ u_ws RX2 TX2 13, goodWord w = true) w hw⟩
theorem hinX3 : ∀ w ∈ u_ws RX3 TX3 5, w ∈ wG := fun w hw => List.mem_filter.mpr ⟨(by decide +kernel : ∀ w ∈ u_ws RX3 TX3 5, w ∈ lw_tbl) w hw, (by decide +kernel : ∀ w ∈ u_ws RX3 TX3 5, goodWord w = true) w hw⟩
theorem hinX4 : ∀ w ∈ u_ws RX4 TX4 3, w ∈ wG := fun w hw => List.mem_filter.mpr ⟨(by decide +kernel : ∀ w ∈ u_ws RX4 TX4 3, w ∈ lw_tbl) w hw, (by decide +kernel : ∀ w ∈ u_ws RX4 TX4 3, goodWord w = true) w hw⟩
theorem hinX5 : ∀ w ∈ u_ws RX5 TX5 4, w ∈ wG := fun w hw => List.mem_filter.mpr ⟨(by decide +kernel : ∀ w ∈ u_ws RX5 TX5 4, w ∈ lw_tbl) w hw, (by decide +kernel : ∀ w ∈ u_ws RX5 TX5 4, goodWord w = true) w hw⟩
theorem hinX6 : ∀ w ∈ u_ws RX6 TX6 8, w ∈ wG := fun w hw => List.mem_filter.mpr ⟨(by decide +kernel : ∀ w ∈ u_ws RX6 TX6 8, w ∈ lw_tbl) w hw, (by decide +kernel : ∀ w ∈ u_ws RX6 TX6 8, goodWord w = true) w hw⟩
theorem hinX7 : ∀ w ∈ u_ws RX7 TX7 33, w ∈ wG := fun w hw => List.mem_filter.mpr ⟨(by decide +kernel : ∀ w ∈ u_ws RX7 TX7 33, w ∈ lw_tbl) w hw, (by decide +kernel : ∀ w ∈ u_ws RX7 TX7 33, goodWord w = true) w hw⟩
