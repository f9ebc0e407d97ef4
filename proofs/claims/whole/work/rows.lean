section
-- ===== PART A: goes FIRST, ahead of the names: the tables' words, and 'selects' of the private methods out of them =====
/-- a private method of a class that the tables say can be made, by its rows of tables_1 -/
def lw_okq (q : MethodName × Nat) : Prop := (q.1.cls ≠ "java/lang/invoke/MethodHandle" ∧ q.1.cls ≠ "java/lang/invoke/VarHandle") ∧ Cond.instantiable q.1.cls q.2 ∈ tables_1 ∧ Cond.privateMethod q.1 ∈ tables_1 ∧ Cond.instanceMethod q.1 ∈ tables_1
theorem lw_p0 : lw_okq (⟨"ReplenishRules", "placeAt", "(I)LReplenishRules$Place;"⟩, 8) := ⟨⟨by decide +kernel, by decide +kernel⟩, List.mem_of_getElem? (i := 19) (by decide +kernel), List.mem_of_getElem? (i := 244) (by decide +kernel), List.mem_of_getElem? (i := 245) (by decide +kernel)⟩
theorem lw_p1 : lw_okq (⟨"java/lang/Throwable", "fillInStackTrace", "(I)Ljava/lang/Throwable;"⟩, 6) := ⟨⟨by decide +kernel, by decide +kernel⟩, List.mem_of_getElem? (i := 291) (by decide +kernel), List.mem_of_getElem? (i := 289) (by decide +kernel), List.mem_of_getElem? (i := 290) (by decide +kernel)⟩
theorem lw_p2 : lw_okq (⟨"ReplenishRules", "faceAt", "(I)LReplenishRules$Place;"⟩, 8) := ⟨⟨by decide +kernel, by decide +kernel⟩, List.mem_of_getElem? (i := 19) (by decide +kernel), List.mem_of_getElem? (i := 401) (by decide +kernel), List.mem_of_getElem? (i := 402) (by decide +kernel)⟩
theorem lw_p3 : lw_okq (⟨"ReplenishRules", "usedOnAllDays", "(LReplenishRules$Place;I)J"⟩, 8) := ⟨⟨by decide +kernel, by decide +kernel⟩, List.mem_of_getElem? (i := 19) (by decide +kernel), List.mem_of_getElem? (i := 509) (by decide +kernel), List.mem_of_getElem? (i := 510) (by decide +kernel)⟩
theorem lw_p4 : lw_okq (⟨"ReplenishRules", "forecastOf", "(LReplenishRules$Place;)J"⟩, 8) := ⟨⟨by decide +kernel, by decide +kernel⟩, List.mem_of_getElem? (i := 19) (by decide +kernel), List.mem_of_getElem? (i := 521) (by decide +kernel), List.mem_of_getElem? (i := 522) (by decide +kernel)⟩
theorem lw_p5 : lw_okq (⟨"ReplenishRules", "usedOnPastDays", "(LReplenishRules$Place;)J"⟩, 8) := ⟨⟨by decide +kernel, by decide +kernel⟩, List.mem_of_getElem? (i := 19) (by decide +kernel), List.mem_of_getElem? (i := 537) (by decide +kernel), List.mem_of_getElem? (i := 538) (by decide +kernel)⟩
theorem lw_p6 : lw_okq (⟨"ReplenishRules", "fadingUse", "(LReplenishRules$Place;)J"⟩, 8) := ⟨⟨by decide +kernel, by decide +kernel⟩, List.mem_of_getElem? (i := 19) (by decide +kernel), List.mem_of_getElem? (i := 545) (by decide +kernel), List.mem_of_getElem? (i := 546) (by decide +kernel)⟩
theorem lw_p7 : lw_okq (⟨"ReplenishRules", "thresholdOf", "(LReplenishRules$Place;)I"⟩, 8) := ⟨⟨by decide +kernel, by decide +kernel⟩, List.mem_of_getElem? (i := 19) (by decide +kernel), List.mem_of_getElem? (i := 559) (by decide +kernel), List.mem_of_getElem? (i := 560) (by decide +kernel)⟩
theorem lw_p8 : lw_okq (⟨"ReplenishRules", "needOf", "(LReplenishRules$Place;)J"⟩, 8) := ⟨⟨by decide +kernel, by decide +kernel⟩, List.mem_of_getElem? (i := 19) (by decide +kernel), List.mem_of_getElem? (i := 563) (by decide +kernel), List.mem_of_getElem? (i := 564) (by decide +kernel)⟩
theorem lw_p9 : lw_okq (⟨"ReplenishRules", "prepare", "(LReplenishRules$Place;)V"⟩, 8) := ⟨⟨by decide +kernel, by decide +kernel⟩, List.mem_of_getElem? (i := 19) (by decide +kernel), List.mem_of_getElem? (i := 596) (by decide +kernel), List.mem_of_getElem? (i := 597) (by decide +kernel)⟩
theorem lw_p10 : lw_okq (⟨"ReplenishRules", "wantedBy", "(LReplenishRules$Place;I)I"⟩, 8) := ⟨⟨by decide +kernel, by decide +kernel⟩, List.mem_of_getElem? (i := 19) (by decide +kernel), List.mem_of_getElem? (i := 600) (by decide +kernel), List.mem_of_getElem? (i := 601) (by decide +kernel)⟩
theorem lw_p11 : lw_okq (⟨"ReplenishRules", "needTimeOf", "(LReplenishRules$Place;)I"⟩, 8) := ⟨⟨by decide +kernel, by decide +kernel⟩, List.mem_of_getElem? (i := 19) (by decide +kernel), List.mem_of_getElem? (i := 610) (by decide +kernel), List.mem_of_getElem? (i := 611) (by decide +kernel)⟩
theorem lw_p12 : lw_okq (⟨"ReplenishRules", "mostUrgentFace", "()LReplenishRules$Place;"⟩, 8) := ⟨⟨by decide +kernel, by decide +kernel⟩, List.mem_of_getElem? (i := 19) (by decide +kernel), List.mem_of_getElem? (i := 614) (by decide +kernel), List.mem_of_getElem? (i := 615) (by decide +kernel)⟩
theorem lw_p13 : lw_okq (⟨"ReplenishRules", "serve", "(LReplenishRules$Place;)V"⟩, 8) := ⟨⟨by decide +kernel, by decide +kernel⟩, List.mem_of_getElem? (i := 19) (by decide +kernel), List.mem_of_getElem? (i := 618) (by decide +kernel), List.mem_of_getElem? (i := 619) (by decide +kernel)⟩
theorem lw_p14 : lw_okq (⟨"ReplenishRules", "takeFromReserves", "(LReplenishRules$Place;Z)V"⟩, 8) := ⟨⟨by decide +kernel, by decide +kernel⟩, List.mem_of_getElem? (i := 19) (by decide +kernel), List.mem_of_getElem? (i := 622) (by decide +kernel), List.mem_of_getElem? (i := 623) (by decide +kernel)⟩
theorem lw_p15 : lw_okq (⟨"ReplenishRules", "planMove", "(LReplenishRules$Place;LReplenishRules$Place;)V"⟩, 8) := ⟨⟨by decide +kernel, by decide +kernel⟩, List.mem_of_getElem? (i := 19) (by decide +kernel), List.mem_of_getElem? (i := 630) (by decide +kernel), List.mem_of_getElem? (i := 631) (by decide +kernel)⟩
def lw_privs_1 : List (MethodName × Nat) := [(⟨"ReplenishRules", "placeAt", "(I)LReplenishRules$Place;"⟩, 8), (⟨"java/lang/Throwable", "fillInStackTrace", "(I)Ljava/lang/Throwable;"⟩, 6), (⟨"ReplenishRules", "faceAt", "(I)LReplenishRules$Place;"⟩, 8), (⟨"ReplenishRules", "usedOnAllDays", "(LReplenishRules$Place;I)J"⟩, 8), (⟨"ReplenishRules", "forecastOf", "(LReplenishRules$Place;)J"⟩, 8), (⟨"ReplenishRules", "usedOnPastDays", "(LReplenishRules$Place;)J"⟩, 8), (⟨"ReplenishRules", "fadingUse", "(LReplenishRules$Place;)J"⟩, 8), (⟨"ReplenishRules", "thresholdOf", "(LReplenishRules$Place;)I"⟩, 8), (⟨"ReplenishRules", "needOf", "(LReplenishRules$Place;)J"⟩, 8), (⟨"ReplenishRules", "prepare", "(LReplenishRules$Place;)V"⟩, 8), (⟨"ReplenishRules", "wantedBy", "(LReplenishRules$Place;I)I"⟩, 8), (⟨"ReplenishRules", "needTimeOf", "(LReplenishRules$Place;)I"⟩, 8), (⟨"ReplenishRules", "mostUrgentFace", "()LReplenishRules$Place;"⟩, 8), (⟨"ReplenishRules", "serve", "(LReplenishRules$Place;)V"⟩, 8), (⟨"ReplenishRules", "takeFromReserves", "(LReplenishRules$Place;Z)V"⟩, 8), (⟨"ReplenishRules", "planMove", "(LReplenishRules$Place;LReplenishRules$Place;)V"⟩, 8)]
theorem lw_r1 : ∀ q ∈ lw_privs_1, lw_okq q := List.forall_mem_cons.mpr ⟨lw_p0, List.forall_mem_cons.mpr ⟨lw_p1, List.forall_mem_cons.mpr ⟨lw_p2, List.forall_mem_cons.mpr ⟨lw_p3, List.forall_mem_cons.mpr ⟨lw_p4, List.forall_mem_cons.mpr ⟨lw_p5, List.forall_mem_cons.mpr ⟨lw_p6, List.forall_mem_cons.mpr ⟨lw_p7, List.forall_mem_cons.mpr ⟨lw_p8, List.forall_mem_cons.mpr ⟨lw_p9, List.forall_mem_cons.mpr ⟨lw_p10, List.forall_mem_cons.mpr ⟨lw_p11, List.forall_mem_cons.mpr ⟨lw_p12, List.forall_mem_cons.mpr ⟨lw_p13, List.forall_mem_cons.mpr ⟨lw_p14, List.forall_mem_cons.mpr ⟨lw_p15, fun _ h => absurd h List.not_mem_nil⟩⟩⟩⟩⟩⟩⟩⟩⟩⟩⟩⟩⟩⟩⟩⟩
theorem lw_p16 : lw_okq (⟨"ReplenishRules$Plan", "joinTrip", "(I)V"⟩, 5) := ⟨⟨by decide +kernel, by decide +kernel⟩, List.mem_of_getElem? (i := 68) (by decide +kernel), List.mem_of_getElem? (i := 646) (by decide +kernel), List.mem_of_getElem? (i := 647) (by decide +kernel)⟩
theorem lw_p17 : lw_okq (⟨"ReplenishRulesModel", "holdsOther", "(II)Z"⟩, 33) := ⟨⟨by decide +kernel, by decide +kernel⟩, List.mem_of_getElem? (i := 704) (by decide +kernel), List.mem_of_getElem? (i := 829) (by decide +kernel), List.mem_of_getElem? (i := 830) (by decide +kernel)⟩
theorem lw_p18 : lw_okq (⟨"ReplenishRulesModel", "free", "(I)I"⟩, 33) := ⟨⟨by decide +kernel, by decide +kernel⟩, List.mem_of_getElem? (i := 704) (by decide +kernel), List.mem_of_getElem? (i := 841) (by decide +kernel), List.mem_of_getElem? (i := 842) (by decide +kernel)⟩
theorem lw_p19 : lw_okq (⟨"ReplenishRulesModel", "takes", "(II)V"⟩, 33) := ⟨⟨by decide +kernel, by decide +kernel⟩, List.mem_of_getElem? (i := 704) (by decide +kernel), List.mem_of_getElem? (i := 845) (by decide +kernel), List.mem_of_getElem? (i := 846) (by decide +kernel)⟩
theorem lw_p20 : lw_okq (⟨"ReplenishRulesModel", "openDays", "(I)I"⟩, 33) := ⟨⟨by decide +kernel, by decide +kernel⟩, List.mem_of_getElem? (i := 704) (by decide +kernel), List.mem_of_getElem? (i := 881) (by decide +kernel), List.mem_of_getElem? (i := 882) (by decide +kernel)⟩
theorem lw_p21 : lw_okq (⟨"ReplenishRulesModel", "sum", "(IIZ)I"⟩, 33) := ⟨⟨by decide +kernel, by decide +kernel⟩, List.mem_of_getElem? (i := 704) (by decide +kernel), List.mem_of_getElem? (i := 885) (by decide +kernel), List.mem_of_getElem? (i := 886) (by decide +kernel)⟩
theorem lw_p22 : lw_okq (⟨"ReplenishRulesModel", "asks", "(I)Z"⟩, 33) := ⟨⟨by decide +kernel, by decide +kernel⟩, List.mem_of_getElem? (i := 704) (by decide +kernel), List.mem_of_getElem? (i := 893) (by decide +kernel), List.mem_of_getElem? (i := 894) (by decide +kernel)⟩
theorem lw_p23 : lw_okq (⟨"ReplenishRulesModel", "foresees", "(I)J"⟩, 33) := ⟨⟨by decide +kernel, by decide +kernel⟩, List.mem_of_getElem? (i := 704) (by decide +kernel), List.mem_of_getElem? (i := 897) (by decide +kernel), List.mem_of_getElem? (i := 898) (by decide +kernel)⟩
theorem lw_p24 : lw_okq (⟨"ReplenishRulesModel", "kindOf", "(I)I"⟩, 33) := ⟨⟨by decide +kernel, by decide +kernel⟩, List.mem_of_getElem? (i := 704) (by decide +kernel), List.mem_of_getElem? (i := 901) (by decide +kernel), List.mem_of_getElem? (i := 902) (by decide +kernel)⟩
theorem lw_p25 : lw_okq (⟨"ReplenishRulesModel", "aheadOf", "(I)I"⟩, 33) := ⟨⟨by decide +kernel, by decide +kernel⟩, List.mem_of_getElem? (i := 704) (by decide +kernel), List.mem_of_getElem? (i := 905) (by decide +kernel), List.mem_of_getElem? (i := 906) (by decide +kernel)⟩
theorem lw_p26 : lw_okq (⟨"ReplenishRulesModel", "limit", "(I)I"⟩, 33) := ⟨⟨by decide +kernel, by decide +kernel⟩, List.mem_of_getElem? (i := 704) (by decide +kernel), List.mem_of_getElem? (i := 919) (by decide +kernel), List.mem_of_getElem? (i := 920) (by decide +kernel)⟩
theorem lw_p27 : lw_okq (⟨"ReplenishRulesModel", "wants", "(I)J"⟩, 33) := ⟨⟨by decide +kernel, by decide +kernel⟩, List.mem_of_getElem? (i := 704) (by decide +kernel), List.mem_of_getElem? (i := 923) (by decide +kernel), List.mem_of_getElem? (i := 924) (by decide +kernel)⟩
theorem lw_p28 : lw_okq (⟨"ReplenishRulesModel", "next", "()I"⟩, 33) := ⟨⟨by decide +kernel, by decide +kernel⟩, List.mem_of_getElem? (i := 704) (by decide +kernel), List.mem_of_getElem? (i := 935) (by decide +kernel), List.mem_of_getElem? (i := 936) (by decide +kernel)⟩
theorem lw_p29 : lw_okq (⟨"ReplenishRulesModel", "missing", "(I)I"⟩, 33) := ⟨⟨by decide +kernel, by decide +kernel⟩, List.mem_of_getElem? (i := 704) (by decide +kernel), List.mem_of_getElem? (i := 939) (by decide +kernel), List.mem_of_getElem? (i := 940) (by decide +kernel)⟩
theorem lw_p30 : lw_okq (⟨"ReplenishRulesModel", "needTime", "(I)I"⟩, 33) := ⟨⟨by decide +kernel, by decide +kernel⟩, List.mem_of_getElem? (i := 704) (by decide +kernel), List.mem_of_getElem? (i := 943) (by decide +kernel), List.mem_of_getElem? (i := 944) (by decide +kernel)⟩
theorem lw_p31 : lw_okq (⟨"ReplenishRulesModel", "reserve", "(I)I"⟩, 33) := ⟨⟨by decide +kernel, by decide +kernel⟩, List.mem_of_getElem? (i := 704) (by decide +kernel), List.mem_of_getElem? (i := 947) (by decide +kernel), List.mem_of_getElem? (i := 948) (by decide +kernel)⟩
def lw_privs_2 : List (MethodName × Nat) := [(⟨"ReplenishRules$Plan", "joinTrip", "(I)V"⟩, 5), (⟨"ReplenishRulesModel", "holdsOther", "(II)Z"⟩, 33), (⟨"ReplenishRulesModel", "free", "(I)I"⟩, 33), (⟨"ReplenishRulesModel", "takes", "(II)V"⟩, 33), (⟨"ReplenishRulesModel", "openDays", "(I)I"⟩, 33), (⟨"ReplenishRulesModel", "sum", "(IIZ)I"⟩, 33), (⟨"ReplenishRulesModel", "asks", "(I)Z"⟩, 33), (⟨"ReplenishRulesModel", "foresees", "(I)J"⟩, 33), (⟨"ReplenishRulesModel", "kindOf", "(I)I"⟩, 33), (⟨"ReplenishRulesModel", "aheadOf", "(I)I"⟩, 33), (⟨"ReplenishRulesModel", "limit", "(I)I"⟩, 33), (⟨"ReplenishRulesModel", "wants", "(I)J"⟩, 33), (⟨"ReplenishRulesModel", "next", "()I"⟩, 33), (⟨"ReplenishRulesModel", "missing", "(I)I"⟩, 33), (⟨"ReplenishRulesModel", "needTime", "(I)I"⟩, 33), (⟨"ReplenishRulesModel", "reserve", "(I)I"⟩, 33)]
theorem lw_r2 : ∀ q ∈ lw_privs_2, lw_okq q := List.forall_mem_cons.mpr ⟨lw_p16, List.forall_mem_cons.mpr ⟨lw_p17, List.forall_mem_cons.mpr ⟨lw_p18, List.forall_mem_cons.mpr ⟨lw_p19, List.forall_mem_cons.mpr ⟨lw_p20, List.forall_mem_cons.mpr ⟨lw_p21, List.forall_mem_cons.mpr ⟨lw_p22, List.forall_mem_cons.mpr ⟨lw_p23, List.forall_mem_cons.mpr ⟨lw_p24, List.forall_mem_cons.mpr ⟨lw_p25, List.forall_mem_cons.mpr ⟨lw_p26, List.forall_mem_cons.mpr ⟨lw_p27, List.forall_mem_cons.mpr ⟨lw_p28, List.forall_mem_cons.mpr ⟨lw_p29, List.forall_mem_cons.mpr ⟨lw_p30, List.forall_mem_cons.mpr ⟨lw_p31, fun _ h => absurd h List.not_mem_nil⟩⟩⟩⟩⟩⟩⟩⟩⟩⟩⟩⟩⟩⟩⟩⟩
theorem lw_p32 : lw_okq (⟨"ReplenishRulesModel", "left", "(I)I"⟩, 33) := ⟨⟨by decide +kernel, by decide +kernel⟩, List.mem_of_getElem? (i := 704) (by decide +kernel), List.mem_of_getElem? (i := 951) (by decide +kernel), List.mem_of_getElem? (i := 952) (by decide +kernel)⟩
theorem lw_p33 : lw_okq (⟨"ReplenishRulesModel", "plan", "(III)V"⟩, 33) := ⟨⟨by decide +kernel, by decide +kernel⟩, List.mem_of_getElem? (i := 704) (by decide +kernel), List.mem_of_getElem? (i := 955) (by decide +kernel), List.mem_of_getElem? (i := 956) (by decide +kernel)⟩
def lw_privs_3 : List (MethodName × Nat) := [(⟨"ReplenishRulesModel", "left", "(I)I"⟩, 33), (⟨"ReplenishRulesModel", "plan", "(III)V"⟩, 33)]
theorem lw_r3 : ∀ q ∈ lw_privs_3, lw_okq q := List.forall_mem_cons.mpr ⟨lw_p32, List.forall_mem_cons.mpr ⟨lw_p33, fun _ h => absurd h List.not_mem_nil⟩⟩
def lw_privs : List (MethodName × Nat) := lw_privs_1 ++ (lw_privs_2 ++ (lw_privs_3))
def lw_tbl : List Cond := k2_sels lw_privs ++ tables_1
theorem lw_privs_ok : ∀ q ∈ lw_privs, lw_okq q := by
  show ∀ q ∈ lw_privs_1 ++ (lw_privs_2 ++ (lw_privs_3)), lw_okq q
  exact List.forall_mem_append.mpr ⟨lw_r1, List.forall_mem_append.mpr ⟨lw_r2, lw_r3⟩⟩
end
section
def RX0 : String := "ReplenishRules$Calendar"
def TX0 : u_T := fun k => match k with
  | 0 => ("ReplenishRules$Calendar", "closed", "[Z", true)
  | _ => ("ReplenishRules$Calendar", "today", "I", false)
def tyX0 : Nat → FieldType := fun k => match k with
  | 0 => .array .boolean
  | _ => .int
theorem nmX0 : ∀ a, a < 2 → ∀ b, b < 2 → a ≠ b → (TX0 a).2.1 ≠ (TX0 b).2.1 := by decide +kernel
theorem tyX0_ok : ∀ k, k < 2 → parseFieldDescriptor (TX0 k).2.2.1 = some (tyX0 k) := by decide +kernel
def RX1 : String := "ReplenishRules$Move"
def TX1 : u_T := fun k => match k with
  | 0 => ("ReplenishRules$Move", "from", "I", false)
  | 1 => ("ReplenishRules$Move", "to", "I", false)
  | 2 => ("ReplenishRules$Move", "pieces", "I", false)
  | 3 => ("ReplenishRules$Move", "needTime", "I", false)
  | 4 => ("ReplenishRules$Move", "trip", "I", false)
  | 5 => ("ReplenishRules$Move", "emptiesReserve", "Z", false)
  | _ => ("ReplenishRules$Move", "isDone", "Z", false)
def tyX1 : Nat → FieldType := fun k => match k with
  | 0 => .int
  | 1 => .int
  | 2 => .int
  | 3 => .int
  | 4 => .int
  | 5 => .boolean
  | _ => .boolean
theorem nmX1 : ∀ a, a < 7 → ∀ b, b < 7 → a ≠ b → (TX1 a).2.1 ≠ (TX1 b).2.1 := by decide +kernel
theorem tyX1_ok : ∀ k, k < 7 → parseFieldDescriptor (TX1 k).2.2.1 = some (tyX1 k) := by decide +kernel
def RX2 : String := "ReplenishRules$Place"
def TX2 : u_T := fun k => match k with
  | 0 => ("ReplenishRules$Place", "number", "I", true)
  | 1 => ("ReplenishRules$Place", "used", "[I", true)
  | 2 => ("ReplenishRules$Place", "room", "I", false)
  | 3 => ("ReplenishRules$Place", "zone", "I", false)
  | 4 => ("ReplenishRules$Place", "pieces", "I", false)
  | 5 => ("ReplenishRules$Place", "held", "I", false)
  | 6 => ("ReplenishRules$Place", "good", "I", false)
  | 7 => ("ReplenishRules$Place", "faceGood", "I", false)
  | 8 => ("ReplenishRules$Place", "least", "I", false)
  | 9 => ("ReplenishRules$Place", "most", "I", false)
  | 10 => ("ReplenishRules$Place", "planned", "I", false)
  | 11 => ("ReplenishRules$Place", "wanted", "I", false)
  | _ => ("ReplenishRules$Place", "needTime", "I", false)
def tyX2 : Nat → FieldType := fun k => match k with
  | 0 => .int
  | 1 => .array .int
  | 2 => .int
  | 3 => .int
  | 4 => .int
  | 5 => .int
  | 6 => .int
  | 7 => .int
  | 8 => .int
  | 9 => .int
  | 10 => .int
  | 11 => .int
  | _ => .int
theorem nmX2 : ∀ a, a < 13 → ∀ b, b < 13 → a ≠ b → (TX2 a).2.1 ≠ (TX2 b).2.1 := by decide +kernel
theorem tyX2_ok : ∀ k, k < 13 → parseFieldDescriptor (TX2 k).2.2.1 = some (tyX2 k) := by decide +kernel
def RX3 : String := "ReplenishRules$Plan"
def TX3 : u_T := fun k => match k with
  | 0 => ("ReplenishRules$Plan", "moves", "[LReplenishRules$Move;", true)
  | 1 => ("ReplenishRules$Plan", "count", "I", false)
  | 2 => ("ReplenishRules$Plan", "trip", "I", false)
  | 3 => ("ReplenishRules$Plan", "tripZone", "I", false)
  | _ => ("ReplenishRules$Plan", "tripMoves", "I", false)
def tyX3 : Nat → FieldType := fun k => match k with
  | 0 => .array (.object "ReplenishRules$Move")
  | 1 => .int
  | 2 => .int
  | 3 => .int
  | _ => .int
theorem nmX3 : ∀ a, a < 5 → ∀ b, b < 5 → a ≠ b → (TX3 a).2.1 ≠ (TX3 b).2.1 := by decide +kernel
theorem tyX3_ok : ∀ k, k < 5 → parseFieldDescriptor (TX3 k).2.2.1 = some (tyX3 k) := by decide +kernel
def RX4 : String := "ReplenishRules$Rule"
def TX4 : u_T := fun k => match k with
  | 0 => ("ReplenishRules$Rule", "kind", "I", false)
  | 1 => ("ReplenishRules$Rule", "ahead", "I", false)
  | _ => ("ReplenishRules$Rule", "until", "I", false)
def tyX4 : Nat → FieldType := fun k => match k with
  | 0 => .int
  | 1 => .int
  | _ => .int
theorem nmX4 : ∀ a, a < 3 → ∀ b, b < 3 → a ≠ b → (TX4 a).2.1 ≠ (TX4 b).2.1 := by decide +kernel
theorem tyX4_ok : ∀ k, k < 3 → parseFieldDescriptor (TX4 k).2.2.1 = some (tyX4 k) := by decide +kernel
def RX5 : String := "ReplenishRules$Waves"
def TX5 : u_T := fun k => match k with
  | 0 => ("ReplenishRules$Waves", "faces", "[I", true)
  | 1 => ("ReplenishRules$Waves", "pieces", "[I", true)
  | 2 => ("ReplenishRules$Waves", "days", "[I", true)
  | _ => ("ReplenishRules$Waves", "count", "I", false)
def tyX5 : Nat → FieldType := fun k => match k with
  | 0 => .array .int
  | 1 => .array .int
  | 2 => .array .int
  | _ => .int
theorem nmX5 : ∀ a, a < 4 → ∀ b, b < 4 → a ≠ b → (TX5 a).2.1 ≠ (TX5 b).2.1 := by decide +kernel
theorem tyX5_ok : ∀ k, k < 4 → parseFieldDescriptor (TX5 k).2.2.1 = some (tyX5 k) := by decide +kernel
def RX6 : String := "ReplenishRules"
def TX6 : u_T := fun k => match k with
  | 0 => ("ReplenishRules", "places", "[LReplenishRules$Place;", true)
  | 1 => ("ReplenishRules", "rules", "[LReplenishRules$Rule;", true)
  | 2 => ("ReplenishRules", "casePieces", "[I", true)
  | 3 => ("ReplenishRules", "ups", "[I", true)
  | 4 => ("ReplenishRules", "downs", "[I", true)
  | 5 => ("ReplenishRules", "calendar", "LReplenishRules$Calendar;", true)
  | 6 => ("ReplenishRules", "waves", "LReplenishRules$Waves;", true)
  | _ => ("ReplenishRules", "plan", "LReplenishRules$Plan;", true)
def tyX6 : Nat → FieldType := fun k => match k with
  | 0 => .array (.object "ReplenishRules$Place")
  | 1 => .array (.object "ReplenishRules$Rule")
  | 2 => .array .int
  | 3 => .array .int
  | 4 => .array .int
  | 5 => .object "ReplenishRules$Calendar"
  | 6 => .object "ReplenishRules$Waves"
  | _ => .object "ReplenishRules$Plan"
theorem nmX6 : ∀ a, a < 8 → ∀ b, b < 8 → a ≠ b → (TX6 a).2.1 ≠ (TX6 b).2.1 := by decide +kernel
theorem tyX6_ok : ∀ k, k < 8 → parseFieldDescriptor (TX6 k).2.2.1 = some (tyX6 k) := by decide +kernel
def RX7 : String := "ReplenishRulesModel"
def TX7 : u_T := fun k => match k with
  | 0 => ("ReplenishRulesModel", "thrown", "I", false)
  | 1 => ("ReplenishRulesModel", "room", "[I", true)
  | 2 => ("ReplenishRulesModel", "zone", "[I", true)
  | 3 => ("ReplenishRulesModel", "pieces", "[I", true)
  | 4 => ("ReplenishRulesModel", "good", "[I", true)
  | 5 => ("ReplenishRulesModel", "held", "[I", true)
  | 6 => ("ReplenishRulesModel", "isFace", "[Z", true)
  | 7 => ("ReplenishRulesModel", "faceGood", "[I", true)
  | 8 => ("ReplenishRulesModel", "least", "[I", true)
  | 9 => ("ReplenishRulesModel", "most", "[I", true)
  | 10 => ("ReplenishRulesModel", "caseOf", "[I", true)
  | 11 => ("ReplenishRulesModel", "closed", "[Z", true)
  | 12 => ("ReplenishRulesModel", "used", "[I", true)
  | 13 => ("ReplenishRulesModel", "kinds", "[I", true)
  | 14 => ("ReplenishRulesModel", "aheads", "[I", true)
  | 15 => ("ReplenishRulesModel", "untils", "[I", true)
  | 16 => ("ReplenishRulesModel", "ups", "[I", true)
  | 17 => ("ReplenishRulesModel", "downs", "[I", true)
  | 18 => ("ReplenishRulesModel", "today", "I", false)
  | 19 => ("ReplenishRulesModel", "waves", "I", false)
  | 20 => ("ReplenishRulesModel", "wavePlace", "[I", true)
  | 21 => ("ReplenishRulesModel", "waveMany", "[I", true)
  | 22 => ("ReplenishRulesModel", "waveDay", "[I", true)
  | 23 => ("ReplenishRulesModel", "moves", "I", false)
  | 24 => ("ReplenishRulesModel", "from", "[I", true)
  | 25 => ("ReplenishRulesModel", "to", "[I", true)
  | 26 => ("ReplenishRulesModel", "many", "[I", true)
  | 27 => ("ReplenishRulesModel", "needs", "[I", true)
  | 28 => ("ReplenishRulesModel", "trips", "[I", true)
  | 29 => ("ReplenishRulesModel", "isLast", "[Z", true)
  | 30 => ("ReplenishRulesModel", "isDone", "[Z", true)
  | 31 => ("ReplenishRulesModel", "planned", "[I", true)
  | _ => ("ReplenishRulesModel", "gone", "[Z", true)
def tyX7 : Nat → FieldType := fun k => match k with
  | 0 => .int
  | 1 => .array .int
  | 2 => .array .int
  | 3 => .array .int
  | 4 => .array .int
  | 5 => .array .int
  | 6 => .array .boolean
  | 7 => .array .int
  | 8 => .array .int
  | 9 => .array .int
  | 10 => .array .int
  | 11 => .array .boolean
  | 12 => .array .int
  | 13 => .array .int
  | 14 => .array .int
  | 15 => .array .int
  | 16 => .array .int
  | 17 => .array .int
  | 18 => .int
  | 19 => .int
  | 20 => .array .int
  | 21 => .array .int
  | 22 => .array .int
  | 23 => .int
  | 24 => .array .int
  | 25 => .array .int
  | 26 => .array .int
  | 27 => .array .int
  | 28 => .array .int
  | 29 => .array .boolean
  | 30 => .array .boolean
  | 31 => .array .int
  | _ => .array .boolean
theorem nmX7 : ∀ a, a < 33 → ∀ b, b < 33 → a ≠ b → (TX7 a).2.1 ≠ (TX7 b).2.1 := by decide +kernel
theorem tyX7_ok : ∀ k, k < 33 → parseFieldDescriptor (TX7 k).2.2.1 = some (tyX7 k) := by decide +kernel
def RL : String := "ReplenishRulesLaw"
abbrev vwCl : List vw_C := [(RX0, TX0, 2), (RX1, TX1, 7), (RX2, TX2, 13), (RX3, TX3, 5), (RX4, TX4, 3), (RX5, TX5, 4), (RX6, TX6, 8), (RX7, TX7, 33)]
/-- the tables' words that stay true as the machine goes on -/
def wG : List Cond := lw_tbl.filter goodWord
theorem mG {w : Cond} (i : Nat) (h : tables_1[i]? = some w) (hg : goodWord w = true) : w ∈ wG := List.mem_filter.mpr ⟨List.mem_append_right _ (List.mem_of_getElem? h), hg⟩
theorem mS {w : Cond} (i : Nat) (h : (k2_sels lw_privs)[i]? = some w) (hg : goodWord w = true) : w ∈ wG := List.mem_filter.mpr ⟨List.mem_append_left _ (List.mem_of_getElem? h), hg⟩
theorem gG {ws : List Cond} (h : ∀ w ∈ ws, w ∈ wG) : GoodIn wG ws := fun w hw => ⟨h w hw, good_of_word (List.mem_filter.mp (h w hw)).2⟩
theorem gV {own C : String} {i : Nat} {y : MethodName} {cw : Cond} (a : Cond.methodLink own i y ∈ wG) (b : Cond.instanceMethod y ∈ wG) (c : Cond.selects C y y ∈ wG) (d : Cond.initialized C ∈ wG) (e : cw ∈ wG) : GoodIn wG (wsV own i C y (cw :: wG)) := gG fun w hw => by
  simp only [wsV, List.mem_append, List.mem_cons, List.not_mem_nil, or_false] at hw
  rcases hw with (rfl | rfl | rfl | rfl) | rfl | hw <;> assumption
theorem gS {own : String} {i : Nat} {y : MethodName} {cw : Cond} (a : Cond.methodLink own i y ∈ wG) (b : Cond.static y ∈ wG) (d : Cond.initialized own ∈ wG) (e : cw ∈ wG) : GoodIn wG (wsS own i y (cw :: wG)) := gG fun w hw => by
  simp only [wsS, List.mem_append, List.mem_cons, List.not_mem_nil, or_false] at hw
  rcases hw with (rfl | rfl | rfl) | rfl | hw <;> assumption
theorem gI {cw : Cond} (e : cw ∈ wG) : GoodIn wG (cw :: wG) := gG fun w hw => by
  rcases List.mem_cons.mp hw with rfl | hw
  · exact e
  · exact hw
theorem hinX0 : ∀ w ∈ u_ws RX0 TX0 2, w ∈ wG := fun w hw => List.mem_filter.mpr ⟨(by decide +kernel : ∀ w ∈ u_ws RX0 TX0 2, w ∈ lw_tbl) w hw, (by decide +kernel : ∀ w ∈ u_ws RX0 TX0 2, goodWord w = true) w hw⟩
theorem hinX1 : ∀ w ∈ u_ws RX1 TX1 7, w ∈ wG := fun w hw => List.mem_filter.mpr ⟨(by decide +kernel : ∀ w ∈ u_ws RX1 TX1 7, w ∈ lw_tbl) w hw, (by decide +kernel : ∀ w ∈ u_ws RX1 TX1 7, goodWord w = true) w hw⟩
theorem hinX2 : ∀ w ∈ u_ws RX2 TX2 13, w ∈ wG := fun w hw => List.mem_filter.mpr ⟨(by decide +kernel : ∀ w ∈ u_ws RX2 TX2 13, w ∈ lw_tbl) w hw, (by decide +kernel : ∀ w ∈ u_ws RX2 TX2 13, goodWord w = true) w hw⟩
theorem hinX3 : ∀ w ∈ u_ws RX3 TX3 5, w ∈ wG := fun w hw => List.mem_filter.mpr ⟨(by decide +kernel : ∀ w ∈ u_ws RX3 TX3 5, w ∈ lw_tbl) w hw, (by decide +kernel : ∀ w ∈ u_ws RX3 TX3 5, goodWord w = true) w hw⟩
theorem hinX4 : ∀ w ∈ u_ws RX4 TX4 3, w ∈ wG := fun w hw => List.mem_filter.mpr ⟨(by decide +kernel : ∀ w ∈ u_ws RX4 TX4 3, w ∈ lw_tbl) w hw, (by decide +kernel : ∀ w ∈ u_ws RX4 TX4 3, goodWord w = true) w hw⟩
theorem hinX5 : ∀ w ∈ u_ws RX5 TX5 4, w ∈ wG := fun w hw => List.mem_filter.mpr ⟨(by decide +kernel : ∀ w ∈ u_ws RX5 TX5 4, w ∈ lw_tbl) w hw, (by decide +kernel : ∀ w ∈ u_ws RX5 TX5 4, goodWord w = true) w hw⟩
theorem hinX6 : ∀ w ∈ u_ws RX6 TX6 8, w ∈ wG := fun w hw => List.mem_filter.mpr ⟨(by decide +kernel : ∀ w ∈ u_ws RX6 TX6 8, w ∈ lw_tbl) w hw, (by decide +kernel : ∀ w ∈ u_ws RX6 TX6 8, goodWord w = true) w hw⟩
theorem hinX7 : ∀ w ∈ u_ws RX7 TX7 33, w ∈ wG := fun w hw => List.mem_filter.mpr ⟨(by decide +kernel : ∀ w ∈ u_ws RX7 TX7 33, w ∈ lw_tbl) w hw, (by decide +kernel : ∀ w ∈ u_ws RX7 TX7 33, goodWord w = true) w hw⟩
end
section
abbrev cX0_init : ByteArray := prog_2_method_1_code
def yX0_init : MethodName := ⟨RX0, "<init>", "()V"⟩
abbrev wX0_init : Cond := .code yX0_init cX0_init 1 none
theorem kX0_init : wX0_init ∈ wG := mG 34 (by decide +kernel) rfl
theorem dX0_init_0 : decode cX0_init 0 = .ok (.aload_n 0, 1) := by decide +kernel
theorem dX0_init_1 : decode cX0_init 1 = .ok (.invokespecial 3, 3) := by decide +kernel
theorem dX0_init_4 : decode cX0_init 4 = .ok (.aload_n 0, 1) := by decide +kernel
theorem dX0_init_5 : decode cX0_init 5 = .ok (.sipush 400, 3) := by decide +kernel
theorem dX0_init_8 : decode cX0_init 8 = .ok (.newarray .boolean, 2) := by decide +kernel
theorem dX0_init_10 : decode cX0_init 10 = .ok (.putfield 9, 3) := by decide +kernel
theorem dX0_init_13 : decode cX0_init 13 = .ok (.aload_n 0, 1) := by decide +kernel
theorem dX0_init_14 : decode cX0_init 14 = .ok (.iconst 0, 1) := by decide +kernel
theorem dX0_init_15 : decode cX0_init 15 = .ok (.putfield 15, 3) := by decide +kernel
theorem dX0_init_18 : decode cX0_init 18 = .ok (.return_, 1) := by decide +kernel
abbrev cX0_isOpen : ByteArray := prog_2_method_2_code
def yX0_isOpen : MethodName := ⟨RX0, "isOpen", "(I)Z"⟩
abbrev wX0_isOpen : Cond := .code yX0_isOpen cX0_isOpen 2 (some .boolean)
theorem kX0_isOpen : wX0_isOpen ∈ wG := mG 491 (by decide +kernel) rfl
theorem dX0_isOpen_0 : decode cX0_isOpen 0 = .ok (.aload_n 0, 1) := by decide +kernel
theorem dX0_isOpen_1 : decode cX0_isOpen 1 = .ok (.getfield 9, 3) := by decide +kernel
theorem dX0_isOpen_4 : decode cX0_isOpen 4 = .ok (.iload_n 1, 1) := by decide +kernel
theorem dX0_isOpen_5 : decode cX0_isOpen 5 = .ok (.baload, 1) := by decide +kernel
theorem dX0_isOpen_6 : decode cX0_isOpen 6 = .ok (.ifCond .ne 7, 3) := by decide +kernel
theorem dX0_isOpen_9 : decode cX0_isOpen 9 = .ok (.iconst 1, 1) := by decide +kernel
theorem dX0_isOpen_10 : decode cX0_isOpen 10 = .ok (.goto 4, 3) := by decide +kernel
theorem dX0_isOpen_13 : decode cX0_isOpen 13 = .ok (.iconst 0, 1) := by decide +kernel
theorem dX0_isOpen_14 : decode cX0_isOpen 14 = .ok (.ireturn, 1) := by decide +kernel
abbrev cX0_month : ByteArray := prog_2_method_3_code
def yX0_month : MethodName := ⟨RX0, "month", "()I"⟩
abbrev wX0_month : Cond := .code yX0_month cX0_month 1 (some .int)
theorem kX0_month : wX0_month ∈ wG := mG 531 (by decide +kernel) rfl
theorem dX0_month_0 : decode cX0_month 0 = .ok (.aload_n 0, 1) := by decide +kernel
theorem dX0_month_1 : decode cX0_month 1 = .ok (.getfield 15, 3) := by decide +kernel
theorem dX0_month_4 : decode cX0_month 4 = .ok (.bipush 30, 2) := by decide +kernel
theorem dX0_month_6 : decode cX0_month 6 = .ok (.idiv, 1) := by decide +kernel
theorem dX0_month_7 : decode cX0_month 7 = .ok (.bipush 12, 2) := by decide +kernel
theorem dX0_month_9 : decode cX0_month 9 = .ok (.irem, 1) := by decide +kernel
theorem dX0_month_10 : decode cX0_month 10 = .ok (.ireturn, 1) := by decide +kernel
abbrev cX0_firstOf : ByteArray := prog_2_method_4_code
def yX0_firstOf : MethodName := ⟨RX0, "firstOf", "(I)I"⟩
abbrev wX0_firstOf : Cond := .code yX0_firstOf cX0_firstOf 2 (some .int)
theorem kX0_firstOf : wX0_firstOf ∈ wG := mG 487 (by decide +kernel) rfl
theorem dX0_firstOf_0 : decode cX0_firstOf 0 = .ok (.aload_n 0, 1) := by decide +kernel
theorem dX0_firstOf_1 : decode cX0_firstOf 1 = .ok (.getfield 15, 3) := by decide +kernel
theorem dX0_firstOf_4 : decode cX0_firstOf 4 = .ok (.iload_n 1, 1) := by decide +kernel
theorem dX0_firstOf_5 : decode cX0_firstOf 5 = .ok (.if_icmp .le 12, 3) := by decide +kernel
theorem dX0_firstOf_8 : decode cX0_firstOf 8 = .ok (.aload_n 0, 1) := by decide +kernel
theorem dX0_firstOf_9 : decode cX0_firstOf 9 = .ok (.getfield 15, 3) := by decide +kernel
theorem dX0_firstOf_12 : decode cX0_firstOf 12 = .ok (.iload_n 1, 1) := by decide +kernel
theorem dX0_firstOf_13 : decode cX0_firstOf 13 = .ok (.isub, 1) := by decide +kernel
theorem dX0_firstOf_14 : decode cX0_firstOf 14 = .ok (.goto 4, 3) := by decide +kernel
theorem dX0_firstOf_17 : decode cX0_firstOf 17 = .ok (.iconst 0, 1) := by decide +kernel
theorem dX0_firstOf_18 : decode cX0_firstOf 18 = .ok (.ireturn, 1) := by decide +kernel
abbrev cX0_openDays : ByteArray := prog_2_method_5_code
def yX0_openDays : MethodName := ⟨RX0, "openDays", "(I)I"⟩
abbrev wX0_openDays : Cond := .code yX0_openDays cX0_openDays 4 (some .int)
theorem kX0_openDays : wX0_openDays ∈ wG := mG 483 (by decide +kernel) rfl
theorem dX0_openDays_0 : decode cX0_openDays 0 = .ok (.iconst 0, 1) := by decide +kernel
theorem dX0_openDays_1 : decode cX0_openDays 1 = .ok (.istore_n 2, 1) := by decide +kernel
theorem dX0_openDays_2 : decode cX0_openDays 2 = .ok (.aload_n 0, 1) := by decide +kernel
theorem dX0_openDays_3 : decode cX0_openDays 3 = .ok (.iload_n 1, 1) := by decide +kernel
theorem dX0_openDays_4 : decode cX0_openDays 4 = .ok (.invokevirtual 19, 3) := by decide +kernel
theorem dX0_openDays_7 : decode cX0_openDays 7 = .ok (.istore_n 3, 1) := by decide +kernel
theorem dX0_openDays_8 : decode cX0_openDays 8 = .ok (.iload_n 3, 1) := by decide +kernel
theorem dX0_openDays_9 : decode cX0_openDays 9 = .ok (.aload_n 0, 1) := by decide +kernel
theorem dX0_openDays_10 : decode cX0_openDays 10 = .ok (.getfield 15, 3) := by decide +kernel
theorem dX0_openDays_13 : decode cX0_openDays 13 = .ok (.if_icmp .ge 20, 3) := by decide +kernel
theorem dX0_openDays_16 : decode cX0_openDays 16 = .ok (.aload_n 0, 1) := by decide +kernel
theorem dX0_openDays_17 : decode cX0_openDays 17 = .ok (.iload_n 3, 1) := by decide +kernel
theorem dX0_openDays_18 : decode cX0_openDays 18 = .ok (.invokevirtual 23, 3) := by decide +kernel
theorem dX0_openDays_21 : decode cX0_openDays 21 = .ok (.ifCond .eq 6, 3) := by decide +kernel
theorem dX0_openDays_24 : decode cX0_openDays 24 = .ok (.iinc 2 1, 3) := by decide +kernel
theorem dX0_openDays_27 : decode cX0_openDays 27 = .ok (.iinc 3 1, 3) := by decide +kernel
theorem dX0_openDays_30 : decode cX0_openDays 30 = .ok (.goto (-22), 3) := by decide +kernel
theorem dX0_openDays_33 : decode cX0_openDays 33 = .ok (.iload_n 2, 1) := by decide +kernel
theorem dX0_openDays_34 : decode cX0_openDays 34 = .ok (.ireturn, 1) := by decide +kernel
abbrev cX1_init : ByteArray := prog_3_method_1_code
def yX1_init : MethodName := ⟨RX1, "<init>", "()V"⟩
abbrev wX1_init : Cond := .code yX1_init cX1_init 1 none
theorem kX1_init : wX1_init ∈ wG := mG 78 (by decide +kernel) rfl
theorem dX1_init_0 : decode cX1_init 0 = .ok (.aload_n 0, 1) := by decide +kernel
theorem dX1_init_1 : decode cX1_init 1 = .ok (.invokespecial 1, 3) := by decide +kernel
theorem dX1_init_4 : decode cX1_init 4 = .ok (.aload_n 0, 1) := by decide +kernel
theorem dX1_init_5 : decode cX1_init 5 = .ok (.iconst 0, 1) := by decide +kernel
theorem dX1_init_6 : decode cX1_init 6 = .ok (.putfield 7, 3) := by decide +kernel
theorem dX1_init_9 : decode cX1_init 9 = .ok (.aload_n 0, 1) := by decide +kernel
theorem dX1_init_10 : decode cX1_init 10 = .ok (.iconst 0, 1) := by decide +kernel
theorem dX1_init_11 : decode cX1_init 11 = .ok (.putfield 13, 3) := by decide +kernel
theorem dX1_init_14 : decode cX1_init 14 = .ok (.aload_n 0, 1) := by decide +kernel
theorem dX1_init_15 : decode cX1_init 15 = .ok (.iconst 0, 1) := by decide +kernel
theorem dX1_init_16 : decode cX1_init 16 = .ok (.putfield 16, 3) := by decide +kernel
theorem dX1_init_19 : decode cX1_init 19 = .ok (.aload_n 0, 1) := by decide +kernel
theorem dX1_init_20 : decode cX1_init 20 = .ok (.iconst 0, 1) := by decide +kernel
theorem dX1_init_21 : decode cX1_init 21 = .ok (.putfield 19, 3) := by decide +kernel
theorem dX1_init_24 : decode cX1_init 24 = .ok (.aload_n 0, 1) := by decide +kernel
theorem dX1_init_25 : decode cX1_init 25 = .ok (.iconst 0, 1) := by decide +kernel
theorem dX1_init_26 : decode cX1_init 26 = .ok (.putfield 22, 3) := by decide +kernel
theorem dX1_init_29 : decode cX1_init 29 = .ok (.aload_n 0, 1) := by decide +kernel
theorem dX1_init_30 : decode cX1_init 30 = .ok (.iconst 0, 1) := by decide +kernel
theorem dX1_init_31 : decode cX1_init 31 = .ok (.putfield 25, 3) := by decide +kernel
theorem dX1_init_34 : decode cX1_init 34 = .ok (.aload_n 0, 1) := by decide +kernel
theorem dX1_init_35 : decode cX1_init 35 = .ok (.iconst 0, 1) := by decide +kernel
theorem dX1_init_36 : decode cX1_init 36 = .ok (.putfield 29, 3) := by decide +kernel
theorem dX1_init_39 : decode cX1_init 39 = .ok (.return_, 1) := by decide +kernel
abbrev cX1_tell : ByteArray := prog_3_method_2_code
def yX1_tell : MethodName := ⟨RX1, "tell", "(I)I"⟩
abbrev wX1_tell : Cond := .code yX1_tell cX1_tell 2 (some .int)
theorem kX1_tell : wX1_tell ∈ wG := mG 681 (by decide +kernel) rfl
theorem dX1_tell_0 : decode cX1_tell 0 = .ok (.iload_n 1, 1) := by decide +kernel
theorem dX1_tell_1 : decode cX1_tell 1 = .ok (.tableswitch 77 0 5 #[39, 44, 49, 54, 59, 64], 39) := by decide +kernel
theorem dX1_tell_40 : decode cX1_tell 40 = .ok (.aload_n 0, 1) := by decide +kernel
theorem dX1_tell_41 : decode cX1_tell 41 = .ok (.getfield 7, 3) := by decide +kernel
theorem dX1_tell_44 : decode cX1_tell 44 = .ok (.ireturn, 1) := by decide +kernel
theorem dX1_tell_45 : decode cX1_tell 45 = .ok (.aload_n 0, 1) := by decide +kernel
theorem dX1_tell_46 : decode cX1_tell 46 = .ok (.getfield 13, 3) := by decide +kernel
theorem dX1_tell_49 : decode cX1_tell 49 = .ok (.ireturn, 1) := by decide +kernel
theorem dX1_tell_50 : decode cX1_tell 50 = .ok (.aload_n 0, 1) := by decide +kernel
theorem dX1_tell_51 : decode cX1_tell 51 = .ok (.getfield 16, 3) := by decide +kernel
theorem dX1_tell_54 : decode cX1_tell 54 = .ok (.ireturn, 1) := by decide +kernel
theorem dX1_tell_55 : decode cX1_tell 55 = .ok (.aload_n 0, 1) := by decide +kernel
theorem dX1_tell_56 : decode cX1_tell 56 = .ok (.getfield 19, 3) := by decide +kernel
theorem dX1_tell_59 : decode cX1_tell 59 = .ok (.ireturn, 1) := by decide +kernel
theorem dX1_tell_60 : decode cX1_tell 60 = .ok (.aload_n 0, 1) := by decide +kernel
theorem dX1_tell_61 : decode cX1_tell 61 = .ok (.getfield 22, 3) := by decide +kernel
theorem dX1_tell_64 : decode cX1_tell 64 = .ok (.ireturn, 1) := by decide +kernel
theorem dX1_tell_65 : decode cX1_tell 65 = .ok (.aload_n 0, 1) := by decide +kernel
theorem dX1_tell_66 : decode cX1_tell 66 = .ok (.getfield 25, 3) := by decide +kernel
theorem dX1_tell_69 : decode cX1_tell 69 = .ok (.ifCond .eq 7, 3) := by decide +kernel
theorem dX1_tell_72 : decode cX1_tell 72 = .ok (.iconst 1, 1) := by decide +kernel
theorem dX1_tell_73 : decode cX1_tell 73 = .ok (.goto 4, 3) := by decide +kernel
theorem dX1_tell_76 : decode cX1_tell 76 = .ok (.iconst 0, 1) := by decide +kernel
theorem dX1_tell_77 : decode cX1_tell 77 = .ok (.ireturn, 1) := by decide +kernel
theorem dX1_tell_78 : decode cX1_tell 78 = .ok (.aload_n 0, 1) := by decide +kernel
theorem dX1_tell_79 : decode cX1_tell 79 = .ok (.getfield 29, 3) := by decide +kernel
theorem dX1_tell_82 : decode cX1_tell 82 = .ok (.ifCond .eq 7, 3) := by decide +kernel
theorem dX1_tell_85 : decode cX1_tell 85 = .ok (.iconst 1, 1) := by decide +kernel
theorem dX1_tell_86 : decode cX1_tell 86 = .ok (.goto 4, 3) := by decide +kernel
theorem dX1_tell_89 : decode cX1_tell 89 = .ok (.iconst 0, 1) := by decide +kernel
theorem dX1_tell_90 : decode cX1_tell 90 = .ok (.ireturn, 1) := by decide +kernel
abbrev cX2_init : ByteArray := prog_4_method_1_code
def yX2_init : MethodName := ⟨RX2, "<init>", "(I)V"⟩
abbrev wX2_init : Cond := .code yX2_init cX2_init 2 none
theorem kX2_init : wX2_init ∈ wG := mG 133 (by decide +kernel) rfl
theorem dX2_init_0 : decode cX2_init 0 = .ok (.aload_n 0, 1) := by decide +kernel
theorem dX2_init_1 : decode cX2_init 1 = .ok (.invokespecial 3, 3) := by decide +kernel
theorem dX2_init_4 : decode cX2_init 4 = .ok (.aload_n 0, 1) := by decide +kernel
theorem dX2_init_5 : decode cX2_init 5 = .ok (.sipush 400, 3) := by decide +kernel
theorem dX2_init_8 : decode cX2_init 8 = .ok (.newarray .int, 2) := by decide +kernel
theorem dX2_init_10 : decode cX2_init 10 = .ok (.putfield 9, 3) := by decide +kernel
theorem dX2_init_13 : decode cX2_init 13 = .ok (.aload_n 0, 1) := by decide +kernel
theorem dX2_init_14 : decode cX2_init 14 = .ok (.sipush 1000, 3) := by decide +kernel
theorem dX2_init_17 : decode cX2_init 17 = .ok (.putfield 15, 3) := by decide +kernel
theorem dX2_init_20 : decode cX2_init 20 = .ok (.aload_n 0, 1) := by decide +kernel
theorem dX2_init_21 : decode cX2_init 21 = .ok (.iconst 0, 1) := by decide +kernel
theorem dX2_init_22 : decode cX2_init 22 = .ok (.putfield 19, 3) := by decide +kernel
theorem dX2_init_25 : decode cX2_init 25 = .ok (.aload_n 0, 1) := by decide +kernel
theorem dX2_init_26 : decode cX2_init 26 = .ok (.iconst 0, 1) := by decide +kernel
theorem dX2_init_27 : decode cX2_init 27 = .ok (.putfield 22, 3) := by decide +kernel
theorem dX2_init_30 : decode cX2_init 30 = .ok (.aload_n 0, 1) := by decide +kernel
theorem dX2_init_31 : decode cX2_init 31 = .ok (.iconst 0, 1) := by decide +kernel
theorem dX2_init_32 : decode cX2_init 32 = .ok (.putfield 25, 3) := by decide +kernel
theorem dX2_init_35 : decode cX2_init 35 = .ok (.aload_n 0, 1) := by decide +kernel
theorem dX2_init_36 : decode cX2_init 36 = .ok (.iconst (-1), 1) := by decide +kernel
theorem dX2_init_37 : decode cX2_init 37 = .ok (.putfield 28, 3) := by decide +kernel
theorem dX2_init_40 : decode cX2_init 40 = .ok (.aload_n 0, 1) := by decide +kernel
theorem dX2_init_41 : decode cX2_init 41 = .ok (.iconst (-1), 1) := by decide +kernel
theorem dX2_init_42 : decode cX2_init 42 = .ok (.putfield 31, 3) := by decide +kernel
theorem dX2_init_45 : decode cX2_init 45 = .ok (.aload_n 0, 1) := by decide +kernel
theorem dX2_init_46 : decode cX2_init 46 = .ok (.iconst 0, 1) := by decide +kernel
theorem dX2_init_47 : decode cX2_init 47 = .ok (.putfield 34, 3) := by decide +kernel
theorem dX2_init_50 : decode cX2_init 50 = .ok (.aload_n 0, 1) := by decide +kernel
theorem dX2_init_51 : decode cX2_init 51 = .ok (.iconst 0, 1) := by decide +kernel
theorem dX2_init_52 : decode cX2_init 52 = .ok (.putfield 37, 3) := by decide +kernel
theorem dX2_init_55 : decode cX2_init 55 = .ok (.aload_n 0, 1) := by decide +kernel
theorem dX2_init_56 : decode cX2_init 56 = .ok (.iconst 0, 1) := by decide +kernel
theorem dX2_init_57 : decode cX2_init 57 = .ok (.putfield 40, 3) := by decide +kernel
theorem dX2_init_60 : decode cX2_init 60 = .ok (.aload_n 0, 1) := by decide +kernel
theorem dX2_init_61 : decode cX2_init 61 = .ok (.iconst 0, 1) := by decide +kernel
theorem dX2_init_62 : decode cX2_init 62 = .ok (.putfield 43, 3) := by decide +kernel
theorem dX2_init_65 : decode cX2_init 65 = .ok (.aload_n 0, 1) := by decide +kernel
theorem dX2_init_66 : decode cX2_init 66 = .ok (.iconst 0, 1) := by decide +kernel
theorem dX2_init_67 : decode cX2_init 67 = .ok (.putfield 46, 3) := by decide +kernel
theorem dX2_init_70 : decode cX2_init 70 = .ok (.aload_n 0, 1) := by decide +kernel
theorem dX2_init_71 : decode cX2_init 71 = .ok (.iload_n 1, 1) := by decide +kernel
theorem dX2_init_72 : decode cX2_init 72 = .ok (.putfield 49, 3) := by decide +kernel
theorem dX2_init_75 : decode cX2_init 75 = .ok (.return_, 1) := by decide +kernel
abbrev cX2_isFace : ByteArray := prog_4_method_2_code
def yX2_isFace : MethodName := ⟨RX2, "isFace", "()Z"⟩
abbrev wX2_isFace : Cond := .code yX2_isFace cX2_isFace 1 (some .boolean)
theorem kX2_isFace : wX2_isFace ∈ wG := mG 364 (by decide +kernel) rfl
theorem dX2_isFace_0 : decode cX2_isFace 0 = .ok (.aload_n 0, 1) := by decide +kernel
theorem dX2_isFace_1 : decode cX2_isFace 1 = .ok (.getfield 31, 3) := by decide +kernel
theorem dX2_isFace_4 : decode cX2_isFace 4 = .ok (.iconst (-1), 1) := by decide +kernel
theorem dX2_isFace_5 : decode cX2_isFace 5 = .ok (.if_icmp .eq 7, 3) := by decide +kernel
theorem dX2_isFace_8 : decode cX2_isFace 8 = .ok (.iconst 1, 1) := by decide +kernel
theorem dX2_isFace_9 : decode cX2_isFace 9 = .ok (.goto 4, 3) := by decide +kernel
theorem dX2_isFace_12 : decode cX2_isFace 12 = .ok (.iconst 0, 1) := by decide +kernel
theorem dX2_isFace_13 : decode cX2_isFace 13 = .ok (.ireturn, 1) := by decide +kernel
abbrev cX2_isFaceOfAnother : ByteArray := prog_4_method_3_code
def yX2_isFaceOfAnother : MethodName := ⟨RX2, "isFaceOfAnother", "(I)Z"⟩
abbrev wX2_isFaceOfAnother : Cond := .code yX2_isFaceOfAnother cX2_isFaceOfAnother 2 (some .boolean)
theorem kX2_isFaceOfAnother : wX2_isFaceOfAnother ∈ wG := mG 360 (by decide +kernel) rfl
theorem dX2_isFaceOfAnother_0 : decode cX2_isFaceOfAnother 0 = .ok (.aload_n 0, 1) := by decide +kernel
theorem dX2_isFaceOfAnother_1 : decode cX2_isFaceOfAnother 1 = .ok (.invokevirtual 52, 3) := by decide +kernel
theorem dX2_isFaceOfAnother_4 : decode cX2_isFaceOfAnother 4 = .ok (.ifCond .eq 15, 3) := by decide +kernel
theorem dX2_isFaceOfAnother_7 : decode cX2_isFaceOfAnother 7 = .ok (.aload_n 0, 1) := by decide +kernel
theorem dX2_isFaceOfAnother_8 : decode cX2_isFaceOfAnother 8 = .ok (.getfield 31, 3) := by decide +kernel
theorem dX2_isFaceOfAnother_11 : decode cX2_isFaceOfAnother 11 = .ok (.iload_n 1, 1) := by decide +kernel
theorem dX2_isFaceOfAnother_12 : decode cX2_isFaceOfAnother 12 = .ok (.if_icmp .eq 7, 3) := by decide +kernel
theorem dX2_isFaceOfAnother_15 : decode cX2_isFaceOfAnother 15 = .ok (.iconst 1, 1) := by decide +kernel
theorem dX2_isFaceOfAnother_16 : decode cX2_isFaceOfAnother 16 = .ok (.goto 4, 3) := by decide +kernel
theorem dX2_isFaceOfAnother_19 : decode cX2_isFaceOfAnother 19 = .ok (.iconst 0, 1) := by decide +kernel
theorem dX2_isFaceOfAnother_20 : decode cX2_isFaceOfAnother 20 = .ok (.ireturn, 1) := by decide +kernel
abbrev cX2_isReserveOf : ByteArray := prog_4_method_4_code
def yX2_isReserveOf : MethodName := ⟨RX2, "isReserveOf", "(I)Z"⟩
abbrev wX2_isReserveOf : Cond := .code yX2_isReserveOf cX2_isReserveOf 2 (some .boolean)
theorem kX2_isReserveOf : wX2_isReserveOf ∈ wG := mG 628 (by decide +kernel) rfl
theorem dX2_isReserveOf_0 : decode cX2_isReserveOf 0 = .ok (.aload_n 0, 1) := by decide +kernel
theorem dX2_isReserveOf_1 : decode cX2_isReserveOf 1 = .ok (.invokevirtual 52, 3) := by decide +kernel
theorem dX2_isReserveOf_4 : decode cX2_isReserveOf 4 = .ok (.ifCond .ne 15, 3) := by decide +kernel
theorem dX2_isReserveOf_7 : decode cX2_isReserveOf 7 = .ok (.aload_n 0, 1) := by decide +kernel
theorem dX2_isReserveOf_8 : decode cX2_isReserveOf 8 = .ok (.getfield 28, 3) := by decide +kernel
theorem dX2_isReserveOf_11 : decode cX2_isReserveOf 11 = .ok (.iload_n 1, 1) := by decide +kernel
theorem dX2_isReserveOf_12 : decode cX2_isReserveOf 12 = .ok (.if_icmp .ne 7, 3) := by decide +kernel
theorem dX2_isReserveOf_15 : decode cX2_isReserveOf 15 = .ok (.iconst 1, 1) := by decide +kernel
theorem dX2_isReserveOf_16 : decode cX2_isReserveOf 16 = .ok (.goto 4, 3) := by decide +kernel
theorem dX2_isReserveOf_19 : decode cX2_isReserveOf 19 = .ok (.iconst 0, 1) := by decide +kernel
theorem dX2_isReserveOf_20 : decode cX2_isReserveOf 20 = .ok (.ireturn, 1) := by decide +kernel
abbrev cX2_holdsAnother : ByteArray := prog_4_method_5_code
def yX2_holdsAnother : MethodName := ⟨RX2, "holdsAnother", "(I)Z"⟩
abbrev wX2_holdsAnother : Cond := .code yX2_holdsAnother cX2_holdsAnother 2 (some .boolean)
theorem kX2_holdsAnother : wX2_holdsAnother ∈ wG := mG 347 (by decide +kernel) rfl
theorem dX2_holdsAnother_0 : decode cX2_holdsAnother 0 = .ok (.aload_n 0, 1) := by decide +kernel
theorem dX2_holdsAnother_1 : decode cX2_holdsAnother 1 = .ok (.getfield 28, 3) := by decide +kernel
theorem dX2_holdsAnother_4 : decode cX2_holdsAnother 4 = .ok (.iconst (-1), 1) := by decide +kernel
theorem dX2_holdsAnother_5 : decode cX2_holdsAnother 5 = .ok (.if_icmp .eq 15, 3) := by decide +kernel
theorem dX2_holdsAnother_8 : decode cX2_holdsAnother 8 = .ok (.aload_n 0, 1) := by decide +kernel
theorem dX2_holdsAnother_9 : decode cX2_holdsAnother 9 = .ok (.getfield 28, 3) := by decide +kernel
theorem dX2_holdsAnother_12 : decode cX2_holdsAnother 12 = .ok (.iload_n 1, 1) := by decide +kernel
theorem dX2_holdsAnother_13 : decode cX2_holdsAnother 13 = .ok (.if_icmp .eq 7, 3) := by decide +kernel
theorem dX2_holdsAnother_16 : decode cX2_holdsAnother 16 = .ok (.iconst 1, 1) := by decide +kernel
theorem dX2_holdsAnother_17 : decode cX2_holdsAnother 17 = .ok (.goto 4, 3) := by decide +kernel
theorem dX2_holdsAnother_20 : decode cX2_holdsAnother 20 = .ok (.iconst 0, 1) := by decide +kernel
theorem dX2_holdsAnother_21 : decode cX2_holdsAnother 21 = .ok (.ireturn, 1) := by decide +kernel
abbrev cX2_space : ByteArray := prog_4_method_6_code
def yX2_space : MethodName := ⟨RX2, "space", "()I"⟩
abbrev wX2_space : Cond := .code yX2_space cX2_space 1 (some .int)
theorem kX2_space : wX2_space ∈ wG := mG 372 (by decide +kernel) rfl
theorem dX2_space_0 : decode cX2_space 0 = .ok (.aload_n 0, 1) := by decide +kernel
theorem dX2_space_1 : decode cX2_space 1 = .ok (.getfield 15, 3) := by decide +kernel
theorem dX2_space_4 : decode cX2_space 4 = .ok (.aload_n 0, 1) := by decide +kernel
theorem dX2_space_5 : decode cX2_space 5 = .ok (.getfield 22, 3) := by decide +kernel
theorem dX2_space_8 : decode cX2_space 8 = .ok (.isub, 1) := by decide +kernel
theorem dX2_space_9 : decode cX2_space 9 = .ok (.ireturn, 1) := by decide +kernel
abbrev cX2_notHeld : ByteArray := prog_4_method_7_code
def yX2_notHeld : MethodName := ⟨RX2, "notHeld", "()I"⟩
abbrev wX2_notHeld : Cond := .code yX2_notHeld cX2_notHeld 1 (some .int)
theorem kX2_notHeld : wX2_notHeld ∈ wG := mG 409 (by decide +kernel) rfl
theorem dX2_notHeld_0 : decode cX2_notHeld 0 = .ok (.aload_n 0, 1) := by decide +kernel
theorem dX2_notHeld_1 : decode cX2_notHeld 1 = .ok (.getfield 22, 3) := by decide +kernel
theorem dX2_notHeld_4 : decode cX2_notHeld 4 = .ok (.aload_n 0, 1) := by decide +kernel
theorem dX2_notHeld_5 : decode cX2_notHeld 5 = .ok (.getfield 25, 3) := by decide +kernel
theorem dX2_notHeld_8 : decode cX2_notHeld 8 = .ok (.isub, 1) := by decide +kernel
theorem dX2_notHeld_9 : decode cX2_notHeld 9 = .ok (.ireturn, 1) := by decide +kernel
abbrev cX2_free : ByteArray := prog_4_method_8_code
def yX2_free : MethodName := ⟨RX2, "free", "()I"⟩
abbrev wX2_free : Cond := .code yX2_free cX2_free 1 (some .int)
theorem kX2_free : wX2_free ∈ wG := mG 636 (by decide +kernel) rfl
theorem dX2_free_0 : decode cX2_free 0 = .ok (.aload_n 0, 1) := by decide +kernel
theorem dX2_free_1 : decode cX2_free 1 = .ok (.invokevirtual 56, 3) := by decide +kernel
theorem dX2_free_4 : decode cX2_free 4 = .ok (.aload_n 0, 1) := by decide +kernel
theorem dX2_free_5 : decode cX2_free 5 = .ok (.getfield 40, 3) := by decide +kernel
theorem dX2_free_8 : decode cX2_free 8 = .ok (.isub, 1) := by decide +kernel
theorem dX2_free_9 : decode cX2_free 9 = .ok (.ireturn, 1) := by decide +kernel
abbrev cX2_bring : ByteArray := prog_4_method_9_code
def yX2_bring : MethodName := ⟨RX2, "bring", "(II)V"⟩
abbrev wX2_bring : Cond := .code yX2_bring cX2_bring 3 none
theorem kX2_bring : wX2_bring ∈ wG := mG 392 (by decide +kernel) rfl
theorem dX2_bring_0 : decode cX2_bring 0 = .ok (.aload_n 0, 1) := by decide +kernel
theorem dX2_bring_1 : decode cX2_bring 1 = .ok (.iload_n 1, 1) := by decide +kernel
theorem dX2_bring_2 : decode cX2_bring 2 = .ok (.putfield 28, 3) := by decide +kernel
theorem dX2_bring_5 : decode cX2_bring 5 = .ok (.aload_n 0, 1) := by decide +kernel
theorem dX2_bring_6 : decode cX2_bring 6 = .ok (.dup, 1) := by decide +kernel
theorem dX2_bring_7 : decode cX2_bring 7 = .ok (.getfield 22, 3) := by decide +kernel
theorem dX2_bring_10 : decode cX2_bring 10 = .ok (.iload_n 2, 1) := by decide +kernel
theorem dX2_bring_11 : decode cX2_bring 11 = .ok (.iadd, 1) := by decide +kernel
theorem dX2_bring_12 : decode cX2_bring 12 = .ok (.putfield 22, 3) := by decide +kernel
theorem dX2_bring_15 : decode cX2_bring 15 = .ok (.return_, 1) := by decide +kernel
abbrev cX2_takeAway : ByteArray := prog_4_method_10_code
def yX2_takeAway : MethodName := ⟨RX2, "takeAway", "(I)V"⟩
abbrev wX2_takeAway : Cond := .code yX2_takeAway cX2_takeAway 2 none
theorem kX2_takeAway : wX2_takeAway ∈ wG := mG 414 (by decide +kernel) rfl
theorem dX2_takeAway_0 : decode cX2_takeAway 0 = .ok (.aload_n 0, 1) := by decide +kernel
theorem dX2_takeAway_1 : decode cX2_takeAway 1 = .ok (.dup, 1) := by decide +kernel
theorem dX2_takeAway_2 : decode cX2_takeAway 2 = .ok (.getfield 22, 3) := by decide +kernel
theorem dX2_takeAway_5 : decode cX2_takeAway 5 = .ok (.iload_n 1, 1) := by decide +kernel
theorem dX2_takeAway_6 : decode cX2_takeAway 6 = .ok (.isub, 1) := by decide +kernel
theorem dX2_takeAway_7 : decode cX2_takeAway 7 = .ok (.putfield 22, 3) := by decide +kernel
theorem dX2_takeAway_10 : decode cX2_takeAway 10 = .ok (.aload_n 0, 1) := by decide +kernel
theorem dX2_takeAway_11 : decode cX2_takeAway 11 = .ok (.getfield 22, 3) := by decide +kernel
theorem dX2_takeAway_14 : decode cX2_takeAway 14 = .ok (.ifCond .ne 8, 3) := by decide +kernel
theorem dX2_takeAway_17 : decode cX2_takeAway 17 = .ok (.aload_n 0, 1) := by decide +kernel
theorem dX2_takeAway_18 : decode cX2_takeAway 18 = .ok (.iconst (-1), 1) := by decide +kernel
theorem dX2_takeAway_19 : decode cX2_takeAway 19 = .ok (.putfield 28, 3) := by decide +kernel
theorem dX2_takeAway_22 : decode cX2_takeAway 22 = .ok (.return_, 1) := by decide +kernel
abbrev cX2_tell : ByteArray := prog_4_method_11_code
def yX2_tell : MethodName := ⟨RX2, "tell", "(I)I"⟩
abbrev wX2_tell : Cond := .code yX2_tell cX2_tell 2 (some .int)
theorem kX2_tell : wX2_tell ∈ wG := mG 702 (by decide +kernel) rfl
theorem dX2_tell_0 : decode cX2_tell 0 = .ok (.iload_n 1, 1) := by decide +kernel
theorem dX2_tell_1 : decode cX2_tell 1 = .ok (.tableswitch 68 0 4 #[35, 40, 45, 50, 63], 35) := by decide +kernel
theorem dX2_tell_36 : decode cX2_tell 36 = .ok (.aload_n 0, 1) := by decide +kernel
theorem dX2_tell_37 : decode cX2_tell 37 = .ok (.getfield 22, 3) := by decide +kernel
theorem dX2_tell_40 : decode cX2_tell 40 = .ok (.ireturn, 1) := by decide +kernel
theorem dX2_tell_41 : decode cX2_tell 41 = .ok (.aload_n 0, 1) := by decide +kernel
theorem dX2_tell_42 : decode cX2_tell 42 = .ok (.getfield 25, 3) := by decide +kernel
theorem dX2_tell_45 : decode cX2_tell 45 = .ok (.ireturn, 1) := by decide +kernel
theorem dX2_tell_46 : decode cX2_tell 46 = .ok (.aload_n 0, 1) := by decide +kernel
theorem dX2_tell_47 : decode cX2_tell 47 = .ok (.getfield 28, 3) := by decide +kernel
theorem dX2_tell_50 : decode cX2_tell 50 = .ok (.ireturn, 1) := by decide +kernel
theorem dX2_tell_51 : decode cX2_tell 51 = .ok (.aload_n 0, 1) := by decide +kernel
theorem dX2_tell_52 : decode cX2_tell 52 = .ok (.invokevirtual 52, 3) := by decide +kernel
theorem dX2_tell_55 : decode cX2_tell 55 = .ok (.ifCond .eq 7, 3) := by decide +kernel
theorem dX2_tell_58 : decode cX2_tell 58 = .ok (.iconst 1, 1) := by decide +kernel
theorem dX2_tell_59 : decode cX2_tell 59 = .ok (.goto 4, 3) := by decide +kernel
theorem dX2_tell_62 : decode cX2_tell 62 = .ok (.iconst 0, 1) := by decide +kernel
theorem dX2_tell_63 : decode cX2_tell 63 = .ok (.ireturn, 1) := by decide +kernel
theorem dX2_tell_64 : decode cX2_tell 64 = .ok (.aload_n 0, 1) := by decide +kernel
theorem dX2_tell_65 : decode cX2_tell 65 = .ok (.getfield 34, 3) := by decide +kernel
theorem dX2_tell_68 : decode cX2_tell 68 = .ok (.ireturn, 1) := by decide +kernel
theorem dX2_tell_69 : decode cX2_tell 69 = .ok (.aload_n 0, 1) := by decide +kernel
theorem dX2_tell_70 : decode cX2_tell 70 = .ok (.getfield 37, 3) := by decide +kernel
theorem dX2_tell_73 : decode cX2_tell 73 = .ok (.ireturn, 1) := by decide +kernel
abbrev cX3_init : ByteArray := prog_5_method_1_code
def yX3_init : MethodName := ⟨RX3, "<init>", "()V"⟩
abbrev wX3_init : Cond := .code yX3_init cX3_init 2 none
theorem kX3_init : wX3_init ∈ wG := mG 71 (by decide +kernel) rfl
theorem dX3_init_0 : decode cX3_init 0 = .ok (.aload_n 0, 1) := by decide +kernel
theorem dX3_init_1 : decode cX3_init 1 = .ok (.invokespecial 3, 3) := by decide +kernel
theorem dX3_init_4 : decode cX3_init 4 = .ok (.aload_n 0, 1) := by decide +kernel
theorem dX3_init_5 : decode cX3_init 5 = .ok (.bipush 30, 2) := by decide +kernel
theorem dX3_init_7 : decode cX3_init 7 = .ok (.anewarray 9, 3) := by decide +kernel
theorem dX3_init_10 : decode cX3_init 10 = .ok (.putfield 11, 3) := by decide +kernel
theorem dX3_init_13 : decode cX3_init 13 = .ok (.aload_n 0, 1) := by decide +kernel
theorem dX3_init_14 : decode cX3_init 14 = .ok (.iconst 0, 1) := by decide +kernel
theorem dX3_init_15 : decode cX3_init 15 = .ok (.putfield 17, 3) := by decide +kernel
theorem dX3_init_18 : decode cX3_init 18 = .ok (.aload_n 0, 1) := by decide +kernel
theorem dX3_init_19 : decode cX3_init 19 = .ok (.iconst (-1), 1) := by decide +kernel
theorem dX3_init_20 : decode cX3_init 20 = .ok (.putfield 21, 3) := by decide +kernel
theorem dX3_init_23 : decode cX3_init 23 = .ok (.aload_n 0, 1) := by decide +kernel
theorem dX3_init_24 : decode cX3_init 24 = .ok (.iconst (-1), 1) := by decide +kernel
theorem dX3_init_25 : decode cX3_init 25 = .ok (.putfield 24, 3) := by decide +kernel
theorem dX3_init_28 : decode cX3_init 28 = .ok (.aload_n 0, 1) := by decide +kernel
theorem dX3_init_29 : decode cX3_init 29 = .ok (.iconst 0, 1) := by decide +kernel
theorem dX3_init_30 : decode cX3_init 30 = .ok (.putfield 27, 3) := by decide +kernel
theorem dX3_init_33 : decode cX3_init 33 = .ok (.iconst 0, 1) := by decide +kernel
theorem dX3_init_34 : decode cX3_init 34 = .ok (.istore_n 1, 1) := by decide +kernel
theorem dX3_init_35 : decode cX3_init 35 = .ok (.iload_n 1, 1) := by decide +kernel
theorem dX3_init_36 : decode cX3_init 36 = .ok (.bipush 30, 2) := by decide +kernel
theorem dX3_init_38 : decode cX3_init 38 = .ok (.if_icmp .ge 22, 3) := by decide +kernel
theorem dX3_init_41 : decode cX3_init 41 = .ok (.aload_n 0, 1) := by decide +kernel
theorem dX3_init_42 : decode cX3_init 42 = .ok (.getfield 11, 3) := by decide +kernel
theorem dX3_init_45 : decode cX3_init 45 = .ok (.iload_n 1, 1) := by decide +kernel
theorem dX3_init_46 : decode cX3_init 46 = .ok (.new 9, 3) := by decide +kernel
theorem dX3_init_49 : decode cX3_init 49 = .ok (.dup, 1) := by decide +kernel
theorem dX3_init_50 : decode cX3_init 50 = .ok (.invokespecial 30, 3) := by decide +kernel
theorem dX3_init_53 : decode cX3_init 53 = .ok (.aastore, 1) := by decide +kernel
theorem dX3_init_54 : decode cX3_init 54 = .ok (.iinc 1 1, 3) := by decide +kernel
theorem dX3_init_57 : decode cX3_init 57 = .ok (.goto (-22), 3) := by decide +kernel
theorem dX3_init_60 : decode cX3_init 60 = .ok (.return_, 1) := by decide +kernel
abbrev cX3_clear : ByteArray := prog_5_method_2_code
def yX3_clear : MethodName := ⟨RX3, "clear", "()V"⟩
abbrev wX3_clear : Cond := .code yX3_clear cX3_clear 1 none
theorem kX3_clear : wX3_clear ∈ wG := mG 594 (by decide +kernel) rfl
theorem dX3_clear_0 : decode cX3_clear 0 = .ok (.aload_n 0, 1) := by decide +kernel
theorem dX3_clear_1 : decode cX3_clear 1 = .ok (.iconst 0, 1) := by decide +kernel
theorem dX3_clear_2 : decode cX3_clear 2 = .ok (.putfield 17, 3) := by decide +kernel
theorem dX3_clear_5 : decode cX3_clear 5 = .ok (.aload_n 0, 1) := by decide +kernel
theorem dX3_clear_6 : decode cX3_clear 6 = .ok (.iconst (-1), 1) := by decide +kernel
theorem dX3_clear_7 : decode cX3_clear 7 = .ok (.putfield 21, 3) := by decide +kernel
theorem dX3_clear_10 : decode cX3_clear 10 = .ok (.aload_n 0, 1) := by decide +kernel
theorem dX3_clear_11 : decode cX3_clear 11 = .ok (.iconst (-1), 1) := by decide +kernel
theorem dX3_clear_12 : decode cX3_clear 12 = .ok (.putfield 24, 3) := by decide +kernel
theorem dX3_clear_15 : decode cX3_clear 15 = .ok (.aload_n 0, 1) := by decide +kernel
theorem dX3_clear_16 : decode cX3_clear 16 = .ok (.iconst 0, 1) := by decide +kernel
theorem dX3_clear_17 : decode cX3_clear 17 = .ok (.putfield 27, 3) := by decide +kernel
theorem dX3_clear_20 : decode cX3_clear 20 = .ok (.return_, 1) := by decide +kernel
abbrev cX3_moveAt : ByteArray := prog_5_method_3_code
def yX3_moveAt : MethodName := ⟨RX3, "moveAt", "(I)LReplenishRules$Move;"⟩
abbrev wX3_moveAt : Cond := .code yX3_moveAt cX3_moveAt 2 (some (.object "ReplenishRules$Move"))
theorem kX3_moveAt : wX3_moveAt ∈ wG := mG 661 (by decide +kernel) rfl
theorem dX3_moveAt_0 : decode cX3_moveAt 0 = .ok (.iload_n 1, 1) := by decide +kernel
theorem dX3_moveAt_1 : decode cX3_moveAt 1 = .ok (.ifCond .lt 11, 3) := by decide +kernel
theorem dX3_moveAt_4 : decode cX3_moveAt 4 = .ok (.iload_n 1, 1) := by decide +kernel
theorem dX3_moveAt_5 : decode cX3_moveAt 5 = .ok (.aload_n 0, 1) := by decide +kernel
theorem dX3_moveAt_6 : decode cX3_moveAt 6 = .ok (.getfield 17, 3) := by decide +kernel
theorem dX3_moveAt_9 : decode cX3_moveAt 9 = .ok (.if_icmp .lt 13, 3) := by decide +kernel
theorem dX3_moveAt_12 : decode cX3_moveAt 12 = .ok (.new 31, 3) := by decide +kernel
theorem dX3_moveAt_15 : decode cX3_moveAt 15 = .ok (.dup, 1) := by decide +kernel
theorem dX3_moveAt_16 : decode cX3_moveAt 16 = .ok (.ldc 33, 2) := by decide +kernel
theorem dX3_moveAt_18 : decode cX3_moveAt 18 = .ok (.invokespecial 35, 3) := by decide +kernel
theorem dX3_moveAt_21 : decode cX3_moveAt 21 = .ok (.athrow, 1) := by decide +kernel
theorem dX3_moveAt_22 : decode cX3_moveAt 22 = .ok (.aload_n 0, 1) := by decide +kernel
theorem dX3_moveAt_23 : decode cX3_moveAt 23 = .ok (.getfield 11, 3) := by decide +kernel
theorem dX3_moveAt_26 : decode cX3_moveAt 26 = .ok (.iload_n 1, 1) := by decide +kernel
theorem dX3_moveAt_27 : decode cX3_moveAt 27 = .ok (.aaload, 1) := by decide +kernel
theorem dX3_moveAt_28 : decode cX3_moveAt 28 = .ok (.areturn, 1) := by decide +kernel
abbrev cX3_add : ByteArray := prog_5_method_4_code
def yX3_add : MethodName := ⟨RX3, "add", "(LReplenishRules$Place;LReplenishRules$Place;I)V"⟩
abbrev wX3_add : Cond := .code yX3_add cX3_add 5 none
theorem kX3_add : wX3_add ∈ wG := mG 644 (by decide +kernel) rfl
theorem dX3_add_0 : decode cX3_add 0 = .ok (.aload_n 0, 1) := by decide +kernel
theorem dX3_add_1 : decode cX3_add 1 = .ok (.getfield 17, 3) := by decide +kernel
theorem dX3_add_4 : decode cX3_add 4 = .ok (.bipush 30, 2) := by decide +kernel
theorem dX3_add_6 : decode cX3_add 6 = .ok (.if_icmp .lt 4, 3) := by decide +kernel
theorem dX3_add_9 : decode cX3_add 9 = .ok (.return_, 1) := by decide +kernel
theorem dX3_add_10 : decode cX3_add 10 = .ok (.aload_n 0, 1) := by decide +kernel
theorem dX3_add_11 : decode cX3_add 11 = .ok (.aload_n 1, 1) := by decide +kernel
theorem dX3_add_12 : decode cX3_add 12 = .ok (.getfield 38, 3) := by decide +kernel
theorem dX3_add_15 : decode cX3_add 15 = .ok (.invokevirtual 43, 3) := by decide +kernel
theorem dX3_add_18 : decode cX3_add 18 = .ok (.aload_n 0, 1) := by decide +kernel
theorem dX3_add_19 : decode cX3_add 19 = .ok (.getfield 11, 3) := by decide +kernel
theorem dX3_add_22 : decode cX3_add 22 = .ok (.aload_n 0, 1) := by decide +kernel
theorem dX3_add_23 : decode cX3_add 23 = .ok (.getfield 17, 3) := by decide +kernel
theorem dX3_add_26 : decode cX3_add 26 = .ok (.aaload, 1) := by decide +kernel
theorem dX3_add_27 : decode cX3_add 27 = .ok (.astore 4, 2) := by decide +kernel
theorem dX3_add_29 : decode cX3_add 29 = .ok (.aload 4, 2) := by decide +kernel
theorem dX3_add_31 : decode cX3_add 31 = .ok (.aload_n 1, 1) := by decide +kernel
theorem dX3_add_32 : decode cX3_add 32 = .ok (.getfield 47, 3) := by decide +kernel
theorem dX3_add_35 : decode cX3_add 35 = .ok (.putfield 50, 3) := by decide +kernel
theorem dX3_add_38 : decode cX3_add 38 = .ok (.aload 4, 2) := by decide +kernel
theorem dX3_add_40 : decode cX3_add 40 = .ok (.aload_n 2, 1) := by decide +kernel
theorem dX3_add_41 : decode cX3_add 41 = .ok (.getfield 47, 3) := by decide +kernel
theorem dX3_add_44 : decode cX3_add 44 = .ok (.putfield 53, 3) := by decide +kernel
theorem dX3_add_47 : decode cX3_add 47 = .ok (.aload 4, 2) := by decide +kernel
theorem dX3_add_49 : decode cX3_add 49 = .ok (.iload_n 3, 1) := by decide +kernel
theorem dX3_add_50 : decode cX3_add 50 = .ok (.putfield 56, 3) := by decide +kernel
theorem dX3_add_53 : decode cX3_add 53 = .ok (.aload 4, 2) := by decide +kernel
theorem dX3_add_55 : decode cX3_add 55 = .ok (.aload_n 2, 1) := by decide +kernel
theorem dX3_add_56 : decode cX3_add 56 = .ok (.getfield 59, 3) := by decide +kernel
theorem dX3_add_59 : decode cX3_add 59 = .ok (.putfield 62, 3) := by decide +kernel
theorem dX3_add_62 : decode cX3_add 62 = .ok (.aload 4, 2) := by decide +kernel
theorem dX3_add_64 : decode cX3_add 64 = .ok (.aload_n 0, 1) := by decide +kernel
theorem dX3_add_65 : decode cX3_add 65 = .ok (.getfield 21, 3) := by decide +kernel
theorem dX3_add_68 : decode cX3_add 68 = .ok (.putfield 63, 3) := by decide +kernel
theorem dX3_add_71 : decode cX3_add 71 = .ok (.aload 4, 2) := by decide +kernel
theorem dX3_add_73 : decode cX3_add 73 = .ok (.aload_n 1, 1) := by decide +kernel
theorem dX3_add_74 : decode cX3_add 74 = .ok (.invokevirtual 64, 3) := by decide +kernel
theorem dX3_add_77 : decode cX3_add 77 = .ok (.ifCond .ne 7, 3) := by decide +kernel
theorem dX3_add_80 : decode cX3_add 80 = .ok (.iconst 1, 1) := by decide +kernel
theorem dX3_add_81 : decode cX3_add 81 = .ok (.goto 4, 3) := by decide +kernel
theorem dX3_add_84 : decode cX3_add 84 = .ok (.iconst 0, 1) := by decide +kernel
theorem dX3_add_85 : decode cX3_add 85 = .ok (.putfield 68, 3) := by decide +kernel
theorem dX3_add_88 : decode cX3_add 88 = .ok (.aload 4, 2) := by decide +kernel
theorem dX3_add_90 : decode cX3_add 90 = .ok (.iconst 0, 1) := by decide +kernel
theorem dX3_add_91 : decode cX3_add 91 = .ok (.putfield 72, 3) := by decide +kernel
theorem dX3_add_94 : decode cX3_add 94 = .ok (.aload_n 0, 1) := by decide +kernel
theorem dX3_add_95 : decode cX3_add 95 = .ok (.dup, 1) := by decide +kernel
theorem dX3_add_96 : decode cX3_add 96 = .ok (.getfield 17, 3) := by decide +kernel
theorem dX3_add_99 : decode cX3_add 99 = .ok (.iconst 1, 1) := by decide +kernel
theorem dX3_add_100 : decode cX3_add 100 = .ok (.iadd, 1) := by decide +kernel
theorem dX3_add_101 : decode cX3_add 101 = .ok (.putfield 17, 3) := by decide +kernel
theorem dX3_add_104 : decode cX3_add 104 = .ok (.return_, 1) := by decide +kernel
abbrev cX3_joinTrip : ByteArray := prog_5_method_5_code
def yX3_joinTrip : MethodName := ⟨RX3, "joinTrip", "(I)V"⟩
abbrev wX3_joinTrip : Cond := .code yX3_joinTrip cX3_joinTrip 2 none
theorem kX3_joinTrip : wX3_joinTrip ∈ wG := mG 648 (by decide +kernel) rfl
theorem dX3_joinTrip_0 : decode cX3_joinTrip 0 = .ok (.aload_n 0, 1) := by decide +kernel
theorem dX3_joinTrip_1 : decode cX3_joinTrip 1 = .ok (.getfield 24, 3) := by decide +kernel
theorem dX3_joinTrip_4 : decode cX3_joinTrip 4 = .ok (.iload_n 1, 1) := by decide +kernel
theorem dX3_joinTrip_5 : decode cX3_joinTrip 5 = .ok (.if_icmp .ne 11, 3) := by decide +kernel
theorem dX3_joinTrip_8 : decode cX3_joinTrip 8 = .ok (.aload_n 0, 1) := by decide +kernel
theorem dX3_joinTrip_9 : decode cX3_joinTrip 9 = .ok (.getfield 27, 3) := by decide +kernel
theorem dX3_joinTrip_12 : decode cX3_joinTrip 12 = .ok (.iconst 3, 1) := by decide +kernel
theorem dX3_joinTrip_13 : decode cX3_joinTrip 13 = .ok (.if_icmp .lt 23, 3) := by decide +kernel
theorem dX3_joinTrip_16 : decode cX3_joinTrip 16 = .ok (.aload_n 0, 1) := by decide +kernel
theorem dX3_joinTrip_17 : decode cX3_joinTrip 17 = .ok (.dup, 1) := by decide +kernel
theorem dX3_joinTrip_18 : decode cX3_joinTrip 18 = .ok (.getfield 21, 3) := by decide +kernel
theorem dX3_joinTrip_21 : decode cX3_joinTrip 21 = .ok (.iconst 1, 1) := by decide +kernel
theorem dX3_joinTrip_22 : decode cX3_joinTrip 22 = .ok (.iadd, 1) := by decide +kernel
theorem dX3_joinTrip_23 : decode cX3_joinTrip 23 = .ok (.putfield 21, 3) := by decide +kernel
theorem dX3_joinTrip_26 : decode cX3_joinTrip 26 = .ok (.aload_n 0, 1) := by decide +kernel
theorem dX3_joinTrip_27 : decode cX3_joinTrip 27 = .ok (.iload_n 1, 1) := by decide +kernel
theorem dX3_joinTrip_28 : decode cX3_joinTrip 28 = .ok (.putfield 24, 3) := by decide +kernel
theorem dX3_joinTrip_31 : decode cX3_joinTrip 31 = .ok (.aload_n 0, 1) := by decide +kernel
theorem dX3_joinTrip_32 : decode cX3_joinTrip 32 = .ok (.iconst 0, 1) := by decide +kernel
theorem dX3_joinTrip_33 : decode cX3_joinTrip 33 = .ok (.putfield 27, 3) := by decide +kernel
theorem dX3_joinTrip_36 : decode cX3_joinTrip 36 = .ok (.aload_n 0, 1) := by decide +kernel
theorem dX3_joinTrip_37 : decode cX3_joinTrip 37 = .ok (.dup, 1) := by decide +kernel
theorem dX3_joinTrip_38 : decode cX3_joinTrip 38 = .ok (.getfield 27, 3) := by decide +kernel
theorem dX3_joinTrip_41 : decode cX3_joinTrip 41 = .ok (.iconst 1, 1) := by decide +kernel
theorem dX3_joinTrip_42 : decode cX3_joinTrip 42 = .ok (.iadd, 1) := by decide +kernel
theorem dX3_joinTrip_43 : decode cX3_joinTrip 43 = .ok (.putfield 27, 3) := by decide +kernel
theorem dX3_joinTrip_46 : decode cX3_joinTrip 46 = .ok (.return_, 1) := by decide +kernel
abbrev cX4_init : ByteArray := prog_6_method_1_code
def yX4_init : MethodName := ⟨RX4, "<init>", "()V"⟩
abbrev wX4_init : Cond := .code yX4_init cX4_init 1 none
theorem kX4_init : wX4_init ∈ wG := mG 194 (by decide +kernel) rfl
theorem dX4_init_0 : decode cX4_init 0 = .ok (.aload_n 0, 1) := by decide +kernel
theorem dX4_init_1 : decode cX4_init 1 = .ok (.invokespecial 3, 3) := by decide +kernel
theorem dX4_init_4 : decode cX4_init 4 = .ok (.aload_n 0, 1) := by decide +kernel
theorem dX4_init_5 : decode cX4_init 5 = .ok (.iconst 0, 1) := by decide +kernel
theorem dX4_init_6 : decode cX4_init 6 = .ok (.putfield 9, 3) := by decide +kernel
theorem dX4_init_9 : decode cX4_init 9 = .ok (.aload_n 0, 1) := by decide +kernel
theorem dX4_init_10 : decode cX4_init 10 = .ok (.iconst 1, 1) := by decide +kernel
theorem dX4_init_11 : decode cX4_init 11 = .ok (.putfield 15, 3) := by decide +kernel
theorem dX4_init_14 : decode cX4_init 14 = .ok (.aload_n 0, 1) := by decide +kernel
theorem dX4_init_15 : decode cX4_init 15 = .ok (.sipush 399, 3) := by decide +kernel
theorem dX4_init_18 : decode cX4_init 18 = .ok (.putfield 18, 3) := by decide +kernel
theorem dX4_init_21 : decode cX4_init 21 = .ok (.return_, 1) := by decide +kernel
abbrev cX4_kindOn : ByteArray := prog_6_method_2_code
def yX4_kindOn : MethodName := ⟨RX4, "kindOn", "(I)I"⟩
abbrev wX4_kindOn : Cond := .code yX4_kindOn cX4_kindOn 2 (some .int)
theorem kX4_kindOn : wX4_kindOn ∈ wG := mG 527 (by decide +kernel) rfl
theorem dX4_kindOn_0 : decode cX4_kindOn 0 = .ok (.iload_n 1, 1) := by decide +kernel
theorem dX4_kindOn_1 : decode cX4_kindOn 1 = .ok (.aload_n 0, 1) := by decide +kernel
theorem dX4_kindOn_2 : decode cX4_kindOn 2 = .ok (.getfield 18, 3) := by decide +kernel
theorem dX4_kindOn_5 : decode cX4_kindOn 5 = .ok (.if_icmp .le 7, 3) := by decide +kernel
theorem dX4_kindOn_8 : decode cX4_kindOn 8 = .ok (.iconst 0, 1) := by decide +kernel
theorem dX4_kindOn_9 : decode cX4_kindOn 9 = .ok (.goto 7, 3) := by decide +kernel
theorem dX4_kindOn_12 : decode cX4_kindOn 12 = .ok (.aload_n 0, 1) := by decide +kernel
theorem dX4_kindOn_13 : decode cX4_kindOn 13 = .ok (.getfield 9, 3) := by decide +kernel
theorem dX4_kindOn_16 : decode cX4_kindOn 16 = .ok (.ireturn, 1) := by decide +kernel
abbrev cX4_aheadOn : ByteArray := prog_6_method_3_code
def yX4_aheadOn : MethodName := ⟨RX4, "aheadOn", "(I)I"⟩
abbrev wX4_aheadOn : Cond := .code yX4_aheadOn cX4_aheadOn 2 (some .int)
theorem kX4_aheadOn : wX4_aheadOn ∈ wG := mG 535 (by decide +kernel) rfl
theorem dX4_aheadOn_0 : decode cX4_aheadOn 0 = .ok (.iload_n 1, 1) := by decide +kernel
theorem dX4_aheadOn_1 : decode cX4_aheadOn 1 = .ok (.aload_n 0, 1) := by decide +kernel
theorem dX4_aheadOn_2 : decode cX4_aheadOn 2 = .ok (.getfield 18, 3) := by decide +kernel
theorem dX4_aheadOn_5 : decode cX4_aheadOn 5 = .ok (.if_icmp .le 7, 3) := by decide +kernel
theorem dX4_aheadOn_8 : decode cX4_aheadOn 8 = .ok (.iconst 1, 1) := by decide +kernel
theorem dX4_aheadOn_9 : decode cX4_aheadOn 9 = .ok (.goto 7, 3) := by decide +kernel
theorem dX4_aheadOn_12 : decode cX4_aheadOn 12 = .ok (.aload_n 0, 1) := by decide +kernel
theorem dX4_aheadOn_13 : decode cX4_aheadOn 13 = .ok (.getfield 15, 3) := by decide +kernel
theorem dX4_aheadOn_16 : decode cX4_aheadOn 16 = .ok (.ireturn, 1) := by decide +kernel
abbrev cX5_init : ByteArray := prog_7_method_1_code
def yX5_init : MethodName := ⟨RX5, "<init>", "()V"⟩
abbrev wX5_init : Cond := .code yX5_init cX5_init 1 none
theorem kX5_init : wX5_init ∈ wG := mG 51 (by decide +kernel) rfl
theorem dX5_init_0 : decode cX5_init 0 = .ok (.aload_n 0, 1) := by decide +kernel
theorem dX5_init_1 : decode cX5_init 1 = .ok (.invokespecial 3, 3) := by decide +kernel
theorem dX5_init_4 : decode cX5_init 4 = .ok (.aload_n 0, 1) := by decide +kernel
theorem dX5_init_5 : decode cX5_init 5 = .ok (.bipush 30, 2) := by decide +kernel
theorem dX5_init_7 : decode cX5_init 7 = .ok (.newarray .int, 2) := by decide +kernel
theorem dX5_init_9 : decode cX5_init 9 = .ok (.putfield 9, 3) := by decide +kernel
theorem dX5_init_12 : decode cX5_init 12 = .ok (.aload_n 0, 1) := by decide +kernel
theorem dX5_init_13 : decode cX5_init 13 = .ok (.bipush 30, 2) := by decide +kernel
theorem dX5_init_15 : decode cX5_init 15 = .ok (.newarray .int, 2) := by decide +kernel
theorem dX5_init_17 : decode cX5_init 17 = .ok (.putfield 15, 3) := by decide +kernel
theorem dX5_init_20 : decode cX5_init 20 = .ok (.aload_n 0, 1) := by decide +kernel
theorem dX5_init_21 : decode cX5_init 21 = .ok (.bipush 30, 2) := by decide +kernel
theorem dX5_init_23 : decode cX5_init 23 = .ok (.newarray .int, 2) := by decide +kernel
theorem dX5_init_25 : decode cX5_init 25 = .ok (.putfield 18, 3) := by decide +kernel
theorem dX5_init_28 : decode cX5_init 28 = .ok (.aload_n 0, 1) := by decide +kernel
theorem dX5_init_29 : decode cX5_init 29 = .ok (.iconst 0, 1) := by decide +kernel
theorem dX5_init_30 : decode cX5_init 30 = .ok (.putfield 21, 3) := by decide +kernel
theorem dX5_init_33 : decode cX5_init 33 = .ok (.return_, 1) := by decide +kernel
abbrev cX5_add : ByteArray := prog_7_method_2_code
def yX5_add : MethodName := ⟨RX5, "add", "(III)V"⟩
abbrev wX5_add : Cond := .code yX5_add cX5_add 4 none
theorem kX5_add : wX5_add ∈ wG := mG 456 (by decide +kernel) rfl
theorem dX5_add_0 : decode cX5_add 0 = .ok (.aload_n 0, 1) := by decide +kernel
theorem dX5_add_1 : decode cX5_add 1 = .ok (.getfield 21, 3) := by decide +kernel
theorem dX5_add_4 : decode cX5_add 4 = .ok (.bipush 30, 2) := by decide +kernel
theorem dX5_add_6 : decode cX5_add 6 = .ok (.if_icmp .lt 4, 3) := by decide +kernel
theorem dX5_add_9 : decode cX5_add 9 = .ok (.return_, 1) := by decide +kernel
theorem dX5_add_10 : decode cX5_add 10 = .ok (.aload_n 0, 1) := by decide +kernel
theorem dX5_add_11 : decode cX5_add 11 = .ok (.getfield 9, 3) := by decide +kernel
theorem dX5_add_14 : decode cX5_add 14 = .ok (.aload_n 0, 1) := by decide +kernel
theorem dX5_add_15 : decode cX5_add 15 = .ok (.getfield 21, 3) := by decide +kernel
theorem dX5_add_18 : decode cX5_add 18 = .ok (.iload_n 1, 1) := by decide +kernel
theorem dX5_add_19 : decode cX5_add 19 = .ok (.iastore, 1) := by decide +kernel
theorem dX5_add_20 : decode cX5_add 20 = .ok (.aload_n 0, 1) := by decide +kernel
theorem dX5_add_21 : decode cX5_add 21 = .ok (.getfield 15, 3) := by decide +kernel
theorem dX5_add_24 : decode cX5_add 24 = .ok (.aload_n 0, 1) := by decide +kernel
theorem dX5_add_25 : decode cX5_add 25 = .ok (.getfield 21, 3) := by decide +kernel
theorem dX5_add_28 : decode cX5_add 28 = .ok (.iload_n 2, 1) := by decide +kernel
theorem dX5_add_29 : decode cX5_add 29 = .ok (.iastore, 1) := by decide +kernel
theorem dX5_add_30 : decode cX5_add 30 = .ok (.aload_n 0, 1) := by decide +kernel
theorem dX5_add_31 : decode cX5_add 31 = .ok (.getfield 18, 3) := by decide +kernel
theorem dX5_add_34 : decode cX5_add 34 = .ok (.aload_n 0, 1) := by decide +kernel
theorem dX5_add_35 : decode cX5_add 35 = .ok (.getfield 21, 3) := by decide +kernel
theorem dX5_add_38 : decode cX5_add 38 = .ok (.iload_n 3, 1) := by decide +kernel
theorem dX5_add_39 : decode cX5_add 39 = .ok (.iastore, 1) := by decide +kernel
theorem dX5_add_40 : decode cX5_add 40 = .ok (.aload_n 0, 1) := by decide +kernel
theorem dX5_add_41 : decode cX5_add 41 = .ok (.dup, 1) := by decide +kernel
theorem dX5_add_42 : decode cX5_add 42 = .ok (.getfield 21, 3) := by decide +kernel
theorem dX5_add_45 : decode cX5_add 45 = .ok (.iconst 1, 1) := by decide +kernel
theorem dX5_add_46 : decode cX5_add 46 = .ok (.iadd, 1) := by decide +kernel
theorem dX5_add_47 : decode cX5_add 47 = .ok (.putfield 21, 3) := by decide +kernel
theorem dX5_add_50 : decode cX5_add 50 = .ok (.return_, 1) := by decide +kernel
abbrev cX5_neededOf : ByteArray := prog_7_method_3_code
def yX5_neededOf : MethodName := ⟨RX5, "neededOf", "(III)J"⟩
abbrev wX5_neededOf : Cond := .code yX5_neededOf cX5_neededOf 7 (some .long)
theorem kX5_neededOf : wX5_neededOf ∈ wG := mG 569 (by decide +kernel) rfl
theorem dX5_neededOf_0 : decode cX5_neededOf 0 = .ok (.lconst 0, 1) := by decide +kernel
theorem dX5_neededOf_1 : decode cX5_neededOf 1 = .ok (.lstore 4, 2) := by decide +kernel
theorem dX5_neededOf_3 : decode cX5_neededOf 3 = .ok (.iconst 0, 1) := by decide +kernel
theorem dX5_neededOf_4 : decode cX5_neededOf 4 = .ok (.istore 6, 2) := by decide +kernel
theorem dX5_neededOf_6 : decode cX5_neededOf 6 = .ok (.iload 6, 2) := by decide +kernel
theorem dX5_neededOf_8 : decode cX5_neededOf 8 = .ok (.aload_n 0, 1) := by decide +kernel
theorem dX5_neededOf_9 : decode cX5_neededOf 9 = .ok (.getfield 21, 3) := by decide +kernel
theorem dX5_neededOf_12 : decode cX5_neededOf 12 = .ok (.if_icmp .ge 55, 3) := by decide +kernel
theorem dX5_neededOf_15 : decode cX5_neededOf 15 = .ok (.aload_n 0, 1) := by decide +kernel
theorem dX5_neededOf_16 : decode cX5_neededOf 16 = .ok (.getfield 9, 3) := by decide +kernel
theorem dX5_neededOf_19 : decode cX5_neededOf 19 = .ok (.iload 6, 2) := by decide +kernel
theorem dX5_neededOf_21 : decode cX5_neededOf 21 = .ok (.iaload, 1) := by decide +kernel
theorem dX5_neededOf_22 : decode cX5_neededOf 22 = .ok (.iload_n 1, 1) := by decide +kernel
theorem dX5_neededOf_23 : decode cX5_neededOf 23 = .ok (.if_icmp .ne 38, 3) := by decide +kernel
theorem dX5_neededOf_26 : decode cX5_neededOf 26 = .ok (.aload_n 0, 1) := by decide +kernel
theorem dX5_neededOf_27 : decode cX5_neededOf 27 = .ok (.getfield 18, 3) := by decide +kernel
theorem dX5_neededOf_30 : decode cX5_neededOf 30 = .ok (.iload 6, 2) := by decide +kernel
theorem dX5_neededOf_32 : decode cX5_neededOf 32 = .ok (.iaload, 1) := by decide +kernel
theorem dX5_neededOf_33 : decode cX5_neededOf 33 = .ok (.iload_n 2, 1) := by decide +kernel
theorem dX5_neededOf_34 : decode cX5_neededOf 34 = .ok (.if_icmp .lt 27, 3) := by decide +kernel
theorem dX5_neededOf_37 : decode cX5_neededOf 37 = .ok (.aload_n 0, 1) := by decide +kernel
theorem dX5_neededOf_38 : decode cX5_neededOf 38 = .ok (.getfield 18, 3) := by decide +kernel
theorem dX5_neededOf_41 : decode cX5_neededOf 41 = .ok (.iload 6, 2) := by decide +kernel
theorem dX5_neededOf_43 : decode cX5_neededOf 43 = .ok (.iaload, 1) := by decide +kernel
theorem dX5_neededOf_44 : decode cX5_neededOf 44 = .ok (.iload_n 3, 1) := by decide +kernel
theorem dX5_neededOf_45 : decode cX5_neededOf 45 = .ok (.if_icmp .gt 16, 3) := by decide +kernel
theorem dX5_neededOf_48 : decode cX5_neededOf 48 = .ok (.lload 4, 2) := by decide +kernel
theorem dX5_neededOf_50 : decode cX5_neededOf 50 = .ok (.aload_n 0, 1) := by decide +kernel
theorem dX5_neededOf_51 : decode cX5_neededOf 51 = .ok (.getfield 15, 3) := by decide +kernel
theorem dX5_neededOf_54 : decode cX5_neededOf 54 = .ok (.iload 6, 2) := by decide +kernel
theorem dX5_neededOf_56 : decode cX5_neededOf 56 = .ok (.iaload, 1) := by decide +kernel
theorem dX5_neededOf_57 : decode cX5_neededOf 57 = .ok (.i2l, 1) := by decide +kernel
theorem dX5_neededOf_58 : decode cX5_neededOf 58 = .ok (.ladd, 1) := by decide +kernel
theorem dX5_neededOf_59 : decode cX5_neededOf 59 = .ok (.lstore 4, 2) := by decide +kernel
theorem dX5_neededOf_61 : decode cX5_neededOf 61 = .ok (.iinc 6 1, 3) := by decide +kernel
theorem dX5_neededOf_64 : decode cX5_neededOf 64 = .ok (.goto (-58), 3) := by decide +kernel
theorem dX5_neededOf_67 : decode cX5_neededOf 67 = .ok (.lload 4, 2) := by decide +kernel
theorem dX5_neededOf_69 : decode cX5_neededOf 69 = .ok (.lreturn, 1) := by decide +kernel
end
section
abbrev cX6_init : ByteArray := prog_1_method_1_code
def yX6_init : MethodName := ⟨RX6, "<init>", "()V"⟩
abbrev wX6_init : Cond := .code yX6_init cX6_init 2 none
theorem kX6_init : wX6_init ∈ wG := mG 22 (by decide +kernel) rfl
theorem dX6_init_0 : decode cX6_init 0 = .ok (.aload_n 0, 1) := by decide +kernel
theorem dX6_init_1 : decode cX6_init 1 = .ok (.invokespecial 1, 3) := by decide +kernel
theorem dX6_init_4 : decode cX6_init 4 = .ok (.aload_n 0, 1) := by decide +kernel
theorem dX6_init_5 : decode cX6_init 5 = .ok (.bipush 16, 2) := by decide +kernel
theorem dX6_init_7 : decode cX6_init 7 = .ok (.anewarray 9, 3) := by decide +kernel
theorem dX6_init_10 : decode cX6_init 10 = .ok (.putfield 11, 3) := by decide +kernel
theorem dX6_init_13 : decode cX6_init 13 = .ok (.aload_n 0, 1) := by decide +kernel
theorem dX6_init_14 : decode cX6_init 14 = .ok (.iconst 4, 1) := by decide +kernel
theorem dX6_init_15 : decode cX6_init 15 = .ok (.anewarray 15, 3) := by decide +kernel
theorem dX6_init_18 : decode cX6_init 18 = .ok (.putfield 17, 3) := by decide +kernel
theorem dX6_init_21 : decode cX6_init 21 = .ok (.aload_n 0, 1) := by decide +kernel
theorem dX6_init_22 : decode cX6_init 22 = .ok (.bipush 8, 2) := by decide +kernel
theorem dX6_init_24 : decode cX6_init 24 = .ok (.newarray .int, 2) := by decide +kernel
theorem dX6_init_26 : decode cX6_init 26 = .ok (.putfield 21, 3) := by decide +kernel
theorem dX6_init_29 : decode cX6_init 29 = .ok (.aload_n 0, 1) := by decide +kernel
theorem dX6_init_30 : decode cX6_init 30 = .ok (.bipush 12, 2) := by decide +kernel
theorem dX6_init_32 : decode cX6_init 32 = .ok (.newarray .int, 2) := by decide +kernel
theorem dX6_init_34 : decode cX6_init 34 = .ok (.putfield 25, 3) := by decide +kernel
theorem dX6_init_37 : decode cX6_init 37 = .ok (.aload_n 0, 1) := by decide +kernel
theorem dX6_init_38 : decode cX6_init 38 = .ok (.bipush 12, 2) := by decide +kernel
theorem dX6_init_40 : decode cX6_init 40 = .ok (.newarray .int, 2) := by decide +kernel
theorem dX6_init_42 : decode cX6_init 42 = .ok (.putfield 28, 3) := by decide +kernel
theorem dX6_init_45 : decode cX6_init 45 = .ok (.aload_n 0, 1) := by decide +kernel
theorem dX6_init_46 : decode cX6_init 46 = .ok (.new 31, 3) := by decide +kernel
theorem dX6_init_49 : decode cX6_init 49 = .ok (.dup, 1) := by decide +kernel
theorem dX6_init_50 : decode cX6_init 50 = .ok (.invokespecial 33, 3) := by decide +kernel
theorem dX6_init_53 : decode cX6_init 53 = .ok (.putfield 34, 3) := by decide +kernel
theorem dX6_init_56 : decode cX6_init 56 = .ok (.aload_n 0, 1) := by decide +kernel
theorem dX6_init_57 : decode cX6_init 57 = .ok (.new 38, 3) := by decide +kernel
theorem dX6_init_60 : decode cX6_init 60 = .ok (.dup, 1) := by decide +kernel
theorem dX6_init_61 : decode cX6_init 61 = .ok (.invokespecial 40, 3) := by decide +kernel
theorem dX6_init_64 : decode cX6_init 64 = .ok (.putfield 41, 3) := by decide +kernel
theorem dX6_init_67 : decode cX6_init 67 = .ok (.aload_n 0, 1) := by decide +kernel
theorem dX6_init_68 : decode cX6_init 68 = .ok (.new 45, 3) := by decide +kernel
theorem dX6_init_71 : decode cX6_init 71 = .ok (.dup, 1) := by decide +kernel
theorem dX6_init_72 : decode cX6_init 72 = .ok (.invokespecial 47, 3) := by decide +kernel
theorem dX6_init_75 : decode cX6_init 75 = .ok (.putfield 48, 3) := by decide +kernel
theorem dX6_init_78 : decode cX6_init 78 = .ok (.iconst 0, 1) := by decide +kernel
theorem dX6_init_79 : decode cX6_init 79 = .ok (.istore_n 1, 1) := by decide +kernel
theorem dX6_init_80 : decode cX6_init 80 = .ok (.iload_n 1, 1) := by decide +kernel
theorem dX6_init_81 : decode cX6_init 81 = .ok (.bipush 16, 2) := by decide +kernel
theorem dX6_init_83 : decode cX6_init 83 = .ok (.if_icmp .ge 23, 3) := by decide +kernel
theorem dX6_init_86 : decode cX6_init 86 = .ok (.aload_n 0, 1) := by decide +kernel
theorem dX6_init_87 : decode cX6_init 87 = .ok (.getfield 11, 3) := by decide +kernel
theorem dX6_init_90 : decode cX6_init 90 = .ok (.iload_n 1, 1) := by decide +kernel
theorem dX6_init_91 : decode cX6_init 91 = .ok (.new 9, 3) := by decide +kernel
theorem dX6_init_94 : decode cX6_init 94 = .ok (.dup, 1) := by decide +kernel
theorem dX6_init_95 : decode cX6_init 95 = .ok (.iload_n 1, 1) := by decide +kernel
theorem dX6_init_96 : decode cX6_init 96 = .ok (.invokespecial 52, 3) := by decide +kernel
theorem dX6_init_99 : decode cX6_init 99 = .ok (.aastore, 1) := by decide +kernel
theorem dX6_init_100 : decode cX6_init 100 = .ok (.iinc 1 1, 3) := by decide +kernel
theorem dX6_init_103 : decode cX6_init 103 = .ok (.goto (-23), 3) := by decide +kernel
theorem dX6_init_106 : decode cX6_init 106 = .ok (.iconst 0, 1) := by decide +kernel
theorem dX6_init_107 : decode cX6_init 107 = .ok (.istore_n 1, 1) := by decide +kernel
theorem dX6_init_108 : decode cX6_init 108 = .ok (.iload_n 1, 1) := by decide +kernel
theorem dX6_init_109 : decode cX6_init 109 = .ok (.iconst 4, 1) := by decide +kernel
theorem dX6_init_110 : decode cX6_init 110 = .ok (.if_icmp .ge 22, 3) := by decide +kernel
theorem dX6_init_113 : decode cX6_init 113 = .ok (.aload_n 0, 1) := by decide +kernel
theorem dX6_init_114 : decode cX6_init 114 = .ok (.getfield 17, 3) := by decide +kernel
theorem dX6_init_117 : decode cX6_init 117 = .ok (.iload_n 1, 1) := by decide +kernel
theorem dX6_init_118 : decode cX6_init 118 = .ok (.new 15, 3) := by decide +kernel
theorem dX6_init_121 : decode cX6_init 121 = .ok (.dup, 1) := by decide +kernel
theorem dX6_init_122 : decode cX6_init 122 = .ok (.invokespecial 55, 3) := by decide +kernel
theorem dX6_init_125 : decode cX6_init 125 = .ok (.aastore, 1) := by decide +kernel
theorem dX6_init_126 : decode cX6_init 126 = .ok (.iinc 1 1, 3) := by decide +kernel
theorem dX6_init_129 : decode cX6_init 129 = .ok (.goto (-21), 3) := by decide +kernel
theorem dX6_init_132 : decode cX6_init 132 = .ok (.iconst 0, 1) := by decide +kernel
theorem dX6_init_133 : decode cX6_init 133 = .ok (.istore_n 1, 1) := by decide +kernel
theorem dX6_init_134 : decode cX6_init 134 = .ok (.iload_n 1, 1) := by decide +kernel
theorem dX6_init_135 : decode cX6_init 135 = .ok (.bipush 8, 2) := by decide +kernel
theorem dX6_init_137 : decode cX6_init 137 = .ok (.if_icmp .ge 16, 3) := by decide +kernel
theorem dX6_init_140 : decode cX6_init 140 = .ok (.aload_n 0, 1) := by decide +kernel
theorem dX6_init_141 : decode cX6_init 141 = .ok (.getfield 21, 3) := by decide +kernel
theorem dX6_init_144 : decode cX6_init 144 = .ok (.iload_n 1, 1) := by decide +kernel
theorem dX6_init_145 : decode cX6_init 145 = .ok (.iconst 1, 1) := by decide +kernel
theorem dX6_init_146 : decode cX6_init 146 = .ok (.iastore, 1) := by decide +kernel
theorem dX6_init_147 : decode cX6_init 147 = .ok (.iinc 1 1, 3) := by decide +kernel
theorem dX6_init_150 : decode cX6_init 150 = .ok (.goto (-16), 3) := by decide +kernel
theorem dX6_init_153 : decode cX6_init 153 = .ok (.iconst 0, 1) := by decide +kernel
theorem dX6_init_154 : decode cX6_init 154 = .ok (.istore_n 1, 1) := by decide +kernel
theorem dX6_init_155 : decode cX6_init 155 = .ok (.iload_n 1, 1) := by decide +kernel
theorem dX6_init_156 : decode cX6_init 156 = .ok (.bipush 12, 2) := by decide +kernel
theorem dX6_init_158 : decode cX6_init 158 = .ok (.if_icmp .ge 23, 3) := by decide +kernel
theorem dX6_init_161 : decode cX6_init 161 = .ok (.aload_n 0, 1) := by decide +kernel
theorem dX6_init_162 : decode cX6_init 162 = .ok (.getfield 25, 3) := by decide +kernel
theorem dX6_init_165 : decode cX6_init 165 = .ok (.iload_n 1, 1) := by decide +kernel
theorem dX6_init_166 : decode cX6_init 166 = .ok (.iconst 1, 1) := by decide +kernel
theorem dX6_init_167 : decode cX6_init 167 = .ok (.iastore, 1) := by decide +kernel
theorem dX6_init_168 : decode cX6_init 168 = .ok (.aload_n 0, 1) := by decide +kernel
theorem dX6_init_169 : decode cX6_init 169 = .ok (.getfield 28, 3) := by decide +kernel
theorem dX6_init_172 : decode cX6_init 172 = .ok (.iload_n 1, 1) := by decide +kernel
theorem dX6_init_173 : decode cX6_init 173 = .ok (.iconst 1, 1) := by decide +kernel
theorem dX6_init_174 : decode cX6_init 174 = .ok (.iastore, 1) := by decide +kernel
theorem dX6_init_175 : decode cX6_init 175 = .ok (.iinc 1 1, 3) := by decide +kernel
theorem dX6_init_178 : decode cX6_init 178 = .ok (.goto (-23), 3) := by decide +kernel
theorem dX6_init_181 : decode cX6_init 181 = .ok (.return_, 1) := by decide +kernel
abbrev cX6_place : ByteArray := prog_1_method_2_code
def yX6_place : MethodName := ⟨RX6, "place", "(III)V"⟩
abbrev wX6_place : Cond := .code yX6_place cX6_place 5 none
theorem kX6_place : wX6_place ∈ wG := mG 242 (by decide +kernel) rfl
theorem dX6_place_0 : decode cX6_place 0 = .ok (.aload_n 0, 1) := by decide +kernel
theorem dX6_place_1 : decode cX6_place 1 = .ok (.iload_n 1, 1) := by decide +kernel
theorem dX6_place_2 : decode cX6_place 2 = .ok (.invokevirtual 56, 3) := by decide +kernel
theorem dX6_place_5 : decode cX6_place 5 = .ok (.astore 4, 2) := by decide +kernel
theorem dX6_place_7 : decode cX6_place 7 = .ok (.iload_n 2, 1) := by decide +kernel
theorem dX6_place_8 : decode cX6_place 8 = .ok (.iconst 1, 1) := by decide +kernel
theorem dX6_place_9 : decode cX6_place 9 = .ok (.ldc 60, 2) := by decide +kernel
theorem dX6_place_11 : decode cX6_place 11 = .ok (.invokestatic 61, 3) := by decide +kernel
theorem dX6_place_14 : decode cX6_place 14 = .ok (.iload_n 3, 1) := by decide +kernel
theorem dX6_place_15 : decode cX6_place 15 = .ok (.iconst 0, 1) := by decide +kernel
theorem dX6_place_16 : decode cX6_place 16 = .ok (.iconst 3, 1) := by decide +kernel
theorem dX6_place_17 : decode cX6_place 17 = .ok (.invokestatic 61, 3) := by decide +kernel
theorem dX6_place_20 : decode cX6_place 20 = .ok (.aload 4, 2) := by decide +kernel
theorem dX6_place_22 : decode cX6_place 22 = .ok (.getfield 65, 3) := by decide +kernel
theorem dX6_place_25 : decode cX6_place 25 = .ok (.iload_n 2, 1) := by decide +kernel
theorem dX6_place_26 : decode cX6_place 26 = .ok (.if_icmp .gt 12, 3) := by decide +kernel
theorem dX6_place_29 : decode cX6_place 29 = .ok (.aload 4, 2) := by decide +kernel
theorem dX6_place_31 : decode cX6_place 31 = .ok (.getfield 69, 3) := by decide +kernel
theorem dX6_place_34 : decode cX6_place 34 = .ok (.iload_n 2, 1) := by decide +kernel
theorem dX6_place_35 : decode cX6_place 35 = .ok (.if_icmp .le 13, 3) := by decide +kernel
theorem dX6_place_38 : decode cX6_place 38 = .ok (.new 72, 3) := by decide +kernel
theorem dX6_place_41 : decode cX6_place 41 = .ok (.dup, 1) := by decide +kernel
theorem dX6_place_42 : decode cX6_place 42 = .ok (.ldc 74, 2) := by decide +kernel
theorem dX6_place_44 : decode cX6_place 44 = .ok (.invokespecial 76, 3) := by decide +kernel
theorem dX6_place_47 : decode cX6_place 47 = .ok (.athrow, 1) := by decide +kernel
theorem dX6_place_48 : decode cX6_place 48 = .ok (.aload 4, 2) := by decide +kernel
theorem dX6_place_50 : decode cX6_place 50 = .ok (.iload_n 2, 1) := by decide +kernel
theorem dX6_place_51 : decode cX6_place 51 = .ok (.putfield 79, 3) := by decide +kernel
theorem dX6_place_54 : decode cX6_place 54 = .ok (.aload 4, 2) := by decide +kernel
theorem dX6_place_56 : decode cX6_place 56 = .ok (.iload_n 3, 1) := by decide +kernel
theorem dX6_place_57 : decode cX6_place 57 = .ok (.putfield 82, 3) := by decide +kernel
theorem dX6_place_60 : decode cX6_place 60 = .ok (.return_, 1) := by decide +kernel
abbrev cX6_face : ByteArray := prog_1_method_3_code
def yX6_face : MethodName := ⟨RX6, "face", "(IIII)V"⟩
abbrev wX6_face : Cond := .code yX6_face cX6_face 6 none
theorem kX6_face : wX6_face ∈ wG := mG 343 (by decide +kernel) rfl
theorem dX6_face_0 : decode cX6_face 0 = .ok (.aload_n 0, 1) := by decide +kernel
theorem dX6_face_1 : decode cX6_face 1 = .ok (.iload_n 1, 1) := by decide +kernel
theorem dX6_face_2 : decode cX6_face 2 = .ok (.invokevirtual 56, 3) := by decide +kernel
theorem dX6_face_5 : decode cX6_face 5 = .ok (.astore 5, 2) := by decide +kernel
theorem dX6_face_7 : decode cX6_face 7 = .ok (.iload_n 2, 1) := by decide +kernel
theorem dX6_face_8 : decode cX6_face 8 = .ok (.iconst 0, 1) := by decide +kernel
theorem dX6_face_9 : decode cX6_face 9 = .ok (.bipush 7, 2) := by decide +kernel
theorem dX6_face_11 : decode cX6_face 11 = .ok (.invokestatic 61, 3) := by decide +kernel
theorem dX6_face_14 : decode cX6_face 14 = .ok (.iload 4, 2) := by decide +kernel
theorem dX6_face_16 : decode cX6_face 16 = .ok (.iconst 0, 1) := by decide +kernel
theorem dX6_face_17 : decode cX6_face 17 = .ok (.aload 5, 2) := by decide +kernel
theorem dX6_face_19 : decode cX6_face 19 = .ok (.getfield 79, 3) := by decide +kernel
theorem dX6_face_22 : decode cX6_face 22 = .ok (.invokestatic 61, 3) := by decide +kernel
theorem dX6_face_25 : decode cX6_face 25 = .ok (.iload_n 3, 1) := by decide +kernel
theorem dX6_face_26 : decode cX6_face 26 = .ok (.iconst 0, 1) := by decide +kernel
theorem dX6_face_27 : decode cX6_face 27 = .ok (.iload 4, 2) := by decide +kernel
theorem dX6_face_29 : decode cX6_face 29 = .ok (.invokestatic 61, 3) := by decide +kernel
theorem dX6_face_32 : decode cX6_face 32 = .ok (.aload 5, 2) := by decide +kernel
theorem dX6_face_34 : decode cX6_face 34 = .ok (.iload_n 2, 1) := by decide +kernel
theorem dX6_face_35 : decode cX6_face 35 = .ok (.invokevirtual 85, 3) := by decide +kernel
theorem dX6_face_38 : decode cX6_face 38 = .ok (.ifCond .eq 13, 3) := by decide +kernel
theorem dX6_face_41 : decode cX6_face 41 = .ok (.new 72, 3) := by decide +kernel
theorem dX6_face_44 : decode cX6_face 44 = .ok (.dup, 1) := by decide +kernel
theorem dX6_face_45 : decode cX6_face 45 = .ok (.ldc 89, 2) := by decide +kernel
theorem dX6_face_47 : decode cX6_face 47 = .ok (.invokespecial 76, 3) := by decide +kernel
theorem dX6_face_50 : decode cX6_face 50 = .ok (.athrow, 1) := by decide +kernel
theorem dX6_face_51 : decode cX6_face 51 = .ok (.aload 5, 2) := by decide +kernel
theorem dX6_face_53 : decode cX6_face 53 = .ok (.iload_n 2, 1) := by decide +kernel
theorem dX6_face_54 : decode cX6_face 54 = .ok (.putfield 91, 3) := by decide +kernel
theorem dX6_face_57 : decode cX6_face 57 = .ok (.aload 5, 2) := by decide +kernel
theorem dX6_face_59 : decode cX6_face 59 = .ok (.iload_n 3, 1) := by decide +kernel
theorem dX6_face_60 : decode cX6_face 60 = .ok (.putfield 94, 3) := by decide +kernel
theorem dX6_face_63 : decode cX6_face 63 = .ok (.aload 5, 2) := by decide +kernel
theorem dX6_face_65 : decode cX6_face 65 = .ok (.iload 4, 2) := by decide +kernel
theorem dX6_face_67 : decode cX6_face 67 = .ok (.putfield 69, 3) := by decide +kernel
theorem dX6_face_70 : decode cX6_face 70 = .ok (.return_, 1) := by decide +kernel
abbrev cX6_put : ByteArray := prog_1_method_4_code
def yX6_put : MethodName := ⟨RX6, "put", "(III)V"⟩
abbrev wX6_put : Cond := .code yX6_put cX6_put 5 none
theorem kX6_put : wX6_put ∈ wG := mG 356 (by decide +kernel) rfl
theorem dX6_put_0 : decode cX6_put 0 = .ok (.aload_n 0, 1) := by decide +kernel
theorem dX6_put_1 : decode cX6_put 1 = .ok (.iload_n 1, 1) := by decide +kernel
theorem dX6_put_2 : decode cX6_put 2 = .ok (.invokevirtual 56, 3) := by decide +kernel
theorem dX6_put_5 : decode cX6_put 5 = .ok (.astore 4, 2) := by decide +kernel
theorem dX6_put_7 : decode cX6_put 7 = .ok (.iload_n 2, 1) := by decide +kernel
theorem dX6_put_8 : decode cX6_put 8 = .ok (.iconst 0, 1) := by decide +kernel
theorem dX6_put_9 : decode cX6_put 9 = .ok (.bipush 7, 2) := by decide +kernel
theorem dX6_put_11 : decode cX6_put 11 = .ok (.invokestatic 61, 3) := by decide +kernel
theorem dX6_put_14 : decode cX6_put 14 = .ok (.iload_n 3, 1) := by decide +kernel
theorem dX6_put_15 : decode cX6_put 15 = .ok (.iconst 1, 1) := by decide +kernel
theorem dX6_put_16 : decode cX6_put 16 = .ok (.ldc 60, 2) := by decide +kernel
theorem dX6_put_18 : decode cX6_put 18 = .ok (.invokestatic 61, 3) := by decide +kernel
theorem dX6_put_21 : decode cX6_put 21 = .ok (.aload 4, 2) := by decide +kernel
theorem dX6_put_23 : decode cX6_put 23 = .ok (.iload_n 2, 1) := by decide +kernel
theorem dX6_put_24 : decode cX6_put 24 = .ok (.invokevirtual 85, 3) := by decide +kernel
theorem dX6_put_27 : decode cX6_put 27 = .ok (.ifCond .ne 12, 3) := by decide +kernel
theorem dX6_put_30 : decode cX6_put 30 = .ok (.aload 4, 2) := by decide +kernel
theorem dX6_put_32 : decode cX6_put 32 = .ok (.iload_n 2, 1) := by decide +kernel
theorem dX6_put_33 : decode cX6_put 33 = .ok (.invokevirtual 97, 3) := by decide +kernel
theorem dX6_put_36 : decode cX6_put 36 = .ok (.ifCond .eq 13, 3) := by decide +kernel
theorem dX6_put_39 : decode cX6_put 39 = .ok (.new 72, 3) := by decide +kernel
theorem dX6_put_42 : decode cX6_put 42 = .ok (.dup, 1) := by decide +kernel
theorem dX6_put_43 : decode cX6_put 43 = .ok (.ldc 100, 2) := by decide +kernel
theorem dX6_put_45 : decode cX6_put 45 = .ok (.invokespecial 76, 3) := by decide +kernel
theorem dX6_put_48 : decode cX6_put 48 = .ok (.athrow, 1) := by decide +kernel
theorem dX6_put_49 : decode cX6_put 49 = .ok (.aload 4, 2) := by decide +kernel
theorem dX6_put_51 : decode cX6_put 51 = .ok (.iload_n 3, 1) := by decide +kernel
theorem dX6_put_52 : decode cX6_put 52 = .ok (.invokestatic 102, 3) := by decide +kernel
theorem dX6_put_55 : decode cX6_put 55 = .ok (.aload 4, 2) := by decide +kernel
theorem dX6_put_57 : decode cX6_put 57 = .ok (.iload_n 2, 1) := by decide +kernel
theorem dX6_put_58 : decode cX6_put 58 = .ok (.iload_n 3, 1) := by decide +kernel
theorem dX6_put_59 : decode cX6_put 59 = .ok (.invokevirtual 106, 3) := by decide +kernel
theorem dX6_put_62 : decode cX6_put 62 = .ok (.return_, 1) := by decide +kernel
abbrev cX6_use : ByteArray := prog_1_method_5_code
def yX6_use : MethodName := ⟨RX6, "use", "(II)V"⟩
abbrev wX6_use : Cond := .code yX6_use cX6_use 4 none
theorem kX6_use : wX6_use ∈ wG := mG 399 (by decide +kernel) rfl
theorem dX6_use_0 : decode cX6_use 0 = .ok (.iload_n 2, 1) := by decide +kernel
theorem dX6_use_1 : decode cX6_use 1 = .ok (.iconst 1, 1) := by decide +kernel
theorem dX6_use_2 : decode cX6_use 2 = .ok (.ldc 60, 2) := by decide +kernel
theorem dX6_use_4 : decode cX6_use 4 = .ok (.invokestatic 61, 3) := by decide +kernel
theorem dX6_use_7 : decode cX6_use 7 = .ok (.aload_n 0, 1) := by decide +kernel
theorem dX6_use_8 : decode cX6_use 8 = .ok (.iload_n 1, 1) := by decide +kernel
theorem dX6_use_9 : decode cX6_use 9 = .ok (.invokevirtual 110, 3) := by decide +kernel
theorem dX6_use_12 : decode cX6_use 12 = .ok (.astore_n 3, 1) := by decide +kernel
theorem dX6_use_13 : decode cX6_use 13 = .ok (.aload_n 3, 1) := by decide +kernel
theorem dX6_use_14 : decode cX6_use 14 = .ok (.invokevirtual 113, 3) := by decide +kernel
theorem dX6_use_17 : decode cX6_use 17 = .ok (.iload_n 2, 1) := by decide +kernel
theorem dX6_use_18 : decode cX6_use 18 = .ok (.if_icmp .ge 13, 3) := by decide +kernel
theorem dX6_use_21 : decode cX6_use 21 = .ok (.new 72, 3) := by decide +kernel
theorem dX6_use_24 : decode cX6_use 24 = .ok (.dup, 1) := by decide +kernel
theorem dX6_use_25 : decode cX6_use 25 = .ok (.ldc 117, 2) := by decide +kernel
theorem dX6_use_27 : decode cX6_use 27 = .ok (.invokespecial 76, 3) := by decide +kernel
theorem dX6_use_30 : decode cX6_use 30 = .ok (.athrow, 1) := by decide +kernel
theorem dX6_use_31 : decode cX6_use 31 = .ok (.aload_n 3, 1) := by decide +kernel
theorem dX6_use_32 : decode cX6_use 32 = .ok (.iload_n 2, 1) := by decide +kernel
theorem dX6_use_33 : decode cX6_use 33 = .ok (.invokevirtual 119, 3) := by decide +kernel
theorem dX6_use_36 : decode cX6_use 36 = .ok (.aload_n 3, 1) := by decide +kernel
theorem dX6_use_37 : decode cX6_use 37 = .ok (.getfield 122, 3) := by decide +kernel
theorem dX6_use_40 : decode cX6_use 40 = .ok (.aload_n 0, 1) := by decide +kernel
theorem dX6_use_41 : decode cX6_use 41 = .ok (.getfield 34, 3) := by decide +kernel
theorem dX6_use_44 : decode cX6_use 44 = .ok (.getfield 125, 3) := by decide +kernel
theorem dX6_use_47 : decode cX6_use 47 = .ok (.dup2, 1) := by decide +kernel
theorem dX6_use_48 : decode cX6_use 48 = .ok (.iaload, 1) := by decide +kernel
theorem dX6_use_49 : decode cX6_use 49 = .ok (.iload_n 2, 1) := by decide +kernel
theorem dX6_use_50 : decode cX6_use 50 = .ok (.iadd, 1) := by decide +kernel
theorem dX6_use_51 : decode cX6_use 51 = .ok (.iastore, 1) := by decide +kernel
theorem dX6_use_52 : decode cX6_use 52 = .ok (.return_, 1) := by decide +kernel
abbrev cX6_hold : ByteArray := prog_1_method_6_code
def yX6_hold : MethodName := ⟨RX6, "hold", "(II)V"⟩
abbrev wX6_hold : Cond := .code yX6_hold cX6_hold 4 none
theorem kX6_hold : wX6_hold ∈ wG := mG 421 (by decide +kernel) rfl
theorem dX6_hold_0 : decode cX6_hold 0 = .ok (.aload_n 0, 1) := by decide +kernel
theorem dX6_hold_1 : decode cX6_hold 1 = .ok (.iload_n 1, 1) := by decide +kernel
theorem dX6_hold_2 : decode cX6_hold 2 = .ok (.invokevirtual 56, 3) := by decide +kernel
theorem dX6_hold_5 : decode cX6_hold 5 = .ok (.astore_n 3, 1) := by decide +kernel
theorem dX6_hold_6 : decode cX6_hold 6 = .ok (.iload_n 2, 1) := by decide +kernel
theorem dX6_hold_7 : decode cX6_hold 7 = .ok (.iconst 0, 1) := by decide +kernel
theorem dX6_hold_8 : decode cX6_hold 8 = .ok (.ldc 130, 2) := by decide +kernel
theorem dX6_hold_10 : decode cX6_hold 10 = .ok (.invokestatic 61, 3) := by decide +kernel
theorem dX6_hold_13 : decode cX6_hold 13 = .ok (.aload_n 3, 1) := by decide +kernel
theorem dX6_hold_14 : decode cX6_hold 14 = .ok (.getfield 65, 3) := by decide +kernel
theorem dX6_hold_17 : decode cX6_hold 17 = .ok (.iload_n 2, 1) := by decide +kernel
theorem dX6_hold_18 : decode cX6_hold 18 = .ok (.if_icmp .ge 13, 3) := by decide +kernel
theorem dX6_hold_21 : decode cX6_hold 21 = .ok (.new 72, 3) := by decide +kernel
theorem dX6_hold_24 : decode cX6_hold 24 = .ok (.dup, 1) := by decide +kernel
theorem dX6_hold_25 : decode cX6_hold 25 = .ok (.ldc 131, 2) := by decide +kernel
theorem dX6_hold_27 : decode cX6_hold 27 = .ok (.invokespecial 76, 3) := by decide +kernel
theorem dX6_hold_30 : decode cX6_hold 30 = .ok (.athrow, 1) := by decide +kernel
theorem dX6_hold_31 : decode cX6_hold 31 = .ok (.aload_n 3, 1) := by decide +kernel
theorem dX6_hold_32 : decode cX6_hold 32 = .ok (.iload_n 2, 1) := by decide +kernel
theorem dX6_hold_33 : decode cX6_hold 33 = .ok (.putfield 133, 3) := by decide +kernel
theorem dX6_hold_36 : decode cX6_hold 36 = .ok (.return_, 1) := by decide +kernel
abbrev cX6_cases : ByteArray := prog_1_method_7_code
def yX6_cases : MethodName := ⟨RX6, "cases", "(II)V"⟩
abbrev wX6_cases : Cond := .code yX6_cases cX6_cases 3 none
theorem kX6_cases : wX6_cases ∈ wG := mG 430 (by decide +kernel) rfl
theorem dX6_cases_0 : decode cX6_cases 0 = .ok (.iload_n 1, 1) := by decide +kernel
theorem dX6_cases_1 : decode cX6_cases 1 = .ok (.iconst 0, 1) := by decide +kernel
theorem dX6_cases_2 : decode cX6_cases 2 = .ok (.bipush 7, 2) := by decide +kernel
theorem dX6_cases_4 : decode cX6_cases 4 = .ok (.invokestatic 61, 3) := by decide +kernel
theorem dX6_cases_7 : decode cX6_cases 7 = .ok (.iload_n 2, 1) := by decide +kernel
theorem dX6_cases_8 : decode cX6_cases 8 = .ok (.iconst 1, 1) := by decide +kernel
theorem dX6_cases_9 : decode cX6_cases 9 = .ok (.sipush 1000, 3) := by decide +kernel
theorem dX6_cases_12 : decode cX6_cases 12 = .ok (.invokestatic 61, 3) := by decide +kernel
theorem dX6_cases_15 : decode cX6_cases 15 = .ok (.aload_n 0, 1) := by decide +kernel
theorem dX6_cases_16 : decode cX6_cases 16 = .ok (.getfield 21, 3) := by decide +kernel
theorem dX6_cases_19 : decode cX6_cases 19 = .ok (.iload_n 1, 1) := by decide +kernel
theorem dX6_cases_20 : decode cX6_cases 20 = .ok (.iload_n 2, 1) := by decide +kernel
theorem dX6_cases_21 : decode cX6_cases 21 = .ok (.iastore, 1) := by decide +kernel
theorem dX6_cases_22 : decode cX6_cases 22 = .ok (.return_, 1) := by decide +kernel
abbrev cX6_rule : ByteArray := prog_1_method_8_code
def yX6_rule : MethodName := ⟨RX6, "rule", "(IIII)V"⟩
abbrev wX6_rule : Cond := .code yX6_rule cX6_rule 6 none
theorem kX6_rule : wX6_rule ∈ wG := mG 437 (by decide +kernel) rfl
theorem dX6_rule_0 : decode cX6_rule 0 = .ok (.iload_n 1, 1) := by decide +kernel
theorem dX6_rule_1 : decode cX6_rule 1 = .ok (.iconst 0, 1) := by decide +kernel
theorem dX6_rule_2 : decode cX6_rule 2 = .ok (.iconst 3, 1) := by decide +kernel
theorem dX6_rule_3 : decode cX6_rule 3 = .ok (.invokestatic 61, 3) := by decide +kernel
theorem dX6_rule_6 : decode cX6_rule 6 = .ok (.iload_n 2, 1) := by decide +kernel
theorem dX6_rule_7 : decode cX6_rule 7 = .ok (.iconst 0, 1) := by decide +kernel
theorem dX6_rule_8 : decode cX6_rule 8 = .ok (.iconst 2, 1) := by decide +kernel
theorem dX6_rule_9 : decode cX6_rule 9 = .ok (.invokestatic 61, 3) := by decide +kernel
theorem dX6_rule_12 : decode cX6_rule 12 = .ok (.iload_n 3, 1) := by decide +kernel
theorem dX6_rule_13 : decode cX6_rule 13 = .ok (.iconst 1, 1) := by decide +kernel
theorem dX6_rule_14 : decode cX6_rule 14 = .ok (.bipush 30, 2) := by decide +kernel
theorem dX6_rule_16 : decode cX6_rule 16 = .ok (.invokestatic 61, 3) := by decide +kernel
theorem dX6_rule_19 : decode cX6_rule 19 = .ok (.iload 4, 2) := by decide +kernel
theorem dX6_rule_21 : decode cX6_rule 21 = .ok (.iconst 0, 1) := by decide +kernel
theorem dX6_rule_22 : decode cX6_rule 22 = .ok (.sipush 399, 3) := by decide +kernel
theorem dX6_rule_25 : decode cX6_rule 25 = .ok (.invokestatic 61, 3) := by decide +kernel
theorem dX6_rule_28 : decode cX6_rule 28 = .ok (.aload_n 0, 1) := by decide +kernel
theorem dX6_rule_29 : decode cX6_rule 29 = .ok (.getfield 17, 3) := by decide +kernel
theorem dX6_rule_32 : decode cX6_rule 32 = .ok (.iload_n 1, 1) := by decide +kernel
theorem dX6_rule_33 : decode cX6_rule 33 = .ok (.aaload, 1) := by decide +kernel
theorem dX6_rule_34 : decode cX6_rule 34 = .ok (.astore 5, 2) := by decide +kernel
theorem dX6_rule_36 : decode cX6_rule 36 = .ok (.aload 5, 2) := by decide +kernel
theorem dX6_rule_38 : decode cX6_rule 38 = .ok (.iload_n 2, 1) := by decide +kernel
theorem dX6_rule_39 : decode cX6_rule 39 = .ok (.putfield 136, 3) := by decide +kernel
theorem dX6_rule_42 : decode cX6_rule 42 = .ok (.aload 5, 2) := by decide +kernel
theorem dX6_rule_44 : decode cX6_rule 44 = .ok (.iload_n 3, 1) := by decide +kernel
theorem dX6_rule_45 : decode cX6_rule 45 = .ok (.putfield 139, 3) := by decide +kernel
theorem dX6_rule_48 : decode cX6_rule 48 = .ok (.aload 5, 2) := by decide +kernel
theorem dX6_rule_50 : decode cX6_rule 50 = .ok (.iload 4, 2) := by decide +kernel
theorem dX6_rule_52 : decode cX6_rule 52 = .ok (.putfield 142, 3) := by decide +kernel
theorem dX6_rule_55 : decode cX6_rule 55 = .ok (.return_, 1) := by decide +kernel
abbrev cX6_factor : ByteArray := prog_1_method_9_code
def yX6_factor : MethodName := ⟨RX6, "factor", "(III)V"⟩
abbrev wX6_factor : Cond := .code yX6_factor cX6_factor 4 none
theorem kX6_factor : wX6_factor ∈ wG := mG 444 (by decide +kernel) rfl
theorem dX6_factor_0 : decode cX6_factor 0 = .ok (.iload_n 1, 1) := by decide +kernel
theorem dX6_factor_1 : decode cX6_factor 1 = .ok (.iconst 0, 1) := by decide +kernel
theorem dX6_factor_2 : decode cX6_factor 2 = .ok (.bipush 11, 2) := by decide +kernel
theorem dX6_factor_4 : decode cX6_factor 4 = .ok (.invokestatic 61, 3) := by decide +kernel
theorem dX6_factor_7 : decode cX6_factor 7 = .ok (.iload_n 2, 1) := by decide +kernel
theorem dX6_factor_8 : decode cX6_factor 8 = .ok (.iconst 0, 1) := by decide +kernel
theorem dX6_factor_9 : decode cX6_factor 9 = .ok (.sipush 1000, 3) := by decide +kernel
theorem dX6_factor_12 : decode cX6_factor 12 = .ok (.invokestatic 61, 3) := by decide +kernel
theorem dX6_factor_15 : decode cX6_factor 15 = .ok (.iload_n 3, 1) := by decide +kernel
theorem dX6_factor_16 : decode cX6_factor 16 = .ok (.iconst 1, 1) := by decide +kernel
theorem dX6_factor_17 : decode cX6_factor 17 = .ok (.sipush 1000, 3) := by decide +kernel
theorem dX6_factor_20 : decode cX6_factor 20 = .ok (.invokestatic 61, 3) := by decide +kernel
theorem dX6_factor_23 : decode cX6_factor 23 = .ok (.aload_n 0, 1) := by decide +kernel
theorem dX6_factor_24 : decode cX6_factor 24 = .ok (.getfield 25, 3) := by decide +kernel
theorem dX6_factor_27 : decode cX6_factor 27 = .ok (.iload_n 1, 1) := by decide +kernel
theorem dX6_factor_28 : decode cX6_factor 28 = .ok (.iload_n 2, 1) := by decide +kernel
theorem dX6_factor_29 : decode cX6_factor 29 = .ok (.iastore, 1) := by decide +kernel
theorem dX6_factor_30 : decode cX6_factor 30 = .ok (.aload_n 0, 1) := by decide +kernel
theorem dX6_factor_31 : decode cX6_factor 31 = .ok (.getfield 28, 3) := by decide +kernel
theorem dX6_factor_34 : decode cX6_factor 34 = .ok (.iload_n 1, 1) := by decide +kernel
theorem dX6_factor_35 : decode cX6_factor 35 = .ok (.iload_n 3, 1) := by decide +kernel
theorem dX6_factor_36 : decode cX6_factor 36 = .ok (.iastore, 1) := by decide +kernel
theorem dX6_factor_37 : decode cX6_factor 37 = .ok (.return_, 1) := by decide +kernel
abbrev cX6_wave : ByteArray := prog_1_method_10_code
def yX6_wave : MethodName := ⟨RX6, "wave", "(III)V"⟩
abbrev wX6_wave : Cond := .code yX6_wave cX6_wave 5 none
theorem kX6_wave : wX6_wave ∈ wG := mG 451 (by decide +kernel) rfl
theorem dX6_wave_0 : decode cX6_wave 0 = .ok (.iload_n 2, 1) := by decide +kernel
theorem dX6_wave_1 : decode cX6_wave 1 = .ok (.iconst 1, 1) := by decide +kernel
theorem dX6_wave_2 : decode cX6_wave 2 = .ok (.ldc 60, 2) := by decide +kernel
theorem dX6_wave_4 : decode cX6_wave 4 = .ok (.invokestatic 61, 3) := by decide +kernel
theorem dX6_wave_7 : decode cX6_wave 7 = .ok (.iload_n 3, 1) := by decide +kernel
theorem dX6_wave_8 : decode cX6_wave 8 = .ok (.aload_n 0, 1) := by decide +kernel
theorem dX6_wave_9 : decode cX6_wave 9 = .ok (.getfield 34, 3) := by decide +kernel
theorem dX6_wave_12 : decode cX6_wave 12 = .ok (.getfield 125, 3) := by decide +kernel
theorem dX6_wave_15 : decode cX6_wave 15 = .ok (.sipush 399, 3) := by decide +kernel
theorem dX6_wave_18 : decode cX6_wave 18 = .ok (.invokestatic 61, 3) := by decide +kernel
theorem dX6_wave_21 : decode cX6_wave 21 = .ok (.aload_n 0, 1) := by decide +kernel
theorem dX6_wave_22 : decode cX6_wave 22 = .ok (.iload_n 1, 1) := by decide +kernel
theorem dX6_wave_23 : decode cX6_wave 23 = .ok (.invokevirtual 110, 3) := by decide +kernel
theorem dX6_wave_26 : decode cX6_wave 26 = .ok (.astore 4, 2) := by decide +kernel
theorem dX6_wave_28 : decode cX6_wave 28 = .ok (.aload_n 0, 1) := by decide +kernel
theorem dX6_wave_29 : decode cX6_wave 29 = .ok (.getfield 41, 3) := by decide +kernel
theorem dX6_wave_32 : decode cX6_wave 32 = .ok (.getfield 145, 3) := by decide +kernel
theorem dX6_wave_35 : decode cX6_wave 35 = .ok (.bipush 30, 2) := by decide +kernel
theorem dX6_wave_37 : decode cX6_wave 37 = .ok (.if_icmp .lt 13, 3) := by decide +kernel
theorem dX6_wave_40 : decode cX6_wave 40 = .ok (.new 148, 3) := by decide +kernel
theorem dX6_wave_43 : decode cX6_wave 43 = .ok (.dup, 1) := by decide +kernel
theorem dX6_wave_44 : decode cX6_wave 44 = .ok (.ldc 150, 2) := by decide +kernel
theorem dX6_wave_46 : decode cX6_wave 46 = .ok (.invokespecial 152, 3) := by decide +kernel
theorem dX6_wave_49 : decode cX6_wave 49 = .ok (.athrow, 1) := by decide +kernel
theorem dX6_wave_50 : decode cX6_wave 50 = .ok (.aload_n 0, 1) := by decide +kernel
theorem dX6_wave_51 : decode cX6_wave 51 = .ok (.getfield 41, 3) := by decide +kernel
theorem dX6_wave_54 : decode cX6_wave 54 = .ok (.aload 4, 2) := by decide +kernel
theorem dX6_wave_56 : decode cX6_wave 56 = .ok (.getfield 153, 3) := by decide +kernel
theorem dX6_wave_59 : decode cX6_wave 59 = .ok (.iload_n 2, 1) := by decide +kernel
theorem dX6_wave_60 : decode cX6_wave 60 = .ok (.iload_n 3, 1) := by decide +kernel
theorem dX6_wave_61 : decode cX6_wave 61 = .ok (.invokevirtual 156, 3) := by decide +kernel
theorem dX6_wave_64 : decode cX6_wave 64 = .ok (.return_, 1) := by decide +kernel
abbrev cX6_open : ByteArray := prog_1_method_11_code
def yX6_open : MethodName := ⟨RX6, "open", "(IZ)V"⟩
abbrev wX6_open : Cond := .code yX6_open cX6_open 3 none
theorem kX6_open : wX6_open ∈ wG := mG 463 (by decide +kernel) rfl
theorem dX6_open_0 : decode cX6_open 0 = .ok (.iload_n 1, 1) := by decide +kernel
theorem dX6_open_1 : decode cX6_open 1 = .ok (.iconst 0, 1) := by decide +kernel
theorem dX6_open_2 : decode cX6_open 2 = .ok (.sipush 399, 3) := by decide +kernel
theorem dX6_open_5 : decode cX6_open 5 = .ok (.invokestatic 61, 3) := by decide +kernel
theorem dX6_open_8 : decode cX6_open 8 = .ok (.iload_n 1, 1) := by decide +kernel
theorem dX6_open_9 : decode cX6_open 9 = .ok (.aload_n 0, 1) := by decide +kernel
theorem dX6_open_10 : decode cX6_open 10 = .ok (.getfield 34, 3) := by decide +kernel
end
section
theorem dX6_open_13 : decode cX6_open 13 = .ok (.getfield 125, 3) := by decide +kernel
theorem dX6_open_16 : decode cX6_open 16 = .ok (.if_icmp .ge 13, 3) := by decide +kernel
theorem dX6_open_19 : decode cX6_open 19 = .ok (.new 72, 3) := by decide +kernel
theorem dX6_open_22 : decode cX6_open 22 = .ok (.dup, 1) := by decide +kernel
theorem dX6_open_23 : decode cX6_open 23 = .ok (.ldc 159, 2) := by decide +kernel
theorem dX6_open_25 : decode cX6_open 25 = .ok (.invokespecial 76, 3) := by decide +kernel
theorem dX6_open_28 : decode cX6_open 28 = .ok (.athrow, 1) := by decide +kernel
theorem dX6_open_29 : decode cX6_open 29 = .ok (.aload_n 0, 1) := by decide +kernel
theorem dX6_open_30 : decode cX6_open 30 = .ok (.getfield 34, 3) := by decide +kernel
theorem dX6_open_33 : decode cX6_open 33 = .ok (.getfield 161, 3) := by decide +kernel
theorem dX6_open_36 : decode cX6_open 36 = .ok (.iload_n 1, 1) := by decide +kernel
theorem dX6_open_37 : decode cX6_open 37 = .ok (.iload_n 2, 1) := by decide +kernel
theorem dX6_open_38 : decode cX6_open 38 = .ok (.ifCond .ne 7, 3) := by decide +kernel
theorem dX6_open_41 : decode cX6_open 41 = .ok (.iconst 1, 1) := by decide +kernel
theorem dX6_open_42 : decode cX6_open 42 = .ok (.goto 4, 3) := by decide +kernel
theorem dX6_open_45 : decode cX6_open 45 = .ok (.iconst 0, 1) := by decide +kernel
theorem dX6_open_46 : decode cX6_open 46 = .ok (.bastore, 1) := by decide +kernel
theorem dX6_open_47 : decode cX6_open 47 = .ok (.return_, 1) := by decide +kernel
abbrev cX6_day : ByteArray := prog_1_method_12_code
def yX6_day : MethodName := ⟨RX6, "day", "(I)V"⟩
abbrev wX6_day : Cond := .code yX6_day cX6_day 2 none
theorem kX6_day : wX6_day ∈ wG := mG 471 (by decide +kernel) rfl
theorem dX6_day_0 : decode cX6_day 0 = .ok (.iload_n 1, 1) := by decide +kernel
theorem dX6_day_1 : decode cX6_day 1 = .ok (.aload_n 0, 1) := by decide +kernel
theorem dX6_day_2 : decode cX6_day 2 = .ok (.getfield 34, 3) := by decide +kernel
theorem dX6_day_5 : decode cX6_day 5 = .ok (.getfield 125, 3) := by decide +kernel
theorem dX6_day_8 : decode cX6_day 8 = .ok (.sipush 399, 3) := by decide +kernel
theorem dX6_day_11 : decode cX6_day 11 = .ok (.invokestatic 61, 3) := by decide +kernel
theorem dX6_day_14 : decode cX6_day 14 = .ok (.aload_n 0, 1) := by decide +kernel
theorem dX6_day_15 : decode cX6_day 15 = .ok (.getfield 34, 3) := by decide +kernel
theorem dX6_day_18 : decode cX6_day 18 = .ok (.iload_n 1, 1) := by decide +kernel
theorem dX6_day_19 : decode cX6_day 19 = .ok (.putfield 125, 3) := by decide +kernel
theorem dX6_day_22 : decode cX6_day 22 = .ok (.return_, 1) := by decide +kernel
abbrev cX6_mean : ByteArray := prog_1_method_13_code
def yX6_mean : MethodName := ⟨RX6, "mean", "(II)I"⟩
abbrev wX6_mean : Cond := .code yX6_mean cX6_mean 5 (some .int)
theorem kX6_mean : wX6_mean ∈ wG := mG 479 (by decide +kernel) rfl
theorem dX6_mean_0 : decode cX6_mean 0 = .ok (.iload_n 2, 1) := by decide +kernel
theorem dX6_mean_1 : decode cX6_mean 1 = .ok (.iconst 0, 1) := by decide +kernel
theorem dX6_mean_2 : decode cX6_mean 2 = .ok (.bipush 60, 2) := by decide +kernel
theorem dX6_mean_4 : decode cX6_mean 4 = .ok (.invokestatic 61, 3) := by decide +kernel
theorem dX6_mean_7 : decode cX6_mean 7 = .ok (.aload_n 0, 1) := by decide +kernel
theorem dX6_mean_8 : decode cX6_mean 8 = .ok (.iload_n 1, 1) := by decide +kernel
theorem dX6_mean_9 : decode cX6_mean 9 = .ok (.invokevirtual 110, 3) := by decide +kernel
theorem dX6_mean_12 : decode cX6_mean 12 = .ok (.astore_n 3, 1) := by decide +kernel
theorem dX6_mean_13 : decode cX6_mean 13 = .ok (.aload_n 0, 1) := by decide +kernel
theorem dX6_mean_14 : decode cX6_mean 14 = .ok (.getfield 34, 3) := by decide +kernel
theorem dX6_mean_17 : decode cX6_mean 17 = .ok (.iload_n 2, 1) := by decide +kernel
theorem dX6_mean_18 : decode cX6_mean 18 = .ok (.invokevirtual 165, 3) := by decide +kernel
theorem dX6_mean_21 : decode cX6_mean 21 = .ok (.istore 4, 2) := by decide +kernel
theorem dX6_mean_23 : decode cX6_mean 23 = .ok (.iload 4, 2) := by decide +kernel
theorem dX6_mean_25 : decode cX6_mean 25 = .ok (.ifCond .ne 13, 3) := by decide +kernel
theorem dX6_mean_28 : decode cX6_mean 28 = .ok (.new 169, 3) := by decide +kernel
theorem dX6_mean_31 : decode cX6_mean 31 = .ok (.dup, 1) := by decide +kernel
theorem dX6_mean_32 : decode cX6_mean 32 = .ok (.ldc 171, 2) := by decide +kernel
theorem dX6_mean_34 : decode cX6_mean 34 = .ok (.invokespecial 173, 3) := by decide +kernel
theorem dX6_mean_37 : decode cX6_mean 37 = .ok (.athrow, 1) := by decide +kernel
theorem dX6_mean_38 : decode cX6_mean 38 = .ok (.aload_n 0, 1) := by decide +kernel
theorem dX6_mean_39 : decode cX6_mean 39 = .ok (.aload_n 3, 1) := by decide +kernel
theorem dX6_mean_40 : decode cX6_mean 40 = .ok (.iload_n 2, 1) := by decide +kernel
theorem dX6_mean_41 : decode cX6_mean 41 = .ok (.invokevirtual 174, 3) := by decide +kernel
theorem dX6_mean_44 : decode cX6_mean 44 = .ok (.iload 4, 2) := by decide +kernel
theorem dX6_mean_46 : decode cX6_mean 46 = .ok (.i2l, 1) := by decide +kernel
theorem dX6_mean_47 : decode cX6_mean 47 = .ok (.ldiv, 1) := by decide +kernel
theorem dX6_mean_48 : decode cX6_mean 48 = .ok (.l2i, 1) := by decide +kernel
theorem dX6_mean_49 : decode cX6_mean 49 = .ok (.ireturn, 1) := by decide +kernel
abbrev cX6_forecast : ByteArray := prog_1_method_14_code
def yX6_forecast : MethodName := ⟨RX6, "forecast", "(I)J"⟩
abbrev wX6_forecast : Cond := .code yX6_forecast cX6_forecast 2 (some .long)
theorem kX6_forecast : wX6_forecast ∈ wG := mG 519 (by decide +kernel) rfl
theorem dX6_forecast_0 : decode cX6_forecast 0 = .ok (.aload_n 0, 1) := by decide +kernel
theorem dX6_forecast_1 : decode cX6_forecast 1 = .ok (.aload_n 0, 1) := by decide +kernel
theorem dX6_forecast_2 : decode cX6_forecast 2 = .ok (.iload_n 1, 1) := by decide +kernel
theorem dX6_forecast_3 : decode cX6_forecast 3 = .ok (.invokevirtual 110, 3) := by decide +kernel
theorem dX6_forecast_6 : decode cX6_forecast 6 = .ok (.invokevirtual 178, 3) := by decide +kernel
theorem dX6_forecast_9 : decode cX6_forecast 9 = .ok (.lreturn, 1) := by decide +kernel
abbrev cX6_threshold : ByteArray := prog_1_method_15_code
def yX6_threshold : MethodName := ⟨RX6, "threshold", "(I)I"⟩
abbrev wX6_threshold : Cond := .code yX6_threshold cX6_threshold 2 (some .int)
theorem kX6_threshold : wX6_threshold ∈ wG := mG 557 (by decide +kernel) rfl
theorem dX6_threshold_0 : decode cX6_threshold 0 = .ok (.aload_n 0, 1) := by decide +kernel
theorem dX6_threshold_1 : decode cX6_threshold 1 = .ok (.aload_n 0, 1) := by decide +kernel
theorem dX6_threshold_2 : decode cX6_threshold 2 = .ok (.iload_n 1, 1) := by decide +kernel
theorem dX6_threshold_3 : decode cX6_threshold 3 = .ok (.invokevirtual 110, 3) := by decide +kernel
theorem dX6_threshold_6 : decode cX6_threshold 6 = .ok (.invokevirtual 182, 3) := by decide +kernel
theorem dX6_threshold_9 : decode cX6_threshold 9 = .ok (.ireturn, 1) := by decide +kernel
abbrev cX6_above : ByteArray := prog_1_method_16_code
def yX6_above : MethodName := ⟨RX6, "above", "(I)Z"⟩
abbrev wX6_above : Cond := .code yX6_above cX6_above 3 (some .boolean)
theorem kX6_above : wX6_above ∈ wG := mG 582 (by decide +kernel) rfl
theorem dX6_above_0 : decode cX6_above 0 = .ok (.aload_n 0, 1) := by decide +kernel
theorem dX6_above_1 : decode cX6_above 1 = .ok (.iload_n 1, 1) := by decide +kernel
theorem dX6_above_2 : decode cX6_above 2 = .ok (.invokevirtual 110, 3) := by decide +kernel
theorem dX6_above_5 : decode cX6_above 5 = .ok (.astore_n 2, 1) := by decide +kernel
theorem dX6_above_6 : decode cX6_above 6 = .ok (.aload_n 0, 1) := by decide +kernel
theorem dX6_above_7 : decode cX6_above 7 = .ok (.aload_n 2, 1) := by decide +kernel
theorem dX6_above_8 : decode cX6_above 8 = .ok (.invokevirtual 186, 3) := by decide +kernel
theorem dX6_above_11 : decode cX6_above 11 = .ok (.aload_n 2, 1) := by decide +kernel
theorem dX6_above_12 : decode cX6_above 12 = .ok (.getfield 79, 3) := by decide +kernel
theorem dX6_above_15 : decode cX6_above 15 = .ok (.i2l, 1) := by decide +kernel
theorem dX6_above_16 : decode cX6_above 16 = .ok (.lcmp, 1) := by decide +kernel
theorem dX6_above_17 : decode cX6_above 17 = .ok (.ifCond .le 7, 3) := by decide +kernel
theorem dX6_above_20 : decode cX6_above 20 = .ok (.iconst 1, 1) := by decide +kernel
theorem dX6_above_21 : decode cX6_above 21 = .ok (.goto 4, 3) := by decide +kernel
theorem dX6_above_24 : decode cX6_above 24 = .ok (.iconst 0, 1) := by decide +kernel
theorem dX6_above_25 : decode cX6_above 25 = .ok (.ireturn, 1) := by decide +kernel
abbrev cX6_run : ByteArray := prog_1_method_17_code
def yX6_run : MethodName := ⟨RX6, "run", "()I"⟩
abbrev wX6_run : Cond := .code yX6_run cX6_run 3 (some .int)
theorem kX6_run : wX6_run ∈ wG := mG 589 (by decide +kernel) rfl
theorem dX6_run_0 : decode cX6_run 0 = .ok (.aload_n 0, 1) := by decide +kernel
theorem dX6_run_1 : decode cX6_run 1 = .ok (.getfield 34, 3) := by decide +kernel
theorem dX6_run_4 : decode cX6_run 4 = .ok (.aload_n 0, 1) := by decide +kernel
theorem dX6_run_5 : decode cX6_run 5 = .ok (.getfield 34, 3) := by decide +kernel
theorem dX6_run_8 : decode cX6_run 8 = .ok (.getfield 125, 3) := by decide +kernel
theorem dX6_run_11 : decode cX6_run 11 = .ok (.invokevirtual 189, 3) := by decide +kernel
theorem dX6_run_14 : decode cX6_run 14 = .ok (.ifCond .ne 13, 3) := by decide +kernel
theorem dX6_run_17 : decode cX6_run 17 = .ok (.new 72, 3) := by decide +kernel
theorem dX6_run_20 : decode cX6_run 20 = .ok (.dup, 1) := by decide +kernel
theorem dX6_run_21 : decode cX6_run 21 = .ok (.ldc 192, 2) := by decide +kernel
theorem dX6_run_23 : decode cX6_run 23 = .ok (.invokespecial 76, 3) := by decide +kernel
theorem dX6_run_26 : decode cX6_run 26 = .ok (.athrow, 1) := by decide +kernel
theorem dX6_run_27 : decode cX6_run 27 = .ok (.aload_n 0, 1) := by decide +kernel
theorem dX6_run_28 : decode cX6_run 28 = .ok (.getfield 48, 3) := by decide +kernel
theorem dX6_run_31 : decode cX6_run 31 = .ok (.invokevirtual 194, 3) := by decide +kernel
theorem dX6_run_34 : decode cX6_run 34 = .ok (.iconst 0, 1) := by decide +kernel
theorem dX6_run_35 : decode cX6_run 35 = .ok (.istore_n 1, 1) := by decide +kernel
theorem dX6_run_36 : decode cX6_run 36 = .ok (.iload_n 1, 1) := by decide +kernel
theorem dX6_run_37 : decode cX6_run 37 = .ok (.bipush 16, 2) := by decide +kernel
theorem dX6_run_39 : decode cX6_run 39 = .ok (.if_icmp .ge 19, 3) := by decide +kernel
theorem dX6_run_42 : decode cX6_run 42 = .ok (.aload_n 0, 1) := by decide +kernel
theorem dX6_run_43 : decode cX6_run 43 = .ok (.aload_n 0, 1) := by decide +kernel
theorem dX6_run_44 : decode cX6_run 44 = .ok (.getfield 11, 3) := by decide +kernel
theorem dX6_run_47 : decode cX6_run 47 = .ok (.iload_n 1, 1) := by decide +kernel
theorem dX6_run_48 : decode cX6_run 48 = .ok (.aaload, 1) := by decide +kernel
theorem dX6_run_49 : decode cX6_run 49 = .ok (.invokevirtual 197, 3) := by decide +kernel
theorem dX6_run_52 : decode cX6_run 52 = .ok (.iinc 1 1, 3) := by decide +kernel
theorem dX6_run_55 : decode cX6_run 55 = .ok (.goto (-19), 3) := by decide +kernel
theorem dX6_run_58 : decode cX6_run 58 = .ok (.iconst 0, 1) := by decide +kernel
theorem dX6_run_59 : decode cX6_run 59 = .ok (.istore_n 1, 1) := by decide +kernel
theorem dX6_run_60 : decode cX6_run 60 = .ok (.iload_n 1, 1) := by decide +kernel
theorem dX6_run_61 : decode cX6_run 61 = .ok (.bipush 16, 2) := by decide +kernel
theorem dX6_run_63 : decode cX6_run 63 = .ok (.if_icmp .ge 26, 3) := by decide +kernel
theorem dX6_run_66 : decode cX6_run 66 = .ok (.aload_n 0, 1) := by decide +kernel
theorem dX6_run_67 : decode cX6_run 67 = .ok (.invokevirtual 201, 3) := by decide +kernel
theorem dX6_run_70 : decode cX6_run 70 = .ok (.astore_n 2, 1) := by decide +kernel
theorem dX6_run_71 : decode cX6_run 71 = .ok (.aload_n 2, 1) := by decide +kernel
theorem dX6_run_72 : decode cX6_run 72 = .ok (.ifnonnull 6, 3) := by decide +kernel
theorem dX6_run_75 : decode cX6_run 75 = .ok (.goto 14, 3) := by decide +kernel
theorem dX6_run_78 : decode cX6_run 78 = .ok (.aload_n 0, 1) := by decide +kernel
theorem dX6_run_79 : decode cX6_run 79 = .ok (.aload_n 2, 1) := by decide +kernel
theorem dX6_run_80 : decode cX6_run 80 = .ok (.invokevirtual 205, 3) := by decide +kernel
theorem dX6_run_83 : decode cX6_run 83 = .ok (.iinc 1 1, 3) := by decide +kernel
theorem dX6_run_86 : decode cX6_run 86 = .ok (.goto (-26), 3) := by decide +kernel
theorem dX6_run_89 : decode cX6_run 89 = .ok (.aload_n 0, 1) := by decide +kernel
theorem dX6_run_90 : decode cX6_run 90 = .ok (.getfield 48, 3) := by decide +kernel
theorem dX6_run_93 : decode cX6_run 93 = .ok (.getfield 208, 3) := by decide +kernel
theorem dX6_run_96 : decode cX6_run 96 = .ok (.ireturn, 1) := by decide +kernel
abbrev cX6_move : ByteArray := prog_1_method_18_code
def yX6_move : MethodName := ⟨RX6, "move", "(II)I"⟩
abbrev wX6_move : Cond := .code yX6_move cX6_move 4 (some .int)
theorem kX6_move : wX6_move ∈ wG := mG 657 (by decide +kernel) rfl
theorem dX6_move_0 : decode cX6_move 0 = .ok (.aload_n 0, 1) := by decide +kernel
theorem dX6_move_1 : decode cX6_move 1 = .ok (.getfield 48, 3) := by decide +kernel
theorem dX6_move_4 : decode cX6_move 4 = .ok (.iload_n 1, 1) := by decide +kernel
theorem dX6_move_5 : decode cX6_move 5 = .ok (.invokevirtual 209, 3) := by decide +kernel
theorem dX6_move_8 : decode cX6_move 8 = .ok (.astore_n 3, 1) := by decide +kernel
theorem dX6_move_9 : decode cX6_move 9 = .ok (.iload_n 2, 1) := by decide +kernel
theorem dX6_move_10 : decode cX6_move 10 = .ok (.iconst 0, 1) := by decide +kernel
theorem dX6_move_11 : decode cX6_move 11 = .ok (.bipush 6, 2) := by decide +kernel
theorem dX6_move_13 : decode cX6_move 13 = .ok (.invokestatic 61, 3) := by decide +kernel
theorem dX6_move_16 : decode cX6_move 16 = .ok (.aload_n 3, 1) := by decide +kernel
theorem dX6_move_17 : decode cX6_move 17 = .ok (.iload_n 2, 1) := by decide +kernel
theorem dX6_move_18 : decode cX6_move 18 = .ok (.invokevirtual 213, 3) := by decide +kernel
theorem dX6_move_21 : decode cX6_move 21 = .ok (.ireturn, 1) := by decide +kernel
abbrev cX6_done : ByteArray := prog_1_method_19_code
def yX6_done : MethodName := ⟨RX6, "done", "(I)V"⟩
abbrev wX6_done : Cond := .code yX6_done cX6_done 6 none
theorem kX6_done : wX6_done ∈ wG := mG 688 (by decide +kernel) rfl
theorem dX6_done_0 : decode cX6_done 0 = .ok (.aload_n 0, 1) := by decide +kernel
theorem dX6_done_1 : decode cX6_done 1 = .ok (.getfield 48, 3) := by decide +kernel
theorem dX6_done_4 : decode cX6_done 4 = .ok (.iload_n 1, 1) := by decide +kernel
theorem dX6_done_5 : decode cX6_done 5 = .ok (.invokevirtual 209, 3) := by decide +kernel
theorem dX6_done_8 : decode cX6_done 8 = .ok (.astore_n 2, 1) := by decide +kernel
theorem dX6_done_9 : decode cX6_done 9 = .ok (.aload_n 0, 1) := by decide +kernel
theorem dX6_done_10 : decode cX6_done 10 = .ok (.getfield 11, 3) := by decide +kernel
theorem dX6_done_13 : decode cX6_done 13 = .ok (.aload_n 2, 1) := by decide +kernel
theorem dX6_done_14 : decode cX6_done 14 = .ok (.getfield 218, 3) := by decide +kernel
theorem dX6_done_17 : decode cX6_done 17 = .ok (.aaload, 1) := by decide +kernel
theorem dX6_done_18 : decode cX6_done 18 = .ok (.astore_n 3, 1) := by decide +kernel
theorem dX6_done_19 : decode cX6_done 19 = .ok (.aload_n 0, 1) := by decide +kernel
theorem dX6_done_20 : decode cX6_done 20 = .ok (.getfield 11, 3) := by decide +kernel
theorem dX6_done_23 : decode cX6_done 23 = .ok (.aload_n 2, 1) := by decide +kernel
theorem dX6_done_24 : decode cX6_done 24 = .ok (.getfield 221, 3) := by decide +kernel
theorem dX6_done_27 : decode cX6_done 27 = .ok (.aaload, 1) := by decide +kernel
theorem dX6_done_28 : decode cX6_done 28 = .ok (.astore 4, 2) := by decide +kernel
theorem dX6_done_30 : decode cX6_done 30 = .ok (.aload 4, 2) := by decide +kernel
theorem dX6_done_32 : decode cX6_done 32 = .ok (.getfield 91, 3) := by decide +kernel
theorem dX6_done_35 : decode cX6_done 35 = .ok (.istore 5, 2) := by decide +kernel
theorem dX6_done_37 : decode cX6_done 37 = .ok (.aload_n 2, 1) := by decide +kernel
theorem dX6_done_38 : decode cX6_done 38 = .ok (.getfield 224, 3) := by decide +kernel
theorem dX6_done_41 : decode cX6_done 41 = .ok (.ifCond .eq 13, 3) := by decide +kernel
theorem dX6_done_44 : decode cX6_done 44 = .ok (.new 72, 3) := by decide +kernel
theorem dX6_done_47 : decode cX6_done 47 = .ok (.dup, 1) := by decide +kernel
theorem dX6_done_48 : decode cX6_done 48 = .ok (.ldc 228, 2) := by decide +kernel
theorem dX6_done_50 : decode cX6_done 50 = .ok (.invokespecial 76, 3) := by decide +kernel
theorem dX6_done_53 : decode cX6_done 53 = .ok (.athrow, 1) := by decide +kernel
theorem dX6_done_54 : decode cX6_done 54 = .ok (.aload_n 3, 1) := by decide +kernel
theorem dX6_done_55 : decode cX6_done 55 = .ok (.getfield 230, 3) := by decide +kernel
theorem dX6_done_58 : decode cX6_done 58 = .ok (.iload 5, 2) := by decide +kernel
theorem dX6_done_60 : decode cX6_done 60 = .ok (.if_icmp .ne 14, 3) := by decide +kernel
theorem dX6_done_63 : decode cX6_done 63 = .ok (.aload_n 3, 1) := by decide +kernel
theorem dX6_done_64 : decode cX6_done 64 = .ok (.invokevirtual 113, 3) := by decide +kernel
theorem dX6_done_67 : decode cX6_done 67 = .ok (.aload_n 2, 1) := by decide +kernel
theorem dX6_done_68 : decode cX6_done 68 = .ok (.getfield 233, 3) := by decide +kernel
theorem dX6_done_71 : decode cX6_done 71 = .ok (.if_icmp .ge 13, 3) := by decide +kernel
theorem dX6_done_74 : decode cX6_done 74 = .ok (.new 72, 3) := by decide +kernel
theorem dX6_done_77 : decode cX6_done 77 = .ok (.dup, 1) := by decide +kernel
theorem dX6_done_78 : decode cX6_done 78 = .ok (.ldc 234, 2) := by decide +kernel
theorem dX6_done_80 : decode cX6_done 80 = .ok (.invokespecial 76, 3) := by decide +kernel
theorem dX6_done_83 : decode cX6_done 83 = .ok (.athrow, 1) := by decide +kernel
theorem dX6_done_84 : decode cX6_done 84 = .ok (.aload 4, 2) := by decide +kernel
theorem dX6_done_86 : decode cX6_done 86 = .ok (.iload 5, 2) := by decide +kernel
theorem dX6_done_88 : decode cX6_done 88 = .ok (.invokevirtual 85, 3) := by decide +kernel
theorem dX6_done_91 : decode cX6_done 91 = .ok (.ifCond .eq 13, 3) := by decide +kernel
theorem dX6_done_94 : decode cX6_done 94 = .ok (.new 72, 3) := by decide +kernel
theorem dX6_done_97 : decode cX6_done 97 = .ok (.dup, 1) := by decide +kernel
theorem dX6_done_98 : decode cX6_done 98 = .ok (.ldc 236, 2) := by decide +kernel
theorem dX6_done_100 : decode cX6_done 100 = .ok (.invokespecial 76, 3) := by decide +kernel
theorem dX6_done_103 : decode cX6_done 103 = .ok (.athrow, 1) := by decide +kernel
theorem dX6_done_104 : decode cX6_done 104 = .ok (.aload 4, 2) := by decide +kernel
theorem dX6_done_106 : decode cX6_done 106 = .ok (.aload_n 2, 1) := by decide +kernel
theorem dX6_done_107 : decode cX6_done 107 = .ok (.getfield 233, 3) := by decide +kernel
theorem dX6_done_110 : decode cX6_done 110 = .ok (.invokestatic 102, 3) := by decide +kernel
theorem dX6_done_113 : decode cX6_done 113 = .ok (.aload_n 3, 1) := by decide +kernel
theorem dX6_done_114 : decode cX6_done 114 = .ok (.aload_n 2, 1) := by decide +kernel
theorem dX6_done_115 : decode cX6_done 115 = .ok (.getfield 233, 3) := by decide +kernel
theorem dX6_done_118 : decode cX6_done 118 = .ok (.invokevirtual 119, 3) := by decide +kernel
theorem dX6_done_121 : decode cX6_done 121 = .ok (.aload 4, 2) := by decide +kernel
theorem dX6_done_123 : decode cX6_done 123 = .ok (.iload 5, 2) := by decide +kernel
theorem dX6_done_125 : decode cX6_done 125 = .ok (.aload_n 2, 1) := by decide +kernel
theorem dX6_done_126 : decode cX6_done 126 = .ok (.getfield 233, 3) := by decide +kernel
theorem dX6_done_129 : decode cX6_done 129 = .ok (.invokevirtual 106, 3) := by decide +kernel
theorem dX6_done_132 : decode cX6_done 132 = .ok (.aload_n 2, 1) := by decide +kernel
theorem dX6_done_133 : decode cX6_done 133 = .ok (.iconst 1, 1) := by decide +kernel
theorem dX6_done_134 : decode cX6_done 134 = .ok (.putfield 224, 3) := by decide +kernel
theorem dX6_done_137 : decode cX6_done 137 = .ok (.return_, 1) := by decide +kernel
abbrev cX6_told : ByteArray := prog_1_method_20_code
def yX6_told : MethodName := ⟨RX6, "told", "(II)I"⟩
abbrev wX6_told : Cond := .code yX6_told cX6_told 4 (some .int)
theorem kX6_told : wX6_told ∈ wG := mG 698 (by decide +kernel) rfl
theorem dX6_told_0 : decode cX6_told 0 = .ok (.aload_n 0, 1) := by decide +kernel
theorem dX6_told_1 : decode cX6_told 1 = .ok (.iload_n 1, 1) := by decide +kernel
theorem dX6_told_2 : decode cX6_told 2 = .ok (.invokevirtual 56, 3) := by decide +kernel
theorem dX6_told_5 : decode cX6_told 5 = .ok (.astore_n 3, 1) := by decide +kernel
theorem dX6_told_6 : decode cX6_told 6 = .ok (.iload_n 2, 1) := by decide +kernel
theorem dX6_told_7 : decode cX6_told 7 = .ok (.iconst 0, 1) := by decide +kernel
theorem dX6_told_8 : decode cX6_told 8 = .ok (.iconst 5, 1) := by decide +kernel
theorem dX6_told_9 : decode cX6_told 9 = .ok (.invokestatic 61, 3) := by decide +kernel
theorem dX6_told_12 : decode cX6_told 12 = .ok (.aload_n 3, 1) := by decide +kernel
theorem dX6_told_13 : decode cX6_told 13 = .ok (.iload_n 2, 1) := by decide +kernel
theorem dX6_told_14 : decode cX6_told 14 = .ok (.invokevirtual 238, 3) := by decide +kernel
theorem dX6_told_17 : decode cX6_told 17 = .ok (.ireturn, 1) := by decide +kernel
abbrev cX6_checkRange : ByteArray := prog_1_method_21_code
def yX6_checkRange : MethodName := ⟨RX6, "checkRange", "(III)V"⟩
abbrev wX6_checkRange : Cond := .code yX6_checkRange cX6_checkRange 3 none
theorem kX6_checkRange : wX6_checkRange ∈ wG := mG 249 (by decide +kernel) rfl
theorem dX6_checkRange_0 : decode cX6_checkRange 0 = .ok (.iload_n 0, 1) := by decide +kernel
theorem dX6_checkRange_1 : decode cX6_checkRange 1 = .ok (.iload_n 1, 1) := by decide +kernel
theorem dX6_checkRange_2 : decode cX6_checkRange 2 = .ok (.if_icmp .lt 8, 3) := by decide +kernel
theorem dX6_checkRange_5 : decode cX6_checkRange 5 = .ok (.iload_n 0, 1) := by decide +kernel
theorem dX6_checkRange_6 : decode cX6_checkRange 6 = .ok (.iload_n 2, 1) := by decide +kernel
theorem dX6_checkRange_7 : decode cX6_checkRange 7 = .ok (.if_icmp .le 13, 3) := by decide +kernel
theorem dX6_checkRange_10 : decode cX6_checkRange 10 = .ok (.new 239, 3) := by decide +kernel
theorem dX6_checkRange_13 : decode cX6_checkRange 13 = .ok (.dup, 1) := by decide +kernel
theorem dX6_checkRange_14 : decode cX6_checkRange 14 = .ok (.ldc 241, 2) := by decide +kernel
theorem dX6_checkRange_16 : decode cX6_checkRange 16 = .ok (.invokespecial 243, 3) := by decide +kernel
theorem dX6_checkRange_19 : decode cX6_checkRange 19 = .ok (.athrow, 1) := by decide +kernel
theorem dX6_checkRange_20 : decode cX6_checkRange 20 = .ok (.return_, 1) := by decide +kernel
abbrev cX6_checkSpace : ByteArray := prog_1_method_22_code
def yX6_checkSpace : MethodName := ⟨RX6, "checkSpace", "(LReplenishRules$Place;I)V"⟩
abbrev wX6_checkSpace : Cond := .code yX6_checkSpace cX6_checkSpace 2 none
theorem kX6_checkSpace : wX6_checkSpace ∈ wG := mG 368 (by decide +kernel) rfl
theorem dX6_checkSpace_0 : decode cX6_checkSpace 0 = .ok (.aload_n 0, 1) := by decide +kernel
theorem dX6_checkSpace_1 : decode cX6_checkSpace 1 = .ok (.invokevirtual 244, 3) := by decide +kernel
theorem dX6_checkSpace_4 : decode cX6_checkSpace 4 = .ok (.iload_n 1, 1) := by decide +kernel
theorem dX6_checkSpace_5 : decode cX6_checkSpace 5 = .ok (.if_icmp .ge 13, 3) := by decide +kernel
theorem dX6_checkSpace_8 : decode cX6_checkSpace 8 = .ok (.new 148, 3) := by decide +kernel
theorem dX6_checkSpace_11 : decode cX6_checkSpace 11 = .ok (.dup, 1) := by decide +kernel
theorem dX6_checkSpace_12 : decode cX6_checkSpace 12 = .ok (.ldc 247, 2) := by decide +kernel
theorem dX6_checkSpace_14 : decode cX6_checkSpace 14 = .ok (.invokespecial 152, 3) := by decide +kernel
theorem dX6_checkSpace_17 : decode cX6_checkSpace 17 = .ok (.athrow, 1) := by decide +kernel
theorem dX6_checkSpace_18 : decode cX6_checkSpace 18 = .ok (.return_, 1) := by decide +kernel
abbrev cX6_placeAt : ByteArray := prog_1_method_23_code
def yX6_placeAt : MethodName := ⟨RX6, "placeAt", "(I)LReplenishRules$Place;"⟩
abbrev wX6_placeAt : Cond := .code yX6_placeAt cX6_placeAt 2 (some (.object "ReplenishRules$Place"))
theorem kX6_placeAt : wX6_placeAt ∈ wG := mG 246 (by decide +kernel) rfl
theorem dX6_placeAt_0 : decode cX6_placeAt 0 = .ok (.iload_n 1, 1) := by decide +kernel
theorem dX6_placeAt_1 : decode cX6_placeAt 1 = .ok (.iconst 0, 1) := by decide +kernel
theorem dX6_placeAt_2 : decode cX6_placeAt 2 = .ok (.bipush 15, 2) := by decide +kernel
theorem dX6_placeAt_4 : decode cX6_placeAt 4 = .ok (.invokestatic 61, 3) := by decide +kernel
theorem dX6_placeAt_7 : decode cX6_placeAt 7 = .ok (.aload_n 0, 1) := by decide +kernel
theorem dX6_placeAt_8 : decode cX6_placeAt 8 = .ok (.getfield 11, 3) := by decide +kernel
theorem dX6_placeAt_11 : decode cX6_placeAt 11 = .ok (.iload_n 1, 1) := by decide +kernel
theorem dX6_placeAt_12 : decode cX6_placeAt 12 = .ok (.aaload, 1) := by decide +kernel
theorem dX6_placeAt_13 : decode cX6_placeAt 13 = .ok (.areturn, 1) := by decide +kernel
abbrev cX6_faceAt : ByteArray := prog_1_method_24_code
def yX6_faceAt : MethodName := ⟨RX6, "faceAt", "(I)LReplenishRules$Place;"⟩
abbrev wX6_faceAt : Cond := .code yX6_faceAt cX6_faceAt 3 (some (.object "ReplenishRules$Place"))
theorem kX6_faceAt : wX6_faceAt ∈ wG := mG 403 (by decide +kernel) rfl
theorem dX6_faceAt_0 : decode cX6_faceAt 0 = .ok (.aload_n 0, 1) := by decide +kernel
theorem dX6_faceAt_1 : decode cX6_faceAt 1 = .ok (.iload_n 1, 1) := by decide +kernel
theorem dX6_faceAt_2 : decode cX6_faceAt 2 = .ok (.invokevirtual 56, 3) := by decide +kernel
theorem dX6_faceAt_5 : decode cX6_faceAt 5 = .ok (.astore_n 2, 1) := by decide +kernel
theorem dX6_faceAt_6 : decode cX6_faceAt 6 = .ok (.aload_n 2, 1) := by decide +kernel
theorem dX6_faceAt_7 : decode cX6_faceAt 7 = .ok (.invokevirtual 249, 3) := by decide +kernel
theorem dX6_faceAt_10 : decode cX6_faceAt 10 = .ok (.ifCond .ne 13, 3) := by decide +kernel
theorem dX6_faceAt_13 : decode cX6_faceAt 13 = .ok (.new 72, 3) := by decide +kernel
theorem dX6_faceAt_16 : decode cX6_faceAt 16 = .ok (.dup, 1) := by decide +kernel
theorem dX6_faceAt_17 : decode cX6_faceAt 17 = .ok (.ldc 253, 2) := by decide +kernel
theorem dX6_faceAt_19 : decode cX6_faceAt 19 = .ok (.invokespecial 76, 3) := by decide +kernel
theorem dX6_faceAt_22 : decode cX6_faceAt 22 = .ok (.athrow, 1) := by decide +kernel
theorem dX6_faceAt_23 : decode cX6_faceAt 23 = .ok (.aload_n 2, 1) := by decide +kernel
theorem dX6_faceAt_24 : decode cX6_faceAt 24 = .ok (.areturn, 1) := by decide +kernel
abbrev cX6_usedOnAllDays : ByteArray := prog_1_method_25_code
def yX6_usedOnAllDays : MethodName := ⟨RX6, "usedOnAllDays", "(LReplenishRules$Place;I)J"⟩
abbrev wX6_usedOnAllDays : Cond := .code yX6_usedOnAllDays cX6_usedOnAllDays 6 (some .long)
theorem kX6_usedOnAllDays : wX6_usedOnAllDays ∈ wG := mG 511 (by decide +kernel) rfl
theorem dX6_usedOnAllDays_0 : decode cX6_usedOnAllDays 0 = .ok (.lconst 0, 1) := by decide +kernel
theorem dX6_usedOnAllDays_1 : decode cX6_usedOnAllDays 1 = .ok (.lstore_n 3, 1) := by decide +kernel
theorem dX6_usedOnAllDays_2 : decode cX6_usedOnAllDays 2 = .ok (.aload_n 0, 1) := by decide +kernel
theorem dX6_usedOnAllDays_3 : decode cX6_usedOnAllDays 3 = .ok (.getfield 34, 3) := by decide +kernel
theorem dX6_usedOnAllDays_6 : decode cX6_usedOnAllDays 6 = .ok (.iload_n 2, 1) := by decide +kernel
theorem dX6_usedOnAllDays_7 : decode cX6_usedOnAllDays 7 = .ok (.invokevirtual 255, 3) := by decide +kernel
theorem dX6_usedOnAllDays_10 : decode cX6_usedOnAllDays 10 = .ok (.istore 5, 2) := by decide +kernel
theorem dX6_usedOnAllDays_12 : decode cX6_usedOnAllDays 12 = .ok (.iload 5, 2) := by decide +kernel
theorem dX6_usedOnAllDays_14 : decode cX6_usedOnAllDays 14 = .ok (.aload_n 0, 1) := by decide +kernel
theorem dX6_usedOnAllDays_15 : decode cX6_usedOnAllDays 15 = .ok (.getfield 34, 3) := by decide +kernel
theorem dX6_usedOnAllDays_18 : decode cX6_usedOnAllDays 18 = .ok (.getfield 125, 3) := by decide +kernel
theorem dX6_usedOnAllDays_21 : decode cX6_usedOnAllDays 21 = .ok (.if_icmp .ge 20, 3) := by decide +kernel
theorem dX6_usedOnAllDays_24 : decode cX6_usedOnAllDays 24 = .ok (.lload_n 3, 1) := by decide +kernel
theorem dX6_usedOnAllDays_25 : decode cX6_usedOnAllDays 25 = .ok (.aload_n 1, 1) := by decide +kernel
theorem dX6_usedOnAllDays_26 : decode cX6_usedOnAllDays 26 = .ok (.getfield 122, 3) := by decide +kernel
theorem dX6_usedOnAllDays_29 : decode cX6_usedOnAllDays 29 = .ok (.iload 5, 2) := by decide +kernel
theorem dX6_usedOnAllDays_31 : decode cX6_usedOnAllDays 31 = .ok (.iaload, 1) := by decide +kernel
theorem dX6_usedOnAllDays_32 : decode cX6_usedOnAllDays 32 = .ok (.i2l, 1) := by decide +kernel
theorem dX6_usedOnAllDays_33 : decode cX6_usedOnAllDays 33 = .ok (.ladd, 1) := by decide +kernel
theorem dX6_usedOnAllDays_34 : decode cX6_usedOnAllDays 34 = .ok (.lstore_n 3, 1) := by decide +kernel
theorem dX6_usedOnAllDays_35 : decode cX6_usedOnAllDays 35 = .ok (.iinc 5 1, 3) := by decide +kernel
theorem dX6_usedOnAllDays_38 : decode cX6_usedOnAllDays 38 = .ok (.goto (-26), 3) := by decide +kernel
theorem dX6_usedOnAllDays_41 : decode cX6_usedOnAllDays 41 = .ok (.lload_n 3, 1) := by decide +kernel
theorem dX6_usedOnAllDays_42 : decode cX6_usedOnAllDays 42 = .ok (.lreturn, 1) := by decide +kernel
abbrev cX6_usedOnPastDays : ByteArray := prog_1_method_26_code
def yX6_usedOnPastDays : MethodName := ⟨RX6, "usedOnPastDays", "(LReplenishRules$Place;)J"⟩
abbrev wX6_usedOnPastDays : Cond := .code yX6_usedOnPastDays cX6_usedOnPastDays 5 (some .long)
theorem kX6_usedOnPastDays : wX6_usedOnPastDays ∈ wG := mG 539 (by decide +kernel) rfl
theorem dX6_usedOnPastDays_0 : decode cX6_usedOnPastDays 0 = .ok (.lconst 0, 1) := by decide +kernel
theorem dX6_usedOnPastDays_1 : decode cX6_usedOnPastDays 1 = .ok (.lstore_n 2, 1) := by decide +kernel
theorem dX6_usedOnPastDays_2 : decode cX6_usedOnPastDays 2 = .ok (.aload_n 0, 1) := by decide +kernel
theorem dX6_usedOnPastDays_3 : decode cX6_usedOnPastDays 3 = .ok (.getfield 34, 3) := by decide +kernel
theorem dX6_usedOnPastDays_6 : decode cX6_usedOnPastDays 6 = .ok (.bipush 28, 2) := by decide +kernel
theorem dX6_usedOnPastDays_8 : decode cX6_usedOnPastDays 8 = .ok (.invokevirtual 255, 3) := by decide +kernel
theorem dX6_usedOnPastDays_11 : decode cX6_usedOnPastDays 11 = .ok (.istore 4, 2) := by decide +kernel
theorem dX6_usedOnPastDays_13 : decode cX6_usedOnPastDays 13 = .ok (.iload 4, 2) := by decide +kernel
theorem dX6_usedOnPastDays_15 : decode cX6_usedOnPastDays 15 = .ok (.aload_n 0, 1) := by decide +kernel
theorem dX6_usedOnPastDays_16 : decode cX6_usedOnPastDays 16 = .ok (.getfield 34, 3) := by decide +kernel
theorem dX6_usedOnPastDays_19 : decode cX6_usedOnPastDays 19 = .ok (.getfield 125, 3) := by decide +kernel
theorem dX6_usedOnPastDays_22 : decode cX6_usedOnPastDays 22 = .ok (.if_icmp .ge 32, 3) := by decide +kernel
theorem dX6_usedOnPastDays_25 : decode cX6_usedOnPastDays 25 = .ok (.aload_n 0, 1) := by decide +kernel
theorem dX6_usedOnPastDays_26 : decode cX6_usedOnPastDays 26 = .ok (.getfield 34, 3) := by decide +kernel
theorem dX6_usedOnPastDays_29 : decode cX6_usedOnPastDays 29 = .ok (.iload 4, 2) := by decide +kernel
theorem dX6_usedOnPastDays_31 : decode cX6_usedOnPastDays 31 = .ok (.invokevirtual 189, 3) := by decide +kernel
theorem dX6_usedOnPastDays_34 : decode cX6_usedOnPastDays 34 = .ok (.ifCond .eq 14, 3) := by decide +kernel
theorem dX6_usedOnPastDays_37 : decode cX6_usedOnPastDays 37 = .ok (.lload_n 2, 1) := by decide +kernel
theorem dX6_usedOnPastDays_38 : decode cX6_usedOnPastDays 38 = .ok (.aload_n 1, 1) := by decide +kernel
theorem dX6_usedOnPastDays_39 : decode cX6_usedOnPastDays 39 = .ok (.getfield 122, 3) := by decide +kernel
theorem dX6_usedOnPastDays_42 : decode cX6_usedOnPastDays 42 = .ok (.iload 4, 2) := by decide +kernel
theorem dX6_usedOnPastDays_44 : decode cX6_usedOnPastDays 44 = .ok (.iaload, 1) := by decide +kernel
theorem dX6_usedOnPastDays_45 : decode cX6_usedOnPastDays 45 = .ok (.i2l, 1) := by decide +kernel
theorem dX6_usedOnPastDays_46 : decode cX6_usedOnPastDays 46 = .ok (.ladd, 1) := by decide +kernel
theorem dX6_usedOnPastDays_47 : decode cX6_usedOnPastDays 47 = .ok (.lstore_n 2, 1) := by decide +kernel
theorem dX6_usedOnPastDays_48 : decode cX6_usedOnPastDays 48 = .ok (.iinc 4 1, 3) := by decide +kernel
theorem dX6_usedOnPastDays_51 : decode cX6_usedOnPastDays 51 = .ok (.goto (-38), 3) := by decide +kernel
theorem dX6_usedOnPastDays_54 : decode cX6_usedOnPastDays 54 = .ok (.lload_n 2, 1) := by decide +kernel
theorem dX6_usedOnPastDays_55 : decode cX6_usedOnPastDays 55 = .ok (.lreturn, 1) := by decide +kernel
abbrev cX6_fadingUse : ByteArray := prog_1_method_27_code
def yX6_fadingUse : MethodName := ⟨RX6, "fadingUse", "(LReplenishRules$Place;)J"⟩
abbrev wX6_fadingUse : Cond := .code yX6_fadingUse cX6_fadingUse 5 (some .long)
theorem kX6_fadingUse : wX6_fadingUse ∈ wG := mG 547 (by decide +kernel) rfl
theorem dX6_fadingUse_0 : decode cX6_fadingUse 0 = .ok (.lconst 0, 1) := by decide +kernel
theorem dX6_fadingUse_1 : decode cX6_fadingUse 1 = .ok (.lstore_n 2, 1) := by decide +kernel
theorem dX6_fadingUse_2 : decode cX6_fadingUse 2 = .ok (.aload_n 0, 1) := by decide +kernel
theorem dX6_fadingUse_3 : decode cX6_fadingUse 3 = .ok (.getfield 34, 3) := by decide +kernel
theorem dX6_fadingUse_6 : decode cX6_fadingUse 6 = .ok (.bipush 28, 2) := by decide +kernel
theorem dX6_fadingUse_8 : decode cX6_fadingUse 8 = .ok (.invokevirtual 255, 3) := by decide +kernel
theorem dX6_fadingUse_11 : decode cX6_fadingUse 11 = .ok (.istore 4, 2) := by decide +kernel
theorem dX6_fadingUse_13 : decode cX6_fadingUse 13 = .ok (.iload 4, 2) := by decide +kernel
theorem dX6_fadingUse_15 : decode cX6_fadingUse 15 = .ok (.aload_n 0, 1) := by decide +kernel
theorem dX6_fadingUse_16 : decode cX6_fadingUse 16 = .ok (.getfield 34, 3) := by decide +kernel
theorem dX6_fadingUse_19 : decode cX6_fadingUse 19 = .ok (.getfield 125, 3) := by decide +kernel
end
section
theorem dX6_fadingUse_22 : decode cX6_fadingUse 22 = .ok (.if_icmp .ge 44, 3) := by decide +kernel
theorem dX6_fadingUse_25 : decode cX6_fadingUse 25 = .ok (.aload_n 0, 1) := by decide +kernel
theorem dX6_fadingUse_26 : decode cX6_fadingUse 26 = .ok (.getfield 34, 3) := by decide +kernel
theorem dX6_fadingUse_29 : decode cX6_fadingUse 29 = .ok (.iload 4, 2) := by decide +kernel
theorem dX6_fadingUse_31 : decode cX6_fadingUse 31 = .ok (.invokevirtual 189, 3) := by decide +kernel
theorem dX6_fadingUse_34 : decode cX6_fadingUse 34 = .ok (.ifCond .eq 26, 3) := by decide +kernel
theorem dX6_fadingUse_37 : decode cX6_fadingUse 37 = .ok (.ldc2_w 258, 3) := by decide +kernel
theorem dX6_fadingUse_40 : decode cX6_fadingUse 40 = .ok (.lload_n 2, 1) := by decide +kernel
theorem dX6_fadingUse_41 : decode cX6_fadingUse 41 = .ok (.lmul, 1) := by decide +kernel
theorem dX6_fadingUse_42 : decode cX6_fadingUse 42 = .ok (.ldc2_w 260, 3) := by decide +kernel
theorem dX6_fadingUse_45 : decode cX6_fadingUse 45 = .ok (.aload_n 1, 1) := by decide +kernel
theorem dX6_fadingUse_46 : decode cX6_fadingUse 46 = .ok (.getfield 122, 3) := by decide +kernel
theorem dX6_fadingUse_49 : decode cX6_fadingUse 49 = .ok (.iload 4, 2) := by decide +kernel
theorem dX6_fadingUse_51 : decode cX6_fadingUse 51 = .ok (.iaload, 1) := by decide +kernel
theorem dX6_fadingUse_52 : decode cX6_fadingUse 52 = .ok (.i2l, 1) := by decide +kernel
theorem dX6_fadingUse_53 : decode cX6_fadingUse 53 = .ok (.lmul, 1) := by decide +kernel
theorem dX6_fadingUse_54 : decode cX6_fadingUse 54 = .ok (.ladd, 1) := by decide +kernel
theorem dX6_fadingUse_55 : decode cX6_fadingUse 55 = .ok (.ldc2_w 262, 3) := by decide +kernel
theorem dX6_fadingUse_58 : decode cX6_fadingUse 58 = .ok (.ldiv, 1) := by decide +kernel
theorem dX6_fadingUse_59 : decode cX6_fadingUse 59 = .ok (.lstore_n 2, 1) := by decide +kernel
theorem dX6_fadingUse_60 : decode cX6_fadingUse 60 = .ok (.iinc 4 1, 3) := by decide +kernel
theorem dX6_fadingUse_63 : decode cX6_fadingUse 63 = .ok (.goto (-50), 3) := by decide +kernel
theorem dX6_fadingUse_66 : decode cX6_fadingUse 66 = .ok (.lload_n 2, 1) := by decide +kernel
theorem dX6_fadingUse_67 : decode cX6_fadingUse 67 = .ok (.lreturn, 1) := by decide +kernel
abbrev cX6_forecastOf : ByteArray := prog_1_method_28_code
def yX6_forecastOf : MethodName := ⟨RX6, "forecastOf", "(LReplenishRules$Place;)J"⟩
abbrev wX6_forecastOf : Cond := .code yX6_forecastOf cX6_forecastOf 9 (some .long)
theorem kX6_forecastOf : wX6_forecastOf ∈ wG := mG 523 (by decide +kernel) rfl
theorem dX6_forecastOf_0 : decode cX6_forecastOf 0 = .ok (.aload_n 0, 1) := by decide +kernel
theorem dX6_forecastOf_1 : decode cX6_forecastOf 1 = .ok (.getfield 17, 3) := by decide +kernel
theorem dX6_forecastOf_4 : decode cX6_forecastOf 4 = .ok (.aload_n 1, 1) := by decide +kernel
theorem dX6_forecastOf_5 : decode cX6_forecastOf 5 = .ok (.getfield 82, 3) := by decide +kernel
theorem dX6_forecastOf_8 : decode cX6_forecastOf 8 = .ok (.aaload, 1) := by decide +kernel
theorem dX6_forecastOf_9 : decode cX6_forecastOf 9 = .ok (.astore_n 2, 1) := by decide +kernel
theorem dX6_forecastOf_10 : decode cX6_forecastOf 10 = .ok (.aload_n 2, 1) := by decide +kernel
theorem dX6_forecastOf_11 : decode cX6_forecastOf 11 = .ok (.aload_n 0, 1) := by decide +kernel
theorem dX6_forecastOf_12 : decode cX6_forecastOf 12 = .ok (.getfield 34, 3) := by decide +kernel
theorem dX6_forecastOf_15 : decode cX6_forecastOf 15 = .ok (.getfield 125, 3) := by decide +kernel
theorem dX6_forecastOf_18 : decode cX6_forecastOf 18 = .ok (.invokevirtual 264, 3) := by decide +kernel
theorem dX6_forecastOf_21 : decode cX6_forecastOf 21 = .ok (.istore_n 3, 1) := by decide +kernel
theorem dX6_forecastOf_22 : decode cX6_forecastOf 22 = .ok (.aload_n 0, 1) := by decide +kernel
theorem dX6_forecastOf_23 : decode cX6_forecastOf 23 = .ok (.getfield 34, 3) := by decide +kernel
theorem dX6_forecastOf_26 : decode cX6_forecastOf 26 = .ok (.invokevirtual 267, 3) := by decide +kernel
theorem dX6_forecastOf_29 : decode cX6_forecastOf 29 = .ok (.istore 4, 2) := by decide +kernel
theorem dX6_forecastOf_31 : decode cX6_forecastOf 31 = .ok (.aload_n 2, 1) := by decide +kernel
theorem dX6_forecastOf_32 : decode cX6_forecastOf 32 = .ok (.aload_n 0, 1) := by decide +kernel
theorem dX6_forecastOf_33 : decode cX6_forecastOf 33 = .ok (.getfield 34, 3) := by decide +kernel
theorem dX6_forecastOf_36 : decode cX6_forecastOf 36 = .ok (.getfield 125, 3) := by decide +kernel
theorem dX6_forecastOf_39 : decode cX6_forecastOf 39 = .ok (.invokevirtual 270, 3) := by decide +kernel
theorem dX6_forecastOf_42 : decode cX6_forecastOf 42 = .ok (.i2l, 1) := by decide +kernel
theorem dX6_forecastOf_43 : decode cX6_forecastOf 43 = .ok (.aload_n 0, 1) := by decide +kernel
theorem dX6_forecastOf_44 : decode cX6_forecastOf 44 = .ok (.getfield 25, 3) := by decide +kernel
theorem dX6_forecastOf_47 : decode cX6_forecastOf 47 = .ok (.iload 4, 2) := by decide +kernel
theorem dX6_forecastOf_49 : decode cX6_forecastOf 49 = .ok (.iaload, 1) := by decide +kernel
theorem dX6_forecastOf_50 : decode cX6_forecastOf 50 = .ok (.i2l, 1) := by decide +kernel
theorem dX6_forecastOf_51 : decode cX6_forecastOf 51 = .ok (.lmul, 1) := by decide +kernel
theorem dX6_forecastOf_52 : decode cX6_forecastOf 52 = .ok (.lstore 5, 2) := by decide +kernel
theorem dX6_forecastOf_54 : decode cX6_forecastOf 54 = .ok (.iload_n 3, 1) := by decide +kernel
theorem dX6_forecastOf_55 : decode cX6_forecastOf 55 = .ok (.iconst 1, 1) := by decide +kernel
theorem dX6_forecastOf_56 : decode cX6_forecastOf 56 = .ok (.if_icmp .ne 38, 3) := by decide +kernel
theorem dX6_forecastOf_59 : decode cX6_forecastOf 59 = .ok (.aload_n 0, 1) := by decide +kernel
theorem dX6_forecastOf_60 : decode cX6_forecastOf 60 = .ok (.getfield 34, 3) := by decide +kernel
theorem dX6_forecastOf_63 : decode cX6_forecastOf 63 = .ok (.bipush 28, 2) := by decide +kernel
theorem dX6_forecastOf_65 : decode cX6_forecastOf 65 = .ok (.invokevirtual 165, 3) := by decide +kernel
theorem dX6_forecastOf_68 : decode cX6_forecastOf 68 = .ok (.i2l, 1) := by decide +kernel
theorem dX6_forecastOf_69 : decode cX6_forecastOf 69 = .ok (.lstore 7, 2) := by decide +kernel
theorem dX6_forecastOf_71 : decode cX6_forecastOf 71 = .ok (.aload_n 0, 1) := by decide +kernel
theorem dX6_forecastOf_72 : decode cX6_forecastOf 72 = .ok (.aload_n 1, 1) := by decide +kernel
theorem dX6_forecastOf_73 : decode cX6_forecastOf 73 = .ok (.invokevirtual 273, 3) := by decide +kernel
theorem dX6_forecastOf_76 : decode cX6_forecastOf 76 = .ok (.lload 5, 2) := by decide +kernel
theorem dX6_forecastOf_78 : decode cX6_forecastOf 78 = .ok (.lmul, 1) := by decide +kernel
theorem dX6_forecastOf_79 : decode cX6_forecastOf 79 = .ok (.lload 7, 2) := by decide +kernel
theorem dX6_forecastOf_81 : decode cX6_forecastOf 81 = .ok (.aload_n 0, 1) := by decide +kernel
theorem dX6_forecastOf_82 : decode cX6_forecastOf 82 = .ok (.getfield 28, 3) := by decide +kernel
theorem dX6_forecastOf_85 : decode cX6_forecastOf 85 = .ok (.iload 4, 2) := by decide +kernel
theorem dX6_forecastOf_87 : decode cX6_forecastOf 87 = .ok (.iaload, 1) := by decide +kernel
theorem dX6_forecastOf_88 : decode cX6_forecastOf 88 = .ok (.i2l, 1) := by decide +kernel
theorem dX6_forecastOf_89 : decode cX6_forecastOf 89 = .ok (.lmul, 1) := by decide +kernel
theorem dX6_forecastOf_90 : decode cX6_forecastOf 90 = .ok (.invokestatic 276, 3) := by decide +kernel
theorem dX6_forecastOf_93 : decode cX6_forecastOf 93 = .ok (.lreturn, 1) := by decide +kernel
theorem dX6_forecastOf_94 : decode cX6_forecastOf 94 = .ok (.iload_n 3, 1) := by decide +kernel
theorem dX6_forecastOf_95 : decode cX6_forecastOf 95 = .ok (.iconst 2, 1) := by decide +kernel
theorem dX6_forecastOf_96 : decode cX6_forecastOf 96 = .ok (.if_icmp .ne 27, 3) := by decide +kernel
theorem dX6_forecastOf_99 : decode cX6_forecastOf 99 = .ok (.aload_n 0, 1) := by decide +kernel
theorem dX6_forecastOf_100 : decode cX6_forecastOf 100 = .ok (.aload_n 1, 1) := by decide +kernel
theorem dX6_forecastOf_101 : decode cX6_forecastOf 101 = .ok (.invokevirtual 280, 3) := by decide +kernel
theorem dX6_forecastOf_104 : decode cX6_forecastOf 104 = .ok (.lload 5, 2) := by decide +kernel
theorem dX6_forecastOf_106 : decode cX6_forecastOf 106 = .ok (.lmul, 1) := by decide +kernel
theorem dX6_forecastOf_107 : decode cX6_forecastOf 107 = .ok (.ldc2_w 260, 3) := by decide +kernel
theorem dX6_forecastOf_110 : decode cX6_forecastOf 110 = .ok (.aload_n 0, 1) := by decide +kernel
theorem dX6_forecastOf_111 : decode cX6_forecastOf 111 = .ok (.getfield 28, 3) := by decide +kernel
theorem dX6_forecastOf_114 : decode cX6_forecastOf 114 = .ok (.iload 4, 2) := by decide +kernel
theorem dX6_forecastOf_116 : decode cX6_forecastOf 116 = .ok (.iaload, 1) := by decide +kernel
theorem dX6_forecastOf_117 : decode cX6_forecastOf 117 = .ok (.i2l, 1) := by decide +kernel
theorem dX6_forecastOf_118 : decode cX6_forecastOf 118 = .ok (.lmul, 1) := by decide +kernel
theorem dX6_forecastOf_119 : decode cX6_forecastOf 119 = .ok (.invokestatic 276, 3) := by decide +kernel
theorem dX6_forecastOf_122 : decode cX6_forecastOf 122 = .ok (.lreturn, 1) := by decide +kernel
theorem dX6_forecastOf_123 : decode cX6_forecastOf 123 = .ok (.lconst 0, 1) := by decide +kernel
theorem dX6_forecastOf_124 : decode cX6_forecastOf 124 = .ok (.lreturn, 1) := by decide +kernel
abbrev cX6_divideUp : ByteArray := prog_1_method_29_code
def yX6_divideUp : MethodName := ⟨RX6, "divideUp", "(JJ)J"⟩
abbrev wX6_divideUp : Cond := .code yX6_divideUp cX6_divideUp 4 (some .long)
theorem kX6_divideUp : wX6_divideUp ∈ wG := mG 543 (by decide +kernel) rfl
theorem dX6_divideUp_0 : decode cX6_divideUp 0 = .ok (.lload_n 2, 1) := by decide +kernel
theorem dX6_divideUp_1 : decode cX6_divideUp 1 = .ok (.lconst 0, 1) := by decide +kernel
theorem dX6_divideUp_2 : decode cX6_divideUp 2 = .ok (.lcmp, 1) := by decide +kernel
theorem dX6_divideUp_3 : decode cX6_divideUp 3 = .ok (.ifCond .gt 5, 3) := by decide +kernel
theorem dX6_divideUp_6 : decode cX6_divideUp 6 = .ok (.lconst 0, 1) := by decide +kernel
theorem dX6_divideUp_7 : decode cX6_divideUp 7 = .ok (.lreturn, 1) := by decide +kernel
theorem dX6_divideUp_8 : decode cX6_divideUp 8 = .ok (.lload_n 0, 1) := by decide +kernel
theorem dX6_divideUp_9 : decode cX6_divideUp 9 = .ok (.lload_n 2, 1) := by decide +kernel
theorem dX6_divideUp_10 : decode cX6_divideUp 10 = .ok (.ladd, 1) := by decide +kernel
theorem dX6_divideUp_11 : decode cX6_divideUp 11 = .ok (.lconst 1, 1) := by decide +kernel
theorem dX6_divideUp_12 : decode cX6_divideUp 12 = .ok (.lsub, 1) := by decide +kernel
theorem dX6_divideUp_13 : decode cX6_divideUp 13 = .ok (.lload_n 2, 1) := by decide +kernel
theorem dX6_divideUp_14 : decode cX6_divideUp 14 = .ok (.ldiv, 1) := by decide +kernel
theorem dX6_divideUp_15 : decode cX6_divideUp 15 = .ok (.lreturn, 1) := by decide +kernel
abbrev cX6_needOf : ByteArray := prog_1_method_30_code
def yX6_needOf : MethodName := ⟨RX6, "needOf", "(LReplenishRules$Place;)J"⟩
abbrev wX6_needOf : Cond := .code yX6_needOf cX6_needOf 6 (some .long)
theorem kX6_needOf : wX6_needOf ∈ wG := mG 565 (by decide +kernel) rfl
theorem dX6_needOf_0 : decode cX6_needOf 0 = .ok (.aload_n 0, 1) := by decide +kernel
theorem dX6_needOf_1 : decode cX6_needOf 1 = .ok (.getfield 34, 3) := by decide +kernel
theorem dX6_needOf_4 : decode cX6_needOf 4 = .ok (.getfield 125, 3) := by decide +kernel
theorem dX6_needOf_7 : decode cX6_needOf 7 = .ok (.istore_n 2, 1) := by decide +kernel
theorem dX6_needOf_8 : decode cX6_needOf 8 = .ok (.iload_n 2, 1) := by decide +kernel
theorem dX6_needOf_9 : decode cX6_needOf 9 = .ok (.aload_n 0, 1) := by decide +kernel
theorem dX6_needOf_10 : decode cX6_needOf 10 = .ok (.getfield 17, 3) := by decide +kernel
theorem dX6_needOf_13 : decode cX6_needOf 13 = .ok (.aload_n 1, 1) := by decide +kernel
theorem dX6_needOf_14 : decode cX6_needOf 14 = .ok (.getfield 82, 3) := by decide +kernel
theorem dX6_needOf_17 : decode cX6_needOf 17 = .ok (.aaload, 1) := by decide +kernel
theorem dX6_needOf_18 : decode cX6_needOf 18 = .ok (.iload_n 2, 1) := by decide +kernel
theorem dX6_needOf_19 : decode cX6_needOf 19 = .ok (.invokevirtual 270, 3) := by decide +kernel
theorem dX6_needOf_22 : decode cX6_needOf 22 = .ok (.iadd, 1) := by decide +kernel
theorem dX6_needOf_23 : decode cX6_needOf 23 = .ok (.istore_n 3, 1) := by decide +kernel
theorem dX6_needOf_24 : decode cX6_needOf 24 = .ok (.aload_n 0, 1) := by decide +kernel
theorem dX6_needOf_25 : decode cX6_needOf 25 = .ok (.getfield 41, 3) := by decide +kernel
theorem dX6_needOf_28 : decode cX6_needOf 28 = .ok (.aload_n 1, 1) := by decide +kernel
theorem dX6_needOf_29 : decode cX6_needOf 29 = .ok (.getfield 153, 3) := by decide +kernel
theorem dX6_needOf_32 : decode cX6_needOf 32 = .ok (.iload_n 2, 1) := by decide +kernel
theorem dX6_needOf_33 : decode cX6_needOf 33 = .ok (.iload_n 3, 1) := by decide +kernel
theorem dX6_needOf_34 : decode cX6_needOf 34 = .ok (.invokevirtual 283, 3) := by decide +kernel
theorem dX6_needOf_37 : decode cX6_needOf 37 = .ok (.lstore 4, 2) := by decide +kernel
theorem dX6_needOf_39 : decode cX6_needOf 39 = .ok (.aload_n 1, 1) := by decide +kernel
theorem dX6_needOf_40 : decode cX6_needOf 40 = .ok (.getfield 94, 3) := by decide +kernel
theorem dX6_needOf_43 : decode cX6_needOf 43 = .ok (.i2l, 1) := by decide +kernel
theorem dX6_needOf_44 : decode cX6_needOf 44 = .ok (.aload_n 0, 1) := by decide +kernel
theorem dX6_needOf_45 : decode cX6_needOf 45 = .ok (.aload_n 1, 1) := by decide +kernel
theorem dX6_needOf_46 : decode cX6_needOf 46 = .ok (.invokevirtual 178, 3) := by decide +kernel
theorem dX6_needOf_49 : decode cX6_needOf 49 = .ok (.invokestatic 287, 3) := by decide +kernel
theorem dX6_needOf_52 : decode cX6_needOf 52 = .ok (.lload 4, 2) := by decide +kernel
theorem dX6_needOf_54 : decode cX6_needOf 54 = .ok (.invokestatic 287, 3) := by decide +kernel
theorem dX6_needOf_57 : decode cX6_needOf 57 = .ok (.lreturn, 1) := by decide +kernel
abbrev cX6_thresholdOf : ByteArray := prog_1_method_31_code
def yX6_thresholdOf : MethodName := ⟨RX6, "thresholdOf", "(LReplenishRules$Place;)I"⟩
abbrev wX6_thresholdOf : Cond := .code yX6_thresholdOf cX6_thresholdOf 2 (some .int)
theorem kX6_thresholdOf : wX6_thresholdOf ∈ wG := mG 561 (by decide +kernel) rfl
theorem dX6_thresholdOf_0 : decode cX6_thresholdOf 0 = .ok (.aload_n 0, 1) := by decide +kernel
theorem dX6_thresholdOf_1 : decode cX6_thresholdOf 1 = .ok (.aload_n 1, 1) := by decide +kernel
theorem dX6_thresholdOf_2 : decode cX6_thresholdOf 2 = .ok (.invokevirtual 186, 3) := by decide +kernel
theorem dX6_thresholdOf_5 : decode cX6_thresholdOf 5 = .ok (.aload_n 1, 1) := by decide +kernel
theorem dX6_thresholdOf_6 : decode cX6_thresholdOf 6 = .ok (.getfield 79, 3) := by decide +kernel
theorem dX6_thresholdOf_9 : decode cX6_thresholdOf 9 = .ok (.i2l, 1) := by decide +kernel
theorem dX6_thresholdOf_10 : decode cX6_thresholdOf 10 = .ok (.invokestatic 292, 3) := by decide +kernel
theorem dX6_thresholdOf_13 : decode cX6_thresholdOf 13 = .ok (.l2i, 1) := by decide +kernel
theorem dX6_thresholdOf_14 : decode cX6_thresholdOf 14 = .ok (.ireturn, 1) := by decide +kernel
abbrev cX6_needTimeOf : ByteArray := prog_1_method_32_code
def yX6_needTimeOf : MethodName := ⟨RX6, "needTimeOf", "(LReplenishRules$Place;)I"⟩
abbrev wX6_needTimeOf : Cond := .code yX6_needTimeOf cX6_needTimeOf 4 (some .int)
theorem kX6_needTimeOf : wX6_needTimeOf ∈ wG := mG 612 (by decide +kernel) rfl
theorem dX6_needTimeOf_0 : decode cX6_needTimeOf 0 = .ok (.aload_n 0, 1) := by decide +kernel
theorem dX6_needTimeOf_1 : decode cX6_needTimeOf 1 = .ok (.aload_n 1, 1) := by decide +kernel
theorem dX6_needTimeOf_2 : decode cX6_needTimeOf 2 = .ok (.invokevirtual 273, 3) := by decide +kernel
theorem dX6_needTimeOf_5 : decode cX6_needTimeOf 5 = .ok (.lstore_n 2, 1) := by decide +kernel
theorem dX6_needTimeOf_6 : decode cX6_needTimeOf 6 = .ok (.lload_n 2, 1) := by decide +kernel
theorem dX6_needTimeOf_7 : decode cX6_needTimeOf 7 = .ok (.lconst 0, 1) := by decide +kernel
theorem dX6_needTimeOf_8 : decode cX6_needTimeOf 8 = .ok (.lcmp, 1) := by decide +kernel
theorem dX6_needTimeOf_9 : decode cX6_needTimeOf 9 = .ok (.ifCond .ne 7, 3) := by decide +kernel
theorem dX6_needTimeOf_12 : decode cX6_needTimeOf 12 = .ok (.sipush 9999, 3) := by decide +kernel
theorem dX6_needTimeOf_15 : decode cX6_needTimeOf 15 = .ok (.ireturn, 1) := by decide +kernel
theorem dX6_needTimeOf_16 : decode cX6_needTimeOf 16 = .ok (.aload_n 1, 1) := by decide +kernel
theorem dX6_needTimeOf_17 : decode cX6_needTimeOf 17 = .ok (.getfield 65, 3) := by decide +kernel
theorem dX6_needTimeOf_20 : decode cX6_needTimeOf 20 = .ok (.i2l, 1) := by decide +kernel
theorem dX6_needTimeOf_21 : decode cX6_needTimeOf 21 = .ok (.aload_n 0, 1) := by decide +kernel
theorem dX6_needTimeOf_22 : decode cX6_needTimeOf 22 = .ok (.getfield 34, 3) := by decide +kernel
theorem dX6_needTimeOf_25 : decode cX6_needTimeOf 25 = .ok (.bipush 28, 2) := by decide +kernel
theorem dX6_needTimeOf_27 : decode cX6_needTimeOf 27 = .ok (.invokevirtual 165, 3) := by decide +kernel
theorem dX6_needTimeOf_30 : decode cX6_needTimeOf 30 = .ok (.i2l, 1) := by decide +kernel
theorem dX6_needTimeOf_31 : decode cX6_needTimeOf 31 = .ok (.lmul, 1) := by decide +kernel
theorem dX6_needTimeOf_32 : decode cX6_needTimeOf 32 = .ok (.lload_n 2, 1) := by decide +kernel
theorem dX6_needTimeOf_33 : decode cX6_needTimeOf 33 = .ok (.ldiv, 1) := by decide +kernel
theorem dX6_needTimeOf_34 : decode cX6_needTimeOf 34 = .ok (.l2i, 1) := by decide +kernel
theorem dX6_needTimeOf_35 : decode cX6_needTimeOf 35 = .ok (.ireturn, 1) := by decide +kernel
abbrev cX6_prepare : ByteArray := prog_1_method_33_code
def yX6_prepare : MethodName := ⟨RX6, "prepare", "(LReplenishRules$Place;)V"⟩
abbrev wX6_prepare : Cond := .code yX6_prepare cX6_prepare 2 none
theorem kX6_prepare : wX6_prepare ∈ wG := mG 598 (by decide +kernel) rfl
theorem dX6_prepare_0 : decode cX6_prepare 0 = .ok (.aload_n 1, 1) := by decide +kernel
theorem dX6_prepare_1 : decode cX6_prepare 1 = .ok (.iconst 0, 1) := by decide +kernel
theorem dX6_prepare_2 : decode cX6_prepare 2 = .ok (.putfield 295, 3) := by decide +kernel
theorem dX6_prepare_5 : decode cX6_prepare 5 = .ok (.aload_n 1, 1) := by decide +kernel
theorem dX6_prepare_6 : decode cX6_prepare 6 = .ok (.iconst 0, 1) := by decide +kernel
theorem dX6_prepare_7 : decode cX6_prepare 7 = .ok (.putfield 298, 3) := by decide +kernel
theorem dX6_prepare_10 : decode cX6_prepare 10 = .ok (.aload_n 1, 1) := by decide +kernel
theorem dX6_prepare_11 : decode cX6_prepare 11 = .ok (.invokevirtual 249, 3) := by decide +kernel
theorem dX6_prepare_14 : decode cX6_prepare 14 = .ok (.ifCond .eq 26, 3) := by decide +kernel
theorem dX6_prepare_17 : decode cX6_prepare 17 = .ok (.aload_n 1, 1) := by decide +kernel
theorem dX6_prepare_18 : decode cX6_prepare 18 = .ok (.aload_n 0, 1) := by decide +kernel
theorem dX6_prepare_19 : decode cX6_prepare 19 = .ok (.aload_n 1, 1) := by decide +kernel
theorem dX6_prepare_20 : decode cX6_prepare 20 = .ok (.aload_n 0, 1) := by decide +kernel
theorem dX6_prepare_21 : decode cX6_prepare 21 = .ok (.aload_n 1, 1) := by decide +kernel
theorem dX6_prepare_22 : decode cX6_prepare 22 = .ok (.invokevirtual 182, 3) := by decide +kernel
theorem dX6_prepare_25 : decode cX6_prepare 25 = .ok (.invokevirtual 301, 3) := by decide +kernel
theorem dX6_prepare_28 : decode cX6_prepare 28 = .ok (.putfield 298, 3) := by decide +kernel
theorem dX6_prepare_31 : decode cX6_prepare 31 = .ok (.aload_n 1, 1) := by decide +kernel
theorem dX6_prepare_32 : decode cX6_prepare 32 = .ok (.aload_n 0, 1) := by decide +kernel
theorem dX6_prepare_33 : decode cX6_prepare 33 = .ok (.aload_n 1, 1) := by decide +kernel
theorem dX6_prepare_34 : decode cX6_prepare 34 = .ok (.invokevirtual 305, 3) := by decide +kernel
theorem dX6_prepare_37 : decode cX6_prepare 37 = .ok (.putfield 308, 3) := by decide +kernel
theorem dX6_prepare_40 : decode cX6_prepare 40 = .ok (.return_, 1) := by decide +kernel
abbrev cX6_wantedBy : ByteArray := prog_1_method_34_code
def yX6_wantedBy : MethodName := ⟨RX6, "wantedBy", "(LReplenishRules$Place;I)I"⟩
abbrev wX6_wantedBy : Cond := .code yX6_wantedBy cX6_wantedBy 4 (some .int)
theorem kX6_wantedBy : wX6_wantedBy ∈ wG := mG 602 (by decide +kernel) rfl
theorem dX6_wantedBy_0 : decode cX6_wantedBy 0 = .ok (.aload_n 1, 1) := by decide +kernel
theorem dX6_wantedBy_1 : decode cX6_wantedBy 1 = .ok (.getfield 65, 3) := by decide +kernel
theorem dX6_wantedBy_4 : decode cX6_wantedBy 4 = .ok (.iload_n 2, 1) := by decide +kernel
theorem dX6_wantedBy_5 : decode cX6_wantedBy 5 = .ok (.if_icmp .lt 5, 3) := by decide +kernel
theorem dX6_wantedBy_8 : decode cX6_wantedBy 8 = .ok (.iconst 0, 1) := by decide +kernel
theorem dX6_wantedBy_9 : decode cX6_wantedBy 9 = .ok (.ireturn, 1) := by decide +kernel
theorem dX6_wantedBy_10 : decode cX6_wantedBy 10 = .ok (.aload_n 1, 1) := by decide +kernel
theorem dX6_wantedBy_11 : decode cX6_wantedBy 11 = .ok (.getfield 69, 3) := by decide +kernel
theorem dX6_wantedBy_14 : decode cX6_wantedBy 14 = .ok (.iload_n 2, 1) := by decide +kernel
theorem dX6_wantedBy_15 : decode cX6_wantedBy 15 = .ok (.invokestatic 311, 3) := by decide +kernel
theorem dX6_wantedBy_18 : decode cX6_wantedBy 18 = .ok (.aload_n 1, 1) := by decide +kernel
theorem dX6_wantedBy_19 : decode cX6_wantedBy 19 = .ok (.getfield 65, 3) := by decide +kernel
theorem dX6_wantedBy_22 : decode cX6_wantedBy 22 = .ok (.isub, 1) := by decide +kernel
theorem dX6_wantedBy_23 : decode cX6_wantedBy 23 = .ok (.istore_n 3, 1) := by decide +kernel
theorem dX6_wantedBy_24 : decode cX6_wantedBy 24 = .ok (.iload_n 3, 1) := by decide +kernel
theorem dX6_wantedBy_25 : decode cX6_wantedBy 25 = .ok (.aload_n 0, 1) := by decide +kernel
theorem dX6_wantedBy_26 : decode cX6_wantedBy 26 = .ok (.getfield 21, 3) := by decide +kernel
theorem dX6_wantedBy_29 : decode cX6_wantedBy 29 = .ok (.aload_n 1, 1) := by decide +kernel
theorem dX6_wantedBy_30 : decode cX6_wantedBy 30 = .ok (.getfield 91, 3) := by decide +kernel
theorem dX6_wantedBy_33 : decode cX6_wantedBy 33 = .ok (.iaload, 1) := by decide +kernel
theorem dX6_wantedBy_34 : decode cX6_wantedBy 34 = .ok (.aload_n 1, 1) := by decide +kernel
theorem dX6_wantedBy_35 : decode cX6_wantedBy 35 = .ok (.invokevirtual 244, 3) := by decide +kernel
theorem dX6_wantedBy_38 : decode cX6_wantedBy 38 = .ok (.invokestatic 314, 3) := by decide +kernel
theorem dX6_wantedBy_41 : decode cX6_wantedBy 41 = .ok (.ireturn, 1) := by decide +kernel
abbrev cX6_inFullCases : ByteArray := prog_1_method_35_code
def yX6_inFullCases : MethodName := ⟨RX6, "inFullCases", "(III)I"⟩
abbrev wX6_inFullCases : Cond := .code yX6_inFullCases cX6_inFullCases 6 (some .int)
theorem kX6_inFullCases : wX6_inFullCases ∈ wG := mG 608 (by decide +kernel) rfl
theorem dX6_inFullCases_0 : decode cX6_inFullCases 0 = .ok (.iload_n 1, 1) := by decide +kernel
theorem dX6_inFullCases_1 : decode cX6_inFullCases 1 = .ok (.iconst 1, 1) := by decide +kernel
theorem dX6_inFullCases_2 : decode cX6_inFullCases 2 = .ok (.if_icmp .gt 5, 3) := by decide +kernel
theorem dX6_inFullCases_5 : decode cX6_inFullCases 5 = .ok (.iload_n 0, 1) := by decide +kernel
theorem dX6_inFullCases_6 : decode cX6_inFullCases 6 = .ok (.ireturn, 1) := by decide +kernel
theorem dX6_inFullCases_7 : decode cX6_inFullCases 7 = .ok (.iload_n 0, 1) := by decide +kernel
theorem dX6_inFullCases_8 : decode cX6_inFullCases 8 = .ok (.iload_n 1, 1) := by decide +kernel
theorem dX6_inFullCases_9 : decode cX6_inFullCases 9 = .ok (.irem, 1) := by decide +kernel
theorem dX6_inFullCases_10 : decode cX6_inFullCases 10 = .ok (.istore_n 3, 1) := by decide +kernel
theorem dX6_inFullCases_11 : decode cX6_inFullCases 11 = .ok (.iload_n 3, 1) := by decide +kernel
theorem dX6_inFullCases_12 : decode cX6_inFullCases 12 = .ok (.ifCond .ne 5, 3) := by decide +kernel
theorem dX6_inFullCases_15 : decode cX6_inFullCases 15 = .ok (.iload_n 0, 1) := by decide +kernel
theorem dX6_inFullCases_16 : decode cX6_inFullCases 16 = .ok (.ireturn, 1) := by decide +kernel
theorem dX6_inFullCases_17 : decode cX6_inFullCases 17 = .ok (.iload_n 0, 1) := by decide +kernel
theorem dX6_inFullCases_18 : decode cX6_inFullCases 18 = .ok (.iload_n 3, 1) := by decide +kernel
theorem dX6_inFullCases_19 : decode cX6_inFullCases 19 = .ok (.isub, 1) := by decide +kernel
theorem dX6_inFullCases_20 : decode cX6_inFullCases 20 = .ok (.istore 4, 2) := by decide +kernel
theorem dX6_inFullCases_22 : decode cX6_inFullCases 22 = .ok (.iload 4, 2) := by decide +kernel
theorem dX6_inFullCases_24 : decode cX6_inFullCases 24 = .ok (.iload_n 1, 1) := by decide +kernel
theorem dX6_inFullCases_25 : decode cX6_inFullCases 25 = .ok (.iadd, 1) := by decide +kernel
theorem dX6_inFullCases_26 : decode cX6_inFullCases 26 = .ok (.istore 5, 2) := by decide +kernel
theorem dX6_inFullCases_28 : decode cX6_inFullCases 28 = .ok (.iload 5, 2) := by decide +kernel
theorem dX6_inFullCases_30 : decode cX6_inFullCases 30 = .ok (.iload_n 2, 1) := by decide +kernel
theorem dX6_inFullCases_31 : decode cX6_inFullCases 31 = .ok (.if_icmp .gt 8, 3) := by decide +kernel
theorem dX6_inFullCases_34 : decode cX6_inFullCases 34 = .ok (.iload 5, 2) := by decide +kernel
theorem dX6_inFullCases_36 : decode cX6_inFullCases 36 = .ok (.goto 5, 3) := by decide +kernel
theorem dX6_inFullCases_39 : decode cX6_inFullCases 39 = .ok (.iload 4, 2) := by decide +kernel
theorem dX6_inFullCases_41 : decode cX6_inFullCases 41 = .ok (.ireturn, 1) := by decide +kernel
abbrev cX6_mostUrgentFace : ByteArray := prog_1_method_36_code
def yX6_mostUrgentFace : MethodName := ⟨RX6, "mostUrgentFace", "()LReplenishRules$Place;"⟩
abbrev wX6_mostUrgentFace : Cond := .code yX6_mostUrgentFace cX6_mostUrgentFace 4 (some (.object "ReplenishRules$Place"))
theorem kX6_mostUrgentFace : wX6_mostUrgentFace ∈ wG := mG 616 (by decide +kernel) rfl
theorem dX6_mostUrgentFace_0 : decode cX6_mostUrgentFace 0 = .ok (.aconst_null, 1) := by decide +kernel
theorem dX6_mostUrgentFace_1 : decode cX6_mostUrgentFace 1 = .ok (.astore_n 1, 1) := by decide +kernel
theorem dX6_mostUrgentFace_2 : decode cX6_mostUrgentFace 2 = .ok (.iconst 0, 1) := by decide +kernel
theorem dX6_mostUrgentFace_3 : decode cX6_mostUrgentFace 3 = .ok (.istore_n 2, 1) := by decide +kernel
theorem dX6_mostUrgentFace_4 : decode cX6_mostUrgentFace 4 = .ok (.iload_n 2, 1) := by decide +kernel
theorem dX6_mostUrgentFace_5 : decode cX6_mostUrgentFace 5 = .ok (.bipush 16, 2) := by decide +kernel
theorem dX6_mostUrgentFace_7 : decode cX6_mostUrgentFace 7 = .ok (.if_icmp .ge 40, 3) := by decide +kernel
theorem dX6_mostUrgentFace_10 : decode cX6_mostUrgentFace 10 = .ok (.aload_n 0, 1) := by decide +kernel
theorem dX6_mostUrgentFace_11 : decode cX6_mostUrgentFace 11 = .ok (.getfield 11, 3) := by decide +kernel
theorem dX6_mostUrgentFace_14 : decode cX6_mostUrgentFace 14 = .ok (.iload_n 2, 1) := by decide +kernel
theorem dX6_mostUrgentFace_15 : decode cX6_mostUrgentFace 15 = .ok (.aaload, 1) := by decide +kernel
theorem dX6_mostUrgentFace_16 : decode cX6_mostUrgentFace 16 = .ok (.astore_n 3, 1) := by decide +kernel
theorem dX6_mostUrgentFace_17 : decode cX6_mostUrgentFace 17 = .ok (.aload_n 3, 1) := by decide +kernel
theorem dX6_mostUrgentFace_18 : decode cX6_mostUrgentFace 18 = .ok (.getfield 298, 3) := by decide +kernel
theorem dX6_mostUrgentFace_21 : decode cX6_mostUrgentFace 21 = .ok (.ifCond .le 20, 3) := by decide +kernel
theorem dX6_mostUrgentFace_24 : decode cX6_mostUrgentFace 24 = .ok (.aload_n 1, 1) := by decide +kernel
theorem dX6_mostUrgentFace_25 : decode cX6_mostUrgentFace 25 = .ok (.ifnull 14, 3) := by decide +kernel
theorem dX6_mostUrgentFace_28 : decode cX6_mostUrgentFace 28 = .ok (.aload_n 3, 1) := by decide +kernel
theorem dX6_mostUrgentFace_29 : decode cX6_mostUrgentFace 29 = .ok (.getfield 308, 3) := by decide +kernel
theorem dX6_mostUrgentFace_32 : decode cX6_mostUrgentFace 32 = .ok (.aload_n 1, 1) := by decide +kernel
theorem dX6_mostUrgentFace_33 : decode cX6_mostUrgentFace 33 = .ok (.getfield 308, 3) := by decide +kernel
theorem dX6_mostUrgentFace_36 : decode cX6_mostUrgentFace 36 = .ok (.if_icmp .ge 5, 3) := by decide +kernel
theorem dX6_mostUrgentFace_39 : decode cX6_mostUrgentFace 39 = .ok (.aload_n 3, 1) := by decide +kernel
theorem dX6_mostUrgentFace_40 : decode cX6_mostUrgentFace 40 = .ok (.astore_n 1, 1) := by decide +kernel
theorem dX6_mostUrgentFace_41 : decode cX6_mostUrgentFace 41 = .ok (.iinc 2 1, 3) := by decide +kernel
theorem dX6_mostUrgentFace_44 : decode cX6_mostUrgentFace 44 = .ok (.goto (-40), 3) := by decide +kernel
theorem dX6_mostUrgentFace_47 : decode cX6_mostUrgentFace 47 = .ok (.aload_n 1, 1) := by decide +kernel
theorem dX6_mostUrgentFace_48 : decode cX6_mostUrgentFace 48 = .ok (.areturn, 1) := by decide +kernel
abbrev cX6_serve : ByteArray := prog_1_method_37_code
def yX6_serve : MethodName := ⟨RX6, "serve", "(LReplenishRules$Place;)V"⟩
abbrev wX6_serve : Cond := .code yX6_serve cX6_serve 2 none
theorem kX6_serve : wX6_serve ∈ wG := mG 620 (by decide +kernel) rfl
theorem dX6_serve_0 : decode cX6_serve 0 = .ok (.aload_n 0, 1) := by decide +kernel
theorem dX6_serve_1 : decode cX6_serve 1 = .ok (.aload_n 1, 1) := by decide +kernel
theorem dX6_serve_2 : decode cX6_serve 2 = .ok (.iconst 1, 1) := by decide +kernel
theorem dX6_serve_3 : decode cX6_serve 3 = .ok (.invokevirtual 318, 3) := by decide +kernel
theorem dX6_serve_6 : decode cX6_serve 6 = .ok (.aload_n 0, 1) := by decide +kernel
theorem dX6_serve_7 : decode cX6_serve 7 = .ok (.aload_n 1, 1) := by decide +kernel
theorem dX6_serve_8 : decode cX6_serve 8 = .ok (.iconst 0, 1) := by decide +kernel
theorem dX6_serve_9 : decode cX6_serve 9 = .ok (.invokevirtual 318, 3) := by decide +kernel
theorem dX6_serve_12 : decode cX6_serve 12 = .ok (.aload_n 1, 1) := by decide +kernel
theorem dX6_serve_13 : decode cX6_serve 13 = .ok (.iconst 0, 1) := by decide +kernel
theorem dX6_serve_14 : decode cX6_serve 14 = .ok (.putfield 298, 3) := by decide +kernel
theorem dX6_serve_17 : decode cX6_serve 17 = .ok (.return_, 1) := by decide +kernel
abbrev cX6_takeFromReserves : ByteArray := prog_1_method_38_code
def yX6_takeFromReserves : MethodName := ⟨RX6, "takeFromReserves", "(LReplenishRules$Place;Z)V"⟩
abbrev wX6_takeFromReserves : Cond := .code yX6_takeFromReserves cX6_takeFromReserves 6 none
theorem kX6_takeFromReserves : wX6_takeFromReserves ∈ wG := mG 624 (by decide +kernel) rfl
theorem dX6_takeFromReserves_0 : decode cX6_takeFromReserves 0 = .ok (.iconst 0, 1) := by decide +kernel
theorem dX6_takeFromReserves_1 : decode cX6_takeFromReserves 1 = .ok (.istore_n 3, 1) := by decide +kernel
theorem dX6_takeFromReserves_2 : decode cX6_takeFromReserves 2 = .ok (.iload_n 3, 1) := by decide +kernel
theorem dX6_takeFromReserves_3 : decode cX6_takeFromReserves 3 = .ok (.bipush 16, 2) := by decide +kernel
theorem dX6_takeFromReserves_5 : decode cX6_takeFromReserves 5 = .ok (.if_icmp .ge 61, 3) := by decide +kernel
theorem dX6_takeFromReserves_8 : decode cX6_takeFromReserves 8 = .ok (.aload_n 0, 1) := by decide +kernel
theorem dX6_takeFromReserves_9 : decode cX6_takeFromReserves 9 = .ok (.getfield 11, 3) := by decide +kernel
theorem dX6_takeFromReserves_12 : decode cX6_takeFromReserves 12 = .ok (.iload_n 3, 1) := by decide +kernel
theorem dX6_takeFromReserves_13 : decode cX6_takeFromReserves 13 = .ok (.aaload, 1) := by decide +kernel
theorem dX6_takeFromReserves_14 : decode cX6_takeFromReserves 14 = .ok (.astore 4, 2) := by decide +kernel
theorem dX6_takeFromReserves_16 : decode cX6_takeFromReserves 16 = .ok (.aload 4, 2) := by decide +kernel
theorem dX6_takeFromReserves_18 : decode cX6_takeFromReserves 18 = .ok (.getfield 82, 3) := by decide +kernel
theorem dX6_takeFromReserves_21 : decode cX6_takeFromReserves 21 = .ok (.aload_n 1, 1) := by decide +kernel
theorem dX6_takeFromReserves_22 : decode cX6_takeFromReserves 22 = .ok (.getfield 82, 3) := by decide +kernel
theorem dX6_takeFromReserves_25 : decode cX6_takeFromReserves 25 = .ok (.if_icmp .ne 7, 3) := by decide +kernel
theorem dX6_takeFromReserves_28 : decode cX6_takeFromReserves 28 = .ok (.iconst 1, 1) := by decide +kernel
theorem dX6_takeFromReserves_29 : decode cX6_takeFromReserves 29 = .ok (.goto 4, 3) := by decide +kernel
theorem dX6_takeFromReserves_32 : decode cX6_takeFromReserves 32 = .ok (.iconst 0, 1) := by decide +kernel
theorem dX6_takeFromReserves_33 : decode cX6_takeFromReserves 33 = .ok (.istore 5, 2) := by decide +kernel
theorem dX6_takeFromReserves_35 : decode cX6_takeFromReserves 35 = .ok (.iload 5, 2) := by decide +kernel
theorem dX6_takeFromReserves_37 : decode cX6_takeFromReserves 37 = .ok (.iload_n 2, 1) := by decide +kernel
theorem dX6_takeFromReserves_38 : decode cX6_takeFromReserves 38 = .ok (.if_icmp .ne 22, 3) := by decide +kernel
theorem dX6_takeFromReserves_41 : decode cX6_takeFromReserves 41 = .ok (.aload 4, 2) := by decide +kernel
theorem dX6_takeFromReserves_43 : decode cX6_takeFromReserves 43 = .ok (.aload_n 1, 1) := by decide +kernel
theorem dX6_takeFromReserves_44 : decode cX6_takeFromReserves 44 = .ok (.getfield 91, 3) := by decide +kernel
theorem dX6_takeFromReserves_47 : decode cX6_takeFromReserves 47 = .ok (.invokevirtual 322, 3) := by decide +kernel
theorem dX6_takeFromReserves_50 : decode cX6_takeFromReserves 50 = .ok (.ifCond .eq 10, 3) := by decide +kernel
theorem dX6_takeFromReserves_53 : decode cX6_takeFromReserves 53 = .ok (.aload_n 0, 1) := by decide +kernel
theorem dX6_takeFromReserves_54 : decode cX6_takeFromReserves 54 = .ok (.aload 4, 2) := by decide +kernel
theorem dX6_takeFromReserves_56 : decode cX6_takeFromReserves 56 = .ok (.aload_n 1, 1) := by decide +kernel
theorem dX6_takeFromReserves_57 : decode cX6_takeFromReserves 57 = .ok (.invokevirtual 325, 3) := by decide +kernel
theorem dX6_takeFromReserves_60 : decode cX6_takeFromReserves 60 = .ok (.iinc 3 1, 3) := by decide +kernel
theorem dX6_takeFromReserves_63 : decode cX6_takeFromReserves 63 = .ok (.goto (-61), 3) := by decide +kernel
theorem dX6_takeFromReserves_66 : decode cX6_takeFromReserves 66 = .ok (.return_, 1) := by decide +kernel
abbrev cX6_planMove : ByteArray := prog_1_method_39_code
def yX6_planMove : MethodName := ⟨RX6, "planMove", "(LReplenishRules$Place;LReplenishRules$Place;)V"⟩
abbrev wX6_planMove : Cond := .code yX6_planMove cX6_planMove 4 none
theorem kX6_planMove : wX6_planMove ∈ wG := mG 632 (by decide +kernel) rfl
theorem dX6_planMove_0 : decode cX6_planMove 0 = .ok (.aload_n 1, 1) := by decide +kernel
theorem dX6_planMove_1 : decode cX6_planMove 1 = .ok (.invokevirtual 329, 3) := by decide +kernel
theorem dX6_planMove_4 : decode cX6_planMove 4 = .ok (.aload_n 2, 1) := by decide +kernel
theorem dX6_planMove_5 : decode cX6_planMove 5 = .ok (.getfield 298, 3) := by decide +kernel
theorem dX6_planMove_8 : decode cX6_planMove 8 = .ok (.invokestatic 332, 3) := by decide +kernel
theorem dX6_planMove_11 : decode cX6_planMove 11 = .ok (.istore_n 3, 1) := by decide +kernel
theorem dX6_planMove_12 : decode cX6_planMove 12 = .ok (.iload_n 3, 1) := by decide +kernel
theorem dX6_planMove_13 : decode cX6_planMove 13 = .ok (.ifCond .le 15, 3) := by decide +kernel
theorem dX6_planMove_16 : decode cX6_planMove 16 = .ok (.aload_n 0, 1) := by decide +kernel
theorem dX6_planMove_17 : decode cX6_planMove 17 = .ok (.getfield 48, 3) := by decide +kernel
theorem dX6_planMove_20 : decode cX6_planMove 20 = .ok (.getfield 208, 3) := by decide +kernel
theorem dX6_planMove_23 : decode cX6_planMove 23 = .ok (.bipush 30, 2) := by decide +kernel
theorem dX6_planMove_25 : decode cX6_planMove 25 = .ok (.if_icmp .lt 4, 3) := by decide +kernel
theorem dX6_planMove_28 : decode cX6_planMove 28 = .ok (.return_, 1) := by decide +kernel
theorem dX6_planMove_29 : decode cX6_planMove 29 = .ok (.aload_n 1, 1) := by decide +kernel
theorem dX6_planMove_30 : decode cX6_planMove 30 = .ok (.dup, 1) := by decide +kernel
theorem dX6_planMove_31 : decode cX6_planMove 31 = .ok (.getfield 295, 3) := by decide +kernel
theorem dX6_planMove_34 : decode cX6_planMove 34 = .ok (.iload_n 3, 1) := by decide +kernel
theorem dX6_planMove_35 : decode cX6_planMove 35 = .ok (.iadd, 1) := by decide +kernel
theorem dX6_planMove_36 : decode cX6_planMove 36 = .ok (.putfield 295, 3) := by decide +kernel
theorem dX6_planMove_39 : decode cX6_planMove 39 = .ok (.aload_n 2, 1) := by decide +kernel
theorem dX6_planMove_40 : decode cX6_planMove 40 = .ok (.dup, 1) := by decide +kernel
theorem dX6_planMove_41 : decode cX6_planMove 41 = .ok (.getfield 298, 3) := by decide +kernel
theorem dX6_planMove_44 : decode cX6_planMove 44 = .ok (.iload_n 3, 1) := by decide +kernel
theorem dX6_planMove_45 : decode cX6_planMove 45 = .ok (.isub, 1) := by decide +kernel
theorem dX6_planMove_46 : decode cX6_planMove 46 = .ok (.putfield 298, 3) := by decide +kernel
theorem dX6_planMove_49 : decode cX6_planMove 49 = .ok (.aload_n 0, 1) := by decide +kernel
theorem dX6_planMove_50 : decode cX6_planMove 50 = .ok (.getfield 48, 3) := by decide +kernel
theorem dX6_planMove_53 : decode cX6_planMove 53 = .ok (.aload_n 1, 1) := by decide +kernel
theorem dX6_planMove_54 : decode cX6_planMove 54 = .ok (.aload_n 2, 1) := by decide +kernel
end
section
theorem dX6_planMove_55 : decode cX6_planMove 55 = .ok (.iload_n 3, 1) := by decide +kernel
theorem dX6_planMove_56 : decode cX6_planMove 56 = .ok (.invokevirtual 334, 3) := by decide +kernel
theorem dX6_planMove_59 : decode cX6_planMove 59 = .ok (.return_, 1) := by decide +kernel
end
section
theorem qD_X6_258 : Cond.constantLong RX6 258 7 ∈ wG := mG 548 (by decide +kernel) rfl
theorem qD_X6_260 : Cond.constantLong RX6 260 1000 ∈ wG := mG 549 (by decide +kernel) rfl
theorem qD_X6_262 : Cond.constantLong RX6 262 8 ∈ wG := mG 550 (by decide +kernel) rfl
theorem qF_X0_15 : Cond.fieldLink RX0 15 "ReplenishRules$Calendar" "today" "I" ∈ wG := mG 38 (by decide +kernel) rfl
theorem qF_X0_9 : Cond.fieldLink RX0 9 "ReplenishRules$Calendar" "closed" "[Z" ∈ wG := mG 36 (by decide +kernel) rfl
theorem qF_X1_13 : Cond.fieldLink RX1 13 "ReplenishRules$Move" "to" "I" ∈ wG := mG 83 (by decide +kernel) rfl
theorem qF_X1_16 : Cond.fieldLink RX1 16 "ReplenishRules$Move" "pieces" "I" ∈ wG := mG 86 (by decide +kernel) rfl
theorem qF_X1_19 : Cond.fieldLink RX1 19 "ReplenishRules$Move" "needTime" "I" ∈ wG := mG 89 (by decide +kernel) rfl
theorem qF_X1_22 : Cond.fieldLink RX1 22 "ReplenishRules$Move" "trip" "I" ∈ wG := mG 91 (by decide +kernel) rfl
theorem qF_X1_25 : Cond.fieldLink RX1 25 "ReplenishRules$Move" "emptiesReserve" "Z" ∈ wG := mG 93 (by decide +kernel) rfl
theorem qF_X1_29 : Cond.fieldLink RX1 29 "ReplenishRules$Move" "isDone" "Z" ∈ wG := mG 95 (by decide +kernel) rfl
theorem qF_X1_7 : Cond.fieldLink RX1 7 "ReplenishRules$Move" "from" "I" ∈ wG := mG 80 (by decide +kernel) rfl
theorem qF_X2_15 : Cond.fieldLink RX2 15 "ReplenishRules$Place" "room" "I" ∈ wG := mG 140 (by decide +kernel) rfl
theorem qF_X2_22 : Cond.fieldLink RX2 22 "ReplenishRules$Place" "pieces" "I" ∈ wG := mG 145 (by decide +kernel) rfl
theorem qF_X2_25 : Cond.fieldLink RX2 25 "ReplenishRules$Place" "held" "I" ∈ wG := mG 147 (by decide +kernel) rfl
theorem qF_X2_28 : Cond.fieldLink RX2 28 "ReplenishRules$Place" "good" "I" ∈ wG := mG 149 (by decide +kernel) rfl
theorem qF_X2_31 : Cond.fieldLink RX2 31 "ReplenishRules$Place" "faceGood" "I" ∈ wG := mG 151 (by decide +kernel) rfl
theorem qF_X2_34 : Cond.fieldLink RX2 34 "ReplenishRules$Place" "least" "I" ∈ wG := mG 153 (by decide +kernel) rfl
theorem qF_X2_37 : Cond.fieldLink RX2 37 "ReplenishRules$Place" "most" "I" ∈ wG := mG 155 (by decide +kernel) rfl
theorem qF_X2_40 : Cond.fieldLink RX2 40 "ReplenishRules$Place" "planned" "I" ∈ wG := mG 157 (by decide +kernel) rfl
theorem qF_X3_11 : Cond.fieldLink RX3 11 "ReplenishRules$Plan" "moves" "[LReplenishRules$Move;" ∈ wG := mG 113 (by decide +kernel) rfl
theorem qF_X3_17 : Cond.fieldLink RX3 17 "ReplenishRules$Plan" "count" "I" ∈ wG := mG 114 (by decide +kernel) rfl
theorem qF_X3_21 : Cond.fieldLink RX3 21 "ReplenishRules$Plan" "trip" "I" ∈ wG := mG 116 (by decide +kernel) rfl
theorem qF_X3_24 : Cond.fieldLink RX3 24 "ReplenishRules$Plan" "tripZone" "I" ∈ wG := mG 117 (by decide +kernel) rfl
theorem qF_X3_27 : Cond.fieldLink RX3 27 "ReplenishRules$Plan" "tripMoves" "I" ∈ wG := mG 118 (by decide +kernel) rfl
theorem qF_X3_38 : Cond.fieldLink RX3 38 "ReplenishRules$Place" "zone" "I" ∈ wG := mG 144 (by decide +kernel) rfl
theorem qF_X3_47 : Cond.fieldLink RX3 47 "ReplenishRules$Place" "number" "I" ∈ wG := mG 136 (by decide +kernel) rfl
theorem qF_X3_50 : Cond.fieldLink RX3 50 "ReplenishRules$Move" "from" "I" ∈ wG := mG 81 (by decide +kernel) rfl
theorem qF_X3_53 : Cond.fieldLink RX3 53 "ReplenishRules$Move" "to" "I" ∈ wG := mG 84 (by decide +kernel) rfl
theorem qF_X3_56 : Cond.fieldLink RX3 56 "ReplenishRules$Move" "pieces" "I" ∈ wG := mG 87 (by decide +kernel) rfl
theorem qF_X3_59 : Cond.fieldLink RX3 59 "ReplenishRules$Place" "needTime" "I" ∈ wG := mG 162 (by decide +kernel) rfl
theorem qF_X3_62 : Cond.fieldLink RX3 62 "ReplenishRules$Move" "needTime" "I" ∈ wG := mG 90 (by decide +kernel) rfl
theorem qF_X3_63 : Cond.fieldLink RX3 63 "ReplenishRules$Move" "trip" "I" ∈ wG := mG 92 (by decide +kernel) rfl
theorem qF_X3_68 : Cond.fieldLink RX3 68 "ReplenishRules$Move" "emptiesReserve" "Z" ∈ wG := mG 94 (by decide +kernel) rfl
theorem qF_X3_72 : Cond.fieldLink RX3 72 "ReplenishRules$Move" "isDone" "Z" ∈ wG := mG 96 (by decide +kernel) rfl
theorem qF_X4_15 : Cond.fieldLink RX4 15 "ReplenishRules$Rule" "ahead" "I" ∈ wG := mG 198 (by decide +kernel) rfl
theorem qF_X4_18 : Cond.fieldLink RX4 18 "ReplenishRules$Rule" "until" "I" ∈ wG := mG 200 (by decide +kernel) rfl
theorem qF_X4_9 : Cond.fieldLink RX4 9 "ReplenishRules$Rule" "kind" "I" ∈ wG := mG 196 (by decide +kernel) rfl
theorem qF_X5_15 : Cond.fieldLink RX5 15 "ReplenishRules$Waves" "pieces" "[I" ∈ wG := mG 54 (by decide +kernel) rfl
theorem qF_X5_18 : Cond.fieldLink RX5 18 "ReplenishRules$Waves" "days" "[I" ∈ wG := mG 55 (by decide +kernel) rfl
theorem qF_X5_21 : Cond.fieldLink RX5 21 "ReplenishRules$Waves" "count" "I" ∈ wG := mG 56 (by decide +kernel) rfl
theorem qF_X5_9 : Cond.fieldLink RX5 9 "ReplenishRules$Waves" "faces" "[I" ∈ wG := mG 53 (by decide +kernel) rfl
theorem qF_X6_11 : Cond.fieldLink RX6 11 "ReplenishRules" "places" "[LReplenishRules$Place;" ∈ wG := mG 209 (by decide +kernel) rfl
theorem qF_X6_122 : Cond.fieldLink RX6 122 "ReplenishRules$Place" "used" "[I" ∈ wG := mG 139 (by decide +kernel) rfl
theorem qF_X6_125 : Cond.fieldLink RX6 125 "ReplenishRules$Calendar" "today" "I" ∈ wG := mG 39 (by decide +kernel) rfl
theorem qF_X6_153 : Cond.fieldLink RX6 153 "ReplenishRules$Place" "number" "I" ∈ wG := mG 137 (by decide +kernel) rfl
theorem qF_X6_17 : Cond.fieldLink RX6 17 "ReplenishRules" "rules" "[LReplenishRules$Rule;" ∈ wG := mG 210 (by decide +kernel) rfl
theorem qF_X6_208 : Cond.fieldLink RX6 208 "ReplenishRules$Plan" "count" "I" ∈ wG := mG 115 (by decide +kernel) rfl
theorem qF_X6_21 : Cond.fieldLink RX6 21 "ReplenishRules" "casePieces" "[I" ∈ wG := mG 211 (by decide +kernel) rfl
theorem qF_X6_25 : Cond.fieldLink RX6 25 "ReplenishRules" "ups" "[I" ∈ wG := mG 212 (by decide +kernel) rfl
theorem qF_X6_28 : Cond.fieldLink RX6 28 "ReplenishRules" "downs" "[I" ∈ wG := mG 213 (by decide +kernel) rfl
theorem qF_X6_295 : Cond.fieldLink RX6 295 "ReplenishRules$Place" "planned" "I" ∈ wG := mG 158 (by decide +kernel) rfl
theorem qF_X6_298 : Cond.fieldLink RX6 298 "ReplenishRules$Place" "wanted" "I" ∈ wG := mG 160 (by decide +kernel) rfl
theorem qF_X6_308 : Cond.fieldLink RX6 308 "ReplenishRules$Place" "needTime" "I" ∈ wG := mG 163 (by decide +kernel) rfl
theorem qF_X6_34 : Cond.fieldLink RX6 34 "ReplenishRules" "calendar" "LReplenishRules$Calendar;" ∈ wG := mG 214 (by decide +kernel) rfl
theorem qF_X6_41 : Cond.fieldLink RX6 41 "ReplenishRules" "waves" "LReplenishRules$Waves;" ∈ wG := mG 215 (by decide +kernel) rfl
theorem qF_X6_48 : Cond.fieldLink RX6 48 "ReplenishRules" "plan" "LReplenishRules$Plan;" ∈ wG := mG 216 (by decide +kernel) rfl
theorem qF_X6_65 : Cond.fieldLink RX6 65 "ReplenishRules$Place" "pieces" "I" ∈ wG := mG 146 (by decide +kernel) rfl
theorem qF_X6_69 : Cond.fieldLink RX6 69 "ReplenishRules$Place" "most" "I" ∈ wG := mG 156 (by decide +kernel) rfl
theorem qF_X6_79 : Cond.fieldLink RX6 79 "ReplenishRules$Place" "room" "I" ∈ wG := mG 141 (by decide +kernel) rfl
theorem qF_X6_82 : Cond.fieldLink RX6 82 "ReplenishRules$Place" "zone" "I" ∈ wG := mG 143 (by decide +kernel) rfl
theorem qF_X6_91 : Cond.fieldLink RX6 91 "ReplenishRules$Place" "faceGood" "I" ∈ wG := mG 152 (by decide +kernel) rfl
theorem qF_X6_94 : Cond.fieldLink RX6 94 "ReplenishRules$Place" "least" "I" ∈ wG := mG 154 (by decide +kernel) rfl
theorem qI_X0_firstOf : Cond.instanceMethod yX0_firstOf ∈ wG := mG 485 (by decide +kernel) rfl
theorem qI_X0_isOpen : Cond.instanceMethod yX0_isOpen ∈ wG := mG 489 (by decide +kernel) rfl
theorem qI_X0_month : Cond.instanceMethod yX0_month ∈ wG := mG 529 (by decide +kernel) rfl
theorem qI_X0_openDays : Cond.instanceMethod yX0_openDays ∈ wG := mG 481 (by decide +kernel) rfl
theorem qI_X2_free : Cond.instanceMethod yX2_free ∈ wG := mG 634 (by decide +kernel) rfl
theorem qI_X2_isFace : Cond.instanceMethod yX2_isFace ∈ wG := mG 362 (by decide +kernel) rfl
theorem qI_X2_isReserveOf : Cond.instanceMethod yX2_isReserveOf ∈ wG := mG 626 (by decide +kernel) rfl
theorem qI_X2_notHeld : Cond.instanceMethod yX2_notHeld ∈ wG := mG 407 (by decide +kernel) rfl
theorem qI_X2_space : Cond.instanceMethod yX2_space ∈ wG := mG 370 (by decide +kernel) rfl
theorem qI_X3_add : Cond.instanceMethod yX3_add ∈ wG := mG 642 (by decide +kernel) rfl
theorem qI_X3_joinTrip : Cond.instanceMethod yX3_joinTrip ∈ wG := mG 647 (by decide +kernel) rfl
theorem qI_X4_aheadOn : Cond.instanceMethod yX4_aheadOn ∈ wG := mG 533 (by decide +kernel) rfl
theorem qI_X4_kindOn : Cond.instanceMethod yX4_kindOn ∈ wG := mG 525 (by decide +kernel) rfl
theorem qI_X5_neededOf : Cond.instanceMethod yX5_neededOf ∈ wG := mG 567 (by decide +kernel) rfl
theorem qI_X6_fadingUse : Cond.instanceMethod yX6_fadingUse ∈ wG := mG 546 (by decide +kernel) rfl
theorem qI_X6_forecastOf : Cond.instanceMethod yX6_forecastOf ∈ wG := mG 522 (by decide +kernel) rfl
theorem qI_X6_needOf : Cond.instanceMethod yX6_needOf ∈ wG := mG 564 (by decide +kernel) rfl
theorem qI_X6_needTimeOf : Cond.instanceMethod yX6_needTimeOf ∈ wG := mG 611 (by decide +kernel) rfl
theorem qI_X6_planMove : Cond.instanceMethod yX6_planMove ∈ wG := mG 631 (by decide +kernel) rfl
theorem qI_X6_takeFromReserves : Cond.instanceMethod yX6_takeFromReserves ∈ wG := mG 623 (by decide +kernel) rfl
theorem qI_X6_thresholdOf : Cond.instanceMethod yX6_thresholdOf ∈ wG := mG 560 (by decide +kernel) rfl
theorem qI_X6_usedOnPastDays : Cond.instanceMethod yX6_usedOnPastDays ∈ wG := mG 538 (by decide +kernel) rfl
theorem qI_X6_wantedBy : Cond.instanceMethod yX6_wantedBy ∈ wG := mG 601 (by decide +kernel) rfl
theorem qM_X0_19 : Cond.methodLink RX0 19 yX0_firstOf ∈ wG := mG 484 (by decide +kernel) rfl
theorem qM_X0_23 : Cond.methodLink RX0 23 yX0_isOpen ∈ wG := mG 488 (by decide +kernel) rfl
theorem qM_X2_52 : Cond.methodLink RX2 52 yX2_isFace ∈ wG := mG 361 (by decide +kernel) rfl
theorem qM_X2_56 : Cond.methodLink RX2 56 yX2_notHeld ∈ wG := mG 637 (by decide +kernel) rfl
theorem qM_X3_43 : Cond.methodLink RX3 43 yX3_joinTrip ∈ wG := mG 645 (by decide +kernel) rfl
theorem qM_X3_64 : Cond.methodLink RX3 64 yX2_free ∈ wG := mG 649 (by decide +kernel) rfl
theorem qM_X6_165 : Cond.methodLink RX6 165 yX0_openDays ∈ wG := mG 480 (by decide +kernel) rfl
theorem qM_X6_178 : Cond.methodLink RX6 178 yX6_forecastOf ∈ wG := mG 520 (by decide +kernel) rfl
theorem qM_X6_182 : Cond.methodLink RX6 182 yX6_thresholdOf ∈ wG := mG 558 (by decide +kernel) rfl
theorem qM_X6_186 : Cond.methodLink RX6 186 yX6_needOf ∈ wG := mG 562 (by decide +kernel) rfl
theorem qM_X6_189 : Cond.methodLink RX6 189 yX0_isOpen ∈ wG := mG 540 (by decide +kernel) rfl
theorem qM_X6_244 : Cond.methodLink RX6 244 yX2_space ∈ wG := mG 369 (by decide +kernel) rfl
theorem qM_X6_249 : Cond.methodLink RX6 249 yX2_isFace ∈ wG := mG 404 (by decide +kernel) rfl
theorem qM_X6_255 : Cond.methodLink RX6 255 yX0_firstOf ∈ wG := mG 512 (by decide +kernel) rfl
theorem qM_X6_264 : Cond.methodLink RX6 264 yX4_kindOn ∈ wG := mG 524 (by decide +kernel) rfl
theorem qM_X6_267 : Cond.methodLink RX6 267 yX0_month ∈ wG := mG 528 (by decide +kernel) rfl
theorem qM_X6_270 : Cond.methodLink RX6 270 yX4_aheadOn ∈ wG := mG 532 (by decide +kernel) rfl
theorem qM_X6_273 : Cond.methodLink RX6 273 yX6_usedOnPastDays ∈ wG := mG 536 (by decide +kernel) rfl
theorem qM_X6_276 : Cond.methodLink RX6 276 yX6_divideUp ∈ wG := mG 541 (by decide +kernel) rfl
theorem qM_X6_280 : Cond.methodLink RX6 280 yX6_fadingUse ∈ wG := mG 544 (by decide +kernel) rfl
theorem qM_X6_283 : Cond.methodLink RX6 283 yX5_neededOf ∈ wG := mG 566 (by decide +kernel) rfl
theorem qM_X6_287 : Cond.methodLink RX6 287 Lib.MathLoose.max_long.x ∈ wG := mG 570 (by decide +kernel) rfl
theorem qM_X6_292 : Cond.methodLink RX6 292 Lib.MathLoose.min_long.x ∈ wG := mG 573 (by decide +kernel) rfl
theorem qM_X6_301 : Cond.methodLink RX6 301 yX6_wantedBy ∈ wG := mG 599 (by decide +kernel) rfl
theorem qM_X6_305 : Cond.methodLink RX6 305 yX6_needTimeOf ∈ wG := mG 609 (by decide +kernel) rfl
theorem qM_X6_311 : Cond.methodLink RX6 311 Lib.Math.max.name ∈ wG := mG 603 (by decide +kernel) rfl
theorem qM_X6_314 : Cond.methodLink RX6 314 yX6_inFullCases ∈ wG := mG 606 (by decide +kernel) rfl
theorem qM_X6_318 : Cond.methodLink RX6 318 yX6_takeFromReserves ∈ wG := mG 621 (by decide +kernel) rfl
theorem qM_X6_322 : Cond.methodLink RX6 322 yX2_isReserveOf ∈ wG := mG 625 (by decide +kernel) rfl
theorem qM_X6_325 : Cond.methodLink RX6 325 yX6_planMove ∈ wG := mG 629 (by decide +kernel) rfl
theorem qM_X6_329 : Cond.methodLink RX6 329 yX2_free ∈ wG := mG 633 (by decide +kernel) rfl
theorem qM_X6_332 : Cond.methodLink RX6 332 Lib.Math.min.name ∈ wG := mG 638 (by decide +kernel) rfl
theorem qM_X6_334 : Cond.methodLink RX6 334 yX3_add ∈ wG := mG 641 (by decide +kernel) rfl
theorem qN_Math : Cond.initialized "java/lang/Math" ∈ wG := mG 16 (by decide +kernel) rfl
theorem qN_X0 : Cond.initialized RX0 ∈ wG := mG 2 (by decide +kernel) rfl
theorem qN_X2 : Cond.initialized RX2 ∈ wG := mG 6 (by decide +kernel) rfl
theorem qN_X3 : Cond.initialized RX3 ∈ wG := mG 4 (by decide +kernel) rfl
theorem qN_X4 : Cond.initialized RX4 ∈ wG := mG 7 (by decide +kernel) rfl
theorem qN_X5 : Cond.initialized RX5 ∈ wG := mG 3 (by decide +kernel) rfl
theorem qN_X6 : Cond.initialized RX6 ∈ wG := mG 1 (by decide +kernel) rfl
theorem qS_X0_firstOf : Cond.selects RX0 yX0_firstOf yX0_firstOf ∈ wG := mG 486 (by decide +kernel) rfl
theorem qS_X0_isOpen : Cond.selects RX0 yX0_isOpen yX0_isOpen ∈ wG := mG 490 (by decide +kernel) rfl
theorem qS_X0_month : Cond.selects RX0 yX0_month yX0_month ∈ wG := mG 530 (by decide +kernel) rfl
theorem qS_X0_openDays : Cond.selects RX0 yX0_openDays yX0_openDays ∈ wG := mG 482 (by decide +kernel) rfl
theorem qS_X2_free : Cond.selects RX2 yX2_free yX2_free ∈ wG := mG 635 (by decide +kernel) rfl
theorem qS_X2_isFace : Cond.selects RX2 yX2_isFace yX2_isFace ∈ wG := mG 363 (by decide +kernel) rfl
theorem qS_X2_isReserveOf : Cond.selects RX2 yX2_isReserveOf yX2_isReserveOf ∈ wG := mG 627 (by decide +kernel) rfl
theorem qS_X2_notHeld : Cond.selects RX2 yX2_notHeld yX2_notHeld ∈ wG := mG 408 (by decide +kernel) rfl
theorem qS_X2_space : Cond.selects RX2 yX2_space yX2_space ∈ wG := mG 371 (by decide +kernel) rfl
theorem qS_X3_add : Cond.selects RX3 yX3_add yX3_add ∈ wG := mG 643 (by decide +kernel) rfl
theorem qS_X3_joinTrip : Cond.selects RX3 yX3_joinTrip yX3_joinTrip ∈ wG := mS 16 (by decide +kernel) rfl
theorem qS_X4_aheadOn : Cond.selects RX4 yX4_aheadOn yX4_aheadOn ∈ wG := mG 534 (by decide +kernel) rfl
theorem qS_X4_kindOn : Cond.selects RX4 yX4_kindOn yX4_kindOn ∈ wG := mG 526 (by decide +kernel) rfl
theorem qS_X5_neededOf : Cond.selects RX5 yX5_neededOf yX5_neededOf ∈ wG := mG 568 (by decide +kernel) rfl
theorem qS_X6_fadingUse : Cond.selects RX6 yX6_fadingUse yX6_fadingUse ∈ wG := mS 6 (by decide +kernel) rfl
theorem qS_X6_forecastOf : Cond.selects RX6 yX6_forecastOf yX6_forecastOf ∈ wG := mS 4 (by decide +kernel) rfl
theorem qS_X6_needOf : Cond.selects RX6 yX6_needOf yX6_needOf ∈ wG := mS 8 (by decide +kernel) rfl
theorem qS_X6_needTimeOf : Cond.selects RX6 yX6_needTimeOf yX6_needTimeOf ∈ wG := mS 11 (by decide +kernel) rfl
theorem qS_X6_planMove : Cond.selects RX6 yX6_planMove yX6_planMove ∈ wG := mS 15 (by decide +kernel) rfl
theorem qS_X6_takeFromReserves : Cond.selects RX6 yX6_takeFromReserves yX6_takeFromReserves ∈ wG := mS 14 (by decide +kernel) rfl
theorem qS_X6_thresholdOf : Cond.selects RX6 yX6_thresholdOf yX6_thresholdOf ∈ wG := mS 7 (by decide +kernel) rfl
theorem qS_X6_usedOnPastDays : Cond.selects RX6 yX6_usedOnPastDays yX6_usedOnPastDays ∈ wG := mS 5 (by decide +kernel) rfl
theorem qS_X6_wantedBy : Cond.selects RX6 yX6_wantedBy yX6_wantedBy ∈ wG := mS 10 (by decide +kernel) rfl
theorem qT_Math_max_i : Cond.static Lib.Math.max.name ∈ wG := mG 604 (by decide +kernel) rfl
theorem qT_Math_max_l : Cond.static Lib.MathLoose.max_long.x ∈ wG := mG 571 (by decide +kernel) rfl
theorem qT_Math_min_i : Cond.static Lib.Math.min.name ∈ wG := mG 639 (by decide +kernel) rfl
theorem qT_Math_min_l : Cond.static Lib.MathLoose.min_long.x ∈ wG := mG 574 (by decide +kernel) rfl
theorem qT_X6_divideUp : Cond.static yX6_divideUp ∈ wG := mG 542 (by decide +kernel) rfl
theorem qT_X6_inFullCases : Cond.static yX6_inFullCases ∈ wG := mG 607 (by decide +kernel) rfl
theorem qY_Math_max_i : Cond.code Lib.Math.max.name Lib.Math.max.code 2 (some .int) ∈ wG := mG 605 (by decide +kernel) rfl
theorem qY_Math_max_l : Cond.code Lib.MathLoose.max_long.x Lib.MathLoose.max_long.code 4 (some .long) ∈ wG := mG 572 (by decide +kernel) rfl
theorem qY_Math_min_i : Cond.code Lib.Math.min.name Lib.Math.min.code 2 (some .int) ∈ wG := mG 640 (by decide +kernel) rfl
theorem qY_Math_min_l : Cond.code Lib.MathLoose.min_long.x Lib.MathLoose.min_long.code 4 (some .long) ∈ wG := mG 575 (by decide +kernel) rfl
end
section
/-! what the class does, as functions of its state (mine) -/
abbrev St : Type := Nat → Nat → Int32
abbrev nx (x : Int32) : Nat := x.toNatClampNeg
def up (σ : St) (k j : Nat) (v : Int32) : St := fun a b => if a = k ∧ b = j then v else σ a b
theorem up_eq {σ : St} {k j : Nat} {v : Int32} : up σ k j v k j = v := by simp [up]
theorem up_row {σ : St} {k j : Nat} {v : Int32} {a : Nat} (h : a ≠ k) : up σ k j v a = σ a := by funext b; simp [up, h]
theorem up_ix {σ : St} {k j : Nat} {v : Int32} {a b : Nat} (h : b ≠ j) : up σ k j v a b = σ a b := by simp [up, h]
theorem up_upd {σ : St} {k j : Nat} {v : Int32} : up σ k j v k = upd (σ k) j v := by funext b; simp [up, upd]
def foldN {α : Type} (f : Nat → α → α) : Nat → Nat → α → α
  | 0, _, a => a
  | n + 1, k, a => foldN f n (k + 1) (f k a)
theorem foldN_0 {α : Type} (f : Nat → α → α) (k : Nat) (a : α) : foldN f 0 k a = a := rfl
theorem foldN_s {α : Type} (f : Nat → α → α) (n k : Nat) (a : α) : foldN f (n + 1) k a = foldN f n (k + 1) (f k a) := rfl
/-- a loop that counts k up to t: a step and the way out -/
theorem loopN {α : Type} {f : Nat → α → α} {Wh : Nat → α → Prop} {t : Nat} (step : ∀ (k : Nat) (a : α), k < t → Wh (k + 1) (f k a) → Wh k a) : ∀ (n k : Nat) (a : α), k + n = t → Wh t (foldN f n k a) → Wh k a := by
  intro n
  induction n with
  | zero => intro k a h hw; have e : k = t := by omega
            subst e; exact hw
  | succ n ih => intro k a h hw; exact step k a (by omega) (ih (k + 1) (f k a) (by omega) hw)
-- class: rows of the state. 0 room 1 zone 2 pieces 3 held 4 good 5 faceGood 6 least 7 most 8 planned 9 wanted 10 needTime; 20 kind 21 ahead 22 until;
-- 30 casePieces 31 ups 32 downs 33 closed 34 faces 35 pieces 36 days (waves); 40 today 41 waves.count 42 plan.count 43 trip 44 tripZone 45 tripMoves; 50 from 51 to 52 pieces 53 needTime 54 trip 55 emptiesReserve 56 isDone; 100 + i used
def c_isFace (σ : St) (i : Nat) : Int32 := if σ 5 i = -1 then 0 else 1
def c_isFaceOfAnother (σ : St) (i : Nat) (g : Int32) : Int32 := if c_isFace σ i = 0 then 0 else if σ 5 i = g then 0 else 1
def c_isReserveOf (σ : St) (i : Nat) (g : Int32) : Int32 := if c_isFace σ i = 0 then (if σ 4 i = g then 1 else 0) else 0
def c_holdsAnother (σ : St) (i : Nat) (g : Int32) : Int32 := if σ 4 i = -1 then 0 else if σ 4 i = g then 0 else 1
def c_space (σ : St) (i : Nat) : Int32 := σ 0 i - σ 2 i
def c_notHeld (σ : St) (i : Nat) : Int32 := σ 2 i - σ 3 i
def c_free (σ : St) (i : Nat) : Int32 := c_notHeld σ i - σ 8 i
def c_bring (σ : St) (i : Nat) (g n : Int32) : St := let σ1 := up σ 4 i g; up σ1 2 i (σ1 2 i + n)
def c_takeAway (σ : St) (i : Nat) (n : Int32) : St := let σ1 := up σ 2 i (σ 2 i - n); if σ1 2 i = 0 then up σ1 4 i (-1) else σ1
def c_tell (σ : St) (i : Nat) (w : Int32) : Int32 := if w = 0 then σ 2 i else if w = 1 then σ 3 i else if w = 2 then σ 4 i else if w = 3 then (if c_isFace σ i = 0 then 0 else 1) else if w = 4 then σ 6 i else σ 7 i
def c_kindOn (σ : St) (z : Nat) (d : Int32) : Int32 := if d ≤ σ 22 z then σ 20 z else 0
def c_aheadOn (σ : St) (z : Nat) (d : Int32) : Int32 := if d ≤ σ 22 z then σ 21 z else 1
def c_isOpen (σ : St) (d : Int32) : Int32 := if σ 33 (nx d) = 0 then 1 else 0
def c_month (σ : St) : Int32 := σ 40 0 / 30 - σ 40 0 / 30 / 12 * 12
def c_firstOf (σ : St) (n : Int32) : Int32 := if σ 40 0 ≤ n then 0 else σ 40 0 - n
def c_openF (σ : St) (k : Nat) (a : Int32) : Int32 := if c_isOpen σ (nI k) = 0 then a else a + 1
def c_openDays (σ : St) (n : Int32) : Int32 := foldN (c_openF σ) (nx (σ 40 0) - nx (c_firstOf σ n)) (nx (c_firstOf σ n)) 0
def c_wavesAdd (σ : St) (f n d : Int32) : St := if σ 41 0 < 30 then up (up (up (up σ 34 (nx (σ 41 0)) f) 35 (nx (σ 41 0)) n) 36 (nx (σ 41 0)) d) 41 0 (σ 41 0 + 1) else σ
def c_needF (σ : St) (f a b : Int32) (k : Nat) (s : Int64) : Int64 := if σ 34 (nx (nI k)) = f then (if σ 36 (nx (nI k)) < a then s else if b < σ 36 (nx (nI k)) then s else s + (σ 35 (nx (nI k))).toInt64) else s
def c_neededOf (σ : St) (f a b : Int32) : Int64 := foldN (c_needF σ f a b) (nx (σ 41 0)) 0 0
def c_usedAllF (σ : St) (i : Nat) (k : Nat) (s : Int64) : Int64 := s + (σ (100 + i) (nx (nI k))).toInt64
def c_usedAll (σ : St) (i : Nat) (n : Int32) : Int64 := foldN (c_usedAllF σ i) (nx (σ 40 0) - nx (c_firstOf σ n)) (nx (c_firstOf σ n)) 0
def c_usedPastF (σ : St) (i : Nat) (k : Nat) (s : Int64) : Int64 := if c_isOpen σ (nI k) = 0 then s else s + (σ (100 + i) (nx (nI k))).toInt64
def c_usedPast (σ : St) (i : Nat) : Int64 := foldN (c_usedPastF σ i) (nx (σ 40 0) - nx (c_firstOf σ 28)) (nx (c_firstOf σ 28)) 0
def c_fadeF (σ : St) (i : Nat) (k : Nat) (s : Int64) : Int64 := if c_isOpen σ (nI k) = 0 then s else (7 * s + 1000 * (σ (100 + i) (nx (nI k))).toInt64) / 8
def c_fade (σ : St) (i : Nat) : Int64 := foldN (c_fadeF σ i) (nx (σ 40 0) - nx (c_firstOf σ 28)) (nx (c_firstOf σ 28)) 0
def c_divideUp (n d : Int64) : Int64 := if 0 < lg_cmp d 0 then (n + d - 1) / d else 0
def c_forecastOf (σ : St) (i : Nat) : Int64 :=
  if c_kindOn σ (nx (σ 1 i)) (σ 40 0) = 1 then c_divideUp (c_usedPast σ i * ((c_aheadOn σ (nx (σ 1 i)) (σ 40 0)).toInt64 * (σ 31 (nx (c_month σ))).toInt64)) ((c_openDays σ 28).toInt64 * (σ 32 (nx (c_month σ))).toInt64)
  else if c_kindOn σ (nx (σ 1 i)) (σ 40 0) = 2 then c_divideUp (c_fade σ i * ((c_aheadOn σ (nx (σ 1 i)) (σ 40 0)).toInt64 * (σ 31 (nx (c_month σ))).toInt64)) (1000 * (σ 32 (nx (c_month σ))).toInt64)
  else 0
def c_maxL (x y : Int64) : Int64 := if y < x then x else y
def c_minL (x y : Int64) : Int64 := if y < x then y else x
def c_needOf (σ : St) (i : Nat) : Int64 := c_maxL (c_maxL (σ 6 i).toInt64 (c_forecastOf σ i)) (c_neededOf σ (nI i) (σ 40 0) (σ 40 0 + c_aheadOn σ (nx (σ 1 i)) (σ 40 0)))
def c_thresholdOf (σ : St) (i : Nat) : Int32 := (c_minL (c_needOf σ i) (σ 0 i).toInt64).toInt32
def c_needTimeOf (σ : St) (i : Nat) : Int32 := if lg_cmp (c_usedPast σ i) 0 = 0 then 9999 else ((σ 2 i).toInt64 * (c_openDays σ 28).toInt64 / c_usedPast σ i).toInt32
def c_inFullCases (m o s : Int32) : Int32 := if 1 < o then (if m - m / o * o = 0 then m else if s < m - (m - m / o * o) + o then m - (m - m / o * o) else m - (m - m / o * o) + o) else m
def c_maxI (x y : Int32) : Int32 := if x < y then y else x
def c_minI (x y : Int32) : Int32 := if y < x then y else x
def c_wantedBy (σ : St) (i : Nat) (th : Int32) : Int32 := if σ 2 i < th then c_inFullCases (c_maxI (σ 7 i) th - σ 2 i) (σ 30 (nx (σ 5 i))) (c_space σ i) else 0
def c_prep0 (σ : St) (i : Nat) : St := up (up σ 8 i 0) 9 i 0
def c_prep1 (σ : St) (i : Nat) : St := up (c_prep0 σ i) 9 i (c_wantedBy (c_prep0 σ i) i (c_thresholdOf (c_prep0 σ i) i))
def c_prepare (σ : St) (i : Nat) : St := if c_isFace (c_prep0 σ i) i = 0 then c_prep0 σ i else up (c_prep1 σ i) 10 i (c_needTimeOf (c_prep1 σ i) i)
def c_urgF (σ : St) (k : Nat) (r : Option Nat) : Option Nat := if σ 9 (nx (nI k)) ≤ 0 then r else match r with
  | none => some (nx (nI k))
  | some j => if σ 10 j ≤ σ 10 (nx (nI k)) then some j else some (nx (nI k))
def c_urgent (σ : St) : Option Nat := foldN (c_urgF σ) 16 0 none
def c_clear (σ : St) : St := up (up (up (up σ 42 0 0) 43 0 (-1)) 44 0 (-1)) 45 0 0
def c_joinA (σ : St) (z : Int32) : St := up (up (up σ 43 0 (σ 43 0 + 1)) 44 0 z) 45 0 0
def c_joinB (σ : St) : St := up σ 45 0 (σ 45 0 + 1)
def c_join (σ : St) (z : Int32) : St := if σ 44 0 = z then (if σ 45 0 < 3 then c_joinB σ else c_joinB (c_joinA σ z)) else c_joinB (c_joinA σ z)
def c_add (σ : St) (a b : Nat) (n : Int32) : St := if σ 42 0 < 30 then
    let σ1 := c_join σ (σ 1 a)
    let j := nx (σ1 42 0)
    let σ2 := up σ1 50 j (nI a)
    let σ3 := up σ2 51 j (nI b)
    let σ4 := up σ3 52 j n
    let σ5 := up σ4 53 j (σ4 10 b)
    let σ6 := up σ5 54 j (σ5 43 0)
    let σ7 := up σ6 55 j (if c_free σ6 a = 0 then 1 else 0)
    let σ8 := up σ7 56 j 0
    up σ8 42 0 (σ8 42 0 + 1)
  else σ
def c_planMove (σ : St) (a b : Nat) : St := let n := c_minI (c_free σ a) (σ 9 b); if n ≤ 0 then σ else if σ 42 0 < 30 then
    let σ1 := up σ 8 a (σ 8 a + n)
    let σ2 := up σ1 9 b (σ1 9 b - n)
    c_add σ2 a b n
  else σ
def c_takeF (b : Nat) (z : Int32) (k : Nat) (σ : St) : St := if (if σ 1 (nx (nI k)) = σ 1 b then (1 : Int32) else 0) = z then (if c_isReserveOf σ (nx (nI k)) (σ 5 b) = 0 then σ else c_planMove σ (nx (nI k)) b) else σ
def c_takeFrom (σ : St) (b : Nat) (z : Int32) : St := foldN (c_takeF b z) 16 0 σ
def c_serve (σ : St) (b : Nat) : St := up (c_takeFrom (c_takeFrom σ b 1) b 0) 9 b 0
def c_runF (σ : St) : St := match c_urgent σ with
  | none => σ
  | some b => c_serve σ b
def c_runS (σ : St) : St := foldN (fun _ σ => c_runF σ) 16 0 (foldN (fun k σ => c_prepare σ (nx (nI k))) 16 0 (c_clear σ))
def c_mtell (σ : St) (j : Nat) (w : Int32) : Int32 := if w = 0 then σ 50 j else if w = 1 then σ 51 j else if w = 2 then σ 52 j else if w = 3 then σ 53 j else if w = 4 then σ 54 j else if w = 5 then (if σ 55 j = 0 then 0 else 1) else (if σ 56 j = 0 then 0 else 1)
-- the face: (what is thrown, answer, state behind). 0 nothing, 1 IllegalArgument, 2 IllegalState, 3 UnsupportedOperation, 4 NoSuchElement, 5 Arithmetic
/-- the first of two refusals -/
def c_then (a b : Nat) : Nat := if a = 0 then b else a
def c_rg (x a b : Int32) : Nat := if x < a then 1 else if x ≤ b then 0 else 1
def c_placeAt (p : Int32) : Nat := c_rg p 0 15
def c_faceAt (σ : St) (p : Int32) : Nat := c_then (c_placeAt p) (if c_isFace σ (nx p) = 0 then 2 else 0)
def c_moveAt (σ : St) (i : Int32) : Nat := if i < 0 then 4 else if i < σ 42 0 then 0 else 4
def c_sp (σ : St) (i : Nat) (n : Int32) : Nat := if n ≤ c_space σ i then 0 else 3
def c_placeK (σ : St) (p r z : Int32) : Nat := c_then (c_placeAt p) (c_then (c_rg r 1 100000) (c_then (c_rg z 0 3) (if r < σ 2 (nx p) then 2 else if σ 7 (nx p) ≤ r then 0 else 2)))
def c_placeS (σ : St) (p r z : Int32) : St := up (up σ 0 (nx p) r) 1 (nx p) z
def c_faceK (σ : St) (p g a b : Int32) : Nat := c_then (c_placeAt p) (c_then (c_rg g 0 7) (c_then (c_rg b 0 (σ 0 (nx p))) (c_then (c_rg a 0 b) (if c_holdsAnother σ (nx p) g = 0 then 0 else 2))))
def c_faceS (σ : St) (p g a b : Int32) : St := up (up (up σ 5 (nx p) g) 6 (nx p) a) 7 (nx p) b
def c_putK (σ : St) (p g n : Int32) : Nat := c_then (c_placeAt p) (c_then (c_rg g 0 7) (c_then (c_rg n 1 100000) (if c_holdsAnother σ (nx p) g = 0 then (if c_isFaceOfAnother σ (nx p) g = 0 then c_sp σ (nx p) n else 2) else 2)))
def c_putS (σ : St) (p g n : Int32) : St := c_bring σ (nx p) g n
def c_useK (σ : St) (p n : Int32) : Nat := c_then (c_rg n 1 100000) (c_then (c_faceAt σ p) (if n ≤ c_notHeld σ (nx p) then 0 else 2))
def c_useS (σ : St) (p n : Int32) : St := let σ1 := c_takeAway σ (nx p) n; up σ1 (100 + nx p) (nx (σ1 40 0)) (σ1 (100 + nx p) (nx (σ1 40 0)) + n)
def c_holdK (σ : St) (p n : Int32) : Nat := c_then (c_placeAt p) (c_then (c_rg n 0 2147483647) (if n ≤ σ 2 (nx p) then 0 else 2))
def c_holdS (σ : St) (p n : Int32) : St := up σ 3 (nx p) n
def c_casesK (g n : Int32) : Nat := c_then (c_rg g 0 7) (c_rg n 1 1000)
def c_casesS (σ : St) (g n : Int32) : St := up σ 30 (nx g) n
def c_ruleK (z k a u : Int32) : Nat := c_then (c_rg z 0 3) (c_then (c_rg k 0 2) (c_then (c_rg a 1 30) (c_rg u 0 399)))
def c_ruleS (σ : St) (z k a u : Int32) : St := up (up (up σ 20 (nx z) k) 21 (nx z) a) 22 (nx z) u
def c_factorK (m u d : Int32) : Nat := c_then (c_rg m 0 11) (c_then (c_rg u 0 1000) (c_rg d 1 1000))
def c_factorS (σ : St) (m u d : Int32) : St := up (up σ 31 (nx m) u) 32 (nx m) d
def c_waveK (σ : St) (p n d : Int32) : Nat := c_then (c_rg n 1 100000) (c_then (c_rg d (σ 40 0) 399) (c_then (c_faceAt σ p) (if σ 41 0 < 30 then 0 else 3)))
def c_waveS (σ : St) (p n d : Int32) : St := c_wavesAdd σ (nI (nx p)) n d
def c_openK (σ : St) (d : Int32) : Nat := c_then (c_rg d 0 399) (if σ 40 0 ≤ d then 0 else 2)
def c_openS (σ : St) (d o : Int32) : St := up σ 33 (nx d) (if o = 0 then 1 else 0)
def c_dayK (σ : St) (d : Int32) : Nat := c_rg d (σ 40 0) 399
def c_dayS (σ : St) (d : Int32) : St := up σ 40 0 d
def c_meanK (σ : St) (p n : Int32) : Nat := c_then (c_rg n 0 60) (c_then (c_faceAt σ p) (if c_openDays σ n = 0 then 5 else 0))
def c_meanR (σ : St) (p n : Int32) : Int32 := (c_usedAll σ (nx p) n / (c_openDays σ n).toInt64).toInt32
def c_aboveR (σ : St) (p : Int32) : Int32 := if lg_cmp (c_needOf σ (nx p)) (σ 0 (nx p)).toInt64 ≤ 0 then 0 else 1
def c_runK (σ : St) : Nat := if c_isOpen σ (σ 40 0) = 0 then 2 else 0
def c_moveK (σ : St) (i w : Int32) : Nat := c_then (c_moveAt σ i) (c_rg w 0 6)
def c_doneG (σ : St) (i : Int32) : Int32 := σ 5 (nx (σ 51 (nx i)))
def c_doneK (σ : St) (i : Int32) : Nat := c_then (c_moveAt σ i) (if σ 56 (nx i) = 0 then (if σ 4 (nx (σ 50 (nx i))) = c_doneG σ i then (if σ 52 (nx i) ≤ c_notHeld σ (nx (σ 50 (nx i))) then (if c_holdsAnother σ (nx (σ 51 (nx i))) (c_doneG σ i) = 0 then c_sp σ (nx (σ 51 (nx i))) (σ 52 (nx i)) else 2) else 2) else 2) else 2)
def c_doneS (σ : St) (i : Int32) : St :=
  let a := nx (σ 50 (nx i))
  let b := nx (σ 51 (nx i))
  let σ1 := c_takeAway σ a (σ 52 (nx i))
  let σ2 := c_bring σ1 b (σ 5 b) (σ1 52 (nx i))
  up σ2 56 (nx i) 1
def c_toldK (p w : Int32) : Nat := c_then (c_placeAt p) (c_rg w 0 5)
end
section
def f_Place (ad : Nat → Nat) (σ : St) (i : Nat) : List Value := [.int (nI i), .ref (ad (16 + i)), .int (σ 0 i), .int (σ 1 i), .int (σ 2 i), .int (σ 3 i), .int (σ 4 i), .int (σ 5 i), .int (σ 6 i), .int (σ 7 i), .int (σ 8 i), .int (σ 9 i), .int (σ 10 i)]
def f_Rule (ad : Nat → Nat) (σ : St) (i : Nat) : List Value := [.int (σ 20 i), .int (σ 21 i), .int (σ 22 i)]
def f_Move (ad : Nat → Nat) (σ : St) (i : Nat) : List Value := [.int (σ 50 i), .int (σ 51 i), .int (σ 52 i), .int (σ 53 i), .int (σ 54 i), .int (σ 55 i), .int (σ 56 i)]
def f_Main (ad : Nat → Nat) (σ : St) : List Value := [.ref (ad 67), .ref (ad 68), .ref (ad 69), .ref (ad 70), .ref (ad 71), .ref (ad 72), .ref (ad 74), .ref (ad 78)]
def f_Calendar (ad : Nat → Nat) (σ : St) : List Value := [.ref (ad 73), .int (σ 40 0)]
def f_Waves (ad : Nat → Nat) (σ : St) : List Value := [.ref (ad 75), .ref (ad 76), .ref (ad 77), .int (σ 41 0)]
def f_Plan (ad : Nat → Nat) (σ : St) : List Value := [.ref (ad 79), .int (σ 42 0), .int (σ 43 0), .int (σ 44 0), .int (σ 45 0)]
def f_refs (ad : Nat → Nat) (o : Nat) : Nat → Option Nat := fun j => some (ad (o + j))
/-- the class's cells: 0 places, 16 what was used, 32 rules, 36 moves, 66 itself, 67 its arrays and parts -/
def rr_at (cA : Nat → ClassId) (ad : Nat → Nat) (σ : St) (k : Nat) : va_E :=
  if k < 16 then .inr (2, f_Place ad σ k)
  else if k < 32 then .inl (cA 0, 400, .inl (σ (100 + (k - 16))))
  else if k < 36 then .inr (4, f_Rule ad σ (k - 32))
  else if k < 66 then .inr (1, f_Move ad σ (k - 36))
  else if k = 66 then .inr (6, f_Main ad σ)
  else if k = 67 then .inl (cA 2, 16, .inr (.inr (.inr (.inr (fun j => some (ad j))))))
  else if k = 68 then .inl (cA 3, 4, .inr (.inr (.inr (.inr (f_refs ad 32)))))
  else if k = 69 then .inl (cA 0, 8, .inl (σ 30))
  else if k = 70 then .inl (cA 0, 12, .inl (σ 31))
  else if k = 71 then .inl (cA 0, 12, .inl (σ 32))
  else if k = 72 then .inr (0, f_Calendar ad σ)
  else if k = 73 then .inl (cA 1, 400, .inl (σ 33))
  else if k = 74 then .inr (5, f_Waves ad σ)
  else if k = 75 then .inl (cA 0, 30, .inl (σ 34))
  else if k = 76 then .inl (cA 0, 30, .inl (σ 35))
  else if k = 77 then .inl (cA 0, 30, .inl (σ 36))
  else if k = 78 then .inr (3, f_Plan ad σ)
  else .inl (cA 4, 30, .inr (.inr (.inr (.inr (f_refs ad 36)))))
def rrL (cA : Nat → ClassId) (ad : Nat → Nat) (σ : St) : va_W := (List.range 80).map (fun k => (ad k, rr_at cA ad σ k))
abbrev rrTy (cA : Nat → ClassId) : List (ClassId × FieldType) := [(cA 0, .int), (cA 1, .boolean), (cA 2, .object RX2), (cA 3, .object RX4), (cA 4, .object RX1)]
def rrA (ad : Nat → Nat) : Nat → Prop := fun q => ∃ k, k < 80 ∧ q = ad k
def rr_inj (ad : Nat → Nat) : Prop := ∀ i j, i < 80 → j < 80 → ad i = ad j → i = j
def rrW (G : va_G) (cA : Nat → ClassId) (ad : Nat → Nat) (σ : St) (U : State) : Prop := va_P G vwCl (rrL cA ad σ) U.heap ∧ va_K G vwCl (rrTy cA) U
theorem rr_look {cA : Nat → ClassId} {ad : Nat → Nat} {σ : St} {k : Nat} (hk : k < 80) : (rrL cA ad σ)[k]? = some (ad k, rr_at cA ad σ k) := by
  simp [rrL, List.getElem?_map, List.getElem?_range hk]
theorem rr_D {cA : Nat → ClassId} {ad : Nat → Nat} {σ : St} (hJ : rr_inj ad) : va_D (rrA ad) (rrL cA ad σ) := by
  have key : ∀ (k : Nat) (q : Nat × va_E), (rrL cA ad σ)[k]? = some q → k < 80 ∧ q.1 = ad k := by
    intro k q h
    by_cases hk : k < 80
    · rw [rr_look hk] at h
      cases h
      exact ⟨hk, rfl⟩
    · have : (rrL cA ad σ)[k]? = none := List.getElem?_eq_none (by simp [rrL]; omega)
      rw [this] at h
      cases h
  refine ⟨fun i j p q hi hj he => ?_, fun k q hk => ⟨k, (key k q hk).1, (key k q hk).2⟩⟩
  obtain ⟨h1, e1⟩ := key i p hi
  obtain ⟨h2, e2⟩ := key j q hj
  exact hJ i j h1 h2 (by rw [← e1, ← e2]; exact he)
theorem rr_set {cA : Nat → ClassId} {ad : Nat → Nat} {σ σ' : St} {k : Nat} {e : va_E} (hk : k < 80) (h1 : rr_at cA ad σ' k = e) (h2 : ∀ j, j < 80 → j ≠ k → rr_at cA ad σ' j = rr_at cA ad σ j) : (rrL cA ad σ).set k (ad k, e) = rrL cA ad σ' := by
  apply List.ext_getElem?
  intro j
  by_cases hj : j < 80
  · rw [rr_look hj]
    by_cases hkj : k = j
    · subst hkj
      rw [List.getElem?_set_self (by simp [rrL]; exact hk), h1]
    · rw [List.getElem?_set_ne hkj, rr_look hj, h2 j hj (fun h => hkj h.symm)]
  · rw [List.getElem?_eq_none (by simp [rrL]; omega), List.getElem?_eq_none (by simp [rrL]; omega)]
theorem rl_Place {cA : Nat → ClassId} {ad : Nat → Nat} {σ : St} {i : Nat} (hi : i < 16) : (rrL cA ad σ)[i]? = some (ad i, .inr (2, f_Place ad σ i)) := by
  rw [rr_look (by omega)]; simp [rr_at, hi]
theorem rl_Used {cA : Nat → ClassId} {ad : Nat → Nat} {σ : St} {i : Nat} (hi : i < 16) : (rrL cA ad σ)[16 + i]? = some (ad (16 + i), .inl (cA 0, 400, .inl (σ (100 + i)))) := by
  have e : rr_at cA ad σ (16 + i) = .inl (cA 0, 400, .inl (σ (100 + i))) := by
    unfold rr_at
    rw [if_neg (by omega)]; rw [if_pos (by omega)]; simp
  rw [rr_look (by omega), e]
theorem rl_Rule {cA : Nat → ClassId} {ad : Nat → Nat} {σ : St} {i : Nat} (hi : i < 4) : (rrL cA ad σ)[32 + i]? = some (ad (32 + i), .inr (4, f_Rule ad σ i)) := by
  have e : rr_at cA ad σ (32 + i) = .inr (4, f_Rule ad σ i) := by
    unfold rr_at
    rw [if_neg (by omega)]; rw [if_neg (by omega)]; rw [if_pos (by omega)]; simp
  rw [rr_look (by omega), e]
theorem rl_Move {cA : Nat → ClassId} {ad : Nat → Nat} {σ : St} {i : Nat} (hi : i < 30) : (rrL cA ad σ)[36 + i]? = some (ad (36 + i), .inr (1, f_Move ad σ i)) := by
  have e : rr_at cA ad σ (36 + i) = .inr (1, f_Move ad σ i) := by
    unfold rr_at
    rw [if_neg (by omega)]; rw [if_neg (by omega)]; rw [if_neg (by omega)]; rw [if_pos (by omega)]; simp
  rw [rr_look (by omega), e]
theorem rl_main {cA : Nat → ClassId} {ad : Nat → Nat} {σ : St} : (rrL cA ad σ)[66]? = some (ad 66, .inr (6, f_Main ad σ)) := rr_look (by decide)
theorem rl_placesA {cA : Nat → ClassId} {ad : Nat → Nat} {σ : St} : (rrL cA ad σ)[67]? = some (ad 67, .inl (cA 2, 16, .inr (.inr (.inr (.inr (fun j => some (ad j))))))) := rr_look (by decide)
theorem rl_rulesA {cA : Nat → ClassId} {ad : Nat → Nat} {σ : St} : (rrL cA ad σ)[68]? = some (ad 68, .inl (cA 3, 4, .inr (.inr (.inr (.inr (f_refs ad 32)))))) := rr_look (by decide)
theorem rl_casesA {cA : Nat → ClassId} {ad : Nat → Nat} {σ : St} : (rrL cA ad σ)[69]? = some (ad 69, .inl (cA 0, 8, .inl (σ 30))) := rr_look (by decide)
theorem rl_upsA {cA : Nat → ClassId} {ad : Nat → Nat} {σ : St} : (rrL cA ad σ)[70]? = some (ad 70, .inl (cA 0, 12, .inl (σ 31))) := rr_look (by decide)
theorem rl_downsA {cA : Nat → ClassId} {ad : Nat → Nat} {σ : St} : (rrL cA ad σ)[71]? = some (ad 71, .inl (cA 0, 12, .inl (σ 32))) := rr_look (by decide)
theorem rl_Calendar {cA : Nat → ClassId} {ad : Nat → Nat} {σ : St} : (rrL cA ad σ)[72]? = some (ad 72, .inr (0, f_Calendar ad σ)) := rr_look (by decide)
theorem rl_closedA {cA : Nat → ClassId} {ad : Nat → Nat} {σ : St} : (rrL cA ad σ)[73]? = some (ad 73, .inl (cA 1, 400, .inl (σ 33))) := rr_look (by decide)
theorem rl_Waves {cA : Nat → ClassId} {ad : Nat → Nat} {σ : St} : (rrL cA ad σ)[74]? = some (ad 74, .inr (5, f_Waves ad σ)) := rr_look (by decide)
theorem rl_facesA {cA : Nat → ClassId} {ad : Nat → Nat} {σ : St} : (rrL cA ad σ)[75]? = some (ad 75, .inl (cA 0, 30, .inl (σ 34))) := rr_look (by decide)
theorem rl_wpiecesA {cA : Nat → ClassId} {ad : Nat → Nat} {σ : St} : (rrL cA ad σ)[76]? = some (ad 76, .inl (cA 0, 30, .inl (σ 35))) := rr_look (by decide)
theorem rl_daysA {cA : Nat → ClassId} {ad : Nat → Nat} {σ : St} : (rrL cA ad σ)[77]? = some (ad 77, .inl (cA 0, 30, .inl (σ 36))) := rr_look (by decide)
theorem rl_Plan {cA : Nat → ClassId} {ad : Nat → Nat} {σ : St} : (rrL cA ad σ)[78]? = some (ad 78, .inr (3, f_Plan ad σ)) := rr_look (by decide)
theorem rl_movesA {cA : Nat → ClassId} {ad : Nat → Nat} {σ : St} : (rrL cA ad σ)[79]? = some (ad 79, .inl (cA 4, 30, .inr (.inr (.inr (.inr (f_refs ad 36)))))) := rr_look (by decide)
theorem rn_P {cA : Nat → ClassId} {ad : Nat → Nat} {σ : St} {f j : Nat} {v : Int32} (hf : f < 11) {k : Nat} (hk : k ≠ j) : rr_at cA ad (up σ f j v) k = rr_at cA ad σ k := by
  have r20 : up σ f j v 20 = σ 20 := up_row (by omega)
  have r21 : up σ f j v 21 = σ 21 := up_row (by omega)
  have r22 : up σ f j v 22 = σ 22 := up_row (by omega)
  have r30 : up σ f j v 30 = σ 30 := up_row (by omega)
  have r31 : up σ f j v 31 = σ 31 := up_row (by omega)
  have r32 : up σ f j v 32 = σ 32 := up_row (by omega)
  have r33 : up σ f j v 33 = σ 33 := up_row (by omega)
  have r34 : up σ f j v 34 = σ 34 := up_row (by omega)
  have r35 : up σ f j v 35 = σ 35 := up_row (by omega)
  have r36 : up σ f j v 36 = σ 36 := up_row (by omega)
  have r40 : up σ f j v 40 = σ 40 := up_row (by omega)
  have r41 : up σ f j v 41 = σ 41 := up_row (by omega)
  have r42 : up σ f j v 42 = σ 42 := up_row (by omega)
  have r43 : up σ f j v 43 = σ 43 := up_row (by omega)
  have r44 : up σ f j v 44 = σ 44 := up_row (by omega)
  have r45 : up σ f j v 45 = σ 45 := up_row (by omega)
  have r50 : up σ f j v 50 = σ 50 := up_row (by omega)
  have r51 : up σ f j v 51 = σ 51 := up_row (by omega)
  have r52 : up σ f j v 52 = σ 52 := up_row (by omega)
  have r53 : up σ f j v 53 = σ 53 := up_row (by omega)
  have r54 : up σ f j v 54 = σ 54 := up_row (by omega)
  have r55 : up σ f j v 55 = σ 55 := up_row (by omega)
  have r56 : up σ f j v 56 = σ 56 := up_row (by omega)
  have u : ∀ x : Nat, up σ f j v (100 + x) = σ (100 + x) := fun x => up_row (by omega)
  have q : ∀ r : Nat, up σ f j v r k = σ r k := fun r => up_ix hk
  simp only [rr_at, f_Place, f_Rule, f_Move, f_Main, f_Calendar, f_Waves, f_Plan, q, u, r20, r21, r22, r30, r31, r32, r33, r34, r35, r36, r40, r41, r42, r43, r44, r45, r50, r51, r52, r53, r54, r55, r56]
theorem rn_Rule {cA : Nat → ClassId} {ad : Nat → Nat} {σ : St} {f j : Nat} {v : Int32} (hf : 20 ≤ f) (hg : f < 23) {k : Nat} (hk : k ≠ 32 + j) (hj : j < 4) : rr_at cA ad (up σ f j v) k = rr_at cA ad σ k := by
  have r30 : up σ f j v 30 = σ 30 := up_row (by omega)
  have r31 : up σ f j v 31 = σ 31 := up_row (by omega)
  have r32 : up σ f j v 32 = σ 32 := up_row (by omega)
  have r33 : up σ f j v 33 = σ 33 := up_row (by omega)
  have r34 : up σ f j v 34 = σ 34 := up_row (by omega)
  have r35 : up σ f j v 35 = σ 35 := up_row (by omega)
  have r36 : up σ f j v 36 = σ 36 := up_row (by omega)
  have r40 : up σ f j v 40 = σ 40 := up_row (by omega)
  have r41 : up σ f j v 41 = σ 41 := up_row (by omega)
  have r42 : up σ f j v 42 = σ 42 := up_row (by omega)
  have r43 : up σ f j v 43 = σ 43 := up_row (by omega)
  have r44 : up σ f j v 44 = σ 44 := up_row (by omega)
  have r45 : up σ f j v 45 = σ 45 := up_row (by omega)
  have r50 : up σ f j v 50 = σ 50 := up_row (by omega)
  have r51 : up σ f j v 51 = σ 51 := up_row (by omega)
  have r52 : up σ f j v 52 = σ 52 := up_row (by omega)
  have r53 : up σ f j v 53 = σ 53 := up_row (by omega)
  have r54 : up σ f j v 54 = σ 54 := up_row (by omega)
  have r55 : up σ f j v 55 = σ 55 := up_row (by omega)
  have r56 : up σ f j v 56 = σ 56 := up_row (by omega)
  have p0 : up σ f j v 0 = σ 0 := up_row (by omega)
  have p1 : up σ f j v 1 = σ 1 := up_row (by omega)
  have p2 : up σ f j v 2 = σ 2 := up_row (by omega)
  have p3 : up σ f j v 3 = σ 3 := up_row (by omega)
  have p4 : up σ f j v 4 = σ 4 := up_row (by omega)
  have p5 : up σ f j v 5 = σ 5 := up_row (by omega)
  have p6 : up σ f j v 6 = σ 6 := up_row (by omega)
  have p7 : up σ f j v 7 = σ 7 := up_row (by omega)
  have p8 : up σ f j v 8 = σ 8 := up_row (by omega)
  have p9 : up σ f j v 9 = σ 9 := up_row (by omega)
  have p10 : up σ f j v 10 = σ 10 := up_row (by omega)
  have u : ∀ x : Nat, up σ f j v (100 + x) = σ (100 + x) := fun x => up_row (by omega)
  unfold rr_at
  by_cases h : k < 32
  · by_cases h16 : k < 16
    · simp only [if_pos h16, f_Place, f_Rule, f_Move, f_Main, f_Calendar, f_Waves, f_Plan, p0, p1, p2, p3, p4, p5, p6, p7, p8, p9, p10, r30, r31, r32, r33, r34, r35, r36, r40, r41, r42, r43, r44, r45, r50, r51, r52, r53, r54, r55, r56, u]
    by_cases h32 : k < 32
    · simp only [if_neg h16, if_pos h32, f_Place, f_Rule, f_Move, f_Main, f_Calendar, f_Waves, f_Plan, p0, p1, p2, p3, p4, p5, p6, p7, p8, p9, p10, r30, r31, r32, r33, r34, r35, r36, r40, r41, r42, r43, r44, r45, r50, r51, r52, r53, r54, r55, r56, u]
    exact absurd h (by omega)
  · have q : ∀ r : Nat, up σ f j v r (k - 32) = σ r (k - 32) := fun r => up_ix (by omega)
    simp only [f_Place, f_Rule, f_Move, f_Main, f_Calendar, f_Waves, f_Plan, q, u, p0, p1, p2, p3, p4, p5, p6, p7, p8, p9, p10, r30, r31, r32, r33, r34, r35, r36, r40, r41, r42, r43, r44, r45, r50, r51, r52, r53, r54, r55, r56]
theorem rn_Move {cA : Nat → ClassId} {ad : Nat → Nat} {σ : St} {f j : Nat} {v : Int32} (hf : 50 ≤ f) (hg : f < 57) {k : Nat} (hk : k ≠ 36 + j) (hj : j < 30) : rr_at cA ad (up σ f j v) k = rr_at cA ad σ k := by
  have r20 : up σ f j v 20 = σ 20 := up_row (by omega)
  have r21 : up σ f j v 21 = σ 21 := up_row (by omega)
  have r22 : up σ f j v 22 = σ 22 := up_row (by omega)
  have r30 : up σ f j v 30 = σ 30 := up_row (by omega)
  have r31 : up σ f j v 31 = σ 31 := up_row (by omega)
  have r32 : up σ f j v 32 = σ 32 := up_row (by omega)
  have r33 : up σ f j v 33 = σ 33 := up_row (by omega)
  have r34 : up σ f j v 34 = σ 34 := up_row (by omega)
  have r35 : up σ f j v 35 = σ 35 := up_row (by omega)
  have r36 : up σ f j v 36 = σ 36 := up_row (by omega)
  have r40 : up σ f j v 40 = σ 40 := up_row (by omega)
  have r41 : up σ f j v 41 = σ 41 := up_row (by omega)
  have r42 : up σ f j v 42 = σ 42 := up_row (by omega)
  have r43 : up σ f j v 43 = σ 43 := up_row (by omega)
  have r44 : up σ f j v 44 = σ 44 := up_row (by omega)
  have r45 : up σ f j v 45 = σ 45 := up_row (by omega)
  have p0 : up σ f j v 0 = σ 0 := up_row (by omega)
  have p1 : up σ f j v 1 = σ 1 := up_row (by omega)
  have p2 : up σ f j v 2 = σ 2 := up_row (by omega)
  have p3 : up σ f j v 3 = σ 3 := up_row (by omega)
  have p4 : up σ f j v 4 = σ 4 := up_row (by omega)
  have p5 : up σ f j v 5 = σ 5 := up_row (by omega)
  have p6 : up σ f j v 6 = σ 6 := up_row (by omega)
  have p7 : up σ f j v 7 = σ 7 := up_row (by omega)
  have p8 : up σ f j v 8 = σ 8 := up_row (by omega)
  have p9 : up σ f j v 9 = σ 9 := up_row (by omega)
  have p10 : up σ f j v 10 = σ 10 := up_row (by omega)
  have u : ∀ x : Nat, up σ f j v (100 + x) = σ (100 + x) := fun x => up_row (by omega)
  unfold rr_at
  by_cases h : k < 36
  · by_cases h16 : k < 16
    · simp only [if_pos h16, f_Place, f_Rule, f_Move, f_Main, f_Calendar, f_Waves, f_Plan, p0, p1, p2, p3, p4, p5, p6, p7, p8, p9, p10, r20, r21, r22, r30, r31, r32, r33, r34, r35, r36, r40, r41, r42, r43, r44, r45, u]
    by_cases h32 : k < 32
    · simp only [if_neg h16, if_pos h32, f_Place, f_Rule, f_Move, f_Main, f_Calendar, f_Waves, f_Plan, p0, p1, p2, p3, p4, p5, p6, p7, p8, p9, p10, r20, r21, r22, r30, r31, r32, r33, r34, r35, r36, r40, r41, r42, r43, r44, r45, u]
    by_cases h36 : k < 36
    · simp only [if_neg h16, if_neg h32, if_pos h36, f_Place, f_Rule, f_Move, f_Main, f_Calendar, f_Waves, f_Plan, p0, p1, p2, p3, p4, p5, p6, p7, p8, p9, p10, r20, r21, r22, r30, r31, r32, r33, r34, r35, r36, r40, r41, r42, r43, r44, r45, u]
    exact absurd h (by omega)
  · have q : ∀ r : Nat, up σ f j v r (k - 36) = σ r (k - 36) := fun r => up_ix (by omega)
    simp only [f_Place, f_Rule, f_Move, f_Main, f_Calendar, f_Waves, f_Plan, q, u, p0, p1, p2, p3, p4, p5, p6, p7, p8, p9, p10, r20, r21, r22, r30, r31, r32, r33, r34, r35, r36, r40, r41, r42, r43, r44, r45]
theorem rn_30 {cA : Nat → ClassId} {ad : Nat → Nat} {σ : St} {j : Nat} {v : Int32} {k : Nat} (hk : k ≠ 69) : rr_at cA ad (up σ 30 j v) k = rr_at cA ad σ k := by
  have r20 : up σ 30 j v 20 = σ 20 := up_row (by omega)
  have r21 : up σ 30 j v 21 = σ 21 := up_row (by omega)
  have r22 : up σ 30 j v 22 = σ 22 := up_row (by omega)
  have r31 : up σ 30 j v 31 = σ 31 := up_row (by omega)
  have r32 : up σ 30 j v 32 = σ 32 := up_row (by omega)
  have r33 : up σ 30 j v 33 = σ 33 := up_row (by omega)
  have r34 : up σ 30 j v 34 = σ 34 := up_row (by omega)
  have r35 : up σ 30 j v 35 = σ 35 := up_row (by omega)
  have r36 : up σ 30 j v 36 = σ 36 := up_row (by omega)
  have r40 : up σ 30 j v 40 = σ 40 := up_row (by omega)
  have r41 : up σ 30 j v 41 = σ 41 := up_row (by omega)
  have r42 : up σ 30 j v 42 = σ 42 := up_row (by omega)
  have r43 : up σ 30 j v 43 = σ 43 := up_row (by omega)
  have r44 : up σ 30 j v 44 = σ 44 := up_row (by omega)
  have r45 : up σ 30 j v 45 = σ 45 := up_row (by omega)
  have r50 : up σ 30 j v 50 = σ 50 := up_row (by omega)
  have r51 : up σ 30 j v 51 = σ 51 := up_row (by omega)
  have r52 : up σ 30 j v 52 = σ 52 := up_row (by omega)
  have r53 : up σ 30 j v 53 = σ 53 := up_row (by omega)
  have r54 : up σ 30 j v 54 = σ 54 := up_row (by omega)
  have r55 : up σ 30 j v 55 = σ 55 := up_row (by omega)
  have r56 : up σ 30 j v 56 = σ 56 := up_row (by omega)
  have p0 : up σ 30 j v 0 = σ 0 := up_row (by omega)
  have p1 : up σ 30 j v 1 = σ 1 := up_row (by omega)
  have p2 : up σ 30 j v 2 = σ 2 := up_row (by omega)
  have p3 : up σ 30 j v 3 = σ 3 := up_row (by omega)
  have p4 : up σ 30 j v 4 = σ 4 := up_row (by omega)
  have p5 : up σ 30 j v 5 = σ 5 := up_row (by omega)
  have p6 : up σ 30 j v 6 = σ 6 := up_row (by omega)
  have p7 : up σ 30 j v 7 = σ 7 := up_row (by omega)
  have p8 : up σ 30 j v 8 = σ 8 := up_row (by omega)
  have p9 : up σ 30 j v 9 = σ 9 := up_row (by omega)
  have p10 : up σ 30 j v 10 = σ 10 := up_row (by omega)
  have u : ∀ x : Nat, up σ 30 j v (100 + x) = σ (100 + x) := fun x => up_row (by omega)
  simp only [rr_at, if_neg hk, f_Place, f_Rule, f_Move, f_Main, f_Calendar, f_Waves, f_Plan, u, p0, p1, p2, p3, p4, p5, p6, p7, p8, p9, p10, r20, r21, r22, r31, r32, r33, r34, r35, r36, r40, r41, r42, r43, r44, r45, r50, r51, r52, r53, r54, r55, r56]
theorem rn_31 {cA : Nat → ClassId} {ad : Nat → Nat} {σ : St} {j : Nat} {v : Int32} {k : Nat} (hk : k ≠ 70) : rr_at cA ad (up σ 31 j v) k = rr_at cA ad σ k := by
  have r20 : up σ 31 j v 20 = σ 20 := up_row (by omega)
  have r21 : up σ 31 j v 21 = σ 21 := up_row (by omega)
  have r22 : up σ 31 j v 22 = σ 22 := up_row (by omega)
  have r30 : up σ 31 j v 30 = σ 30 := up_row (by omega)
  have r32 : up σ 31 j v 32 = σ 32 := up_row (by omega)
  have r33 : up σ 31 j v 33 = σ 33 := up_row (by omega)
  have r34 : up σ 31 j v 34 = σ 34 := up_row (by omega)
  have r35 : up σ 31 j v 35 = σ 35 := up_row (by omega)
  have r36 : up σ 31 j v 36 = σ 36 := up_row (by omega)
  have r40 : up σ 31 j v 40 = σ 40 := up_row (by omega)
  have r41 : up σ 31 j v 41 = σ 41 := up_row (by omega)
  have r42 : up σ 31 j v 42 = σ 42 := up_row (by omega)
  have r43 : up σ 31 j v 43 = σ 43 := up_row (by omega)
  have r44 : up σ 31 j v 44 = σ 44 := up_row (by omega)
  have r45 : up σ 31 j v 45 = σ 45 := up_row (by omega)
  have r50 : up σ 31 j v 50 = σ 50 := up_row (by omega)
  have r51 : up σ 31 j v 51 = σ 51 := up_row (by omega)
  have r52 : up σ 31 j v 52 = σ 52 := up_row (by omega)
  have r53 : up σ 31 j v 53 = σ 53 := up_row (by omega)
  have r54 : up σ 31 j v 54 = σ 54 := up_row (by omega)
  have r55 : up σ 31 j v 55 = σ 55 := up_row (by omega)
  have r56 : up σ 31 j v 56 = σ 56 := up_row (by omega)
  have p0 : up σ 31 j v 0 = σ 0 := up_row (by omega)
  have p1 : up σ 31 j v 1 = σ 1 := up_row (by omega)
  have p2 : up σ 31 j v 2 = σ 2 := up_row (by omega)
  have p3 : up σ 31 j v 3 = σ 3 := up_row (by omega)
  have p4 : up σ 31 j v 4 = σ 4 := up_row (by omega)
  have p5 : up σ 31 j v 5 = σ 5 := up_row (by omega)
  have p6 : up σ 31 j v 6 = σ 6 := up_row (by omega)
  have p7 : up σ 31 j v 7 = σ 7 := up_row (by omega)
  have p8 : up σ 31 j v 8 = σ 8 := up_row (by omega)
  have p9 : up σ 31 j v 9 = σ 9 := up_row (by omega)
  have p10 : up σ 31 j v 10 = σ 10 := up_row (by omega)
  have u : ∀ x : Nat, up σ 31 j v (100 + x) = σ (100 + x) := fun x => up_row (by omega)
  simp only [rr_at, if_neg hk, f_Place, f_Rule, f_Move, f_Main, f_Calendar, f_Waves, f_Plan, u, p0, p1, p2, p3, p4, p5, p6, p7, p8, p9, p10, r20, r21, r22, r30, r32, r33, r34, r35, r36, r40, r41, r42, r43, r44, r45, r50, r51, r52, r53, r54, r55, r56]
theorem rn_32 {cA : Nat → ClassId} {ad : Nat → Nat} {σ : St} {j : Nat} {v : Int32} {k : Nat} (hk : k ≠ 71) : rr_at cA ad (up σ 32 j v) k = rr_at cA ad σ k := by
  have r20 : up σ 32 j v 20 = σ 20 := up_row (by omega)
  have r21 : up σ 32 j v 21 = σ 21 := up_row (by omega)
  have r22 : up σ 32 j v 22 = σ 22 := up_row (by omega)
  have r30 : up σ 32 j v 30 = σ 30 := up_row (by omega)
  have r31 : up σ 32 j v 31 = σ 31 := up_row (by omega)
  have r33 : up σ 32 j v 33 = σ 33 := up_row (by omega)
  have r34 : up σ 32 j v 34 = σ 34 := up_row (by omega)
  have r35 : up σ 32 j v 35 = σ 35 := up_row (by omega)
  have r36 : up σ 32 j v 36 = σ 36 := up_row (by omega)
  have r40 : up σ 32 j v 40 = σ 40 := up_row (by omega)
  have r41 : up σ 32 j v 41 = σ 41 := up_row (by omega)
  have r42 : up σ 32 j v 42 = σ 42 := up_row (by omega)
  have r43 : up σ 32 j v 43 = σ 43 := up_row (by omega)
  have r44 : up σ 32 j v 44 = σ 44 := up_row (by omega)
  have r45 : up σ 32 j v 45 = σ 45 := up_row (by omega)
  have r50 : up σ 32 j v 50 = σ 50 := up_row (by omega)
  have r51 : up σ 32 j v 51 = σ 51 := up_row (by omega)
  have r52 : up σ 32 j v 52 = σ 52 := up_row (by omega)
  have r53 : up σ 32 j v 53 = σ 53 := up_row (by omega)
  have r54 : up σ 32 j v 54 = σ 54 := up_row (by omega)
  have r55 : up σ 32 j v 55 = σ 55 := up_row (by omega)
  have r56 : up σ 32 j v 56 = σ 56 := up_row (by omega)
  have p0 : up σ 32 j v 0 = σ 0 := up_row (by omega)
  have p1 : up σ 32 j v 1 = σ 1 := up_row (by omega)
  have p2 : up σ 32 j v 2 = σ 2 := up_row (by omega)
  have p3 : up σ 32 j v 3 = σ 3 := up_row (by omega)
  have p4 : up σ 32 j v 4 = σ 4 := up_row (by omega)
  have p5 : up σ 32 j v 5 = σ 5 := up_row (by omega)
  have p6 : up σ 32 j v 6 = σ 6 := up_row (by omega)
  have p7 : up σ 32 j v 7 = σ 7 := up_row (by omega)
  have p8 : up σ 32 j v 8 = σ 8 := up_row (by omega)
  have p9 : up σ 32 j v 9 = σ 9 := up_row (by omega)
  have p10 : up σ 32 j v 10 = σ 10 := up_row (by omega)
  have u : ∀ x : Nat, up σ 32 j v (100 + x) = σ (100 + x) := fun x => up_row (by omega)
  simp only [rr_at, if_neg hk, f_Place, f_Rule, f_Move, f_Main, f_Calendar, f_Waves, f_Plan, u, p0, p1, p2, p3, p4, p5, p6, p7, p8, p9, p10, r20, r21, r22, r30, r31, r33, r34, r35, r36, r40, r41, r42, r43, r44, r45, r50, r51, r52, r53, r54, r55, r56]
theorem rn_33 {cA : Nat → ClassId} {ad : Nat → Nat} {σ : St} {j : Nat} {v : Int32} {k : Nat} (hk : k ≠ 73) : rr_at cA ad (up σ 33 j v) k = rr_at cA ad σ k := by
  have r20 : up σ 33 j v 20 = σ 20 := up_row (by omega)
  have r21 : up σ 33 j v 21 = σ 21 := up_row (by omega)
  have r22 : up σ 33 j v 22 = σ 22 := up_row (by omega)
  have r30 : up σ 33 j v 30 = σ 30 := up_row (by omega)
  have r31 : up σ 33 j v 31 = σ 31 := up_row (by omega)
  have r32 : up σ 33 j v 32 = σ 32 := up_row (by omega)
  have r34 : up σ 33 j v 34 = σ 34 := up_row (by omega)
  have r35 : up σ 33 j v 35 = σ 35 := up_row (by omega)
  have r36 : up σ 33 j v 36 = σ 36 := up_row (by omega)
  have r40 : up σ 33 j v 40 = σ 40 := up_row (by omega)
  have r41 : up σ 33 j v 41 = σ 41 := up_row (by omega)
  have r42 : up σ 33 j v 42 = σ 42 := up_row (by omega)
  have r43 : up σ 33 j v 43 = σ 43 := up_row (by omega)
  have r44 : up σ 33 j v 44 = σ 44 := up_row (by omega)
  have r45 : up σ 33 j v 45 = σ 45 := up_row (by omega)
  have r50 : up σ 33 j v 50 = σ 50 := up_row (by omega)
  have r51 : up σ 33 j v 51 = σ 51 := up_row (by omega)
  have r52 : up σ 33 j v 52 = σ 52 := up_row (by omega)
  have r53 : up σ 33 j v 53 = σ 53 := up_row (by omega)
  have r54 : up σ 33 j v 54 = σ 54 := up_row (by omega)
  have r55 : up σ 33 j v 55 = σ 55 := up_row (by omega)
  have r56 : up σ 33 j v 56 = σ 56 := up_row (by omega)
  have p0 : up σ 33 j v 0 = σ 0 := up_row (by omega)
  have p1 : up σ 33 j v 1 = σ 1 := up_row (by omega)
  have p2 : up σ 33 j v 2 = σ 2 := up_row (by omega)
  have p3 : up σ 33 j v 3 = σ 3 := up_row (by omega)
  have p4 : up σ 33 j v 4 = σ 4 := up_row (by omega)
  have p5 : up σ 33 j v 5 = σ 5 := up_row (by omega)
  have p6 : up σ 33 j v 6 = σ 6 := up_row (by omega)
  have p7 : up σ 33 j v 7 = σ 7 := up_row (by omega)
  have p8 : up σ 33 j v 8 = σ 8 := up_row (by omega)
  have p9 : up σ 33 j v 9 = σ 9 := up_row (by omega)
  have p10 : up σ 33 j v 10 = σ 10 := up_row (by omega)
  have u : ∀ x : Nat, up σ 33 j v (100 + x) = σ (100 + x) := fun x => up_row (by omega)
  simp only [rr_at, if_neg hk, f_Place, f_Rule, f_Move, f_Main, f_Calendar, f_Waves, f_Plan, u, p0, p1, p2, p3, p4, p5, p6, p7, p8, p9, p10, r20, r21, r22, r30, r31, r32, r34, r35, r36, r40, r41, r42, r43, r44, r45, r50, r51, r52, r53, r54, r55, r56]
theorem rn_34 {cA : Nat → ClassId} {ad : Nat → Nat} {σ : St} {j : Nat} {v : Int32} {k : Nat} (hk : k ≠ 75) : rr_at cA ad (up σ 34 j v) k = rr_at cA ad σ k := by
  have r20 : up σ 34 j v 20 = σ 20 := up_row (by omega)
  have r21 : up σ 34 j v 21 = σ 21 := up_row (by omega)
  have r22 : up σ 34 j v 22 = σ 22 := up_row (by omega)
  have r30 : up σ 34 j v 30 = σ 30 := up_row (by omega)
  have r31 : up σ 34 j v 31 = σ 31 := up_row (by omega)
  have r32 : up σ 34 j v 32 = σ 32 := up_row (by omega)
  have r33 : up σ 34 j v 33 = σ 33 := up_row (by omega)
  have r35 : up σ 34 j v 35 = σ 35 := up_row (by omega)
  have r36 : up σ 34 j v 36 = σ 36 := up_row (by omega)
  have r40 : up σ 34 j v 40 = σ 40 := up_row (by omega)
  have r41 : up σ 34 j v 41 = σ 41 := up_row (by omega)
  have r42 : up σ 34 j v 42 = σ 42 := up_row (by omega)
  have r43 : up σ 34 j v 43 = σ 43 := up_row (by omega)
  have r44 : up σ 34 j v 44 = σ 44 := up_row (by omega)
  have r45 : up σ 34 j v 45 = σ 45 := up_row (by omega)
  have r50 : up σ 34 j v 50 = σ 50 := up_row (by omega)
  have r51 : up σ 34 j v 51 = σ 51 := up_row (by omega)
  have r52 : up σ 34 j v 52 = σ 52 := up_row (by omega)
  have r53 : up σ 34 j v 53 = σ 53 := up_row (by omega)
  have r54 : up σ 34 j v 54 = σ 54 := up_row (by omega)
  have r55 : up σ 34 j v 55 = σ 55 := up_row (by omega)
  have r56 : up σ 34 j v 56 = σ 56 := up_row (by omega)
  have p0 : up σ 34 j v 0 = σ 0 := up_row (by omega)
  have p1 : up σ 34 j v 1 = σ 1 := up_row (by omega)
  have p2 : up σ 34 j v 2 = σ 2 := up_row (by omega)
  have p3 : up σ 34 j v 3 = σ 3 := up_row (by omega)
  have p4 : up σ 34 j v 4 = σ 4 := up_row (by omega)
  have p5 : up σ 34 j v 5 = σ 5 := up_row (by omega)
  have p6 : up σ 34 j v 6 = σ 6 := up_row (by omega)
  have p7 : up σ 34 j v 7 = σ 7 := up_row (by omega)
  have p8 : up σ 34 j v 8 = σ 8 := up_row (by omega)
  have p9 : up σ 34 j v 9 = σ 9 := up_row (by omega)
  have p10 : up σ 34 j v 10 = σ 10 := up_row (by omega)
  have u : ∀ x : Nat, up σ 34 j v (100 + x) = σ (100 + x) := fun x => up_row (by omega)
  simp only [rr_at, if_neg hk, f_Place, f_Rule, f_Move, f_Main, f_Calendar, f_Waves, f_Plan, u, p0, p1, p2, p3, p4, p5, p6, p7, p8, p9, p10, r20, r21, r22, r30, r31, r32, r33, r35, r36, r40, r41, r42, r43, r44, r45, r50, r51, r52, r53, r54, r55, r56]
theorem rn_35 {cA : Nat → ClassId} {ad : Nat → Nat} {σ : St} {j : Nat} {v : Int32} {k : Nat} (hk : k ≠ 76) : rr_at cA ad (up σ 35 j v) k = rr_at cA ad σ k := by
  have r20 : up σ 35 j v 20 = σ 20 := up_row (by omega)
  have r21 : up σ 35 j v 21 = σ 21 := up_row (by omega)
  have r22 : up σ 35 j v 22 = σ 22 := up_row (by omega)
  have r30 : up σ 35 j v 30 = σ 30 := up_row (by omega)
  have r31 : up σ 35 j v 31 = σ 31 := up_row (by omega)
  have r32 : up σ 35 j v 32 = σ 32 := up_row (by omega)
  have r33 : up σ 35 j v 33 = σ 33 := up_row (by omega)
  have r34 : up σ 35 j v 34 = σ 34 := up_row (by omega)
  have r36 : up σ 35 j v 36 = σ 36 := up_row (by omega)
  have r40 : up σ 35 j v 40 = σ 40 := up_row (by omega)
  have r41 : up σ 35 j v 41 = σ 41 := up_row (by omega)
  have r42 : up σ 35 j v 42 = σ 42 := up_row (by omega)
  have r43 : up σ 35 j v 43 = σ 43 := up_row (by omega)
  have r44 : up σ 35 j v 44 = σ 44 := up_row (by omega)
  have r45 : up σ 35 j v 45 = σ 45 := up_row (by omega)
  have r50 : up σ 35 j v 50 = σ 50 := up_row (by omega)
  have r51 : up σ 35 j v 51 = σ 51 := up_row (by omega)
  have r52 : up σ 35 j v 52 = σ 52 := up_row (by omega)
  have r53 : up σ 35 j v 53 = σ 53 := up_row (by omega)
  have r54 : up σ 35 j v 54 = σ 54 := up_row (by omega)
  have r55 : up σ 35 j v 55 = σ 55 := up_row (by omega)
  have r56 : up σ 35 j v 56 = σ 56 := up_row (by omega)
  have p0 : up σ 35 j v 0 = σ 0 := up_row (by omega)
  have p1 : up σ 35 j v 1 = σ 1 := up_row (by omega)
  have p2 : up σ 35 j v 2 = σ 2 := up_row (by omega)
  have p3 : up σ 35 j v 3 = σ 3 := up_row (by omega)
  have p4 : up σ 35 j v 4 = σ 4 := up_row (by omega)
  have p5 : up σ 35 j v 5 = σ 5 := up_row (by omega)
  have p6 : up σ 35 j v 6 = σ 6 := up_row (by omega)
  have p7 : up σ 35 j v 7 = σ 7 := up_row (by omega)
  have p8 : up σ 35 j v 8 = σ 8 := up_row (by omega)
  have p9 : up σ 35 j v 9 = σ 9 := up_row (by omega)
  have p10 : up σ 35 j v 10 = σ 10 := up_row (by omega)
  have u : ∀ x : Nat, up σ 35 j v (100 + x) = σ (100 + x) := fun x => up_row (by omega)
  simp only [rr_at, if_neg hk, f_Place, f_Rule, f_Move, f_Main, f_Calendar, f_Waves, f_Plan, u, p0, p1, p2, p3, p4, p5, p6, p7, p8, p9, p10, r20, r21, r22, r30, r31, r32, r33, r34, r36, r40, r41, r42, r43, r44, r45, r50, r51, r52, r53, r54, r55, r56]
theorem rn_36 {cA : Nat → ClassId} {ad : Nat → Nat} {σ : St} {j : Nat} {v : Int32} {k : Nat} (hk : k ≠ 77) : rr_at cA ad (up σ 36 j v) k = rr_at cA ad σ k := by
  have r20 : up σ 36 j v 20 = σ 20 := up_row (by omega)
  have r21 : up σ 36 j v 21 = σ 21 := up_row (by omega)
  have r22 : up σ 36 j v 22 = σ 22 := up_row (by omega)
  have r30 : up σ 36 j v 30 = σ 30 := up_row (by omega)
  have r31 : up σ 36 j v 31 = σ 31 := up_row (by omega)
  have r32 : up σ 36 j v 32 = σ 32 := up_row (by omega)
  have r33 : up σ 36 j v 33 = σ 33 := up_row (by omega)
  have r34 : up σ 36 j v 34 = σ 34 := up_row (by omega)
  have r35 : up σ 36 j v 35 = σ 35 := up_row (by omega)
  have r40 : up σ 36 j v 40 = σ 40 := up_row (by omega)
  have r41 : up σ 36 j v 41 = σ 41 := up_row (by omega)
  have r42 : up σ 36 j v 42 = σ 42 := up_row (by omega)
  have r43 : up σ 36 j v 43 = σ 43 := up_row (by omega)
  have r44 : up σ 36 j v 44 = σ 44 := up_row (by omega)
  have r45 : up σ 36 j v 45 = σ 45 := up_row (by omega)
  have r50 : up σ 36 j v 50 = σ 50 := up_row (by omega)
  have r51 : up σ 36 j v 51 = σ 51 := up_row (by omega)
  have r52 : up σ 36 j v 52 = σ 52 := up_row (by omega)
  have r53 : up σ 36 j v 53 = σ 53 := up_row (by omega)
  have r54 : up σ 36 j v 54 = σ 54 := up_row (by omega)
  have r55 : up σ 36 j v 55 = σ 55 := up_row (by omega)
  have r56 : up σ 36 j v 56 = σ 56 := up_row (by omega)
  have p0 : up σ 36 j v 0 = σ 0 := up_row (by omega)
  have p1 : up σ 36 j v 1 = σ 1 := up_row (by omega)
  have p2 : up σ 36 j v 2 = σ 2 := up_row (by omega)
  have p3 : up σ 36 j v 3 = σ 3 := up_row (by omega)
  have p4 : up σ 36 j v 4 = σ 4 := up_row (by omega)
  have p5 : up σ 36 j v 5 = σ 5 := up_row (by omega)
  have p6 : up σ 36 j v 6 = σ 6 := up_row (by omega)
  have p7 : up σ 36 j v 7 = σ 7 := up_row (by omega)
  have p8 : up σ 36 j v 8 = σ 8 := up_row (by omega)
  have p9 : up σ 36 j v 9 = σ 9 := up_row (by omega)
  have p10 : up σ 36 j v 10 = σ 10 := up_row (by omega)
  have u : ∀ x : Nat, up σ 36 j v (100 + x) = σ (100 + x) := fun x => up_row (by omega)
  simp only [rr_at, if_neg hk, f_Place, f_Rule, f_Move, f_Main, f_Calendar, f_Waves, f_Plan, u, p0, p1, p2, p3, p4, p5, p6, p7, p8, p9, p10, r20, r21, r22, r30, r31, r32, r33, r34, r35, r40, r41, r42, r43, r44, r45, r50, r51, r52, r53, r54, r55, r56]
theorem rn_40 {cA : Nat → ClassId} {ad : Nat → Nat} {σ : St} {j : Nat} {v : Int32} {k : Nat} (hk : k ≠ 72) : rr_at cA ad (up σ 40 j v) k = rr_at cA ad σ k := by
  have r20 : up σ 40 j v 20 = σ 20 := up_row (by omega)
  have r21 : up σ 40 j v 21 = σ 21 := up_row (by omega)
  have r22 : up σ 40 j v 22 = σ 22 := up_row (by omega)
  have r30 : up σ 40 j v 30 = σ 30 := up_row (by omega)
  have r31 : up σ 40 j v 31 = σ 31 := up_row (by omega)
  have r32 : up σ 40 j v 32 = σ 32 := up_row (by omega)
  have r33 : up σ 40 j v 33 = σ 33 := up_row (by omega)
  have r34 : up σ 40 j v 34 = σ 34 := up_row (by omega)
  have r35 : up σ 40 j v 35 = σ 35 := up_row (by omega)
  have r36 : up σ 40 j v 36 = σ 36 := up_row (by omega)
  have r41 : up σ 40 j v 41 = σ 41 := up_row (by omega)
  have r42 : up σ 40 j v 42 = σ 42 := up_row (by omega)
  have r43 : up σ 40 j v 43 = σ 43 := up_row (by omega)
  have r44 : up σ 40 j v 44 = σ 44 := up_row (by omega)
  have r45 : up σ 40 j v 45 = σ 45 := up_row (by omega)
  have r50 : up σ 40 j v 50 = σ 50 := up_row (by omega)
  have r51 : up σ 40 j v 51 = σ 51 := up_row (by omega)
  have r52 : up σ 40 j v 52 = σ 52 := up_row (by omega)
  have r53 : up σ 40 j v 53 = σ 53 := up_row (by omega)
  have r54 : up σ 40 j v 54 = σ 54 := up_row (by omega)
  have r55 : up σ 40 j v 55 = σ 55 := up_row (by omega)
  have r56 : up σ 40 j v 56 = σ 56 := up_row (by omega)
  have p0 : up σ 40 j v 0 = σ 0 := up_row (by omega)
  have p1 : up σ 40 j v 1 = σ 1 := up_row (by omega)
  have p2 : up σ 40 j v 2 = σ 2 := up_row (by omega)
  have p3 : up σ 40 j v 3 = σ 3 := up_row (by omega)
  have p4 : up σ 40 j v 4 = σ 4 := up_row (by omega)
  have p5 : up σ 40 j v 5 = σ 5 := up_row (by omega)
  have p6 : up σ 40 j v 6 = σ 6 := up_row (by omega)
  have p7 : up σ 40 j v 7 = σ 7 := up_row (by omega)
  have p8 : up σ 40 j v 8 = σ 8 := up_row (by omega)
  have p9 : up σ 40 j v 9 = σ 9 := up_row (by omega)
  have p10 : up σ 40 j v 10 = σ 10 := up_row (by omega)
  have u : ∀ x : Nat, up σ 40 j v (100 + x) = σ (100 + x) := fun x => up_row (by omega)
  simp only [rr_at, if_neg hk, f_Place, f_Rule, f_Move, f_Main, f_Calendar, f_Waves, f_Plan, u, p0, p1, p2, p3, p4, p5, p6, p7, p8, p9, p10, r20, r21, r22, r30, r31, r32, r33, r34, r35, r36, r41, r42, r43, r44, r45, r50, r51, r52, r53, r54, r55, r56]
theorem rn_41 {cA : Nat → ClassId} {ad : Nat → Nat} {σ : St} {j : Nat} {v : Int32} {k : Nat} (hk : k ≠ 74) : rr_at cA ad (up σ 41 j v) k = rr_at cA ad σ k := by
  have r20 : up σ 41 j v 20 = σ 20 := up_row (by omega)
  have r21 : up σ 41 j v 21 = σ 21 := up_row (by omega)
  have r22 : up σ 41 j v 22 = σ 22 := up_row (by omega)
  have r30 : up σ 41 j v 30 = σ 30 := up_row (by omega)
  have r31 : up σ 41 j v 31 = σ 31 := up_row (by omega)
  have r32 : up σ 41 j v 32 = σ 32 := up_row (by omega)
  have r33 : up σ 41 j v 33 = σ 33 := up_row (by omega)
  have r34 : up σ 41 j v 34 = σ 34 := up_row (by omega)
  have r35 : up σ 41 j v 35 = σ 35 := up_row (by omega)
  have r36 : up σ 41 j v 36 = σ 36 := up_row (by omega)
  have r40 : up σ 41 j v 40 = σ 40 := up_row (by omega)
  have r42 : up σ 41 j v 42 = σ 42 := up_row (by omega)
  have r43 : up σ 41 j v 43 = σ 43 := up_row (by omega)
  have r44 : up σ 41 j v 44 = σ 44 := up_row (by omega)
  have r45 : up σ 41 j v 45 = σ 45 := up_row (by omega)
  have r50 : up σ 41 j v 50 = σ 50 := up_row (by omega)
  have r51 : up σ 41 j v 51 = σ 51 := up_row (by omega)
  have r52 : up σ 41 j v 52 = σ 52 := up_row (by omega)
  have r53 : up σ 41 j v 53 = σ 53 := up_row (by omega)
  have r54 : up σ 41 j v 54 = σ 54 := up_row (by omega)
  have r55 : up σ 41 j v 55 = σ 55 := up_row (by omega)
  have r56 : up σ 41 j v 56 = σ 56 := up_row (by omega)
  have p0 : up σ 41 j v 0 = σ 0 := up_row (by omega)
  have p1 : up σ 41 j v 1 = σ 1 := up_row (by omega)
  have p2 : up σ 41 j v 2 = σ 2 := up_row (by omega)
  have p3 : up σ 41 j v 3 = σ 3 := up_row (by omega)
  have p4 : up σ 41 j v 4 = σ 4 := up_row (by omega)
  have p5 : up σ 41 j v 5 = σ 5 := up_row (by omega)
  have p6 : up σ 41 j v 6 = σ 6 := up_row (by omega)
  have p7 : up σ 41 j v 7 = σ 7 := up_row (by omega)
  have p8 : up σ 41 j v 8 = σ 8 := up_row (by omega)
  have p9 : up σ 41 j v 9 = σ 9 := up_row (by omega)
  have p10 : up σ 41 j v 10 = σ 10 := up_row (by omega)
  have u : ∀ x : Nat, up σ 41 j v (100 + x) = σ (100 + x) := fun x => up_row (by omega)
  simp only [rr_at, if_neg hk, f_Place, f_Rule, f_Move, f_Main, f_Calendar, f_Waves, f_Plan, u, p0, p1, p2, p3, p4, p5, p6, p7, p8, p9, p10, r20, r21, r22, r30, r31, r32, r33, r34, r35, r36, r40, r42, r43, r44, r45, r50, r51, r52, r53, r54, r55, r56]
theorem rn_42 {cA : Nat → ClassId} {ad : Nat → Nat} {σ : St} {j : Nat} {v : Int32} {k : Nat} (hk : k ≠ 78) : rr_at cA ad (up σ 42 j v) k = rr_at cA ad σ k := by
  have r20 : up σ 42 j v 20 = σ 20 := up_row (by omega)
  have r21 : up σ 42 j v 21 = σ 21 := up_row (by omega)
  have r22 : up σ 42 j v 22 = σ 22 := up_row (by omega)
  have r30 : up σ 42 j v 30 = σ 30 := up_row (by omega)
  have r31 : up σ 42 j v 31 = σ 31 := up_row (by omega)
  have r32 : up σ 42 j v 32 = σ 32 := up_row (by omega)
  have r33 : up σ 42 j v 33 = σ 33 := up_row (by omega)
  have r34 : up σ 42 j v 34 = σ 34 := up_row (by omega)
  have r35 : up σ 42 j v 35 = σ 35 := up_row (by omega)
  have r36 : up σ 42 j v 36 = σ 36 := up_row (by omega)
  have r40 : up σ 42 j v 40 = σ 40 := up_row (by omega)
  have r41 : up σ 42 j v 41 = σ 41 := up_row (by omega)
  have r43 : up σ 42 j v 43 = σ 43 := up_row (by omega)
  have r44 : up σ 42 j v 44 = σ 44 := up_row (by omega)
  have r45 : up σ 42 j v 45 = σ 45 := up_row (by omega)
  have r50 : up σ 42 j v 50 = σ 50 := up_row (by omega)
  have r51 : up σ 42 j v 51 = σ 51 := up_row (by omega)
  have r52 : up σ 42 j v 52 = σ 52 := up_row (by omega)
  have r53 : up σ 42 j v 53 = σ 53 := up_row (by omega)
  have r54 : up σ 42 j v 54 = σ 54 := up_row (by omega)
  have r55 : up σ 42 j v 55 = σ 55 := up_row (by omega)
  have r56 : up σ 42 j v 56 = σ 56 := up_row (by omega)
  have p0 : up σ 42 j v 0 = σ 0 := up_row (by omega)
  have p1 : up σ 42 j v 1 = σ 1 := up_row (by omega)
  have p2 : up σ 42 j v 2 = σ 2 := up_row (by omega)
  have p3 : up σ 42 j v 3 = σ 3 := up_row (by omega)
  have p4 : up σ 42 j v 4 = σ 4 := up_row (by omega)
  have p5 : up σ 42 j v 5 = σ 5 := up_row (by omega)
  have p6 : up σ 42 j v 6 = σ 6 := up_row (by omega)
  have p7 : up σ 42 j v 7 = σ 7 := up_row (by omega)
  have p8 : up σ 42 j v 8 = σ 8 := up_row (by omega)
  have p9 : up σ 42 j v 9 = σ 9 := up_row (by omega)
  have p10 : up σ 42 j v 10 = σ 10 := up_row (by omega)
  have u : ∀ x : Nat, up σ 42 j v (100 + x) = σ (100 + x) := fun x => up_row (by omega)
  simp only [rr_at, if_neg hk, f_Place, f_Rule, f_Move, f_Main, f_Calendar, f_Waves, f_Plan, u, p0, p1, p2, p3, p4, p5, p6, p7, p8, p9, p10, r20, r21, r22, r30, r31, r32, r33, r34, r35, r36, r40, r41, r43, r44, r45, r50, r51, r52, r53, r54, r55, r56]
theorem rn_43 {cA : Nat → ClassId} {ad : Nat → Nat} {σ : St} {j : Nat} {v : Int32} {k : Nat} (hk : k ≠ 78) : rr_at cA ad (up σ 43 j v) k = rr_at cA ad σ k := by
  have r20 : up σ 43 j v 20 = σ 20 := up_row (by omega)
  have r21 : up σ 43 j v 21 = σ 21 := up_row (by omega)
  have r22 : up σ 43 j v 22 = σ 22 := up_row (by omega)
  have r30 : up σ 43 j v 30 = σ 30 := up_row (by omega)
  have r31 : up σ 43 j v 31 = σ 31 := up_row (by omega)
  have r32 : up σ 43 j v 32 = σ 32 := up_row (by omega)
  have r33 : up σ 43 j v 33 = σ 33 := up_row (by omega)
  have r34 : up σ 43 j v 34 = σ 34 := up_row (by omega)
  have r35 : up σ 43 j v 35 = σ 35 := up_row (by omega)
  have r36 : up σ 43 j v 36 = σ 36 := up_row (by omega)
  have r40 : up σ 43 j v 40 = σ 40 := up_row (by omega)
  have r41 : up σ 43 j v 41 = σ 41 := up_row (by omega)
  have r42 : up σ 43 j v 42 = σ 42 := up_row (by omega)
  have r44 : up σ 43 j v 44 = σ 44 := up_row (by omega)
  have r45 : up σ 43 j v 45 = σ 45 := up_row (by omega)
  have r50 : up σ 43 j v 50 = σ 50 := up_row (by omega)
  have r51 : up σ 43 j v 51 = σ 51 := up_row (by omega)
  have r52 : up σ 43 j v 52 = σ 52 := up_row (by omega)
  have r53 : up σ 43 j v 53 = σ 53 := up_row (by omega)
  have r54 : up σ 43 j v 54 = σ 54 := up_row (by omega)
  have r55 : up σ 43 j v 55 = σ 55 := up_row (by omega)
  have r56 : up σ 43 j v 56 = σ 56 := up_row (by omega)
  have p0 : up σ 43 j v 0 = σ 0 := up_row (by omega)
  have p1 : up σ 43 j v 1 = σ 1 := up_row (by omega)
  have p2 : up σ 43 j v 2 = σ 2 := up_row (by omega)
  have p3 : up σ 43 j v 3 = σ 3 := up_row (by omega)
  have p4 : up σ 43 j v 4 = σ 4 := up_row (by omega)
  have p5 : up σ 43 j v 5 = σ 5 := up_row (by omega)
  have p6 : up σ 43 j v 6 = σ 6 := up_row (by omega)
  have p7 : up σ 43 j v 7 = σ 7 := up_row (by omega)
  have p8 : up σ 43 j v 8 = σ 8 := up_row (by omega)
  have p9 : up σ 43 j v 9 = σ 9 := up_row (by omega)
  have p10 : up σ 43 j v 10 = σ 10 := up_row (by omega)
  have u : ∀ x : Nat, up σ 43 j v (100 + x) = σ (100 + x) := fun x => up_row (by omega)
  simp only [rr_at, if_neg hk, f_Place, f_Rule, f_Move, f_Main, f_Calendar, f_Waves, f_Plan, u, p0, p1, p2, p3, p4, p5, p6, p7, p8, p9, p10, r20, r21, r22, r30, r31, r32, r33, r34, r35, r36, r40, r41, r42, r44, r45, r50, r51, r52, r53, r54, r55, r56]
theorem rn_44 {cA : Nat → ClassId} {ad : Nat → Nat} {σ : St} {j : Nat} {v : Int32} {k : Nat} (hk : k ≠ 78) : rr_at cA ad (up σ 44 j v) k = rr_at cA ad σ k := by
  have r20 : up σ 44 j v 20 = σ 20 := up_row (by omega)
  have r21 : up σ 44 j v 21 = σ 21 := up_row (by omega)
  have r22 : up σ 44 j v 22 = σ 22 := up_row (by omega)
  have r30 : up σ 44 j v 30 = σ 30 := up_row (by omega)
  have r31 : up σ 44 j v 31 = σ 31 := up_row (by omega)
  have r32 : up σ 44 j v 32 = σ 32 := up_row (by omega)
  have r33 : up σ 44 j v 33 = σ 33 := up_row (by omega)
  have r34 : up σ 44 j v 34 = σ 34 := up_row (by omega)
  have r35 : up σ 44 j v 35 = σ 35 := up_row (by omega)
  have r36 : up σ 44 j v 36 = σ 36 := up_row (by omega)
  have r40 : up σ 44 j v 40 = σ 40 := up_row (by omega)
  have r41 : up σ 44 j v 41 = σ 41 := up_row (by omega)
  have r42 : up σ 44 j v 42 = σ 42 := up_row (by omega)
  have r43 : up σ 44 j v 43 = σ 43 := up_row (by omega)
  have r45 : up σ 44 j v 45 = σ 45 := up_row (by omega)
  have r50 : up σ 44 j v 50 = σ 50 := up_row (by omega)
  have r51 : up σ 44 j v 51 = σ 51 := up_row (by omega)
  have r52 : up σ 44 j v 52 = σ 52 := up_row (by omega)
  have r53 : up σ 44 j v 53 = σ 53 := up_row (by omega)
  have r54 : up σ 44 j v 54 = σ 54 := up_row (by omega)
  have r55 : up σ 44 j v 55 = σ 55 := up_row (by omega)
  have r56 : up σ 44 j v 56 = σ 56 := up_row (by omega)
  have p0 : up σ 44 j v 0 = σ 0 := up_row (by omega)
  have p1 : up σ 44 j v 1 = σ 1 := up_row (by omega)
  have p2 : up σ 44 j v 2 = σ 2 := up_row (by omega)
  have p3 : up σ 44 j v 3 = σ 3 := up_row (by omega)
  have p4 : up σ 44 j v 4 = σ 4 := up_row (by omega)
  have p5 : up σ 44 j v 5 = σ 5 := up_row (by omega)
  have p6 : up σ 44 j v 6 = σ 6 := up_row (by omega)
  have p7 : up σ 44 j v 7 = σ 7 := up_row (by omega)
  have p8 : up σ 44 j v 8 = σ 8 := up_row (by omega)
  have p9 : up σ 44 j v 9 = σ 9 := up_row (by omega)
  have p10 : up σ 44 j v 10 = σ 10 := up_row (by omega)
  have u : ∀ x : Nat, up σ 44 j v (100 + x) = σ (100 + x) := fun x => up_row (by omega)
  simp only [rr_at, if_neg hk, f_Place, f_Rule, f_Move, f_Main, f_Calendar, f_Waves, f_Plan, u, p0, p1, p2, p3, p4, p5, p6, p7, p8, p9, p10, r20, r21, r22, r30, r31, r32, r33, r34, r35, r36, r40, r41, r42, r43, r45, r50, r51, r52, r53, r54, r55, r56]
theorem rn_45 {cA : Nat → ClassId} {ad : Nat → Nat} {σ : St} {j : Nat} {v : Int32} {k : Nat} (hk : k ≠ 78) : rr_at cA ad (up σ 45 j v) k = rr_at cA ad σ k := by
  have r20 : up σ 45 j v 20 = σ 20 := up_row (by omega)
  have r21 : up σ 45 j v 21 = σ 21 := up_row (by omega)
  have r22 : up σ 45 j v 22 = σ 22 := up_row (by omega)
  have r30 : up σ 45 j v 30 = σ 30 := up_row (by omega)
  have r31 : up σ 45 j v 31 = σ 31 := up_row (by omega)
  have r32 : up σ 45 j v 32 = σ 32 := up_row (by omega)
  have r33 : up σ 45 j v 33 = σ 33 := up_row (by omega)
  have r34 : up σ 45 j v 34 = σ 34 := up_row (by omega)
  have r35 : up σ 45 j v 35 = σ 35 := up_row (by omega)
  have r36 : up σ 45 j v 36 = σ 36 := up_row (by omega)
  have r40 : up σ 45 j v 40 = σ 40 := up_row (by omega)
  have r41 : up σ 45 j v 41 = σ 41 := up_row (by omega)
  have r42 : up σ 45 j v 42 = σ 42 := up_row (by omega)
  have r43 : up σ 45 j v 43 = σ 43 := up_row (by omega)
  have r44 : up σ 45 j v 44 = σ 44 := up_row (by omega)
  have r50 : up σ 45 j v 50 = σ 50 := up_row (by omega)
  have r51 : up σ 45 j v 51 = σ 51 := up_row (by omega)
  have r52 : up σ 45 j v 52 = σ 52 := up_row (by omega)
  have r53 : up σ 45 j v 53 = σ 53 := up_row (by omega)
  have r54 : up σ 45 j v 54 = σ 54 := up_row (by omega)
  have r55 : up σ 45 j v 55 = σ 55 := up_row (by omega)
  have r56 : up σ 45 j v 56 = σ 56 := up_row (by omega)
  have p0 : up σ 45 j v 0 = σ 0 := up_row (by omega)
  have p1 : up σ 45 j v 1 = σ 1 := up_row (by omega)
  have p2 : up σ 45 j v 2 = σ 2 := up_row (by omega)
  have p3 : up σ 45 j v 3 = σ 3 := up_row (by omega)
  have p4 : up σ 45 j v 4 = σ 4 := up_row (by omega)
  have p5 : up σ 45 j v 5 = σ 5 := up_row (by omega)
  have p6 : up σ 45 j v 6 = σ 6 := up_row (by omega)
  have p7 : up σ 45 j v 7 = σ 7 := up_row (by omega)
  have p8 : up σ 45 j v 8 = σ 8 := up_row (by omega)
  have p9 : up σ 45 j v 9 = σ 9 := up_row (by omega)
  have p10 : up σ 45 j v 10 = σ 10 := up_row (by omega)
  have u : ∀ x : Nat, up σ 45 j v (100 + x) = σ (100 + x) := fun x => up_row (by omega)
  simp only [rr_at, if_neg hk, f_Place, f_Rule, f_Move, f_Main, f_Calendar, f_Waves, f_Plan, u, p0, p1, p2, p3, p4, p5, p6, p7, p8, p9, p10, r20, r21, r22, r30, r31, r32, r33, r34, r35, r36, r40, r41, r42, r43, r44, r50, r51, r52, r53, r54, r55, r56]
theorem rn_U {cA : Nat → ClassId} {ad : Nat → Nat} {σ : St} {i j : Nat} {v : Int32} {k : Nat} (hk : k ≠ 16 + i) : rr_at cA ad (up σ (100 + i) j v) k = rr_at cA ad σ k := by
  have r20 : up σ (100 + i) j v 20 = σ 20 := up_row (by omega)
  have r21 : up σ (100 + i) j v 21 = σ 21 := up_row (by omega)
  have r22 : up σ (100 + i) j v 22 = σ 22 := up_row (by omega)
  have r30 : up σ (100 + i) j v 30 = σ 30 := up_row (by omega)
  have r31 : up σ (100 + i) j v 31 = σ 31 := up_row (by omega)
  have r32 : up σ (100 + i) j v 32 = σ 32 := up_row (by omega)
  have r33 : up σ (100 + i) j v 33 = σ 33 := up_row (by omega)
  have r34 : up σ (100 + i) j v 34 = σ 34 := up_row (by omega)
  have r35 : up σ (100 + i) j v 35 = σ 35 := up_row (by omega)
  have r36 : up σ (100 + i) j v 36 = σ 36 := up_row (by omega)
  have r40 : up σ (100 + i) j v 40 = σ 40 := up_row (by omega)
  have r41 : up σ (100 + i) j v 41 = σ 41 := up_row (by omega)
  have r42 : up σ (100 + i) j v 42 = σ 42 := up_row (by omega)
  have r43 : up σ (100 + i) j v 43 = σ 43 := up_row (by omega)
  have r44 : up σ (100 + i) j v 44 = σ 44 := up_row (by omega)
  have r45 : up σ (100 + i) j v 45 = σ 45 := up_row (by omega)
  have r50 : up σ (100 + i) j v 50 = σ 50 := up_row (by omega)
  have r51 : up σ (100 + i) j v 51 = σ 51 := up_row (by omega)
  have r52 : up σ (100 + i) j v 52 = σ 52 := up_row (by omega)
  have r53 : up σ (100 + i) j v 53 = σ 53 := up_row (by omega)
  have r54 : up σ (100 + i) j v 54 = σ 54 := up_row (by omega)
  have r55 : up σ (100 + i) j v 55 = σ 55 := up_row (by omega)
  have r56 : up σ (100 + i) j v 56 = σ 56 := up_row (by omega)
  have p0 : up σ (100 + i) j v 0 = σ 0 := up_row (by omega)
  have p1 : up σ (100 + i) j v 1 = σ 1 := up_row (by omega)
  have p2 : up σ (100 + i) j v 2 = σ 2 := up_row (by omega)
  have p3 : up σ (100 + i) j v 3 = σ 3 := up_row (by omega)
  have p4 : up σ (100 + i) j v 4 = σ 4 := up_row (by omega)
  have p5 : up σ (100 + i) j v 5 = σ 5 := up_row (by omega)
  have p6 : up σ (100 + i) j v 6 = σ 6 := up_row (by omega)
  have p7 : up σ (100 + i) j v 7 = σ 7 := up_row (by omega)
  have p8 : up σ (100 + i) j v 8 = σ 8 := up_row (by omega)
  have p9 : up σ (100 + i) j v 9 = σ 9 := up_row (by omega)
  have p10 : up σ (100 + i) j v 10 = σ 10 := up_row (by omega)
  unfold rr_at
  by_cases h1 : k < 16
  · simp only [if_pos h1, f_Place, f_Rule, f_Move, f_Main, f_Calendar, f_Waves, f_Plan, p0, p1, p2, p3, p4, p5, p6, p7, p8, p9, p10]
  · have u : up σ (100 + i) j v (100 + (k - 16)) = σ (100 + (k - 16)) := up_row (by omega)
    simp only [if_neg h1, f_Place, f_Rule, f_Move, f_Main, f_Calendar, f_Waves, f_Plan, u, p0, p1, p2, p3, p4, p5, p6, p7, p8, p9, p10, r20, r21, r22, r30, r31, r32, r33, r34, r35, r36, r40, r41, r42, r43, r44, r45, r50, r51, r52, r53, r54, r55, r56]
theorem rs_Place_room {cA : Nat → ClassId} {ad : Nat → Nat} {σ : St} {i : Nat} {v : Int32} (hi : i < 16) : (rrL cA ad σ).set i (ad i, .inr (2, (f_Place ad σ i).set 2 (.int v))) = rrL cA ad (up σ 0 i v) := by
  have e := rl_Place (cA := cA) (ad := ad) (σ := up σ 0 i v) hi
  rw [rr_look (by omega)] at e
  refine rr_set (by omega) ((Prod.mk.inj (Option.some.inj e)).2.trans ?_) (fun k _ hn => rn_P (by omega) hn)
  simp [f_Place, up]
theorem rs_Place_zone {cA : Nat → ClassId} {ad : Nat → Nat} {σ : St} {i : Nat} {v : Int32} (hi : i < 16) : (rrL cA ad σ).set i (ad i, .inr (2, (f_Place ad σ i).set 3 (.int v))) = rrL cA ad (up σ 1 i v) := by
  have e := rl_Place (cA := cA) (ad := ad) (σ := up σ 1 i v) hi
  rw [rr_look (by omega)] at e
  refine rr_set (by omega) ((Prod.mk.inj (Option.some.inj e)).2.trans ?_) (fun k _ hn => rn_P (by omega) hn)
  simp [f_Place, up]
theorem rs_Place_pieces {cA : Nat → ClassId} {ad : Nat → Nat} {σ : St} {i : Nat} {v : Int32} (hi : i < 16) : (rrL cA ad σ).set i (ad i, .inr (2, (f_Place ad σ i).set 4 (.int v))) = rrL cA ad (up σ 2 i v) := by
  have e := rl_Place (cA := cA) (ad := ad) (σ := up σ 2 i v) hi
  rw [rr_look (by omega)] at e
  refine rr_set (by omega) ((Prod.mk.inj (Option.some.inj e)).2.trans ?_) (fun k _ hn => rn_P (by omega) hn)
  simp [f_Place, up]
theorem rs_Place_held {cA : Nat → ClassId} {ad : Nat → Nat} {σ : St} {i : Nat} {v : Int32} (hi : i < 16) : (rrL cA ad σ).set i (ad i, .inr (2, (f_Place ad σ i).set 5 (.int v))) = rrL cA ad (up σ 3 i v) := by
  have e := rl_Place (cA := cA) (ad := ad) (σ := up σ 3 i v) hi
  rw [rr_look (by omega)] at e
  refine rr_set (by omega) ((Prod.mk.inj (Option.some.inj e)).2.trans ?_) (fun k _ hn => rn_P (by omega) hn)
  simp [f_Place, up]
theorem rs_Place_good {cA : Nat → ClassId} {ad : Nat → Nat} {σ : St} {i : Nat} {v : Int32} (hi : i < 16) : (rrL cA ad σ).set i (ad i, .inr (2, (f_Place ad σ i).set 6 (.int v))) = rrL cA ad (up σ 4 i v) := by
  have e := rl_Place (cA := cA) (ad := ad) (σ := up σ 4 i v) hi
  rw [rr_look (by omega)] at e
  refine rr_set (by omega) ((Prod.mk.inj (Option.some.inj e)).2.trans ?_) (fun k _ hn => rn_P (by omega) hn)
  simp [f_Place, up]
theorem rs_Place_faceGood {cA : Nat → ClassId} {ad : Nat → Nat} {σ : St} {i : Nat} {v : Int32} (hi : i < 16) : (rrL cA ad σ).set i (ad i, .inr (2, (f_Place ad σ i).set 7 (.int v))) = rrL cA ad (up σ 5 i v) := by
  have e := rl_Place (cA := cA) (ad := ad) (σ := up σ 5 i v) hi
  rw [rr_look (by omega)] at e
  refine rr_set (by omega) ((Prod.mk.inj (Option.some.inj e)).2.trans ?_) (fun k _ hn => rn_P (by omega) hn)
  simp [f_Place, up]
theorem rs_Place_least {cA : Nat → ClassId} {ad : Nat → Nat} {σ : St} {i : Nat} {v : Int32} (hi : i < 16) : (rrL cA ad σ).set i (ad i, .inr (2, (f_Place ad σ i).set 8 (.int v))) = rrL cA ad (up σ 6 i v) := by
  have e := rl_Place (cA := cA) (ad := ad) (σ := up σ 6 i v) hi
  rw [rr_look (by omega)] at e
  refine rr_set (by omega) ((Prod.mk.inj (Option.some.inj e)).2.trans ?_) (fun k _ hn => rn_P (by omega) hn)
  simp [f_Place, up]
theorem rs_Place_most {cA : Nat → ClassId} {ad : Nat → Nat} {σ : St} {i : Nat} {v : Int32} (hi : i < 16) : (rrL cA ad σ).set i (ad i, .inr (2, (f_Place ad σ i).set 9 (.int v))) = rrL cA ad (up σ 7 i v) := by
  have e := rl_Place (cA := cA) (ad := ad) (σ := up σ 7 i v) hi
  rw [rr_look (by omega)] at e
  refine rr_set (by omega) ((Prod.mk.inj (Option.some.inj e)).2.trans ?_) (fun k _ hn => rn_P (by omega) hn)
  simp [f_Place, up]
theorem rs_Place_planned {cA : Nat → ClassId} {ad : Nat → Nat} {σ : St} {i : Nat} {v : Int32} (hi : i < 16) : (rrL cA ad σ).set i (ad i, .inr (2, (f_Place ad σ i).set 10 (.int v))) = rrL cA ad (up σ 8 i v) := by
  have e := rl_Place (cA := cA) (ad := ad) (σ := up σ 8 i v) hi
  rw [rr_look (by omega)] at e
  refine rr_set (by omega) ((Prod.mk.inj (Option.some.inj e)).2.trans ?_) (fun k _ hn => rn_P (by omega) hn)
  simp [f_Place, up]
theorem rs_Place_wanted {cA : Nat → ClassId} {ad : Nat → Nat} {σ : St} {i : Nat} {v : Int32} (hi : i < 16) : (rrL cA ad σ).set i (ad i, .inr (2, (f_Place ad σ i).set 11 (.int v))) = rrL cA ad (up σ 9 i v) := by
  have e := rl_Place (cA := cA) (ad := ad) (σ := up σ 9 i v) hi
  rw [rr_look (by omega)] at e
  refine rr_set (by omega) ((Prod.mk.inj (Option.some.inj e)).2.trans ?_) (fun k _ hn => rn_P (by omega) hn)
  simp [f_Place, up]
theorem rs_Place_needTime {cA : Nat → ClassId} {ad : Nat → Nat} {σ : St} {i : Nat} {v : Int32} (hi : i < 16) : (rrL cA ad σ).set i (ad i, .inr (2, (f_Place ad σ i).set 12 (.int v))) = rrL cA ad (up σ 10 i v) := by
  have e := rl_Place (cA := cA) (ad := ad) (σ := up σ 10 i v) hi
  rw [rr_look (by omega)] at e
  refine rr_set (by omega) ((Prod.mk.inj (Option.some.inj e)).2.trans ?_) (fun k _ hn => rn_P (by omega) hn)
  simp [f_Place, up]
theorem rs_Rule_kind {cA : Nat → ClassId} {ad : Nat → Nat} {σ : St} {i : Nat} {v : Int32} (hi : i < 4) : (rrL cA ad σ).set (32 + i) (ad (32 + i), .inr (4, (f_Rule ad σ i).set 0 (.int v))) = rrL cA ad (up σ 20 i v) := by
  have e := rl_Rule (cA := cA) (ad := ad) (σ := up σ 20 i v) hi
  rw [rr_look (by omega)] at e
  refine rr_set (by omega) ((Prod.mk.inj (Option.some.inj e)).2.trans ?_) (fun k _ hn => rn_Rule (by omega) (by omega) hn hi)
  simp [f_Rule, up]
theorem rs_Rule_ahead {cA : Nat → ClassId} {ad : Nat → Nat} {σ : St} {i : Nat} {v : Int32} (hi : i < 4) : (rrL cA ad σ).set (32 + i) (ad (32 + i), .inr (4, (f_Rule ad σ i).set 1 (.int v))) = rrL cA ad (up σ 21 i v) := by
  have e := rl_Rule (cA := cA) (ad := ad) (σ := up σ 21 i v) hi
  rw [rr_look (by omega)] at e
  refine rr_set (by omega) ((Prod.mk.inj (Option.some.inj e)).2.trans ?_) (fun k _ hn => rn_Rule (by omega) (by omega) hn hi)
  simp [f_Rule, up]
theorem rs_Rule_until {cA : Nat → ClassId} {ad : Nat → Nat} {σ : St} {i : Nat} {v : Int32} (hi : i < 4) : (rrL cA ad σ).set (32 + i) (ad (32 + i), .inr (4, (f_Rule ad σ i).set 2 (.int v))) = rrL cA ad (up σ 22 i v) := by
  have e := rl_Rule (cA := cA) (ad := ad) (σ := up σ 22 i v) hi
  rw [rr_look (by omega)] at e
  refine rr_set (by omega) ((Prod.mk.inj (Option.some.inj e)).2.trans ?_) (fun k _ hn => rn_Rule (by omega) (by omega) hn hi)
  simp [f_Rule, up]
theorem rs_Move_from {cA : Nat → ClassId} {ad : Nat → Nat} {σ : St} {i : Nat} {v : Int32} (hi : i < 30) : (rrL cA ad σ).set (36 + i) (ad (36 + i), .inr (1, (f_Move ad σ i).set 0 (.int v))) = rrL cA ad (up σ 50 i v) := by
  have e := rl_Move (cA := cA) (ad := ad) (σ := up σ 50 i v) hi
  rw [rr_look (by omega)] at e
  refine rr_set (by omega) ((Prod.mk.inj (Option.some.inj e)).2.trans ?_) (fun k _ hn => rn_Move (by omega) (by omega) hn hi)
  simp [f_Move, up]
theorem rs_Move_to {cA : Nat → ClassId} {ad : Nat → Nat} {σ : St} {i : Nat} {v : Int32} (hi : i < 30) : (rrL cA ad σ).set (36 + i) (ad (36 + i), .inr (1, (f_Move ad σ i).set 1 (.int v))) = rrL cA ad (up σ 51 i v) := by
  have e := rl_Move (cA := cA) (ad := ad) (σ := up σ 51 i v) hi
  rw [rr_look (by omega)] at e
  refine rr_set (by omega) ((Prod.mk.inj (Option.some.inj e)).2.trans ?_) (fun k _ hn => rn_Move (by omega) (by omega) hn hi)
  simp [f_Move, up]
theorem rs_Move_pieces {cA : Nat → ClassId} {ad : Nat → Nat} {σ : St} {i : Nat} {v : Int32} (hi : i < 30) : (rrL cA ad σ).set (36 + i) (ad (36 + i), .inr (1, (f_Move ad σ i).set 2 (.int v))) = rrL cA ad (up σ 52 i v) := by
  have e := rl_Move (cA := cA) (ad := ad) (σ := up σ 52 i v) hi
  rw [rr_look (by omega)] at e
  refine rr_set (by omega) ((Prod.mk.inj (Option.some.inj e)).2.trans ?_) (fun k _ hn => rn_Move (by omega) (by omega) hn hi)
  simp [f_Move, up]
theorem rs_Move_needTime {cA : Nat → ClassId} {ad : Nat → Nat} {σ : St} {i : Nat} {v : Int32} (hi : i < 30) : (rrL cA ad σ).set (36 + i) (ad (36 + i), .inr (1, (f_Move ad σ i).set 3 (.int v))) = rrL cA ad (up σ 53 i v) := by
  have e := rl_Move (cA := cA) (ad := ad) (σ := up σ 53 i v) hi
  rw [rr_look (by omega)] at e
  refine rr_set (by omega) ((Prod.mk.inj (Option.some.inj e)).2.trans ?_) (fun k _ hn => rn_Move (by omega) (by omega) hn hi)
  simp [f_Move, up]
theorem rs_Move_trip {cA : Nat → ClassId} {ad : Nat → Nat} {σ : St} {i : Nat} {v : Int32} (hi : i < 30) : (rrL cA ad σ).set (36 + i) (ad (36 + i), .inr (1, (f_Move ad σ i).set 4 (.int v))) = rrL cA ad (up σ 54 i v) := by
  have e := rl_Move (cA := cA) (ad := ad) (σ := up σ 54 i v) hi
  rw [rr_look (by omega)] at e
  refine rr_set (by omega) ((Prod.mk.inj (Option.some.inj e)).2.trans ?_) (fun k _ hn => rn_Move (by omega) (by omega) hn hi)
  simp [f_Move, up]
theorem rs_Move_emptiesReserve {cA : Nat → ClassId} {ad : Nat → Nat} {σ : St} {i : Nat} {v : Int32} (hi : i < 30) : (rrL cA ad σ).set (36 + i) (ad (36 + i), .inr (1, (f_Move ad σ i).set 5 (.int v))) = rrL cA ad (up σ 55 i v) := by
  have e := rl_Move (cA := cA) (ad := ad) (σ := up σ 55 i v) hi
  rw [rr_look (by omega)] at e
  refine rr_set (by omega) ((Prod.mk.inj (Option.some.inj e)).2.trans ?_) (fun k _ hn => rn_Move (by omega) (by omega) hn hi)
  simp [f_Move, up]
theorem rs_Move_isDone {cA : Nat → ClassId} {ad : Nat → Nat} {σ : St} {i : Nat} {v : Int32} (hi : i < 30) : (rrL cA ad σ).set (36 + i) (ad (36 + i), .inr (1, (f_Move ad σ i).set 6 (.int v))) = rrL cA ad (up σ 56 i v) := by
  have e := rl_Move (cA := cA) (ad := ad) (σ := up σ 56 i v) hi
  rw [rr_look (by omega)] at e
  refine rr_set (by omega) ((Prod.mk.inj (Option.some.inj e)).2.trans ?_) (fun k _ hn => rn_Move (by omega) (by omega) hn hi)
  simp [f_Move, up]
theorem rs_Calendar_today {cA : Nat → ClassId} {ad : Nat → Nat} {σ : St} {v : Int32} : (rrL cA ad σ).set 72 (ad 72, .inr (0, (f_Calendar ad σ).set 1 (.int v))) = rrL cA ad (up σ 40 0 v) := by
  refine rr_set (by omega) ?_ (fun k _ hn => rn_40 hn)
  simp [rr_at, f_Calendar, up]
theorem rs_Waves_count {cA : Nat → ClassId} {ad : Nat → Nat} {σ : St} {v : Int32} : (rrL cA ad σ).set 74 (ad 74, .inr (5, (f_Waves ad σ).set 3 (.int v))) = rrL cA ad (up σ 41 0 v) := by
  refine rr_set (by omega) ?_ (fun k _ hn => rn_41 hn)
  simp [rr_at, f_Waves, up]
theorem rs_Plan_count {cA : Nat → ClassId} {ad : Nat → Nat} {σ : St} {v : Int32} : (rrL cA ad σ).set 78 (ad 78, .inr (3, (f_Plan ad σ).set 1 (.int v))) = rrL cA ad (up σ 42 0 v) := by
  refine rr_set (by omega) ?_ (fun k _ hn => rn_42 hn)
  simp [rr_at, f_Plan, up]
theorem rs_Plan_trip {cA : Nat → ClassId} {ad : Nat → Nat} {σ : St} {v : Int32} : (rrL cA ad σ).set 78 (ad 78, .inr (3, (f_Plan ad σ).set 2 (.int v))) = rrL cA ad (up σ 43 0 v) := by
  refine rr_set (by omega) ?_ (fun k _ hn => rn_43 hn)
  simp [rr_at, f_Plan, up]
theorem rs_Plan_tripZone {cA : Nat → ClassId} {ad : Nat → Nat} {σ : St} {v : Int32} : (rrL cA ad σ).set 78 (ad 78, .inr (3, (f_Plan ad σ).set 3 (.int v))) = rrL cA ad (up σ 44 0 v) := by
  refine rr_set (by omega) ?_ (fun k _ hn => rn_44 hn)
  simp [rr_at, f_Plan, up]
theorem rs_Plan_tripMoves {cA : Nat → ClassId} {ad : Nat → Nat} {σ : St} {v : Int32} : (rrL cA ad σ).set 78 (ad 78, .inr (3, (f_Plan ad σ).set 4 (.int v))) = rrL cA ad (up σ 45 0 v) := by
  refine rr_set (by omega) ?_ (fun k _ hn => rn_45 hn)
  simp [rr_at, f_Plan, up]
theorem rs_casesA {cA : Nat → ClassId} {ad : Nat → Nat} {σ : St} {j : Nat} {v : Int32} : (rrL cA ad σ).set 69 (ad 69, .inl (cA 0, 8, .inl (upd (σ 30) j v))) = rrL cA ad (up σ 30 j v) := by
  refine rr_set (by omega) ?_ (fun k _ hn => rn_30 hn)
  rw [← up_upd]
  rfl
theorem rs_upsA {cA : Nat → ClassId} {ad : Nat → Nat} {σ : St} {j : Nat} {v : Int32} : (rrL cA ad σ).set 70 (ad 70, .inl (cA 0, 12, .inl (upd (σ 31) j v))) = rrL cA ad (up σ 31 j v) := by
  refine rr_set (by omega) ?_ (fun k _ hn => rn_31 hn)
  rw [← up_upd]
  rfl
theorem rs_downsA {cA : Nat → ClassId} {ad : Nat → Nat} {σ : St} {j : Nat} {v : Int32} : (rrL cA ad σ).set 71 (ad 71, .inl (cA 0, 12, .inl (upd (σ 32) j v))) = rrL cA ad (up σ 32 j v) := by
  refine rr_set (by omega) ?_ (fun k _ hn => rn_32 hn)
  rw [← up_upd]
  rfl
theorem rs_closedA {cA : Nat → ClassId} {ad : Nat → Nat} {σ : St} {j : Nat} {v : Int32} : (rrL cA ad σ).set 73 (ad 73, .inl (cA 1, 400, .inl (upd (σ 33) j v))) = rrL cA ad (up σ 33 j v) := by
  refine rr_set (by omega) ?_ (fun k _ hn => rn_33 hn)
  rw [← up_upd]
  rfl
theorem rs_facesA {cA : Nat → ClassId} {ad : Nat → Nat} {σ : St} {j : Nat} {v : Int32} : (rrL cA ad σ).set 75 (ad 75, .inl (cA 0, 30, .inl (upd (σ 34) j v))) = rrL cA ad (up σ 34 j v) := by
  refine rr_set (by omega) ?_ (fun k _ hn => rn_34 hn)
  rw [← up_upd]
  rfl
theorem rs_wpiecesA {cA : Nat → ClassId} {ad : Nat → Nat} {σ : St} {j : Nat} {v : Int32} : (rrL cA ad σ).set 76 (ad 76, .inl (cA 0, 30, .inl (upd (σ 35) j v))) = rrL cA ad (up σ 35 j v) := by
  refine rr_set (by omega) ?_ (fun k _ hn => rn_35 hn)
  rw [← up_upd]
  rfl
theorem rs_daysA {cA : Nat → ClassId} {ad : Nat → Nat} {σ : St} {j : Nat} {v : Int32} : (rrL cA ad σ).set 77 (ad 77, .inl (cA 0, 30, .inl (upd (σ 36) j v))) = rrL cA ad (up σ 36 j v) := by
  refine rr_set (by omega) ?_ (fun k _ hn => rn_36 hn)
  rw [← up_upd]
  rfl
theorem rs_Used {cA : Nat → ClassId} {ad : Nat → Nat} {σ : St} {i j : Nat} {v : Int32} (hi : i < 16) : (rrL cA ad σ).set (16 + i) (ad (16 + i), .inl (cA 0, 400, .inl (upd (σ (100 + i)) j v))) = rrL cA ad (up σ (100 + i) j v) := by
  have e := rl_Used (cA := cA) (ad := ad) (σ := up σ (100 + i) j v) hi
  rw [rr_look (by omega)] at e
  refine rr_set (by omega) ((Prod.mk.inj (Option.some.inj e)).2.trans ?_) (fun k _ hn => rn_U hn)
  rw [up_upd]
end
section
/-! rows of mine over the kit: stores into a world that is given by a state, calls, throws -/
theorem vp_lt {x : Int32} {n : Nat} (h : vp_in x n) : nx x < n := Nat.not_le.mp fun q => h (Or.inr q)
theorem c_then_0 {a b : Nat} (h : a = 0) : c_then a b = b := by simp [c_then, h]
theorem c_then_n {a b : Nat} (h : ¬ a = 0) : c_then a b = a := by simp [c_then, h]
def exN (k : Nat) : String := match k with
  | 1 => "java/lang/IllegalArgumentException"
  | 2 => "java/lang/IllegalStateException"
  | 3 => "java/lang/UnsupportedOperationException"
  | 4 => "java/util/NoSuchElementException"
  | _ => "java/lang/ArithmeticException"
section
variable {p : Program} {l : Launch} {e : Env} {R : Room} {s : State} {m : MethodId} {args : Array Value} {below : List Frame} {meth : Method} {c : Code} {H : Heap} {locs : List Loc} {cells slots : Nat} {Q : State → Prop}
variable {cc : ByteArray} {pc : Nat} {ls : Array Slot} {rest : List Value} {D : va_G} {cl : List vw_C} {A : Nat → Prop} {a : Nat} {tys : List (ClassId × FieldType)} {ws ws' : va_W} {H0 : Heap}
theorem pp_put (hexec : p.tables.exec = Jvm.exec) (hb : c.code = cc) {own ref C : String} {T : u_T} {N ci index : Nat} {Ts : List Cond} (hts : ∀ w ∈ Ts, w.before args s = true) (hin : ∀ w ∈ u_ws C T N, w ∈ Ts) (ty0 : Nat → FieldType) (hty : ∀ k, k < N → parseFieldDescriptor (T k).2.2.1 = some (ty0 k)) (hnm : ∀ a, a < N → ∀ b, b < N → a ≠ b → (T a).2.1 ≠ (T b).2.1) (hown : s.vm.findClass own = some m.cls) (hK : va_K D cl tys s) (hP : va_P D cl ws H) (hD : va_D A ws) (hS0 : va_S A H0 H locs) (q0 : Nat) {fs : List Value} (he : ws[q0]? = some (a, .inr (ci, fs))) (hc : cl[ci]? = some (C, T, N)) (k : Nat) (hk : k < N) (hlink : (Cond.fieldLink own index ref (T k).2.1 (T k).2.2.1).before args s = true) (hsame : ∀ x, s.fieldFound? (T k).1 (T k).2.1 (T k).2.2.1 = some x → s.fieldFound? ref (T k).2.1 (T k).2.2.1 = some x) (hfin : (T k).2.2.2 = false) {ty : FieldType} {v : Value} (hd : parseFieldDescriptor (T k).2.2.1 = some ty) (hn : narrow ty v = v) (hfit : fits ty v = true) (hl : k < fs.length) (hset : ws.set q0 (a, .inr (ci, fs.set k v)) = ws')
    (hdg : decode cc pc = .ok (.putfield index, 3)) (kk : ∀ (H1 : Heap) (locs1 : List Loc), va_P D cl ws' H1 → va_S A H0 H1 locs1 → W p l e R s m args below meth c H1 locs1 cells slots Q (F0 m (pc + 3) ls rest)) : W p l e R s m args below meth c H locs cells slots Q (F0 m pc ls (v :: .ref a :: rest)) :=
  va_put hexec hb hts hin ty0 hty hnm hown hK hP hD hS0 q0 he hc k hk hlink hsame hfin hd hn hfit hl hdg (fun H1 locs1 h1 _ h3 => kk H1 locs1 (hset ▸ h1) h3)
theorem pp_iast (hexec : p.tables.exec = Jvm.exec) (hb : c.code = cc) (hK : va_K D cl tys s) (hP : va_P D cl ws H) (hD : va_D A ws) (hS : va_S A H0 H locs) (q0 t0 : Nat) {cA : ClassId} {n : Nat} {f : Nat → Int32} (ha : ws[q0]? = some (a, .inl (cA, n, .inl f))) (ht : tys[t0]? = some (cA, .int)) {i : Int32} {x : Int32} (hin : vp_in i n) (hset : ws.set q0 (a, .inl (cA, n, .inl (upd f i.toNatClampNeg x))) = ws') (hdg : decode cc pc = .ok (.iastore, 1))
    (kk : ∀ (H1 : Heap) (locs1 : List Loc), va_P D cl ws' H1 → va_S A H0 H1 locs1 → W p l e R s m args below meth c H1 locs1 cells slots Q (F0 m (pc + 1) ls rest)) : W p l e R s m args below meth c H locs cells slots Q (F0 m pc ls (.int x :: .int i :: .ref a :: rest)) :=
  va_iast hexec hb hK hP hD hS q0 t0 ha ht hin hdg (fun H1 locs1 h1 _ h3 => kk H1 locs1 (hset ▸ h1) h3)
theorem pp_zast (hexec : p.tables.exec = Jvm.exec) (hb : c.code = cc) (hK : va_K D cl tys s) (hP : va_P D cl ws H) (hD : va_D A ws) (hS : va_S A H0 H locs) (q0 t0 : Nat) {cA : ClassId} {n : Nat} {f : Nat → Int32} (ha : ws[q0]? = some (a, .inl (cA, n, .inl f))) (ht : tys[t0]? = some (cA, .boolean)) {i : Int32} {x : Int32} (hx : vp_nar .boolean x = x) (hin : vp_in i n) (hset : ws.set q0 (a, .inl (cA, n, .inl (upd f i.toNatClampNeg x))) = ws') (hdg : decode cc pc = .ok (.bastore, 1))
    (kk : ∀ (H1 : Heap) (locs1 : List Loc), va_P D cl ws' H1 → va_S A H0 H1 locs1 → W p l e R s m args below meth c H1 locs1 cells slots Q (F0 m (pc + 1) ls rest)) : W p l e R s m args below meth c H locs cells slots Q (F0 m pc ls (.int x :: .int i :: .ref a :: rest)) :=
  va_zast hexec hb hK hP hD hS q0 t0 ha ht hin hdg (fun H1 locs1 h1 _ h3 => kk H1 locs1 (hset ▸ (by rw [hx] at h1; exact h1)) h3)
end
theorem rr_bl {G : va_G} {cA : Nat → ClassId} {ad : Nat → Nat} {σ : St} {av : List Value} : FrameBlind (va_Pc av (rrW G cA ad σ)) := fun a U g mk q => ⟨q.1, q.2.1, va_K.moved (u := U) (U := U.calling g mk a) (Vm.Alike.refl U.vm) q.2.2⟩
theorem rr_pv {s : State} {H : Heap} {G : va_G} {cA : Nat → ClassId} {ad : Nat → Nat} {σ : St} {C : String} {b : Nat} {As : List Value} (hK : va_K G vwCl (rrTy cA) s) (hP : va_P G vwCl (rrL cA ad σ) H) (hr : ∃ cell : Cell, H[b]? = some cell ∧ cell.vm.isStatics = false ∧ s.vm.findClass C = some cell.cls) : PreV s H C b (va_Pc (.ref b :: As) (rrW G cA ad σ)) As :=
  ⟨rr_bl, hr, fun U hU hW => ⟨rfl, by rw [hU]; exact hP, va_K.moved hW.alike hK⟩⟩
theorem rr_ps {s : State} {H : Heap} {G : va_G} {cA : Nat → ClassId} {ad : Nat → Nat} {σ : St} {As : List Value} (hK : va_K G vwCl (rrTy cA) s) (hP : va_P G vwCl (rrL cA ad σ) H) : PreS s H (va_Pc As (rrW G cA ad σ)) As :=
  ⟨rr_bl, fun U hU hW => ⟨rfl, by rw [hU]; exact hP, va_K.moved hW.alike hK⟩⟩
/-! loops and small numbers (mine) -/
section
variable {p : Program} {l : Launch} {e : Env} {R : Room} {s : State} {m : MethodId} {args : Array Value} {below : List Frame} {meth : Method} {c : Code} {H : Heap} {locs : List Loc} {cells slots : Nat} {Q : State → Prop}
theorem lp_ro {α : Type} {f : Nat → α → α} {t nL pc : Nat} (LV : Nat → α → List (Nat × Value)) (n k : Nat) (a : α) (hk : k + n = t)
    (step : ∀ (k : Nat) (a : α), k < t → (∀ ls : Array Slot, lv_has ls nL (LV (k + 1) (f k a)) → W p l e R s m args below meth c H locs cells slots Q (F0 m pc ls [])) → ∀ ls : Array Slot, lv_has ls nL (LV k a) → W p l e R s m args below meth c H locs cells slots Q (F0 m pc ls []))
    (exit : ∀ ls : Array Slot, lv_has ls nL (LV t (foldN f n k a)) → W p l e R s m args below meth c H locs cells slots Q (F0 m pc ls []))
    (ls : Array Slot) (hl : lv_has ls nL (LV k a)) : W p l e R s m args below meth c H locs cells slots Q (F0 m pc ls []) :=
  loopN (f := f) (t := t) (Wh := fun k a => ∀ ls : Array Slot, lv_has ls nL (LV k a) → W p l e R s m args below meth c H locs cells slots Q (F0 m pc ls [])) (fun k a hk ih => step k a hk ih) n k a hk exit ls hl
theorem lp_ri {α : Type} {f : Nat → α → α} {t nL pc : Nat} (Iv : Nat → α → Prop) (LV : Nat → α → List (Nat × Value)) (n k : Nat) (a : α) (hk : k + n = t)
    (step : ∀ (k : Nat) (a : α), k < t → Iv k a → (∀ ls : Array Slot, Iv (k + 1) (f k a) → lv_has ls nL (LV (k + 1) (f k a)) → W p l e R s m args below meth c H locs cells slots Q (F0 m pc ls [])) → ∀ ls : Array Slot, lv_has ls nL (LV k a) → W p l e R s m args below meth c H locs cells slots Q (F0 m pc ls []))
    (exit : Iv t (foldN f n k a) → ∀ ls : Array Slot, lv_has ls nL (LV t (foldN f n k a)) → W p l e R s m args below meth c H locs cells slots Q (F0 m pc ls []))
    (hI : Iv k a) (ls : Array Slot) (hl : lv_has ls nL (LV k a)) : W p l e R s m args below meth c H locs cells slots Q (F0 m pc ls []) :=
  loopN (f := f) (t := t) (Wh := fun k a => ∀ ls : Array Slot, Iv k a → lv_has ls nL (LV k a) → W p l e R s m args below meth c H locs cells slots Q (F0 m pc ls [])) (fun k a hk ih ls hI hl => step k a hk hI ih ls hl) n k a hk (fun ls hI hl => exit hI ls hl) ls hI hl
theorem lp_rw {G : va_G} {cA : Nat → ClassId} {ad : Nat → Nat} {A : Nat → Prop} {H0 : Heap} {f : Nat → St → St} {t nL pc : Nat} (Iv : Nat → St → Prop) (LV : Nat → List (Nat × Value)) (n k : Nat) (σ : St) (hk : k + n = t)
    (step : ∀ (k : Nat) (σ : St) (H : Heap) (locs : List Loc), k < t → Iv k σ → va_P G vwCl (rrL cA ad σ) H → va_S A H0 H locs → (∀ (H : Heap) (locs : List Loc) (ls : Array Slot), Iv (k + 1) (f k σ) → va_P G vwCl (rrL cA ad (f k σ)) H → va_S A H0 H locs → lv_has ls nL (LV (k + 1)) → W p l e R s m args below meth c H locs cells slots Q (F0 m pc ls [])) → ∀ ls : Array Slot, lv_has ls nL (LV k) → W p l e R s m args below meth c H locs cells slots Q (F0 m pc ls []))
    (exit : ∀ (H : Heap) (locs : List Loc), Iv t (foldN f n k σ) → va_P G vwCl (rrL cA ad (foldN f n k σ)) H → va_S A H0 H locs → ∀ ls : Array Slot, lv_has ls nL (LV t) → W p l e R s m args below meth c H locs cells slots Q (F0 m pc ls []))
    (hI : Iv k σ) (hP : va_P G vwCl (rrL cA ad σ) H) (hS : va_S A H0 H locs) (ls : Array Slot) (hl : lv_has ls nL (LV k)) : W p l e R s m args below meth c H locs cells slots Q (F0 m pc ls []) :=
  loopN (f := f) (t := t) (Wh := fun k σ => ∀ (H : Heap) (locs : List Loc) (ls : Array Slot), Iv k σ → va_P G vwCl (rrL cA ad σ) H → va_S A H0 H locs → lv_has ls nL (LV k) → W p l e R s m args below meth c H locs cells slots Q (F0 m pc ls []))
    (fun k σ hk ih H locs ls hI hP hS hl => step k σ H locs hk hI hP hS ih ls hl) n k σ hk (fun H locs ls hI hP hS hl => exit H locs hI hP hS ls hl) H locs ls hI hP hS hl
end
theorem nI_nx {x : Int32} (h : ¬ x < 0) : nI (nx x) = x := by
  obtain ⟨j, hj, rfl⟩ := nI_of h
  show nI (nI j).toNatClampNeg = nI j
  rw [nI_clamp hj]
theorem nx_lt31 (x : Int32) : nx x < 2 ^ 31 := by
  by_cases h : x < 0
  · have h1 : x.toInt < 0 := by have := Int32.lt_iff_toInt_lt.mp h; simpa using this
    have : nx x = 0 := by show x.toInt.toNat = 0; omega
    omega
  · obtain ⟨j, hj, rfl⟩ := nI_of h
    show (nI j).toNatClampNeg < 2 ^ 31
    rw [nI_clamp hj]; exact hj
theorem vp_pos {x : Int32} {n : Nat} (h : vp_in x n) : ¬ x < 0 := fun q => h (Or.inl q)
/-- a counter under a bound that isn't negative -/
theorem nx_nle {x : Int32} (h : ¬ x < 0) {k : Nat} (hk : k < nx x) : ¬ x ≤ nI k := by
  rw [← nI_nx h]
  exact nI_ge hk (nx_lt31 x)
theorem nx_le {x : Int32} (h : ¬ x < 0) : x ≤ nI (nx x) := by rw [nI_nx h]; exact Int32.le_refl x
theorem vp_mk {x : Int32} {n : Nat} {b : Int32} (hb : b.toInt + 1 = n) (h1 : ¬ x < 0) (h2 : x ≤ b) : vp_in x n := by
  rw [vp_in_iff]
  have e1 : ¬ x.toInt < 0 := fun q => h1 (Int32.lt_iff_toInt_lt.mpr (by simpa using q))
  have e2 := Int32.le_iff_toInt_le.mp h2
  omega
end
section
/-! what the class keeps true of its numbers, as far as its own indices need it (mine) -/
def Inv (σ : St) : Prop := (∀ i, i < 16 → vp_in (σ 1 i) 4) ∧ (∀ i, i < 16 → σ 5 i = -1 ∨ vp_in (σ 5 i) 8) ∧ vp_in (σ 40 0) 400 ∧ (¬ σ 41 0 < 0 ∧ nx (σ 41 0) ≤ 30) ∧ (¬ σ 42 0 < 0 ∧ nx (σ 42 0) ≤ 30) ∧ ∀ j, j < 30 → vp_in (σ 50 j) 16 ∧ vp_in (σ 51 j) 16
theorem inv_zone {σ : St} (h : Inv σ) {i : Nat} (hi : i < 16) : vp_in (σ 1 i) 4 := h.1 i hi
theorem inv_today {σ : St} (h : Inv σ) : vp_in (σ 40 0) 400 := h.2.2.1
theorem inv_wc {σ : St} (h : Inv σ) : ¬ σ 41 0 < 0 ∧ nx (σ 41 0) ≤ 30 := h.2.2.2.1
theorem inv_pc {σ : St} (h : Inv σ) : ¬ σ 42 0 < 0 ∧ nx (σ 42 0) ≤ 30 := h.2.2.2.2.1
theorem inv_mv {σ : St} (h : Inv σ) {j : Nat} (hj : j < 30) : vp_in (σ 50 j) 16 ∧ vp_in (σ 51 j) 16 := h.2.2.2.2.2 j hj
theorem inv_face {σ : St} (h : Inv σ) {i : Nat} (hi : i < 16) (hf : ¬ c_isFace σ i = 0) : vp_in (σ 5 i) 8 := by
  rcases h.2.1 i hi with e | e
  · exact absurd (by simp [c_isFace, e]) hf
  · exact e
theorem inv_rows {σ τ : St} (h : Inv σ) (h1 : τ 1 = σ 1) (h5 : τ 5 = σ 5) (h40 : τ 40 = σ 40) (h41 : τ 41 = σ 41) (h42 : τ 42 = σ 42) (h50 : τ 50 = σ 50) (h51 : τ 51 = σ 51) : Inv τ := by
  unfold Inv at h ⊢
  rw [h1, h5, h40, h41, h42, h50, h51]
  exact h
theorem inv_up {σ : St} {r j : Nat} {v : Int32} (hr : 1 ≠ r ∧ 5 ≠ r ∧ 40 ≠ r ∧ 41 ≠ r ∧ 42 ≠ r ∧ 50 ≠ r ∧ 51 ≠ r) (h : Inv σ) : Inv (up σ r j v) :=
  inv_rows h (up_row hr.1) (up_row hr.2.1) (up_row hr.2.2.1) (up_row hr.2.2.2.1) (up_row hr.2.2.2.2.1) (up_row hr.2.2.2.2.2.1) (up_row hr.2.2.2.2.2.2)
theorem lt30_in {x : Int32} (h0 : ¬ x < 0) (h : x < 30) : vp_in x 30 := by
  rw [vp_in_iff]
  have e1 : ¬ x.toInt < 0 := fun q => h0 (Int32.lt_iff_toInt_lt.mpr (by simpa using q))
  have e2 : x.toInt < 30 := by have := Int32.lt_iff_toInt_lt.mp h; simpa using this
  omega
theorem join_row {σ : St} {z : Int32} {r : Nat} (h : r ≠ 43 ∧ r ≠ 44 ∧ r ≠ 45) : c_join σ z r = σ r := by
  unfold c_join c_joinA c_joinB
  split
  · split
    · rw [up_row h.2.2]
    · rw [up_row h.2.2, up_row h.2.2, up_row h.2.1, up_row h.1]
  · rw [up_row h.2.2, up_row h.2.2, up_row h.2.1, up_row h.1]
theorem join_42 {σ : St} {z : Int32} : c_join σ z 42 0 = σ 42 0 := by rw [join_row (by decide)]
theorem firstOf_eq {σ : St} {n : Int32} (h : ¬ σ 40 0 < 0) (hn : ¬ n < 0) : c_firstOf σ n = nI (nx (σ 40 0) - nx n) := by
  unfold c_firstOf
  have ha := nI_nx h
  have hb := nI_nx hn
  have la := nx_lt31 (σ 40 0)
  have lb := nx_lt31 n
  generalize nx (σ 40 0) = a at ha la
  generalize nx n = b at hb lb
  rw [← ha, ← hb]
  by_cases q : a ≤ b
  · rw [if_pos (nI_le q lb), Nat.sub_eq_zero_of_le q]; exact nI_0.symm
  · rw [if_neg (nI_ge (by omega) la), pk_sub (by omega)]
theorem firstOf_pos {σ : St} {n : Int32} (h : ¬ σ 40 0 < 0) (hn : ¬ n < 0) : ¬ c_firstOf σ n < 0 := by
  rw [firstOf_eq h hn]
  exact nI_pos (Nat.lt_of_le_of_lt (Nat.sub_le _ _) (nx_lt31 _))
theorem firstOf_le {σ : St} {n : Int32} (h : ¬ σ 40 0 < 0) (hn : ¬ n < 0) : nx (c_firstOf σ n) ≤ nx (σ 40 0) := by
  rw [firstOf_eq h hn]
  show (nI _).toNatClampNeg ≤ _
  rw [nI_clamp (Nat.lt_of_le_of_lt (Nat.sub_le _ _) (nx_lt31 _))]
  exact Nat.sub_le _ _
theorem day_in {σ : St} (h : vp_in (σ 40 0) 400) {k : Nat} (hk : k < nx (σ 40 0)) : vp_in (nI k) 400 := vp_in_nI (Nat.lt_trans hk (vp_lt h)) (by decide)
theorem month_eq {σ : St} (h : ¬ σ 40 0 < 0) : c_month σ = nI (nx (σ 40 0) / 30 % 12) := by
  unfold c_month
  have ha := nI_nx h
  have la := nx_lt31 (σ 40 0)
  generalize nx (σ 40 0) = a at ha la
  rw [← ha]
  have e1 : nI a / 30 = nI (a / 30) := pk_div (d := 30) la (by decide) (by decide)
  rw [e1]
  exact pk_rem (d := 12) (by omega) (by decide) (by decide)
theorem month_in {σ : St} (h : vp_in (σ 40 0) 400) : vp_in (c_month σ) 12 := by
  rw [month_eq (vp_pos h)]
  exact vp_in_nI (Nat.mod_lt _ (by decide)) (by decide)
theorem cmp_pos_ne {d : Int64} (h : 0 < lg_cmp d 0) : ¬ d = 0 := fun q => by
  rw [q] at h
  exact absurd h (by decide)
theorem cmp_ne {d : Int64} (h : ¬ lg_cmp d 0 = 0) : ¬ d = 0 := fun q => by
  rw [q] at h
  exact h (by decide)
theorem one_lt_ne {o : Int32} (h : 1 < o) : ¬ o = 0 := fun q => by
  rw [q] at h
  exact absurd h (by decide)
theorem rg_0 {x a b : Int32} (h : c_rg x a b = 0) : ¬ x < a ∧ x ≤ b := by
  unfold c_rg at h
  split at h
  · cases h
  · split at h
    · exact ⟨by assumption, by assumption⟩
    · cases h
theorem rg_in {x b : Int32} {n : Nat} (hb : b.toInt + 1 = n) (h : c_rg x 0 b = 0) : vp_in x n := vp_mk hb (rg_0 h).1 (rg_0 h).2
theorem placeAt_in {p : Int32} (h : c_placeAt p = 0) : vp_in p 16 := rg_in (b := 15) rfl h
theorem faceAt_place {σ : St} {p : Int32} (h : c_faceAt σ p = 0) : c_placeAt p = 0 ∧ ¬ c_isFace σ (nx p) = 0 := by
  unfold c_faceAt at h
  by_cases q : c_placeAt p = 0
  · rw [c_then_0 q] at h
    refine ⟨q, fun z => ?_⟩
    rw [if_pos z] at h
    cases h
  · rw [c_then_n q] at h
    exact absurd h q
theorem toInt64_ne {x : Int32} (h : ¬ x = 0) : ¬ x.toInt64 = 0 := fun q => h (by
  have e : x.toInt64.toInt = 0 := by rw [q]; rfl
  rw [Int32.toInt_toInt64] at e
  exact Int32.toInt_inj.mp (by rw [e]; rfl))
theorem rg0 {x b : Int32} (h : c_rg x 0 b = 0) : ¬ x < 0 := (rg_0 h).1
theorem moveAt_in {σ : St} (hI : Inv σ) {i : Int32} (h : c_moveAt σ i = 0) : vp_in i 30 := by
  unfold c_moveAt at h
  split at h
  · cases h
  · split at h
    · rename_i h1 h2
      rw [vp_in_iff]
      have e1 : ¬ i.toInt < 0 := fun q => h1 (Int32.lt_iff_toInt_lt.mpr (by simpa using q))
      have e2 := Int32.lt_iff_toInt_lt.mp h2
      obtain ⟨p1, p2⟩ := inv_pc hI
      have e3 : (σ 42 0).toInt = (nx (σ 42 0) : Int) := by
        conv => lhs; rw [← nI_nx p1]
        exact nI_toInt (nx_lt31 _)
      omega
    · cases h
theorem take_row {σ : St} {i r : Nat} {n : Int32} (h : r ≠ 2 ∧ r ≠ 4) : c_takeAway σ i n r = σ r := by
  unfold c_takeAway
  split
  · rw [up_row h.2, up_row h.1]
  · rw [up_row h.1]
theorem bring_row {σ : St} {i r : Nat} {g n : Int32} (h : r ≠ 2 ∧ r ≠ 4) : c_bring σ i g n r = σ r := by
  unfold c_bring
  rw [up_row h.1, up_row h.2]
theorem inv_clear {σ : St} (h : Inv σ) : Inv (c_clear σ) := by
  obtain ⟨a, b, c, d, -, f⟩ := h
  unfold c_clear
  refine ⟨fun i hi => ?_, fun i hi => ?_, ?_, ?_, ?_, fun j hj => ?_⟩
  · simpa [up] using a i hi
  · simpa [up] using b i hi
  · simpa [up] using c
  · simpa [up] using d
  · refine ⟨by simp [up], ?_⟩
    show nx (up (up (up (up σ 42 0 0) 43 0 (-1)) 44 0 (-1)) 45 0 0 42 0) ≤ 30
    rw [up_row (by decide), up_row (by decide), up_row (by decide), up_eq]
    decide
  · simpa [up] using f j hj
theorem inv_prep0 {σ : St} (h : Inv σ) (i : Nat) : Inv (c_prep0 σ i) := inv_up (by decide) (inv_up (by decide) h)
theorem inv_prep1 {σ : St} (h : Inv σ) (i : Nat) : Inv (c_prep1 σ i) := inv_up (by decide) (inv_prep0 h i)
theorem inv_prepare {σ : St} (h : Inv σ) (i : Nat) : Inv (c_prepare σ i) := by
  unfold c_prepare
  split
  · exact inv_prep0 h i
  · exact inv_up (by decide) (inv_prep1 h i)
theorem inv_join {σ : St} (h : Inv σ) (z : Int32) : Inv (c_join σ z) := inv_rows h (join_row (by decide)) (join_row (by decide)) (join_row (by decide)) (join_row (by decide)) (join_row (by decide)) (join_row (by decide)) (join_row (by decide))
theorem nI_in16 {a : Nat} (h : a < 16) : vp_in (nI a) 16 := vp_in_nI h (by decide)
theorem inv_up50 {σ : St} {j a : Nat} (h : Inv σ) (ha : a < 16) : Inv (up σ 50 j (nI a)) := by
  obtain ⟨h1, h2, h3, h4, h5, h6⟩ := h
  refine ⟨fun i hi => by rw [up_row (by decide)]; exact h1 i hi, fun i hi => by rw [up_row (by decide)]; exact h2 i hi, by rw [up_row (by decide)]; exact h3, by rw [up_row (by decide)]; exact h4, by rw [up_row (by decide)]; exact h5, fun k hk => ⟨?_, by rw [up_row (by decide)]; exact (h6 k hk).2⟩⟩
  by_cases e : k = j
  · rw [e, up_eq]; exact nI_in16 ha
  · rw [up_ix e]; exact (h6 k hk).1
theorem inv_up51 {σ : St} {j a : Nat} (h : Inv σ) (ha : a < 16) : Inv (up σ 51 j (nI a)) := by
  obtain ⟨h1, h2, h3, h4, h5, h6⟩ := h
  refine ⟨fun i hi => by rw [up_row (by decide)]; exact h1 i hi, fun i hi => by rw [up_row (by decide)]; exact h2 i hi, by rw [up_row (by decide)]; exact h3, by rw [up_row (by decide)]; exact h4, by rw [up_row (by decide)]; exact h5, fun k hk => ⟨by rw [up_row (by decide)]; exact (h6 k hk).1, ?_⟩⟩
  by_cases e : k = j
  · rw [e, up_eq]; exact nI_in16 ha
  · rw [up_ix e]; exact (h6 k hk).2
theorem cnt_up {x : Int32} (h0 : ¬ x < 0) (h : x < 30) : ¬ x + 1 < 0 ∧ nx (x + 1) ≤ 30 := by
  have h2 := vp_lt (lt30_in h0 h)
  have e := nI_nx h0
  have l := nx_lt31 x
  generalize nx x = a at e l h2
  rw [← e, nI_1]
  refine ⟨nI_pos (by omega), ?_⟩
  show (nI (a + 1)).toNatClampNeg ≤ 30
  rw [nI_clamp (by omega)]
  omega
theorem inv_up42 {σ : St} {v : Int32} (h : Inv σ) (hv : ¬ v < 0 ∧ nx v ≤ 30) : Inv (up σ 42 0 v) := by
  obtain ⟨h1, h2, h3, h4, -, h6⟩ := h
  exact ⟨fun i hi => by rw [up_row (by decide)]; exact h1 i hi, fun i hi => by rw [up_row (by decide)]; exact h2 i hi, by rw [up_row (by decide)]; exact h3, by rw [up_row (by decide)]; exact h4, by rw [up_eq]; exact hv, fun k hk => ⟨by rw [up_row (by decide)]; exact (h6 k hk).1, by rw [up_row (by decide)]; exact (h6 k hk).2⟩⟩
theorem inv_add {σ : St} (h : Inv σ) {a b : Nat} (ha : a < 16) (hb : b < 16) (n : Int32) : Inv (c_add σ a b n) := by
  unfold c_add
  split
  · rename_i hc
    dsimp only
    refine inv_up42 (inv_up (by decide) (inv_up (by decide) (inv_up (by decide) (inv_up (by decide) (inv_up (by decide) (inv_up51 (inv_up50 (inv_join h _) ha) hb)))))) ?_
    rw [up_row (by decide), up_row (by decide), up_row (by decide), up_row (by decide), up_row (by decide), up_row (by decide), up_row (by decide), join_42]
    exact cnt_up (inv_pc h).1 hc
  · exact h
theorem inv_planMove {σ : St} (h : Inv σ) {a b : Nat} (ha : a < 16) (hb : b < 16) : Inv (c_planMove σ a b) := by
  unfold c_planMove
  dsimp only
  split
  · exact h
  · split
    · exact inv_add (inv_up (by decide) (inv_up (by decide) h)) ha hb _
    · exact h
theorem foldN_inv {α : Type} {f : Nat → α → α} (I : α → Prop) (hs : ∀ k a, k < 16 → I a → I (f k a)) : ∀ n k a, k + n ≤ 16 → I a → I (foldN f n k a) := by
  intro n
  induction n with
  | zero => intro k a _ h; exact h
  | succ n ih => intro k a hk h; exact ih (k + 1) (f k a) (by omega) (hs k a (by omega) h)
theorem nx16 {k : Nat} (h : k < 16) : nx (nI k) < 16 := vp_lt (nI_in16 h)
theorem inv_takeF {σ : St} (h : Inv σ) {b k : Nat} (hb : b < 16) (hk : k < 16) (z : Int32) : Inv (c_takeF b z k σ) := by
  unfold c_takeF
  by_cases h1 : (if σ 1 (nx (nI k)) = σ 1 b then (1 : Int32) else 0) = z
  · rw [if_pos h1]
    by_cases h2 : c_isReserveOf σ (nx (nI k)) (σ 5 b) = 0
    · rw [if_pos h2]; exact h
    · rw [if_neg h2]; exact inv_planMove h (nx16 hk) hb
  · rw [if_neg h1]; exact h
theorem inv_takeFrom {σ : St} (h : Inv σ) {b : Nat} (hb : b < 16) (z : Int32) : Inv (c_takeFrom σ b z) := by
  unfold c_takeFrom
  exact foldN_inv Inv (fun _ _ hk h => inv_takeF h hb hk z) 16 0 σ (by decide) h
theorem inv_serve {σ : St} (h : Inv σ) {b : Nat} (hb : b < 16) : Inv (c_serve σ b) := inv_up (by decide) (inv_takeFrom (inv_takeFrom h hb 1) hb 0)
theorem urgF_lt {σ : St} {k : Nat} (hk : k < 16) {r : Option Nat} (hr : ∀ j, r = some j → j < 16) : ∀ j, c_urgF σ k r = some j → j < 16 := by
  intro j h
  unfold c_urgF at h
  split at h
  · exact hr j h
  · split at h
    · cases h; exact nx16 hk
    · split at h
      · exact hr j h
      · cases h; exact nx16 hk
theorem urgent_lt {σ : St} {b : Nat} (h : c_urgent σ = some b) : b < 16 := foldN_inv (f := c_urgF σ) (fun r => ∀ j, r = some j → j < 16) (fun _ _ hk h => urgF_lt hk h) 16 0 none (by decide) (fun _ h => by cases h) b h
theorem runF_none {σ : St} (h : c_urgent σ = none) : ∀ n k, foldN (fun _ σ => c_runF σ) n k σ = σ := by
  intro n
  induction n with
  | zero => intro k; rfl
  | succ n ih => intro k; rw [foldN_s, show c_runF σ = σ from by unfold c_runF; rw [h]]; exact ih (k + 1)
theorem inv_runF {σ : St} (h : Inv σ) : Inv (c_runF σ) := by
  unfold c_runF
  split
  · exact h
  · rename_i b hb
    exact inv_serve h (urgent_lt hb)
theorem inv_runS {σ : St} (h : Inv σ) : Inv (c_runS σ) := by
  unfold c_runS
  exact foldN_inv Inv (fun _ _ _ h => inv_runF h) 16 0 _ (by decide) (foldN_inv Inv (fun _ _ _ h => inv_prepare h _) 16 0 _ (by decide) (inv_clear h))
end
section
set_option maxHeartbeats 4000000 in
set_option maxRecDepth 100000 in
theorem m_Place_isFace (l : Launch) (G : va_G) (cA : Nat → ClassId) (ad : Nat → Nat) (σ : St) (a0 : Nat) (ha0 : a0 < 16) : Met l yX2_isFace (wX2_isFace :: wG) ({ frames := 0, cells := 0, slots := 0, locals := 0 }) (va_Pc [.ref (ad a0)] (rrW G cA ad σ)) (vp_Si (fun r => r = c_isFace σ a0)) 0 0 (fun _ => False) := by
  refine Met.ofW (cc := cX2_isFace) (maxL := 1) (ret := (some .boolean)) (by decide) rfl ?_
  intro p e s m args below meth c s₁ B hml hv
  obtain ⟨rfl, hP, hK⟩ := hv
  have hx := B.exec
  have hb := B.bytes
  have hr := B.returns
  have hts := atoms_spec (ws := wX2_isFace :: wG) B.pre
  have hg : ∀ w ∈ wG, w.before _ s = true := fun w h => hts w (List.mem_cons_of_mem _ h)
  have hown : s.vm.findClass RX2 = some m.cls := findClass_of_methodNamed B.named
  have hlocks := B.notSynchronized
  have hl := lv_entry ([.ref (ad a0)]) (n := 1) (Nat.le_of_ble_eq_true rfl)
  rw [lg_entry_eq]
  generalize (lg_sl ([.ref (ad a0)]) ++ List.replicate (1 - (lg_sl ([.ref (ad a0)])).length) Slot.unset).toArray = ls at hl ⊢
  have hl : lv_has ls 1 [(0, .ref (ad a0))] := hl
  refine lv_aload_n hx hb dX2_isFace_0 rfl (lv_at hl 0 rfl) ?_
  refine va_get (D := G) (ci := 2) (v := .int (σ 5 a0)) (C := RX2) (T := TX2) (N := 13) hx hb hg hinX2 hown hK hP a0 (rl_Place ha0) rfl 7 (by decide) (hg _ qF_X2_31) (fun _ h9 => h9) rfl dX2_isFace_1 ?_
  refine lv_iconst (v := (-1)) hx hb dX2_isFace_4 (by decide) ?_
  refine lv_icmp_eq (tgt := 12) hx hb dX2_isFace_5 (by decide) (fun c_5 => ?_) (fun c_5 => ?_)
  · -- if_icmpeq taken
    refine lv_iconst (v := 0) hx hb dX2_isFace_12 (by decide) ?_
    exact W.zret (v := 0) (ty := .boolean) hx hb hr (by decide) (fun t ht hW => ⟨_, rfl, by simp only [c_isFace, if_pos c_5], ht⟩) (fun _ h => nomatch h) dX2_isFace_13
  · -- if_icmpeq not taken
    refine lv_iconst (v := 1) hx hb dX2_isFace_8 (by decide) ?_
    refine lv_goto (tgt := 13) hx hb dX2_isFace_9 (by decide) ?_
    exact W.zret (v := 1) (ty := .boolean) hx hb hr (by decide) (fun t ht hW => ⟨_, rfl, by simp only [c_isFace, if_neg c_5], ht⟩) (fun _ h => nomatch h) dX2_isFace_13

set_option maxHeartbeats 4000000 in
set_option maxRecDepth 100000 in
theorem m_Place_isFaceOfAnother (l : Launch) (G : va_G) (cA : Nat → ClassId) (ad : Nat → Nat) (σ : St) (a0 : Nat) (ha0 : a0 < 16) (b0 : Int32) : Met l yX2_isFaceOfAnother (wX2_isFaceOfAnother :: wG) ({ frames := 1, cells := 0, slots := 0, locals := 20 }) (va_Pc [.ref (ad a0), .int b0] (rrW G cA ad σ)) (vp_Si (fun r => r = c_isFaceOfAnother σ a0 b0)) 0 0 (fun _ => False) := by
  refine Met.ofW (cc := cX2_isFaceOfAnother) (maxL := 2) (ret := (some .boolean)) (by decide) rfl ?_
  intro p e s m args below meth c s₁ B hml hv
  obtain ⟨rfl, hP, hK⟩ := hv
  have hx := B.exec
  have hb := B.bytes
  have hr := B.returns
  have hts := atoms_spec (ws := wX2_isFaceOfAnother :: wG) B.pre
  have hg : ∀ w ∈ wG, w.before _ s = true := fun w h => hts w (List.mem_cons_of_mem _ h)
  have hown : s.vm.findClass RX2 = some m.cls := findClass_of_methodNamed B.named
  have hlocks := B.notSynchronized
  have hl := lv_entry ([.ref (ad a0), .int b0]) (n := 2) (Nat.le_of_ble_eq_true rfl)
  rw [lg_entry_eq]
  generalize (lg_sl ([.ref (ad a0), .int b0]) ++ List.replicate (2 - (lg_sl ([.ref (ad a0), .int b0])).length) Slot.unset).toArray = ls at hl ⊢
  have hl : lv_has ls 2 [(0, .ref (ad a0)), (1, .int b0)] := hl
  refine lv_aload_n hx hb dX2_isFaceOfAnother_0 rfl (lv_at hl 0 rfl) ?_
  refine vp_callSi (W.runV (As := []) (rest := []) ⟨hx, hb, hml, hown, hg⟩ (m_Place_isFace l G cA ad σ a0 ha0) (cwV 0 hg (gV qM_X2_52 qI_X2_isFace qS_X2_isFace qN_X2 kX2_isFace) rfl rfl rfl (by decide +kernel) ⟨Nat.le_of_ble_eq_true rfl, Nat.le_of_ble_eq_true rfl⟩) (rr_pv hK hP (va_recv hK hP (ci := 2) (q0 := a0) rfl (rl_Place ha0))) rfl rfl hl.1 rfl (lv_room (Nat.le_of_ble_eq_true rfl)) dX2_isFaceOfAnother_1 ⟨Nat.le_of_ble_eq_true rfl, Nat.le_of_ble_eq_true rfl⟩) (nm_e ?_)
  refine lv_if_eq (tgt := 19) hx hb dX2_isFaceOfAnother_4 (by decide) (fun c_4 => ?_) (fun c_4 => ?_)
  · -- ifeq taken
    refine lv_iconst (v := 0) hx hb dX2_isFaceOfAnother_19 (by decide) ?_
    exact W.zret (v := 0) (ty := .boolean) hx hb hr (by decide) (fun t ht hW => ⟨_, rfl, by simp only [c_isFaceOfAnother, if_pos c_4], ht⟩) (fun _ h => nomatch h) dX2_isFaceOfAnother_20
  · -- ifeq not taken
    refine lv_aload_n hx hb dX2_isFaceOfAnother_7 rfl (lv_at hl 0 rfl) ?_
    refine va_get (D := G) (ci := 2) (v := .int (σ 5 a0)) (C := RX2) (T := TX2) (N := 13) hx hb hg hinX2 hown hK hP a0 (rl_Place ha0) rfl 7 (by decide) (hg _ qF_X2_31) (fun _ h9 => h9) rfl dX2_isFaceOfAnother_8 ?_
    refine lv_iload_n hx hb dX2_isFaceOfAnother_11 rfl (lv_at hl 1 rfl) ?_
    refine lv_icmp_eq (tgt := 19) hx hb dX2_isFaceOfAnother_12 (by decide) (fun c_12 => ?_) (fun c_12 => ?_)
    · -- if_icmpeq taken
      refine lv_iconst (v := 0) hx hb dX2_isFaceOfAnother_19 (by decide) ?_
      exact W.zret (v := 0) (ty := .boolean) hx hb hr (by decide) (fun t ht hW => ⟨_, rfl, by simp only [c_isFaceOfAnother, if_neg c_4, if_pos c_12], ht⟩) (fun _ h => nomatch h) dX2_isFaceOfAnother_20
    · -- if_icmpeq not taken
      refine lv_iconst (v := 1) hx hb dX2_isFaceOfAnother_15 (by decide) ?_
      refine lv_goto (tgt := 20) hx hb dX2_isFaceOfAnother_16 (by decide) ?_
      exact W.zret (v := 1) (ty := .boolean) hx hb hr (by decide) (fun t ht hW => ⟨_, rfl, by simp only [c_isFaceOfAnother, if_neg c_4, if_neg c_12], ht⟩) (fun _ h => nomatch h) dX2_isFaceOfAnother_20

set_option maxHeartbeats 4000000 in
set_option maxRecDepth 100000 in
theorem m_Place_isReserveOf (l : Launch) (G : va_G) (cA : Nat → ClassId) (ad : Nat → Nat) (σ : St) (a0 : Nat) (ha0 : a0 < 16) (b0 : Int32) : Met l yX2_isReserveOf (wX2_isReserveOf :: wG) ({ frames := 1, cells := 0, slots := 0, locals := 20 }) (va_Pc [.ref (ad a0), .int b0] (rrW G cA ad σ)) (vp_Si (fun r => r = c_isReserveOf σ a0 b0)) 0 0 (fun _ => False) := by
  refine Met.ofW (cc := cX2_isReserveOf) (maxL := 2) (ret := (some .boolean)) (by decide) rfl ?_
  intro p e s m args below meth c s₁ B hml hv
  obtain ⟨rfl, hP, hK⟩ := hv
  have hx := B.exec
  have hb := B.bytes
  have hr := B.returns
  have hts := atoms_spec (ws := wX2_isReserveOf :: wG) B.pre
  have hg : ∀ w ∈ wG, w.before _ s = true := fun w h => hts w (List.mem_cons_of_mem _ h)
  have hown : s.vm.findClass RX2 = some m.cls := findClass_of_methodNamed B.named
  have hlocks := B.notSynchronized
  have hl := lv_entry ([.ref (ad a0), .int b0]) (n := 2) (Nat.le_of_ble_eq_true rfl)
  rw [lg_entry_eq]
  generalize (lg_sl ([.ref (ad a0), .int b0]) ++ List.replicate (2 - (lg_sl ([.ref (ad a0), .int b0])).length) Slot.unset).toArray = ls at hl ⊢
  have hl : lv_has ls 2 [(0, .ref (ad a0)), (1, .int b0)] := hl
  refine lv_aload_n hx hb dX2_isReserveOf_0 rfl (lv_at hl 0 rfl) ?_
  refine vp_callSi (W.runV (As := []) (rest := []) ⟨hx, hb, hml, hown, hg⟩ (m_Place_isFace l G cA ad σ a0 ha0) (cwV 0 hg (gV qM_X2_52 qI_X2_isFace qS_X2_isFace qN_X2 kX2_isFace) rfl rfl rfl (by decide +kernel) ⟨Nat.le_of_ble_eq_true rfl, Nat.le_of_ble_eq_true rfl⟩) (rr_pv hK hP (va_recv hK hP (ci := 2) (q0 := a0) rfl (rl_Place ha0))) rfl rfl hl.1 rfl (lv_room (Nat.le_of_ble_eq_true rfl)) dX2_isReserveOf_1 ⟨Nat.le_of_ble_eq_true rfl, Nat.le_of_ble_eq_true rfl⟩) (nm_e ?_)
  refine lv_if_ne (tgt := 19) hx hb dX2_isReserveOf_4 (by decide) (fun c_4 => ?_) (fun c_4 => ?_)
  · -- ifne taken
    refine lv_iconst (v := 0) hx hb dX2_isReserveOf_19 (by decide) ?_
    exact W.zret (v := 0) (ty := .boolean) hx hb hr (by decide) (fun t ht hW => ⟨_, rfl, by simp only [c_isReserveOf, if_neg c_4], ht⟩) (fun _ h => nomatch h) dX2_isReserveOf_20
  · -- ifne not taken
    refine lv_aload_n hx hb dX2_isReserveOf_7 rfl (lv_at hl 0 rfl) ?_
    refine va_get (D := G) (ci := 2) (v := .int (σ 4 a0)) (C := RX2) (T := TX2) (N := 13) hx hb hg hinX2 hown hK hP a0 (rl_Place ha0) rfl 6 (by decide) (hg _ qF_X2_28) (fun _ h9 => h9) rfl dX2_isReserveOf_8 ?_
    refine lv_iload_n hx hb dX2_isReserveOf_11 rfl (lv_at hl 1 rfl) ?_
    refine lv_icmp_ne (tgt := 19) hx hb dX2_isReserveOf_12 (by decide) (fun c_12 => ?_) (fun c_12 => ?_)
    · -- if_icmpne taken
      refine lv_iconst (v := 0) hx hb dX2_isReserveOf_19 (by decide) ?_
      exact W.zret (v := 0) (ty := .boolean) hx hb hr (by decide) (fun t ht hW => ⟨_, rfl, by simp only [c_isReserveOf, if_pos c_4, if_neg c_12], ht⟩) (fun _ h => nomatch h) dX2_isReserveOf_20
    · -- if_icmpne not taken
      refine lv_iconst (v := 1) hx hb dX2_isReserveOf_15 (by decide) ?_
      refine lv_goto (tgt := 20) hx hb dX2_isReserveOf_16 (by decide) ?_
      exact W.zret (v := 1) (ty := .boolean) hx hb hr (by decide) (fun t ht hW => ⟨_, rfl, by simp only [c_isReserveOf, if_pos c_4, if_pos c_12], ht⟩) (fun _ h => nomatch h) dX2_isReserveOf_20

set_option maxHeartbeats 4000000 in
set_option maxRecDepth 100000 in
theorem m_Place_holdsAnother (l : Launch) (G : va_G) (cA : Nat → ClassId) (ad : Nat → Nat) (σ : St) (a0 : Nat) (ha0 : a0 < 16) (b0 : Int32) : Met l yX2_holdsAnother (wX2_holdsAnother :: wG) ({ frames := 0, cells := 0, slots := 0, locals := 0 }) (va_Pc [.ref (ad a0), .int b0] (rrW G cA ad σ)) (vp_Si (fun r => r = c_holdsAnother σ a0 b0)) 0 0 (fun _ => False) := by
  refine Met.ofW (cc := cX2_holdsAnother) (maxL := 2) (ret := (some .boolean)) (by decide) rfl ?_
  intro p e s m args below meth c s₁ B hml hv
  obtain ⟨rfl, hP, hK⟩ := hv
  have hx := B.exec
  have hb := B.bytes
  have hr := B.returns
  have hts := atoms_spec (ws := wX2_holdsAnother :: wG) B.pre
  have hg : ∀ w ∈ wG, w.before _ s = true := fun w h => hts w (List.mem_cons_of_mem _ h)
  have hown : s.vm.findClass RX2 = some m.cls := findClass_of_methodNamed B.named
  have hlocks := B.notSynchronized
  have hl := lv_entry ([.ref (ad a0), .int b0]) (n := 2) (Nat.le_of_ble_eq_true rfl)
  rw [lg_entry_eq]
  generalize (lg_sl ([.ref (ad a0), .int b0]) ++ List.replicate (2 - (lg_sl ([.ref (ad a0), .int b0])).length) Slot.unset).toArray = ls at hl ⊢
  have hl : lv_has ls 2 [(0, .ref (ad a0)), (1, .int b0)] := hl
  refine lv_aload_n hx hb dX2_holdsAnother_0 rfl (lv_at hl 0 rfl) ?_
  refine va_get (D := G) (ci := 2) (v := .int (σ 4 a0)) (C := RX2) (T := TX2) (N := 13) hx hb hg hinX2 hown hK hP a0 (rl_Place ha0) rfl 6 (by decide) (hg _ qF_X2_28) (fun _ h9 => h9) rfl dX2_holdsAnother_1 ?_
  refine lv_iconst (v := (-1)) hx hb dX2_holdsAnother_4 (by decide) ?_
  refine lv_icmp_eq (tgt := 20) hx hb dX2_holdsAnother_5 (by decide) (fun c_5 => ?_) (fun c_5 => ?_)
  · -- if_icmpeq taken
    refine lv_iconst (v := 0) hx hb dX2_holdsAnother_20 (by decide) ?_
    exact W.zret (v := 0) (ty := .boolean) hx hb hr (by decide) (fun t ht hW => ⟨_, rfl, by simp only [c_holdsAnother, if_pos c_5], ht⟩) (fun _ h => nomatch h) dX2_holdsAnother_21
  · -- if_icmpeq not taken
    refine lv_aload_n hx hb dX2_holdsAnother_8 rfl (lv_at hl 0 rfl) ?_
    refine va_get (D := G) (ci := 2) (v := .int (σ 4 a0)) (C := RX2) (T := TX2) (N := 13) hx hb hg hinX2 hown hK hP a0 (rl_Place ha0) rfl 6 (by decide) (hg _ qF_X2_28) (fun _ h9 => h9) rfl dX2_holdsAnother_9 ?_
    refine lv_iload_n hx hb dX2_holdsAnother_12 rfl (lv_at hl 1 rfl) ?_
    refine lv_icmp_eq (tgt := 20) hx hb dX2_holdsAnother_13 (by decide) (fun c_13 => ?_) (fun c_13 => ?_)
    · -- if_icmpeq taken
      refine lv_iconst (v := 0) hx hb dX2_holdsAnother_20 (by decide) ?_
      exact W.zret (v := 0) (ty := .boolean) hx hb hr (by decide) (fun t ht hW => ⟨_, rfl, by simp only [c_holdsAnother, if_neg c_5, if_pos c_13], ht⟩) (fun _ h => nomatch h) dX2_holdsAnother_21
    · -- if_icmpeq not taken
      refine lv_iconst (v := 1) hx hb dX2_holdsAnother_16 (by decide) ?_
      refine lv_goto (tgt := 21) hx hb dX2_holdsAnother_17 (by decide) ?_
      exact W.zret (v := 1) (ty := .boolean) hx hb hr (by decide) (fun t ht hW => ⟨_, rfl, by simp only [c_holdsAnother, if_neg c_5, if_neg c_13], ht⟩) (fun _ h => nomatch h) dX2_holdsAnother_21

set_option maxHeartbeats 4000000 in
set_option maxRecDepth 100000 in
theorem m_Place_space (l : Launch) (G : va_G) (cA : Nat → ClassId) (ad : Nat → Nat) (σ : St) (a0 : Nat) (ha0 : a0 < 16) : Met l yX2_space (wX2_space :: wG) ({ frames := 0, cells := 0, slots := 0, locals := 0 }) (va_Pc [.ref (ad a0)] (rrW G cA ad σ)) (vp_Si (fun r => r = c_space σ a0)) 0 0 (fun _ => False) := by
  refine Met.ofW (cc := cX2_space) (maxL := 1) (ret := (some .int)) (by decide) rfl ?_
  intro p e s m args below meth c s₁ B hml hv
  obtain ⟨rfl, hP, hK⟩ := hv
  have hx := B.exec
  have hb := B.bytes
  have hr := B.returns
  have hts := atoms_spec (ws := wX2_space :: wG) B.pre
  have hg : ∀ w ∈ wG, w.before _ s = true := fun w h => hts w (List.mem_cons_of_mem _ h)
  have hown : s.vm.findClass RX2 = some m.cls := findClass_of_methodNamed B.named
  have hlocks := B.notSynchronized
  have hl := lv_entry ([.ref (ad a0)]) (n := 1) (Nat.le_of_ble_eq_true rfl)
  rw [lg_entry_eq]
  generalize (lg_sl ([.ref (ad a0)]) ++ List.replicate (1 - (lg_sl ([.ref (ad a0)])).length) Slot.unset).toArray = ls at hl ⊢
  have hl : lv_has ls 1 [(0, .ref (ad a0))] := hl
  refine lv_aload_n hx hb dX2_space_0 rfl (lv_at hl 0 rfl) ?_
  refine va_get (D := G) (ci := 2) (v := .int (σ 0 a0)) (C := RX2) (T := TX2) (N := 13) hx hb hg hinX2 hown hK hP a0 (rl_Place ha0) rfl 2 (by decide) (hg _ qF_X2_15) (fun _ h9 => h9) rfl dX2_space_1 ?_
  refine lv_aload_n hx hb dX2_space_4 rfl (lv_at hl 0 rfl) ?_
  refine va_get (D := G) (ci := 2) (v := .int (σ 2 a0)) (C := RX2) (T := TX2) (N := 13) hx hb hg hinX2 hown hK hP a0 (rl_Place ha0) rfl 4 (by decide) (hg _ qF_X2_22) (fun _ h9 => h9) rfl dX2_space_5 ?_
  refine lv_isub hx hb dX2_space_8 ?_
  exact W.iret (v := (σ 0 a0) - (σ 2 a0)) hx hb hr (fun t ht hW => ⟨_, rfl, rfl, ht⟩) (fun _ h => nomatch h) dX2_space_9

set_option maxHeartbeats 4000000 in
set_option maxRecDepth 100000 in
theorem m_Place_notHeld (l : Launch) (G : va_G) (cA : Nat → ClassId) (ad : Nat → Nat) (σ : St) (a0 : Nat) (ha0 : a0 < 16) : Met l yX2_notHeld (wX2_notHeld :: wG) ({ frames := 0, cells := 0, slots := 0, locals := 0 }) (va_Pc [.ref (ad a0)] (rrW G cA ad σ)) (vp_Si (fun r => r = c_notHeld σ a0)) 0 0 (fun _ => False) := by
  refine Met.ofW (cc := cX2_notHeld) (maxL := 1) (ret := (some .int)) (by decide) rfl ?_
  intro p e s m args below meth c s₁ B hml hv
  obtain ⟨rfl, hP, hK⟩ := hv
  have hx := B.exec
  have hb := B.bytes
  have hr := B.returns
  have hts := atoms_spec (ws := wX2_notHeld :: wG) B.pre
  have hg : ∀ w ∈ wG, w.before _ s = true := fun w h => hts w (List.mem_cons_of_mem _ h)
  have hown : s.vm.findClass RX2 = some m.cls := findClass_of_methodNamed B.named
  have hlocks := B.notSynchronized
  have hl := lv_entry ([.ref (ad a0)]) (n := 1) (Nat.le_of_ble_eq_true rfl)
  rw [lg_entry_eq]
  generalize (lg_sl ([.ref (ad a0)]) ++ List.replicate (1 - (lg_sl ([.ref (ad a0)])).length) Slot.unset).toArray = ls at hl ⊢
  have hl : lv_has ls 1 [(0, .ref (ad a0))] := hl
  refine lv_aload_n hx hb dX2_notHeld_0 rfl (lv_at hl 0 rfl) ?_
  refine va_get (D := G) (ci := 2) (v := .int (σ 2 a0)) (C := RX2) (T := TX2) (N := 13) hx hb hg hinX2 hown hK hP a0 (rl_Place ha0) rfl 4 (by decide) (hg _ qF_X2_22) (fun _ h9 => h9) rfl dX2_notHeld_1 ?_
  refine lv_aload_n hx hb dX2_notHeld_4 rfl (lv_at hl 0 rfl) ?_
  refine va_get (D := G) (ci := 2) (v := .int (σ 3 a0)) (C := RX2) (T := TX2) (N := 13) hx hb hg hinX2 hown hK hP a0 (rl_Place ha0) rfl 5 (by decide) (hg _ qF_X2_25) (fun _ h9 => h9) rfl dX2_notHeld_5 ?_
  refine lv_isub hx hb dX2_notHeld_8 ?_
  exact W.iret (v := (σ 2 a0) - (σ 3 a0)) hx hb hr (fun t ht hW => ⟨_, rfl, rfl, ht⟩) (fun _ h => nomatch h) dX2_notHeld_9

set_option maxHeartbeats 4000000 in
set_option maxRecDepth 100000 in
theorem m_Place_free (l : Launch) (G : va_G) (cA : Nat → ClassId) (ad : Nat → Nat) (σ : St) (a0 : Nat) (ha0 : a0 < 16) : Met l yX2_free (wX2_free :: wG) ({ frames := 1, cells := 0, slots := 0, locals := 20 }) (va_Pc [.ref (ad a0)] (rrW G cA ad σ)) (vp_Si (fun r => r = c_free σ a0)) 0 0 (fun _ => False) := by
  refine Met.ofW (cc := cX2_free) (maxL := 1) (ret := (some .int)) (by decide) rfl ?_
  intro p e s m args below meth c s₁ B hml hv
  obtain ⟨rfl, hP, hK⟩ := hv
  have hx := B.exec
  have hb := B.bytes
  have hr := B.returns
  have hts := atoms_spec (ws := wX2_free :: wG) B.pre
  have hg : ∀ w ∈ wG, w.before _ s = true := fun w h => hts w (List.mem_cons_of_mem _ h)
  have hown : s.vm.findClass RX2 = some m.cls := findClass_of_methodNamed B.named
  have hlocks := B.notSynchronized
  have hl := lv_entry ([.ref (ad a0)]) (n := 1) (Nat.le_of_ble_eq_true rfl)
  rw [lg_entry_eq]
  generalize (lg_sl ([.ref (ad a0)]) ++ List.replicate (1 - (lg_sl ([.ref (ad a0)])).length) Slot.unset).toArray = ls at hl ⊢
  have hl : lv_has ls 1 [(0, .ref (ad a0))] := hl
  refine lv_aload_n hx hb dX2_free_0 rfl (lv_at hl 0 rfl) ?_
  refine vp_callSi (W.runV (As := []) (rest := []) ⟨hx, hb, hml, hown, hg⟩ (m_Place_notHeld l G cA ad σ a0 ha0) (cwV 0 hg (gV qM_X2_56 qI_X2_notHeld qS_X2_notHeld qN_X2 kX2_notHeld) rfl rfl rfl (by decide +kernel) ⟨Nat.le_of_ble_eq_true rfl, Nat.le_of_ble_eq_true rfl⟩) (rr_pv hK hP (va_recv hK hP (ci := 2) (q0 := a0) rfl (rl_Place ha0))) rfl rfl hl.1 rfl (lv_room (Nat.le_of_ble_eq_true rfl)) dX2_free_1 ⟨Nat.le_of_ble_eq_true rfl, Nat.le_of_ble_eq_true rfl⟩) (nm_e ?_)
  refine lv_aload_n hx hb dX2_free_4 rfl (lv_at hl 0 rfl) ?_
  refine va_get (D := G) (ci := 2) (v := .int (σ 8 a0)) (C := RX2) (T := TX2) (N := 13) hx hb hg hinX2 hown hK hP a0 (rl_Place ha0) rfl 10 (by decide) (hg _ qF_X2_40) (fun _ h9 => h9) rfl dX2_free_5 ?_
  refine lv_isub hx hb dX2_free_8 ?_
  exact W.iret (v := (c_notHeld σ a0) - (σ 8 a0)) hx hb hr (fun t ht hW => ⟨_, rfl, rfl, ht⟩) (fun _ h => nomatch h) dX2_free_9

set_option maxHeartbeats 4000000 in
set_option maxRecDepth 100000 in
theorem m_Rule_kindOn (l : Launch) (G : va_G) (cA : Nat → ClassId) (ad : Nat → Nat) (σ : St) (a0 : Nat) (ha0 : a0 < 4) (b0 : Int32) : Met l yX4_kindOn (wX4_kindOn :: wG) ({ frames := 0, cells := 0, slots := 0, locals := 0 }) (va_Pc [.ref (ad (32 + a0)), .int b0] (rrW G cA ad σ)) (vp_Si (fun r => r = c_kindOn σ a0 b0)) 0 0 (fun _ => False) := by
  refine Met.ofW (cc := cX4_kindOn) (maxL := 2) (ret := (some .int)) (by decide) rfl ?_
  intro p e s m args below meth c s₁ B hml hv
  obtain ⟨rfl, hP, hK⟩ := hv
  have hx := B.exec
  have hb := B.bytes
  have hr := B.returns
  have hts := atoms_spec (ws := wX4_kindOn :: wG) B.pre
  have hg : ∀ w ∈ wG, w.before _ s = true := fun w h => hts w (List.mem_cons_of_mem _ h)
  have hown : s.vm.findClass RX4 = some m.cls := findClass_of_methodNamed B.named
  have hlocks := B.notSynchronized
  have hl := lv_entry ([.ref (ad (32 + a0)), .int b0]) (n := 2) (Nat.le_of_ble_eq_true rfl)
  rw [lg_entry_eq]
  generalize (lg_sl ([.ref (ad (32 + a0)), .int b0]) ++ List.replicate (2 - (lg_sl ([.ref (ad (32 + a0)), .int b0])).length) Slot.unset).toArray = ls at hl ⊢
  have hl : lv_has ls 2 [(0, .ref (ad (32 + a0))), (1, .int b0)] := hl
  refine lv_iload_n hx hb dX4_kindOn_0 rfl (lv_at hl 1 rfl) ?_
  refine lv_aload_n hx hb dX4_kindOn_1 rfl (lv_at hl 0 rfl) ?_
  refine va_get (D := G) (ci := 4) (v := .int (σ 22 a0)) (C := RX4) (T := TX4) (N := 3) hx hb hg hinX4 hown hK hP (32 + a0) (rl_Rule ha0) rfl 2 (by decide) (hg _ qF_X4_18) (fun _ h9 => h9) rfl dX4_kindOn_2 ?_
  refine lv_icmp_le (tgt := 12) hx hb dX4_kindOn_5 (by decide) (fun c_5 => ?_) (fun c_5 => ?_)
  · -- if_icmple taken
    refine lv_aload_n hx hb dX4_kindOn_12 rfl (lv_at hl 0 rfl) ?_
    refine va_get (D := G) (ci := 4) (v := .int (σ 20 a0)) (C := RX4) (T := TX4) (N := 3) hx hb hg hinX4 hown hK hP (32 + a0) (rl_Rule ha0) rfl 0 (by decide) (hg _ qF_X4_9) (fun _ h9 => h9) rfl dX4_kindOn_13 ?_
    exact W.iret (v := σ 20 a0) hx hb hr (fun t ht hW => ⟨_, rfl, by simp only [c_kindOn, if_pos c_5], ht⟩) (fun _ h => nomatch h) dX4_kindOn_16
  · -- if_icmple not taken
    refine lv_iconst (v := 0) hx hb dX4_kindOn_8 (by decide) ?_
    refine lv_goto (tgt := 16) hx hb dX4_kindOn_9 (by decide) ?_
    exact W.iret (v := 0) hx hb hr (fun t ht hW => ⟨_, rfl, by simp only [c_kindOn, if_neg c_5], ht⟩) (fun _ h => nomatch h) dX4_kindOn_16

set_option maxHeartbeats 4000000 in
set_option maxRecDepth 100000 in
theorem m_Rule_aheadOn (l : Launch) (G : va_G) (cA : Nat → ClassId) (ad : Nat → Nat) (σ : St) (a0 : Nat) (ha0 : a0 < 4) (b0 : Int32) : Met l yX4_aheadOn (wX4_aheadOn :: wG) ({ frames := 0, cells := 0, slots := 0, locals := 0 }) (va_Pc [.ref (ad (32 + a0)), .int b0] (rrW G cA ad σ)) (vp_Si (fun r => r = c_aheadOn σ a0 b0)) 0 0 (fun _ => False) := by
  refine Met.ofW (cc := cX4_aheadOn) (maxL := 2) (ret := (some .int)) (by decide) rfl ?_
  intro p e s m args below meth c s₁ B hml hv
  obtain ⟨rfl, hP, hK⟩ := hv
  have hx := B.exec
  have hb := B.bytes
  have hr := B.returns
  have hts := atoms_spec (ws := wX4_aheadOn :: wG) B.pre
  have hg : ∀ w ∈ wG, w.before _ s = true := fun w h => hts w (List.mem_cons_of_mem _ h)
  have hown : s.vm.findClass RX4 = some m.cls := findClass_of_methodNamed B.named
  have hlocks := B.notSynchronized
  have hl := lv_entry ([.ref (ad (32 + a0)), .int b0]) (n := 2) (Nat.le_of_ble_eq_true rfl)
  rw [lg_entry_eq]
  generalize (lg_sl ([.ref (ad (32 + a0)), .int b0]) ++ List.replicate (2 - (lg_sl ([.ref (ad (32 + a0)), .int b0])).length) Slot.unset).toArray = ls at hl ⊢
  have hl : lv_has ls 2 [(0, .ref (ad (32 + a0))), (1, .int b0)] := hl
  refine lv_iload_n hx hb dX4_aheadOn_0 rfl (lv_at hl 1 rfl) ?_
  refine lv_aload_n hx hb dX4_aheadOn_1 rfl (lv_at hl 0 rfl) ?_
  refine va_get (D := G) (ci := 4) (v := .int (σ 22 a0)) (C := RX4) (T := TX4) (N := 3) hx hb hg hinX4 hown hK hP (32 + a0) (rl_Rule ha0) rfl 2 (by decide) (hg _ qF_X4_18) (fun _ h9 => h9) rfl dX4_aheadOn_2 ?_
  refine lv_icmp_le (tgt := 12) hx hb dX4_aheadOn_5 (by decide) (fun c_5 => ?_) (fun c_5 => ?_)
  · -- if_icmple taken
    refine lv_aload_n hx hb dX4_aheadOn_12 rfl (lv_at hl 0 rfl) ?_
    refine va_get (D := G) (ci := 4) (v := .int (σ 21 a0)) (C := RX4) (T := TX4) (N := 3) hx hb hg hinX4 hown hK hP (32 + a0) (rl_Rule ha0) rfl 1 (by decide) (hg _ qF_X4_15) (fun _ h9 => h9) rfl dX4_aheadOn_13 ?_
    exact W.iret (v := σ 21 a0) hx hb hr (fun t ht hW => ⟨_, rfl, by simp only [c_aheadOn, if_pos c_5], ht⟩) (fun _ h => nomatch h) dX4_aheadOn_16
  · -- if_icmple not taken
    refine lv_iconst (v := 1) hx hb dX4_aheadOn_8 (by decide) ?_
    refine lv_goto (tgt := 16) hx hb dX4_aheadOn_9 (by decide) ?_
    exact W.iret (v := 1) hx hb hr (fun t ht hW => ⟨_, rfl, by simp only [c_aheadOn, if_neg c_5], ht⟩) (fun _ h => nomatch h) dX4_aheadOn_16

set_option maxHeartbeats 4000000 in
set_option maxRecDepth 100000 in
theorem m_Calendar_isOpen (l : Launch) (G : va_G) (cA : Nat → ClassId) (ad : Nat → Nat) (σ : St) (a0 : Int32) (hp0 : vp_in a0 400) : Met l yX0_isOpen (wX0_isOpen :: wG) ({ frames := 0, cells := 0, slots := 0, locals := 0 }) (va_Pc [.ref (ad 72), .int a0] (rrW G cA ad σ)) (vp_Si (fun r => r = c_isOpen σ a0)) 0 0 (fun _ => False) := by
  refine Met.ofW (cc := cX0_isOpen) (maxL := 2) (ret := (some .boolean)) (by decide) rfl ?_
  intro p e s m args below meth c s₁ B hml hv
  obtain ⟨rfl, hP, hK⟩ := hv
  have hx := B.exec
  have hb := B.bytes
  have hr := B.returns
  have hts := atoms_spec (ws := wX0_isOpen :: wG) B.pre
  have hg : ∀ w ∈ wG, w.before _ s = true := fun w h => hts w (List.mem_cons_of_mem _ h)
  have hown : s.vm.findClass RX0 = some m.cls := findClass_of_methodNamed B.named
  have hlocks := B.notSynchronized
  have hl := lv_entry ([.ref (ad 72), .int a0]) (n := 2) (Nat.le_of_ble_eq_true rfl)
  rw [lg_entry_eq]
  generalize (lg_sl ([.ref (ad 72), .int a0]) ++ List.replicate (2 - (lg_sl ([.ref (ad 72), .int a0])).length) Slot.unset).toArray = ls at hl ⊢
  have hl : lv_has ls 2 [(0, .ref (ad 72)), (1, .int a0)] := hl
  refine lv_aload_n hx hb dX0_isOpen_0 rfl (lv_at hl 0 rfl) ?_
  refine va_get (D := G) (ci := 0) (v := .ref (ad 73)) (C := RX0) (T := TX0) (N := 2) hx hb hg hinX0 hown hK hP 72 rl_Calendar rfl 0 (by decide) (hg _ qF_X0_9) (fun _ h9 => h9) rfl dX0_isOpen_1 ?_
  refine lv_iload_n hx hb dX0_isOpen_4 rfl (lv_at hl 1 rfl) ?_
  refine va_zald hx hb hK hP 73 1 rl_closedA rfl hp0 dX0_isOpen_5 ?_
  refine lv_if_ne (tgt := 13) hx hb dX0_isOpen_6 (by decide) (fun c_6 => ?_) (fun c_6 => ?_)
  · -- ifne taken
    refine lv_iconst (v := 0) hx hb dX0_isOpen_13 (by decide) ?_
    exact W.zret (v := 0) (ty := .boolean) hx hb hr (by decide) (fun t ht hW => ⟨_, rfl, by simp only [c_isOpen, if_neg c_6], ht⟩) (fun _ h => nomatch h) dX0_isOpen_14
  · -- ifne not taken
    refine lv_iconst (v := 1) hx hb dX0_isOpen_9 (by decide) ?_
    refine lv_goto (tgt := 14) hx hb dX0_isOpen_10 (by decide) ?_
    exact W.zret (v := 1) (ty := .boolean) hx hb hr (by decide) (fun t ht hW => ⟨_, rfl, by simp only [c_isOpen, if_pos c_6], ht⟩) (fun _ h => nomatch h) dX0_isOpen_14

set_option maxHeartbeats 4000000 in
set_option maxRecDepth 100000 in
theorem m_Calendar_month (l : Launch) (G : va_G) (cA : Nat → ClassId) (ad : Nat → Nat) (σ : St) : Met l yX0_month (wX0_month :: wG) ({ frames := 0, cells := 0, slots := 0, locals := 0 }) (va_Pc [.ref (ad 72)] (rrW G cA ad σ)) (vp_Si (fun r => r = c_month σ)) 0 0 (fun _ => False) := by
  refine Met.ofW (cc := cX0_month) (maxL := 1) (ret := (some .int)) (by decide) rfl ?_
  intro p e s m args below meth c s₁ B hml hv
  obtain ⟨rfl, hP, hK⟩ := hv
  have hx := B.exec
  have hb := B.bytes
  have hr := B.returns
  have hts := atoms_spec (ws := wX0_month :: wG) B.pre
  have hg : ∀ w ∈ wG, w.before _ s = true := fun w h => hts w (List.mem_cons_of_mem _ h)
  have hown : s.vm.findClass RX0 = some m.cls := findClass_of_methodNamed B.named
  have hlocks := B.notSynchronized
  have hl := lv_entry ([.ref (ad 72)]) (n := 1) (Nat.le_of_ble_eq_true rfl)
  rw [lg_entry_eq]
  generalize (lg_sl ([.ref (ad 72)]) ++ List.replicate (1 - (lg_sl ([.ref (ad 72)])).length) Slot.unset).toArray = ls at hl ⊢
  have hl : lv_has ls 1 [(0, .ref (ad 72))] := hl
  refine lv_aload_n hx hb dX0_month_0 rfl (lv_at hl 0 rfl) ?_
  refine va_get (D := G) (ci := 0) (v := .int (σ 40 0)) (C := RX0) (T := TX0) (N := 2) hx hb hg hinX0 hown hK hP 72 rl_Calendar rfl 1 (by decide) (hg _ qF_X0_15) (fun _ h9 => h9) rfl dX0_month_1 ?_
  refine lv_bipush (v := 30) hx hb dX0_month_4 (by decide) ?_
  refine lv_idiv hx hb dX0_month_6 (by decide) ?_
  refine lv_bipush (v := 12) hx hb dX0_month_7 (by decide) ?_
  refine lv_irem hx hb dX0_month_9 (by decide) ?_
  exact W.iret (v := ((σ 40 0) / 30) - ((σ 40 0) / 30) / 12 * 12) hx hb hr (fun t ht hW => ⟨_, rfl, rfl, ht⟩) (fun _ h => nomatch h) dX0_month_10

set_option maxHeartbeats 4000000 in
set_option maxRecDepth 100000 in
theorem m_Calendar_firstOf (l : Launch) (G : va_G) (cA : Nat → ClassId) (ad : Nat → Nat) (σ : St) (a0 : Int32) : Met l yX0_firstOf (wX0_firstOf :: wG) ({ frames := 0, cells := 0, slots := 0, locals := 0 }) (va_Pc [.ref (ad 72), .int a0] (rrW G cA ad σ)) (vp_Si (fun r => r = c_firstOf σ a0)) 0 0 (fun _ => False) := by
  refine Met.ofW (cc := cX0_firstOf) (maxL := 2) (ret := (some .int)) (by decide) rfl ?_
  intro p e s m args below meth c s₁ B hml hv
  obtain ⟨rfl, hP, hK⟩ := hv
  have hx := B.exec
  have hb := B.bytes
  have hr := B.returns
  have hts := atoms_spec (ws := wX0_firstOf :: wG) B.pre
  have hg : ∀ w ∈ wG, w.before _ s = true := fun w h => hts w (List.mem_cons_of_mem _ h)
  have hown : s.vm.findClass RX0 = some m.cls := findClass_of_methodNamed B.named
  have hlocks := B.notSynchronized
  have hl := lv_entry ([.ref (ad 72), .int a0]) (n := 2) (Nat.le_of_ble_eq_true rfl)
  rw [lg_entry_eq]
  generalize (lg_sl ([.ref (ad 72), .int a0]) ++ List.replicate (2 - (lg_sl ([.ref (ad 72), .int a0])).length) Slot.unset).toArray = ls at hl ⊢
  have hl : lv_has ls 2 [(0, .ref (ad 72)), (1, .int a0)] := hl
  refine lv_aload_n hx hb dX0_firstOf_0 rfl (lv_at hl 0 rfl) ?_
  refine va_get (D := G) (ci := 0) (v := .int (σ 40 0)) (C := RX0) (T := TX0) (N := 2) hx hb hg hinX0 hown hK hP 72 rl_Calendar rfl 1 (by decide) (hg _ qF_X0_15) (fun _ h9 => h9) rfl dX0_firstOf_1 ?_
  refine lv_iload_n hx hb dX0_firstOf_4 rfl (lv_at hl 1 rfl) ?_
  refine lv_icmp_le (tgt := 17) hx hb dX0_firstOf_5 (by decide) (fun c_5 => ?_) (fun c_5 => ?_)
  · -- if_icmple taken
    refine lv_iconst (v := 0) hx hb dX0_firstOf_17 (by decide) ?_
    exact W.iret (v := 0) hx hb hr (fun t ht hW => ⟨_, rfl, by simp only [c_firstOf, if_pos c_5], ht⟩) (fun _ h => nomatch h) dX0_firstOf_18
  · -- if_icmple not taken
    refine lv_aload_n hx hb dX0_firstOf_8 rfl (lv_at hl 0 rfl) ?_
    refine va_get (D := G) (ci := 0) (v := .int (σ 40 0)) (C := RX0) (T := TX0) (N := 2) hx hb hg hinX0 hown hK hP 72 rl_Calendar rfl 1 (by decide) (hg _ qF_X0_15) (fun _ h9 => h9) rfl dX0_firstOf_9 ?_
    refine lv_iload_n hx hb dX0_firstOf_12 rfl (lv_at hl 1 rfl) ?_
    refine lv_isub hx hb dX0_firstOf_13 ?_
    refine lv_goto (tgt := 18) hx hb dX0_firstOf_14 (by decide) ?_
    exact W.iret (v := (σ 40 0) - a0) hx hb hr (fun t ht hW => ⟨_, rfl, by simp only [c_firstOf, if_neg c_5], ht⟩) (fun _ h => nomatch h) dX0_firstOf_18

set_option maxHeartbeats 4000000 in
set_option maxRecDepth 100000 in
theorem m_Calendar_openDays (l : Launch) (G : va_G) (cA : Nat → ClassId) (ad : Nat → Nat) (σ : St) (a0 : Int32) (hp0 : vp_in (σ 40 0) 400) (hp1 : ¬ a0 < 0) : Met l yX0_openDays (wX0_openDays :: wG) ({ frames := 1, cells := 0, slots := 0, locals := 21 }) (va_Pc [.ref (ad 72), .int a0] (rrW G cA ad σ)) (vp_Si (fun r => r = c_openDays σ a0)) 0 0 (fun _ => False) := by
  refine Met.ofW (cc := cX0_openDays) (maxL := 4) (ret := (some .int)) (by decide) rfl ?_
  intro p e s m args below meth c s₁ B hml hv
  obtain ⟨rfl, hP, hK⟩ := hv
  have hx := B.exec
  have hb := B.bytes
  have hr := B.returns
  have hts := atoms_spec (ws := wX0_openDays :: wG) B.pre
  have hg : ∀ w ∈ wG, w.before _ s = true := fun w h => hts w (List.mem_cons_of_mem _ h)
  have hown : s.vm.findClass RX0 = some m.cls := findClass_of_methodNamed B.named
  have hlocks := B.notSynchronized
  have hl := lv_entry ([.ref (ad 72), .int a0]) (n := 4) (Nat.le_of_ble_eq_true rfl)
  rw [lg_entry_eq]
  generalize (lg_sl ([.ref (ad 72), .int a0]) ++ List.replicate (4 - (lg_sl ([.ref (ad 72), .int a0])).length) Slot.unset).toArray = ls at hl ⊢
  have hl : lv_has ls 4 [(0, .ref (ad 72)), (1, .int a0)] := hl
  refine lv_iconst (v := 0) hx hb dX0_openDays_0 (by decide) ?_
  refine lv_istore_n (lv' := [(2, .int 0), (0, .ref (ad 72)), (1, .int a0)]) hx hb dX0_openDays_1 rfl hl (by decide) rfl (fun ls hl => ?_)
  refine lv_aload_n hx hb dX0_openDays_2 rfl (lv_at hl 1 rfl) ?_
  refine lv_iload_n hx hb dX0_openDays_3 rfl (lv_at hl 2 rfl) ?_
  refine vp_callSi (W.runV (As := [.int a0]) (rest := []) ⟨hx, hb, hml, hown, hg⟩ (m_Calendar_firstOf l G cA ad σ a0) (cwV 1 hg (gV qM_X0_19 qI_X0_firstOf qS_X0_firstOf qN_X0 kX0_firstOf) rfl rfl rfl (by decide +kernel) ⟨Nat.le_of_ble_eq_true rfl, Nat.le_of_ble_eq_true rfl⟩) (rr_pv hK hP (va_recv hK hP (ci := 0) (q0 := 72) rfl rl_Calendar)) rfl rfl hl.1 rfl (lv_room (Nat.le_of_ble_eq_true rfl)) dX0_openDays_4 ⟨Nat.le_of_ble_eq_true rfl, Nat.le_of_ble_eq_true rfl⟩) (nm_e ?_)
  refine lv_topi (fun y_7 ey_7 => ?_)
  obtain rfl : y_7 = nI (nx (c_firstOf σ a0)) := ey_7.trans ((nI_nx (firstOf_pos (vp_pos hp0) hp1)).symm)
  refine lv_istore_n (lv' := [(3, .int (nI (nx (c_firstOf σ a0)))), (2, .int 0), (0, .ref (ad 72)), (1, .int a0)]) hx hb dX0_openDays_7 rfl hl (by decide) rfl (fun ls hl => ?_)
  refine lp_ro (f := c_openF σ) (t := nx (σ 40 0)) (nL := 4) (fun k a => [(3, .int (nI k)), (2, .int a), (0, .ref (ad 72)), (1, .int a0)]) (nx (σ 40 0) - nx (c_firstOf σ a0)) (nx (c_firstOf σ a0)) 0 (Nat.add_sub_cancel' (firstOf_le (vp_pos hp0) hp1)) ?_ ?_ ls (lv_sub hl [0, 1, 2, 3] rfl)
  · intro k a hk IH ls hl
    have hl : lv_has ls 4 [(3, .int (nI k)), (2, .int a), (0, .ref (ad 72)), (1, .int a0)] := hl
    refine lv_iload_n hx hb dX0_openDays_8 rfl (lv_at hl 0 rfl) ?_
    refine lv_aload_n hx hb dX0_openDays_9 rfl (lv_at hl 2 rfl) ?_
    refine va_get (D := G) (ci := 0) (v := .int (σ 40 0)) (C := RX0) (T := TX0) (N := 2) hx hb hg hinX0 hown hK hP 72 rl_Calendar rfl 1 (by decide) (hg _ qF_X0_15) (fun _ h9 => h9) rfl dX0_openDays_10 ?_
    refine lv_icmp_ge (tgt := 33) hx hb dX0_openDays_13 (by decide) (fun c_13 => ?_) (fun c_13 => ?_)
    · -- if_icmpge taken
      exact absurd c_13 (nx_nle (vp_pos hp0) hk)
    · -- if_icmpge not taken
      refine lv_aload_n hx hb dX0_openDays_16 rfl (lv_at hl 2 rfl) ?_
      refine lv_iload_n hx hb dX0_openDays_17 rfl (lv_at hl 0 rfl) ?_
      refine vp_callSi (W.runV (As := [.int (nI k)]) (rest := []) ⟨hx, hb, hml, hown, hg⟩ (m_Calendar_isOpen l G cA ad σ (nI k) (day_in hp0 hk)) (cwV 1 hg (gV qM_X0_23 qI_X0_isOpen qS_X0_isOpen qN_X0 kX0_isOpen) rfl rfl rfl (by decide +kernel) ⟨Nat.le_of_ble_eq_true rfl, Nat.le_of_ble_eq_true rfl⟩) (rr_pv hK hP (va_recv hK hP (ci := 0) (q0 := 72) rfl rl_Calendar)) rfl rfl hl.1 rfl (lv_room (Nat.le_of_ble_eq_true rfl)) dX0_openDays_18 ⟨Nat.le_of_ble_eq_true rfl, Nat.le_of_ble_eq_true rfl⟩) (nm_e ?_)
      refine lv_if_eq (tgt := 27) hx hb dX0_openDays_21 (by decide) (fun c_21 => ?_) (fun c_21 => ?_)
      · -- ifeq taken
        refine lv_iinc (v := nI (k + 1)) (lv' := [(3, .int (nI (k + 1))), (2, .int a), (0, .ref (ad 72)), (1, .int a0)]) hx hb dX0_openDays_27 hl (k := 0) rfl (nI_1 k) (by decide) rfl (fun ls hl => ?_)
        refine lv_goto (tgt := 8) hx hb dX0_openDays_30 (by decide) ?_
        refine IH ls ?_
        show lv_has ls 4 [(3, .int (nI (k + 1))), (2, .int ((c_openF σ) k a)), (0, .ref (ad 72)), (1, .int a0)]
        rw [show (c_openF σ) k a = a from by simp only [c_openF, if_neg c_13, if_pos c_21]]
        exact lv_sub hl [0, 1, 2, 3] rfl
      · -- ifeq not taken
        refine lv_iinc (v := a + 1) (lv' := [(2, .int (a + 1)), (3, .int (nI k)), (0, .ref (ad 72)), (1, .int a0)]) hx hb dX0_openDays_24 hl (k := 1) rfl rfl (by decide) rfl (fun ls hl => ?_)
        refine lv_iinc (v := nI (k + 1)) (lv' := [(3, .int (nI (k + 1))), (2, .int (a + 1)), (0, .ref (ad 72)), (1, .int a0)]) hx hb dX0_openDays_27 hl (k := 1) rfl (nI_1 k) (by decide) rfl (fun ls hl => ?_)
        refine lv_goto (tgt := 8) hx hb dX0_openDays_30 (by decide) ?_
        refine IH ls ?_
        show lv_has ls 4 [(3, .int (nI (k + 1))), (2, .int ((c_openF σ) k a)), (0, .ref (ad 72)), (1, .int a0)]
        rw [show (c_openF σ) k a = a + 1 from by simp only [c_openF, if_neg c_13, if_neg c_21]]
        exact lv_sub hl [0, 1, 2, 3] rfl
  · intro ls hl
    have hl : lv_has ls 4 [(3, .int (nI (nx (σ 40 0)))), (2, .int (foldN (c_openF σ) (nx (σ 40 0) - nx (c_firstOf σ a0)) (nx (c_firstOf σ a0)) 0)), (0, .ref (ad 72)), (1, .int a0)] := hl
    refine lv_iload_n hx hb dX0_openDays_8 rfl (lv_at hl 0 rfl) ?_
    refine lv_aload_n hx hb dX0_openDays_9 rfl (lv_at hl 2 rfl) ?_
    refine va_get (D := G) (ci := 0) (v := .int (σ 40 0)) (C := RX0) (T := TX0) (N := 2) hx hb hg hinX0 hown hK hP 72 rl_Calendar rfl 1 (by decide) (hg _ qF_X0_15) (fun _ h9 => h9) rfl dX0_openDays_10 ?_
    refine lv_icmp_ge (tgt := 33) hx hb dX0_openDays_13 (by decide) (fun c_13 => ?_) (fun c_13 => ?_)
    · -- if_icmpge taken
      refine lv_iload_n hx hb dX0_openDays_33 rfl (lv_at hl 1 rfl) ?_
      exact W.iret (v := foldN (c_openF σ) (nx (σ 40 0) - nx (c_firstOf σ a0)) (nx (c_firstOf σ a0)) 0) hx hb hr (fun t ht hW => ⟨_, rfl, rfl, ht⟩) (fun _ h => nomatch h) dX0_openDays_34
    · -- if_icmpge not taken
      exact absurd (nx_le (vp_pos hp0)) c_13

set_option maxHeartbeats 4000000 in
set_option maxRecDepth 100000 in
theorem m_Waves_neededOf (l : Launch) (G : va_G) (cA : Nat → ClassId) (ad : Nat → Nat) (σ : St) (a0 : Int32) (b0 : Int32) (c0 : Int32) (hp0 : ¬ σ 41 0 < 0) (hp1 : nx (σ 41 0) ≤ 30) : Met l yX5_neededOf (wX5_neededOf :: wG) ({ frames := 0, cells := 0, slots := 0, locals := 0 }) (va_Pc [.ref (ad 74), .int a0, .int b0, .int c0] (rrW G cA ad σ)) (vp_Sl (fun r => r = c_neededOf σ a0 b0 c0)) 0 0 (fun _ => False) := by
  refine Met.ofW (cc := cX5_neededOf) (maxL := 7) (ret := (some .long)) (by decide) rfl ?_
  intro p e s m args below meth c s₁ B hml hv
  obtain ⟨rfl, hP, hK⟩ := hv
  have hx := B.exec
  have hb := B.bytes
  have hr := B.returns
  have hts := atoms_spec (ws := wX5_neededOf :: wG) B.pre
  have hg : ∀ w ∈ wG, w.before _ s = true := fun w h => hts w (List.mem_cons_of_mem _ h)
  have hown : s.vm.findClass RX5 = some m.cls := findClass_of_methodNamed B.named
  have hlocks := B.notSynchronized
  have hl := lv_entry ([.ref (ad 74), .int a0, .int b0, .int c0]) (n := 7) (Nat.le_of_ble_eq_true rfl)
  rw [lg_entry_eq]
  generalize (lg_sl ([.ref (ad 74), .int a0, .int b0, .int c0]) ++ List.replicate (7 - (lg_sl ([.ref (ad 74), .int a0, .int b0, .int c0])).length) Slot.unset).toArray = ls at hl ⊢
  have hl : lv_has ls 7 [(0, .ref (ad 74)), (1, .int a0), (2, .int b0), (3, .int c0)] := hl
  refine lv_lconst (v := 0) hx hb dX5_neededOf_0 (by decide) ?_
  refine lv_lstore (lv' := [(4, .long 0), (0, .ref (ad 74)), (1, .int a0), (2, .int b0), (3, .int c0)]) hx hb dX5_neededOf_1 hl (by decide) rfl (fun ls hl => ?_)
  refine lv_iconst (v := 0) hx hb dX5_neededOf_3 (by decide) ?_
  refine lv_topi (fun y_4 ey_4 => ?_)
  obtain rfl : y_4 = nI 0 := ey_4.trans (nI_0.symm)
  refine lv_istore (lv' := [(6, .int (nI 0)), (4, .long 0), (0, .ref (ad 74)), (1, .int a0), (2, .int b0), (3, .int c0)]) hx hb dX5_neededOf_4 hl (by decide) rfl (fun ls hl => ?_)
  refine lp_ro (f := c_needF σ a0 b0 c0) (t := nx (σ 41 0)) (nL := 7) (fun k a => [(6, .int (nI k)), (4, .long a), (0, .ref (ad 74)), (1, .int a0), (2, .int b0), (3, .int c0)]) (nx (σ 41 0)) 0 0 (Nat.zero_add _) ?_ ?_ ls (lv_sub hl [0, 1, 2, 3, 4, 5] rfl)
  · intro k a hk IH ls hl
    have hl : lv_has ls 7 [(6, .int (nI k)), (4, .long a), (0, .ref (ad 74)), (1, .int a0), (2, .int b0), (3, .int c0)] := hl
    refine lv_iload hx hb dX5_neededOf_6 (lv_at hl 0 rfl) ?_
    refine lv_aload_n hx hb dX5_neededOf_8 rfl (lv_at hl 2 rfl) ?_
    refine va_get (D := G) (ci := 5) (v := .int (σ 41 0)) (C := RX5) (T := TX5) (N := 4) hx hb hg hinX5 hown hK hP 74 rl_Waves rfl 3 (by decide) (hg _ qF_X5_21) (fun _ h9 => h9) rfl dX5_neededOf_9 ?_
    refine lv_icmp_ge (tgt := 67) hx hb dX5_neededOf_12 (by decide) (fun c_12 => ?_) (fun c_12 => ?_)
    · -- if_icmpge taken
      exact absurd c_12 (nx_nle hp0 hk)
    · -- if_icmpge not taken
      refine lv_aload_n hx hb dX5_neededOf_15 rfl (lv_at hl 2 rfl) ?_
      refine va_get (D := G) (ci := 5) (v := .ref (ad 75)) (C := RX5) (T := TX5) (N := 4) hx hb hg hinX5 hown hK hP 74 rl_Waves rfl 0 (by decide) (hg _ qF_X5_9) (fun _ h9 => h9) rfl dX5_neededOf_16 ?_
      refine lv_iload hx hb dX5_neededOf_19 (lv_at hl 0 rfl) ?_
      refine va_iald hx hb hK hP 75 0 rl_facesA rfl (vp_in_nI (Nat.lt_of_lt_of_le hk hp1) (by decide)) dX5_neededOf_21 ?_
      refine lv_iload_n hx hb dX5_neededOf_22 rfl (lv_at hl 3 rfl) ?_
      refine lv_icmp_ne (tgt := 61) hx hb dX5_neededOf_23 (by decide) (fun c_23 => ?_) (fun c_23 => ?_)
      · -- if_icmpne taken
        refine lv_iinc (v := nI (k + 1)) (lv' := [(6, .int (nI (k + 1))), (4, .long a), (0, .ref (ad 74)), (1, .int a0), (2, .int b0), (3, .int c0)]) hx hb dX5_neededOf_61 hl (k := 0) rfl (nI_1 k) (by decide) rfl (fun ls hl => ?_)
        refine lv_goto (tgt := 6) hx hb dX5_neededOf_64 (by decide) ?_
        refine IH ls ?_
        show lv_has ls 7 [(6, .int (nI (k + 1))), (4, .long ((c_needF σ a0 b0 c0) k a)), (0, .ref (ad 74)), (1, .int a0), (2, .int b0), (3, .int c0)]
        rw [show (c_needF σ a0 b0 c0) k a = a from by simp only [c_needF, if_neg c_12, if_neg c_23]]
        exact lv_sub hl [0, 1, 2, 3, 4, 5] rfl
      · -- if_icmpne not taken
        refine lv_aload_n hx hb dX5_neededOf_26 rfl (lv_at hl 2 rfl) ?_
        refine va_get (D := G) (ci := 5) (v := .ref (ad 77)) (C := RX5) (T := TX5) (N := 4) hx hb hg hinX5 hown hK hP 74 rl_Waves rfl 2 (by decide) (hg _ qF_X5_18) (fun _ h9 => h9) rfl dX5_neededOf_27 ?_
        refine lv_iload hx hb dX5_neededOf_30 (lv_at hl 0 rfl) ?_
        refine va_iald hx hb hK hP 77 0 rl_daysA rfl (vp_in_nI (Nat.lt_of_lt_of_le hk hp1) (by decide)) dX5_neededOf_32 ?_
        refine lv_iload_n hx hb dX5_neededOf_33 rfl (lv_at hl 4 rfl) ?_
        refine lv_icmp_lt (tgt := 61) hx hb dX5_neededOf_34 (by decide) (fun c_34 => ?_) (fun c_34 => ?_)
        · -- if_icmplt taken
          refine lv_iinc (v := nI (k + 1)) (lv' := [(6, .int (nI (k + 1))), (4, .long a), (0, .ref (ad 74)), (1, .int a0), (2, .int b0), (3, .int c0)]) hx hb dX5_neededOf_61 hl (k := 0) rfl (nI_1 k) (by decide) rfl (fun ls hl => ?_)
          refine lv_goto (tgt := 6) hx hb dX5_neededOf_64 (by decide) ?_
          refine IH ls ?_
          show lv_has ls 7 [(6, .int (nI (k + 1))), (4, .long ((c_needF σ a0 b0 c0) k a)), (0, .ref (ad 74)), (1, .int a0), (2, .int b0), (3, .int c0)]
          rw [show (c_needF σ a0 b0 c0) k a = a from by simp only [c_needF, if_neg c_12, if_pos c_23, if_pos c_34]]
          exact lv_sub hl [0, 1, 2, 3, 4, 5] rfl
        · -- if_icmplt not taken
          refine lv_aload_n hx hb dX5_neededOf_37 rfl (lv_at hl 2 rfl) ?_
          refine va_get (D := G) (ci := 5) (v := .ref (ad 77)) (C := RX5) (T := TX5) (N := 4) hx hb hg hinX5 hown hK hP 74 rl_Waves rfl 2 (by decide) (hg _ qF_X5_18) (fun _ h9 => h9) rfl dX5_neededOf_38 ?_
          refine lv_iload hx hb dX5_neededOf_41 (lv_at hl 0 rfl) ?_
          refine va_iald hx hb hK hP 77 0 rl_daysA rfl (vp_in_nI (Nat.lt_of_lt_of_le hk hp1) (by decide)) dX5_neededOf_43 ?_
          refine lv_iload_n hx hb dX5_neededOf_44 rfl (lv_at hl 5 rfl) ?_
          refine lv_icmp_gt (tgt := 61) hx hb dX5_neededOf_45 (by decide) (fun c_45 => ?_) (fun c_45 => ?_)
          · -- if_icmpgt taken
            refine lv_iinc (v := nI (k + 1)) (lv' := [(6, .int (nI (k + 1))), (4, .long a), (0, .ref (ad 74)), (1, .int a0), (2, .int b0), (3, .int c0)]) hx hb dX5_neededOf_61 hl (k := 0) rfl (nI_1 k) (by decide) rfl (fun ls hl => ?_)
            refine lv_goto (tgt := 6) hx hb dX5_neededOf_64 (by decide) ?_
            refine IH ls ?_
            show lv_has ls 7 [(6, .int (nI (k + 1))), (4, .long ((c_needF σ a0 b0 c0) k a)), (0, .ref (ad 74)), (1, .int a0), (2, .int b0), (3, .int c0)]
            rw [show (c_needF σ a0 b0 c0) k a = a from by simp only [c_needF, if_neg c_12, if_pos c_23, if_neg c_34, if_pos c_45]]
            exact lv_sub hl [0, 1, 2, 3, 4, 5] rfl
          · -- if_icmpgt not taken
            refine lv_lload hx hb dX5_neededOf_48 (lv_at hl 1 rfl) ?_
            refine lv_aload_n hx hb dX5_neededOf_50 rfl (lv_at hl 2 rfl) ?_
            refine va_get (D := G) (ci := 5) (v := .ref (ad 76)) (C := RX5) (T := TX5) (N := 4) hx hb hg hinX5 hown hK hP 74 rl_Waves rfl 1 (by decide) (hg _ qF_X5_15) (fun _ h9 => h9) rfl dX5_neededOf_51 ?_
            refine lv_iload hx hb dX5_neededOf_54 (lv_at hl 0 rfl) ?_
            refine va_iald hx hb hK hP 76 0 rl_wpiecesA rfl (vp_in_nI (Nat.lt_of_lt_of_le hk hp1) (by decide)) dX5_neededOf_56 ?_
            refine lv_i2l (v := (σ 35 (nx (nI k))).toInt64) hx hb dX5_neededOf_57 rfl ?_
            refine lv_ladd hx hb dX5_neededOf_58 ?_
            refine lv_lstore (lv' := [(4, .long (a + ((σ 35 (nx (nI k))).toInt64))), (6, .int (nI k)), (0, .ref (ad 74)), (1, .int a0), (2, .int b0), (3, .int c0)]) hx hb dX5_neededOf_59 hl (by decide) rfl (fun ls hl => ?_)
            refine lv_iinc (v := nI (k + 1)) (lv' := [(6, .int (nI (k + 1))), (4, .long (a + ((σ 35 (nx (nI k))).toInt64))), (0, .ref (ad 74)), (1, .int a0), (2, .int b0), (3, .int c0)]) hx hb dX5_neededOf_61 hl (k := 1) rfl (nI_1 k) (by decide) rfl (fun ls hl => ?_)
            refine lv_goto (tgt := 6) hx hb dX5_neededOf_64 (by decide) ?_
            refine IH ls ?_
            show lv_has ls 7 [(6, .int (nI (k + 1))), (4, .long ((c_needF σ a0 b0 c0) k a)), (0, .ref (ad 74)), (1, .int a0), (2, .int b0), (3, .int c0)]
            rw [show (c_needF σ a0 b0 c0) k a = a + ((σ 35 (nx (nI k))).toInt64) from by simp only [c_needF, if_neg c_12, if_pos c_23, if_neg c_34, if_neg c_45]]
            exact lv_sub hl [0, 1, 2, 3, 4, 5] rfl
  · intro ls hl
    have hl : lv_has ls 7 [(6, .int (nI (nx (σ 41 0)))), (4, .long (foldN (c_needF σ a0 b0 c0) (nx (σ 41 0)) 0 0)), (0, .ref (ad 74)), (1, .int a0), (2, .int b0), (3, .int c0)] := hl
    refine lv_iload hx hb dX5_neededOf_6 (lv_at hl 0 rfl) ?_
    refine lv_aload_n hx hb dX5_neededOf_8 rfl (lv_at hl 2 rfl) ?_
    refine va_get (D := G) (ci := 5) (v := .int (σ 41 0)) (C := RX5) (T := TX5) (N := 4) hx hb hg hinX5 hown hK hP 74 rl_Waves rfl 3 (by decide) (hg _ qF_X5_21) (fun _ h9 => h9) rfl dX5_neededOf_9 ?_
    refine lv_icmp_ge (tgt := 67) hx hb dX5_neededOf_12 (by decide) (fun c_12 => ?_) (fun c_12 => ?_)
    · -- if_icmpge taken
      refine lv_lload hx hb dX5_neededOf_67 (lv_at hl 1 rfl) ?_
      exact W.lret (v := foldN (c_needF σ a0 b0 c0) (nx (σ 41 0)) 0 0) hx hb hr (fun t ht hW => ⟨_, rfl, rfl, ht⟩) (fun _ h => nomatch h) dX5_neededOf_69
    · -- if_icmpge not taken
      exact absurd (nx_le hp0) c_12

set_option maxHeartbeats 4000000 in
set_option maxRecDepth 100000 in
theorem m_Place_tell (l : Launch) (G : va_G) (cA : Nat → ClassId) (ad : Nat → Nat) (σ : St) (a0 : Nat) (ha0 : a0 < 16) (b0 : Int32) : Met l yX2_tell (wX2_tell :: wG) ({ frames := 1, cells := 0, slots := 0, locals := 20 }) (va_Pc [.ref (ad a0), .int b0] (rrW G cA ad σ)) (vp_Si (fun r => r = c_tell σ a0 b0)) 0 0 (fun _ => False) := by
  refine Met.ofW (cc := cX2_tell) (maxL := 2) (ret := (some .int)) (by decide) rfl ?_
  intro p e s m args below meth c s₁ B hml hv
  obtain ⟨rfl, hP, hK⟩ := hv
  have hx := B.exec
  have hb := B.bytes
  have hr := B.returns
  have hts := atoms_spec (ws := wX2_tell :: wG) B.pre
  have hg : ∀ w ∈ wG, w.before _ s = true := fun w h => hts w (List.mem_cons_of_mem _ h)
  have hown : s.vm.findClass RX2 = some m.cls := findClass_of_methodNamed B.named
  have hlocks := B.notSynchronized
  have hl := lv_entry ([.ref (ad a0), .int b0]) (n := 2) (Nat.le_of_ble_eq_true rfl)
  rw [lg_entry_eq]
  generalize (lg_sl ([.ref (ad a0), .int b0]) ++ List.replicate (2 - (lg_sl ([.ref (ad a0), .int b0])).length) Slot.unset).toArray = ls at hl ⊢
  have hl : lv_has ls 2 [(0, .ref (ad a0)), (1, .int b0)] := hl
  refine lv_iload_n hx hb dX2_tell_0 rfl (lv_at hl 1 rfl) ?_
  by_cases c_1_0 : b0 = 0
  · refine lv_tableIn (tgt := 36) hx hb dX2_tell_1 (by rw [c_1_0]; decide) (by rw [c_1_0]; decide) (by rw [c_1_0]; rfl) (by decide) ?_
    refine lv_aload_n hx hb dX2_tell_36 rfl (lv_at hl 0 rfl) ?_
    refine va_get (D := G) (ci := 2) (v := .int (σ 2 a0)) (C := RX2) (T := TX2) (N := 13) hx hb hg hinX2 hown hK hP a0 (rl_Place ha0) rfl 4 (by decide) (hg _ qF_X2_22) (fun _ h9 => h9) rfl dX2_tell_37 ?_
    exact W.iret (v := σ 2 a0) hx hb hr (fun t ht hW => ⟨_, rfl, by simp only [c_tell, if_pos c_1_0], ht⟩) (fun _ h => nomatch h) dX2_tell_40
  by_cases c_1_1 : b0 = 1
  · refine lv_tableIn (tgt := 41) hx hb dX2_tell_1 (by rw [c_1_1]; decide) (by rw [c_1_1]; decide) (by rw [c_1_1]; rfl) (by decide) ?_
    refine lv_aload_n hx hb dX2_tell_41 rfl (lv_at hl 0 rfl) ?_
    refine va_get (D := G) (ci := 2) (v := .int (σ 3 a0)) (C := RX2) (T := TX2) (N := 13) hx hb hg hinX2 hown hK hP a0 (rl_Place ha0) rfl 5 (by decide) (hg _ qF_X2_25) (fun _ h9 => h9) rfl dX2_tell_42 ?_
    exact W.iret (v := σ 3 a0) hx hb hr (fun t ht hW => ⟨_, rfl, by simp only [c_tell, if_neg c_1_0, if_pos c_1_1], ht⟩) (fun _ h => nomatch h) dX2_tell_45
  by_cases c_1_2 : b0 = 2
  · refine lv_tableIn (tgt := 46) hx hb dX2_tell_1 (by rw [c_1_2]; decide) (by rw [c_1_2]; decide) (by rw [c_1_2]; rfl) (by decide) ?_
    refine lv_aload_n hx hb dX2_tell_46 rfl (lv_at hl 0 rfl) ?_
    refine va_get (D := G) (ci := 2) (v := .int (σ 4 a0)) (C := RX2) (T := TX2) (N := 13) hx hb hg hinX2 hown hK hP a0 (rl_Place ha0) rfl 6 (by decide) (hg _ qF_X2_28) (fun _ h9 => h9) rfl dX2_tell_47 ?_
    exact W.iret (v := σ 4 a0) hx hb hr (fun t ht hW => ⟨_, rfl, by simp only [c_tell, if_neg c_1_0, if_neg c_1_1, if_pos c_1_2], ht⟩) (fun _ h => nomatch h) dX2_tell_50
  by_cases c_1_3 : b0 = 3
  · refine lv_tableIn (tgt := 51) hx hb dX2_tell_1 (by rw [c_1_3]; decide) (by rw [c_1_3]; decide) (by rw [c_1_3]; rfl) (by decide) ?_
    refine lv_aload_n hx hb dX2_tell_51 rfl (lv_at hl 0 rfl) ?_
    refine vp_callSi (W.runV (As := []) (rest := []) ⟨hx, hb, hml, hown, hg⟩ (m_Place_isFace l G cA ad σ a0 ha0) (cwV 0 hg (gV qM_X2_52 qI_X2_isFace qS_X2_isFace qN_X2 kX2_isFace) rfl rfl rfl (by decide +kernel) ⟨Nat.le_of_ble_eq_true rfl, Nat.le_of_ble_eq_true rfl⟩) (rr_pv hK hP (va_recv hK hP (ci := 2) (q0 := a0) rfl (rl_Place ha0))) rfl rfl hl.1 rfl (lv_room (Nat.le_of_ble_eq_true rfl)) dX2_tell_52 ⟨Nat.le_of_ble_eq_true rfl, Nat.le_of_ble_eq_true rfl⟩) (nm_e ?_)
    refine lv_if_eq (tgt := 62) hx hb dX2_tell_55 (by decide) (fun c_55 => ?_) (fun c_55 => ?_)
    · -- ifeq taken
      refine lv_iconst (v := 0) hx hb dX2_tell_62 (by decide) ?_
      exact W.iret (v := 0) hx hb hr (fun t ht hW => ⟨_, rfl, by simp only [c_tell, if_neg c_1_0, if_neg c_1_1, if_neg c_1_2, if_pos c_1_3, if_pos c_55], ht⟩) (fun _ h => nomatch h) dX2_tell_63
    · -- ifeq not taken
      refine lv_iconst (v := 1) hx hb dX2_tell_58 (by decide) ?_
      refine lv_goto (tgt := 63) hx hb dX2_tell_59 (by decide) ?_
      exact W.iret (v := 1) hx hb hr (fun t ht hW => ⟨_, rfl, by simp only [c_tell, if_neg c_1_0, if_neg c_1_1, if_neg c_1_2, if_pos c_1_3, if_neg c_55], ht⟩) (fun _ h => nomatch h) dX2_tell_63
  by_cases c_1_4 : b0 = 4
  · refine lv_tableIn (tgt := 64) hx hb dX2_tell_1 (by rw [c_1_4]; decide) (by rw [c_1_4]; decide) (by rw [c_1_4]; rfl) (by decide) ?_
    refine lv_aload_n hx hb dX2_tell_64 rfl (lv_at hl 0 rfl) ?_
    refine va_get (D := G) (ci := 2) (v := .int (σ 6 a0)) (C := RX2) (T := TX2) (N := 13) hx hb hg hinX2 hown hK hP a0 (rl_Place ha0) rfl 8 (by decide) (hg _ qF_X2_34) (fun _ h9 => h9) rfl dX2_tell_65 ?_
    exact W.iret (v := σ 6 a0) hx hb hr (fun t ht hW => ⟨_, rfl, by simp only [c_tell, if_neg c_1_0, if_neg c_1_1, if_neg c_1_2, if_neg c_1_3, if_pos c_1_4], ht⟩) (fun _ h => nomatch h) dX2_tell_68
  refine lv_tableOut (tgt := 69) hx hb dX2_tell_1 (by have z0 := lv_neT c_1_0 (a := 0) rfl; have z1 := lv_neT c_1_1 (a := 1) rfl; have z2 := lv_neT c_1_2 (a := 2) rfl; have z3 := lv_neT c_1_3 (a := 3) rfl; have z4 := lv_neT c_1_4 (a := 4) rfl; omega) (by decide) ?_
  refine lv_aload_n hx hb dX2_tell_69 rfl (lv_at hl 0 rfl) ?_
  refine va_get (D := G) (ci := 2) (v := .int (σ 7 a0)) (C := RX2) (T := TX2) (N := 13) hx hb hg hinX2 hown hK hP a0 (rl_Place ha0) rfl 9 (by decide) (hg _ qF_X2_37) (fun _ h9 => h9) rfl dX2_tell_70 ?_
  exact W.iret (v := σ 7 a0) hx hb hr (fun t ht hW => ⟨_, rfl, by simp only [c_tell, if_neg c_1_0, if_neg c_1_1, if_neg c_1_2, if_neg c_1_3, if_neg c_1_4], ht⟩) (fun _ h => nomatch h) dX2_tell_73

set_option maxHeartbeats 4000000 in
set_option maxRecDepth 100000 in
theorem m_Move_tell (l : Launch) (G : va_G) (cA : Nat → ClassId) (ad : Nat → Nat) (σ : St) (a0 : Nat) (ha0 : a0 < 30) (b0 : Int32) : Met l yX1_tell (wX1_tell :: wG) ({ frames := 0, cells := 0, slots := 0, locals := 0 }) (va_Pc [.ref (ad (36 + a0)), .int b0] (rrW G cA ad σ)) (vp_Si (fun r => r = c_mtell σ a0 b0)) 0 0 (fun _ => False) := by
  refine Met.ofW (cc := cX1_tell) (maxL := 2) (ret := (some .int)) (by decide) rfl ?_
  intro p e s m args below meth c s₁ B hml hv
  obtain ⟨rfl, hP, hK⟩ := hv
  have hx := B.exec
  have hb := B.bytes
  have hr := B.returns
  have hts := atoms_spec (ws := wX1_tell :: wG) B.pre
  have hg : ∀ w ∈ wG, w.before _ s = true := fun w h => hts w (List.mem_cons_of_mem _ h)
  have hown : s.vm.findClass RX1 = some m.cls := findClass_of_methodNamed B.named
  have hlocks := B.notSynchronized
  have hl := lv_entry ([.ref (ad (36 + a0)), .int b0]) (n := 2) (Nat.le_of_ble_eq_true rfl)
  rw [lg_entry_eq]
  generalize (lg_sl ([.ref (ad (36 + a0)), .int b0]) ++ List.replicate (2 - (lg_sl ([.ref (ad (36 + a0)), .int b0])).length) Slot.unset).toArray = ls at hl ⊢
  have hl : lv_has ls 2 [(0, .ref (ad (36 + a0))), (1, .int b0)] := hl
  refine lv_iload_n hx hb dX1_tell_0 rfl (lv_at hl 1 rfl) ?_
  by_cases c_1_0 : b0 = 0
  · refine lv_tableIn (tgt := 40) hx hb dX1_tell_1 (by rw [c_1_0]; decide) (by rw [c_1_0]; decide) (by rw [c_1_0]; rfl) (by decide) ?_
    refine lv_aload_n hx hb dX1_tell_40 rfl (lv_at hl 0 rfl) ?_
    refine va_get (D := G) (ci := 1) (v := .int (σ 50 a0)) (C := RX1) (T := TX1) (N := 7) hx hb hg hinX1 hown hK hP (36 + a0) (rl_Move ha0) rfl 0 (by decide) (hg _ qF_X1_7) (fun _ h9 => h9) rfl dX1_tell_41 ?_
    exact W.iret (v := σ 50 a0) hx hb hr (fun t ht hW => ⟨_, rfl, by simp only [c_mtell, if_pos c_1_0], ht⟩) (fun _ h => nomatch h) dX1_tell_44
  by_cases c_1_1 : b0 = 1
  · refine lv_tableIn (tgt := 45) hx hb dX1_tell_1 (by rw [c_1_1]; decide) (by rw [c_1_1]; decide) (by rw [c_1_1]; rfl) (by decide) ?_
    refine lv_aload_n hx hb dX1_tell_45 rfl (lv_at hl 0 rfl) ?_
    refine va_get (D := G) (ci := 1) (v := .int (σ 51 a0)) (C := RX1) (T := TX1) (N := 7) hx hb hg hinX1 hown hK hP (36 + a0) (rl_Move ha0) rfl 1 (by decide) (hg _ qF_X1_13) (fun _ h9 => h9) rfl dX1_tell_46 ?_
    exact W.iret (v := σ 51 a0) hx hb hr (fun t ht hW => ⟨_, rfl, by simp only [c_mtell, if_neg c_1_0, if_pos c_1_1], ht⟩) (fun _ h => nomatch h) dX1_tell_49
  by_cases c_1_2 : b0 = 2
  · refine lv_tableIn (tgt := 50) hx hb dX1_tell_1 (by rw [c_1_2]; decide) (by rw [c_1_2]; decide) (by rw [c_1_2]; rfl) (by decide) ?_
    refine lv_aload_n hx hb dX1_tell_50 rfl (lv_at hl 0 rfl) ?_
    refine va_get (D := G) (ci := 1) (v := .int (σ 52 a0)) (C := RX1) (T := TX1) (N := 7) hx hb hg hinX1 hown hK hP (36 + a0) (rl_Move ha0) rfl 2 (by decide) (hg _ qF_X1_16) (fun _ h9 => h9) rfl dX1_tell_51 ?_
    exact W.iret (v := σ 52 a0) hx hb hr (fun t ht hW => ⟨_, rfl, by simp only [c_mtell, if_neg c_1_0, if_neg c_1_1, if_pos c_1_2], ht⟩) (fun _ h => nomatch h) dX1_tell_54
  by_cases c_1_3 : b0 = 3
  · refine lv_tableIn (tgt := 55) hx hb dX1_tell_1 (by rw [c_1_3]; decide) (by rw [c_1_3]; decide) (by rw [c_1_3]; rfl) (by decide) ?_
    refine lv_aload_n hx hb dX1_tell_55 rfl (lv_at hl 0 rfl) ?_
    refine va_get (D := G) (ci := 1) (v := .int (σ 53 a0)) (C := RX1) (T := TX1) (N := 7) hx hb hg hinX1 hown hK hP (36 + a0) (rl_Move ha0) rfl 3 (by decide) (hg _ qF_X1_19) (fun _ h9 => h9) rfl dX1_tell_56 ?_
    exact W.iret (v := σ 53 a0) hx hb hr (fun t ht hW => ⟨_, rfl, by simp only [c_mtell, if_neg c_1_0, if_neg c_1_1, if_neg c_1_2, if_pos c_1_3], ht⟩) (fun _ h => nomatch h) dX1_tell_59
  by_cases c_1_4 : b0 = 4
  · refine lv_tableIn (tgt := 60) hx hb dX1_tell_1 (by rw [c_1_4]; decide) (by rw [c_1_4]; decide) (by rw [c_1_4]; rfl) (by decide) ?_
    refine lv_aload_n hx hb dX1_tell_60 rfl (lv_at hl 0 rfl) ?_
    refine va_get (D := G) (ci := 1) (v := .int (σ 54 a0)) (C := RX1) (T := TX1) (N := 7) hx hb hg hinX1 hown hK hP (36 + a0) (rl_Move ha0) rfl 4 (by decide) (hg _ qF_X1_22) (fun _ h9 => h9) rfl dX1_tell_61 ?_
    exact W.iret (v := σ 54 a0) hx hb hr (fun t ht hW => ⟨_, rfl, by simp only [c_mtell, if_neg c_1_0, if_neg c_1_1, if_neg c_1_2, if_neg c_1_3, if_pos c_1_4], ht⟩) (fun _ h => nomatch h) dX1_tell_64
  by_cases c_1_5 : b0 = 5
  · refine lv_tableIn (tgt := 65) hx hb dX1_tell_1 (by rw [c_1_5]; decide) (by rw [c_1_5]; decide) (by rw [c_1_5]; rfl) (by decide) ?_
    refine lv_aload_n hx hb dX1_tell_65 rfl (lv_at hl 0 rfl) ?_
    refine va_get (D := G) (ci := 1) (v := .int (σ 55 a0)) (C := RX1) (T := TX1) (N := 7) hx hb hg hinX1 hown hK hP (36 + a0) (rl_Move ha0) rfl 5 (by decide) (hg _ qF_X1_25) (fun _ h9 => h9) rfl dX1_tell_66 ?_
    refine lv_if_eq (tgt := 76) hx hb dX1_tell_69 (by decide) (fun c_69 => ?_) (fun c_69 => ?_)
    · -- ifeq taken
      refine lv_iconst (v := 0) hx hb dX1_tell_76 (by decide) ?_
      exact W.iret (v := 0) hx hb hr (fun t ht hW => ⟨_, rfl, by simp only [c_mtell, if_neg c_1_0, if_neg c_1_1, if_neg c_1_2, if_neg c_1_3, if_neg c_1_4, if_pos c_1_5, if_pos c_69], ht⟩) (fun _ h => nomatch h) dX1_tell_77
    · -- ifeq not taken
      refine lv_iconst (v := 1) hx hb dX1_tell_72 (by decide) ?_
      refine lv_goto (tgt := 77) hx hb dX1_tell_73 (by decide) ?_
      exact W.iret (v := 1) hx hb hr (fun t ht hW => ⟨_, rfl, by simp only [c_mtell, if_neg c_1_0, if_neg c_1_1, if_neg c_1_2, if_neg c_1_3, if_neg c_1_4, if_pos c_1_5, if_neg c_69], ht⟩) (fun _ h => nomatch h) dX1_tell_77
  refine lv_tableOut (tgt := 78) hx hb dX1_tell_1 (by have z0 := lv_neT c_1_0 (a := 0) rfl; have z1 := lv_neT c_1_1 (a := 1) rfl; have z2 := lv_neT c_1_2 (a := 2) rfl; have z3 := lv_neT c_1_3 (a := 3) rfl; have z4 := lv_neT c_1_4 (a := 4) rfl; have z5 := lv_neT c_1_5 (a := 5) rfl; omega) (by decide) ?_
  refine lv_aload_n hx hb dX1_tell_78 rfl (lv_at hl 0 rfl) ?_
  refine va_get (D := G) (ci := 1) (v := .int (σ 56 a0)) (C := RX1) (T := TX1) (N := 7) hx hb hg hinX1 hown hK hP (36 + a0) (rl_Move ha0) rfl 6 (by decide) (hg _ qF_X1_29) (fun _ h9 => h9) rfl dX1_tell_79 ?_
  refine lv_if_eq (tgt := 89) hx hb dX1_tell_82 (by decide) (fun c_82 => ?_) (fun c_82 => ?_)
  · -- ifeq taken
    refine lv_iconst (v := 0) hx hb dX1_tell_89 (by decide) ?_
    exact W.iret (v := 0) hx hb hr (fun t ht hW => ⟨_, rfl, by simp only [c_mtell, if_neg c_1_0, if_neg c_1_1, if_neg c_1_2, if_neg c_1_3, if_neg c_1_4, if_neg c_1_5, if_pos c_82], ht⟩) (fun _ h => nomatch h) dX1_tell_90
  · -- ifeq not taken
    refine lv_iconst (v := 1) hx hb dX1_tell_85 (by decide) ?_
    refine lv_goto (tgt := 90) hx hb dX1_tell_86 (by decide) ?_
    exact W.iret (v := 1) hx hb hr (fun t ht hW => ⟨_, rfl, by simp only [c_mtell, if_neg c_1_0, if_neg c_1_1, if_neg c_1_2, if_neg c_1_3, if_neg c_1_4, if_neg c_1_5, if_neg c_82], ht⟩) (fun _ h => nomatch h) dX1_tell_90

set_option maxHeartbeats 4000000 in
set_option maxRecDepth 100000 in
theorem m_ReplenishRules_usedOnAllDays (l : Launch) (G : va_G) (cA : Nat → ClassId) (ad : Nat → Nat) (σ : St) (a0 : Nat) (ha0 : a0 < 16) (b0 : Int32) (hp0 : vp_in (σ 40 0) 400) (hp1 : ¬ b0 < 0) : Met l yX6_usedOnAllDays (wX6_usedOnAllDays :: wG) ({ frames := 1, cells := 0, slots := 0, locals := 21 }) (va_Pc [.ref (ad 66), .ref (ad a0), .int b0] (rrW G cA ad σ)) (vp_Sl (fun r => r = c_usedAll σ a0 b0)) 0 0 (fun _ => False) := by
  refine Met.ofW (cc := cX6_usedOnAllDays) (maxL := 6) (ret := (some .long)) (by decide) rfl ?_
  intro p e s m args below meth c s₁ B hml hv
  obtain ⟨rfl, hP, hK⟩ := hv
  have hx := B.exec
  have hb := B.bytes
  have hr := B.returns
  have hts := atoms_spec (ws := wX6_usedOnAllDays :: wG) B.pre
  have hg : ∀ w ∈ wG, w.before _ s = true := fun w h => hts w (List.mem_cons_of_mem _ h)
  have hown : s.vm.findClass RX6 = some m.cls := findClass_of_methodNamed B.named
  have hlocks := B.notSynchronized
  have hl := lv_entry ([.ref (ad 66), .ref (ad a0), .int b0]) (n := 6) (Nat.le_of_ble_eq_true rfl)
  rw [lg_entry_eq]
  generalize (lg_sl ([.ref (ad 66), .ref (ad a0), .int b0]) ++ List.replicate (6 - (lg_sl ([.ref (ad 66), .ref (ad a0), .int b0])).length) Slot.unset).toArray = ls at hl ⊢
  have hl : lv_has ls 6 [(0, .ref (ad 66)), (1, .ref (ad a0)), (2, .int b0)] := hl
  refine lv_lconst (v := 0) hx hb dX6_usedOnAllDays_0 (by decide) ?_
  refine lv_lstore_n (lv' := [(3, .long 0), (0, .ref (ad 66)), (1, .ref (ad a0)), (2, .int b0)]) hx hb dX6_usedOnAllDays_1 rfl hl (by decide) rfl (fun ls hl => ?_)
  refine lv_aload_n hx hb dX6_usedOnAllDays_2 rfl (lv_at hl 1 rfl) ?_
  refine va_get (D := G) (ci := 6) (v := .ref (ad 72)) (C := RX6) (T := TX6) (N := 8) hx hb hg hinX6 hown hK hP 66 rl_main rfl 5 (by decide) (hg _ qF_X6_34) (fun _ h9 => h9) rfl dX6_usedOnAllDays_3 ?_
  refine lv_iload_n hx hb dX6_usedOnAllDays_6 rfl (lv_at hl 3 rfl) ?_
  refine vp_callSi (W.runV (As := [.int b0]) (rest := []) ⟨hx, hb, hml, hown, hg⟩ (m_Calendar_firstOf l G cA ad σ b0) (cwV 1 hg (gV qM_X6_255 qI_X0_firstOf qS_X0_firstOf qN_X0 kX0_firstOf) rfl rfl rfl (by decide +kernel) ⟨Nat.le_of_ble_eq_true rfl, Nat.le_of_ble_eq_true rfl⟩) (rr_pv hK hP (va_recv hK hP (ci := 0) (q0 := 72) rfl rl_Calendar)) rfl rfl hl.1 rfl (lv_room (Nat.le_of_ble_eq_true rfl)) dX6_usedOnAllDays_7 ⟨Nat.le_of_ble_eq_true rfl, Nat.le_of_ble_eq_true rfl⟩) (nm_e ?_)
  refine lv_topi (fun y_10 ey_10 => ?_)
  obtain rfl : y_10 = nI (nx (c_firstOf σ b0)) := ey_10.trans ((nI_nx (firstOf_pos (vp_pos hp0) hp1)).symm)
  refine lv_istore (lv' := [(5, .int (nI (nx (c_firstOf σ b0)))), (3, .long 0), (0, .ref (ad 66)), (1, .ref (ad a0)), (2, .int b0)]) hx hb dX6_usedOnAllDays_10 hl (by decide) rfl (fun ls hl => ?_)
  refine lp_ro (f := c_usedAllF σ a0) (t := nx (σ 40 0)) (nL := 6) (fun k a => [(5, .int (nI k)), (3, .long a), (0, .ref (ad 66)), (1, .ref (ad a0)), (2, .int b0)]) (nx (σ 40 0) - nx (c_firstOf σ b0)) (nx (c_firstOf σ b0)) 0 (Nat.add_sub_cancel' (firstOf_le (vp_pos hp0) hp1)) ?_ ?_ ls (lv_sub hl [0, 1, 2, 3, 4] rfl)
  · intro k a hk IH ls hl
    have hl : lv_has ls 6 [(5, .int (nI k)), (3, .long a), (0, .ref (ad 66)), (1, .ref (ad a0)), (2, .int b0)] := hl
    refine lv_iload hx hb dX6_usedOnAllDays_12 (lv_at hl 0 rfl) ?_
    refine lv_aload_n hx hb dX6_usedOnAllDays_14 rfl (lv_at hl 2 rfl) ?_
    refine va_get (D := G) (ci := 6) (v := .ref (ad 72)) (C := RX6) (T := TX6) (N := 8) hx hb hg hinX6 hown hK hP 66 rl_main rfl 5 (by decide) (hg _ qF_X6_34) (fun _ h9 => h9) rfl dX6_usedOnAllDays_15 ?_
    refine va_get (D := G) (ci := 0) (v := .int (σ 40 0)) (C := RX0) (T := TX0) (N := 2) hx hb hg hinX0 hown hK hP 72 rl_Calendar rfl 1 (by decide) (hg _ qF_X6_125) (fun _ h9 => h9) rfl dX6_usedOnAllDays_18 ?_
    refine lv_icmp_ge (tgt := 41) hx hb dX6_usedOnAllDays_21 (by decide) (fun c_21 => ?_) (fun c_21 => ?_)
    · -- if_icmpge taken
      exact absurd c_21 (nx_nle (vp_pos hp0) hk)
    · -- if_icmpge not taken
      refine lv_lload_n hx hb dX6_usedOnAllDays_24 rfl (lv_at hl 1 rfl) ?_
      refine lv_aload_n hx hb dX6_usedOnAllDays_25 rfl (lv_at hl 3 rfl) ?_
      refine va_get (D := G) (ci := 2) (v := .ref (ad (16 + a0))) (C := RX2) (T := TX2) (N := 13) hx hb hg hinX2 hown hK hP a0 (rl_Place ha0) rfl 1 (by decide) (hg _ qF_X6_122) (fun _ h9 => h9) rfl dX6_usedOnAllDays_26 ?_
      refine lv_iload hx hb dX6_usedOnAllDays_29 (lv_at hl 0 rfl) ?_
      refine va_iald hx hb hK hP (16 + a0) 0 (rl_Used ha0) rfl (day_in hp0 hk) dX6_usedOnAllDays_31 ?_
      refine lv_i2l (v := (σ (100 + a0) (nx (nI k))).toInt64) hx hb dX6_usedOnAllDays_32 rfl ?_
      refine lv_ladd hx hb dX6_usedOnAllDays_33 ?_
      refine lv_lstore_n (lv' := [(3, .long (a + ((σ (100 + a0) (nx (nI k))).toInt64))), (5, .int (nI k)), (0, .ref (ad 66)), (1, .ref (ad a0)), (2, .int b0)]) hx hb dX6_usedOnAllDays_34 rfl hl (by decide) rfl (fun ls hl => ?_)
      refine lv_iinc (v := nI (k + 1)) (lv' := [(5, .int (nI (k + 1))), (3, .long (a + ((σ (100 + a0) (nx (nI k))).toInt64))), (0, .ref (ad 66)), (1, .ref (ad a0)), (2, .int b0)]) hx hb dX6_usedOnAllDays_35 hl (k := 1) rfl (nI_1 k) (by decide) rfl (fun ls hl => ?_)
      refine lv_goto (tgt := 12) hx hb dX6_usedOnAllDays_38 (by decide) ?_
      refine IH ls ?_
      show lv_has ls 6 [(5, .int (nI (k + 1))), (3, .long ((c_usedAllF σ a0) k a)), (0, .ref (ad 66)), (1, .ref (ad a0)), (2, .int b0)]
      rw [show (c_usedAllF σ a0) k a = a + ((σ (100 + a0) (nx (nI k))).toInt64) from by simp only [c_usedAllF, if_neg c_21]]
      exact lv_sub hl [0, 1, 2, 3, 4] rfl
  · intro ls hl
    have hl : lv_has ls 6 [(5, .int (nI (nx (σ 40 0)))), (3, .long (foldN (c_usedAllF σ a0) (nx (σ 40 0) - nx (c_firstOf σ b0)) (nx (c_firstOf σ b0)) 0)), (0, .ref (ad 66)), (1, .ref (ad a0)), (2, .int b0)] := hl
    refine lv_iload hx hb dX6_usedOnAllDays_12 (lv_at hl 0 rfl) ?_
    refine lv_aload_n hx hb dX6_usedOnAllDays_14 rfl (lv_at hl 2 rfl) ?_
    refine va_get (D := G) (ci := 6) (v := .ref (ad 72)) (C := RX6) (T := TX6) (N := 8) hx hb hg hinX6 hown hK hP 66 rl_main rfl 5 (by decide) (hg _ qF_X6_34) (fun _ h9 => h9) rfl dX6_usedOnAllDays_15 ?_
    refine va_get (D := G) (ci := 0) (v := .int (σ 40 0)) (C := RX0) (T := TX0) (N := 2) hx hb hg hinX0 hown hK hP 72 rl_Calendar rfl 1 (by decide) (hg _ qF_X6_125) (fun _ h9 => h9) rfl dX6_usedOnAllDays_18 ?_
    refine lv_icmp_ge (tgt := 41) hx hb dX6_usedOnAllDays_21 (by decide) (fun c_21 => ?_) (fun c_21 => ?_)
    · -- if_icmpge taken
      refine lv_lload_n hx hb dX6_usedOnAllDays_41 rfl (lv_at hl 1 rfl) ?_
      exact W.lret (v := foldN (c_usedAllF σ a0) (nx (σ 40 0) - nx (c_firstOf σ b0)) (nx (c_firstOf σ b0)) 0) hx hb hr (fun t ht hW => ⟨_, rfl, rfl, ht⟩) (fun _ h => nomatch h) dX6_usedOnAllDays_42
    · -- if_icmpge not taken
      exact absurd (nx_le (vp_pos hp0)) c_21

set_option maxHeartbeats 4000000 in
set_option maxRecDepth 100000 in
theorem m_ReplenishRules_usedOnPastDays (l : Launch) (G : va_G) (cA : Nat → ClassId) (ad : Nat → Nat) (σ : St) (a0 : Nat) (ha0 : a0 < 16) (hp0 : vp_in (σ 40 0) 400) : Met l yX6_usedOnPastDays (wX6_usedOnPastDays :: wG) ({ frames := 1, cells := 0, slots := 0, locals := 21 }) (va_Pc [.ref (ad 66), .ref (ad a0)] (rrW G cA ad σ)) (vp_Sl (fun r => r = c_usedPast σ a0)) 0 0 (fun _ => False) := by
  refine Met.ofW (cc := cX6_usedOnPastDays) (maxL := 5) (ret := (some .long)) (by decide) rfl ?_
  intro p e s m args below meth c s₁ B hml hv
  obtain ⟨rfl, hP, hK⟩ := hv
  have hx := B.exec
  have hb := B.bytes
  have hr := B.returns
  have hts := atoms_spec (ws := wX6_usedOnPastDays :: wG) B.pre
  have hg : ∀ w ∈ wG, w.before _ s = true := fun w h => hts w (List.mem_cons_of_mem _ h)
  have hown : s.vm.findClass RX6 = some m.cls := findClass_of_methodNamed B.named
  have hlocks := B.notSynchronized
  have hl := lv_entry ([.ref (ad 66), .ref (ad a0)]) (n := 5) (Nat.le_of_ble_eq_true rfl)
  rw [lg_entry_eq]
  generalize (lg_sl ([.ref (ad 66), .ref (ad a0)]) ++ List.replicate (5 - (lg_sl ([.ref (ad 66), .ref (ad a0)])).length) Slot.unset).toArray = ls at hl ⊢
  have hl : lv_has ls 5 [(0, .ref (ad 66)), (1, .ref (ad a0))] := hl
  refine lv_lconst (v := 0) hx hb dX6_usedOnPastDays_0 (by decide) ?_
  refine lv_lstore_n (lv' := [(2, .long 0), (0, .ref (ad 66)), (1, .ref (ad a0))]) hx hb dX6_usedOnPastDays_1 rfl hl (by decide) rfl (fun ls hl => ?_)
  refine lv_aload_n hx hb dX6_usedOnPastDays_2 rfl (lv_at hl 1 rfl) ?_
  refine va_get (D := G) (ci := 6) (v := .ref (ad 72)) (C := RX6) (T := TX6) (N := 8) hx hb hg hinX6 hown hK hP 66 rl_main rfl 5 (by decide) (hg _ qF_X6_34) (fun _ h9 => h9) rfl dX6_usedOnPastDays_3 ?_
  refine lv_bipush (v := 28) hx hb dX6_usedOnPastDays_6 (by decide) ?_
  refine vp_callSi (W.runV (As := [.int 28]) (rest := []) ⟨hx, hb, hml, hown, hg⟩ (m_Calendar_firstOf l G cA ad σ 28) (cwV 1 hg (gV qM_X6_255 qI_X0_firstOf qS_X0_firstOf qN_X0 kX0_firstOf) rfl rfl rfl (by decide +kernel) ⟨Nat.le_of_ble_eq_true rfl, Nat.le_of_ble_eq_true rfl⟩) (rr_pv hK hP (va_recv hK hP (ci := 0) (q0 := 72) rfl rl_Calendar)) rfl rfl hl.1 rfl (lv_room (Nat.le_of_ble_eq_true rfl)) dX6_usedOnPastDays_8 ⟨Nat.le_of_ble_eq_true rfl, Nat.le_of_ble_eq_true rfl⟩) (nm_e ?_)
  refine lv_topi (fun y_11 ey_11 => ?_)
  obtain rfl : y_11 = nI (nx (c_firstOf σ 28)) := ey_11.trans ((nI_nx (firstOf_pos (vp_pos hp0) (by decide))).symm)
  refine lv_istore (lv' := [(4, .int (nI (nx (c_firstOf σ 28)))), (2, .long 0), (0, .ref (ad 66)), (1, .ref (ad a0))]) hx hb dX6_usedOnPastDays_11 hl (by decide) rfl (fun ls hl => ?_)
  refine lp_ro (f := c_usedPastF σ a0) (t := nx (σ 40 0)) (nL := 5) (fun k a => [(4, .int (nI k)), (2, .long a), (0, .ref (ad 66)), (1, .ref (ad a0))]) (nx (σ 40 0) - nx (c_firstOf σ 28)) (nx (c_firstOf σ 28)) 0 (Nat.add_sub_cancel' (firstOf_le (vp_pos hp0) (by decide))) ?_ ?_ ls (lv_sub hl [0, 1, 2, 3] rfl)
  · intro k a hk IH ls hl
    have hl : lv_has ls 5 [(4, .int (nI k)), (2, .long a), (0, .ref (ad 66)), (1, .ref (ad a0))] := hl
    refine lv_iload hx hb dX6_usedOnPastDays_13 (lv_at hl 0 rfl) ?_
    refine lv_aload_n hx hb dX6_usedOnPastDays_15 rfl (lv_at hl 2 rfl) ?_
    refine va_get (D := G) (ci := 6) (v := .ref (ad 72)) (C := RX6) (T := TX6) (N := 8) hx hb hg hinX6 hown hK hP 66 rl_main rfl 5 (by decide) (hg _ qF_X6_34) (fun _ h9 => h9) rfl dX6_usedOnPastDays_16 ?_
    refine va_get (D := G) (ci := 0) (v := .int (σ 40 0)) (C := RX0) (T := TX0) (N := 2) hx hb hg hinX0 hown hK hP 72 rl_Calendar rfl 1 (by decide) (hg _ qF_X6_125) (fun _ h9 => h9) rfl dX6_usedOnPastDays_19 ?_
    refine lv_icmp_ge (tgt := 54) hx hb dX6_usedOnPastDays_22 (by decide) (fun c_22 => ?_) (fun c_22 => ?_)
    · -- if_icmpge taken
      exact absurd c_22 (nx_nle (vp_pos hp0) hk)
    · -- if_icmpge not taken
      refine lv_aload_n hx hb dX6_usedOnPastDays_25 rfl (lv_at hl 2 rfl) ?_
      refine va_get (D := G) (ci := 6) (v := .ref (ad 72)) (C := RX6) (T := TX6) (N := 8) hx hb hg hinX6 hown hK hP 66 rl_main rfl 5 (by decide) (hg _ qF_X6_34) (fun _ h9 => h9) rfl dX6_usedOnPastDays_26 ?_
      refine lv_iload hx hb dX6_usedOnPastDays_29 (lv_at hl 0 rfl) ?_
      refine vp_callSi (W.runV (As := [.int (nI k)]) (rest := []) ⟨hx, hb, hml, hown, hg⟩ (m_Calendar_isOpen l G cA ad σ (nI k) (day_in hp0 hk)) (cwV 1 hg (gV qM_X6_189 qI_X0_isOpen qS_X0_isOpen qN_X0 kX0_isOpen) rfl rfl rfl (by decide +kernel) ⟨Nat.le_of_ble_eq_true rfl, Nat.le_of_ble_eq_true rfl⟩) (rr_pv hK hP (va_recv hK hP (ci := 0) (q0 := 72) rfl rl_Calendar)) rfl rfl hl.1 rfl (lv_room (Nat.le_of_ble_eq_true rfl)) dX6_usedOnPastDays_31 ⟨Nat.le_of_ble_eq_true rfl, Nat.le_of_ble_eq_true rfl⟩) (nm_e ?_)
      refine lv_if_eq (tgt := 48) hx hb dX6_usedOnPastDays_34 (by decide) (fun c_34 => ?_) (fun c_34 => ?_)
      · -- ifeq taken
        refine lv_iinc (v := nI (k + 1)) (lv' := [(4, .int (nI (k + 1))), (2, .long a), (0, .ref (ad 66)), (1, .ref (ad a0))]) hx hb dX6_usedOnPastDays_48 hl (k := 0) rfl (nI_1 k) (by decide) rfl (fun ls hl => ?_)
        refine lv_goto (tgt := 13) hx hb dX6_usedOnPastDays_51 (by decide) ?_
        refine IH ls ?_
        show lv_has ls 5 [(4, .int (nI (k + 1))), (2, .long ((c_usedPastF σ a0) k a)), (0, .ref (ad 66)), (1, .ref (ad a0))]
        rw [show (c_usedPastF σ a0) k a = a from by simp only [c_usedPastF, if_neg c_22, if_pos c_34]]
        exact lv_sub hl [0, 1, 2, 3] rfl
      · -- ifeq not taken
        refine lv_lload_n hx hb dX6_usedOnPastDays_37 rfl (lv_at hl 1 rfl) ?_
        refine lv_aload_n hx hb dX6_usedOnPastDays_38 rfl (lv_at hl 3 rfl) ?_
        refine va_get (D := G) (ci := 2) (v := .ref (ad (16 + a0))) (C := RX2) (T := TX2) (N := 13) hx hb hg hinX2 hown hK hP a0 (rl_Place ha0) rfl 1 (by decide) (hg _ qF_X6_122) (fun _ h9 => h9) rfl dX6_usedOnPastDays_39 ?_
        refine lv_iload hx hb dX6_usedOnPastDays_42 (lv_at hl 0 rfl) ?_
        refine va_iald hx hb hK hP (16 + a0) 0 (rl_Used ha0) rfl (day_in hp0 hk) dX6_usedOnPastDays_44 ?_
        refine lv_i2l (v := (σ (100 + a0) (nx (nI k))).toInt64) hx hb dX6_usedOnPastDays_45 rfl ?_
        refine lv_ladd hx hb dX6_usedOnPastDays_46 ?_
        refine lv_lstore_n (lv' := [(2, .long (a + ((σ (100 + a0) (nx (nI k))).toInt64))), (4, .int (nI k)), (0, .ref (ad 66)), (1, .ref (ad a0))]) hx hb dX6_usedOnPastDays_47 rfl hl (by decide) rfl (fun ls hl => ?_)
        refine lv_iinc (v := nI (k + 1)) (lv' := [(4, .int (nI (k + 1))), (2, .long (a + ((σ (100 + a0) (nx (nI k))).toInt64))), (0, .ref (ad 66)), (1, .ref (ad a0))]) hx hb dX6_usedOnPastDays_48 hl (k := 1) rfl (nI_1 k) (by decide) rfl (fun ls hl => ?_)
        refine lv_goto (tgt := 13) hx hb dX6_usedOnPastDays_51 (by decide) ?_
        refine IH ls ?_
        show lv_has ls 5 [(4, .int (nI (k + 1))), (2, .long ((c_usedPastF σ a0) k a)), (0, .ref (ad 66)), (1, .ref (ad a0))]
        rw [show (c_usedPastF σ a0) k a = a + ((σ (100 + a0) (nx (nI k))).toInt64) from by simp only [c_usedPastF, if_neg c_22, if_neg c_34]]
        exact lv_sub hl [0, 1, 2, 3] rfl
  · intro ls hl
    have hl : lv_has ls 5 [(4, .int (nI (nx (σ 40 0)))), (2, .long (foldN (c_usedPastF σ a0) (nx (σ 40 0) - nx (c_firstOf σ 28)) (nx (c_firstOf σ 28)) 0)), (0, .ref (ad 66)), (1, .ref (ad a0))] := hl
    refine lv_iload hx hb dX6_usedOnPastDays_13 (lv_at hl 0 rfl) ?_
    refine lv_aload_n hx hb dX6_usedOnPastDays_15 rfl (lv_at hl 2 rfl) ?_
    refine va_get (D := G) (ci := 6) (v := .ref (ad 72)) (C := RX6) (T := TX6) (N := 8) hx hb hg hinX6 hown hK hP 66 rl_main rfl 5 (by decide) (hg _ qF_X6_34) (fun _ h9 => h9) rfl dX6_usedOnPastDays_16 ?_
    refine va_get (D := G) (ci := 0) (v := .int (σ 40 0)) (C := RX0) (T := TX0) (N := 2) hx hb hg hinX0 hown hK hP 72 rl_Calendar rfl 1 (by decide) (hg _ qF_X6_125) (fun _ h9 => h9) rfl dX6_usedOnPastDays_19 ?_
    refine lv_icmp_ge (tgt := 54) hx hb dX6_usedOnPastDays_22 (by decide) (fun c_22 => ?_) (fun c_22 => ?_)
    · -- if_icmpge taken
      refine lv_lload_n hx hb dX6_usedOnPastDays_54 rfl (lv_at hl 1 rfl) ?_
      exact W.lret (v := foldN (c_usedPastF σ a0) (nx (σ 40 0) - nx (c_firstOf σ 28)) (nx (c_firstOf σ 28)) 0) hx hb hr (fun t ht hW => ⟨_, rfl, rfl, ht⟩) (fun _ h => nomatch h) dX6_usedOnPastDays_55
    · -- if_icmpge not taken
      exact absurd (nx_le (vp_pos hp0)) c_22

set_option maxHeartbeats 4000000 in
set_option maxRecDepth 100000 in
theorem m_ReplenishRules_fadingUse (l : Launch) (G : va_G) (cA : Nat → ClassId) (ad : Nat → Nat) (σ : St) (a0 : Nat) (ha0 : a0 < 16) (hp0 : vp_in (σ 40 0) 400) : Met l yX6_fadingUse (wX6_fadingUse :: wG) ({ frames := 1, cells := 0, slots := 0, locals := 21 }) (va_Pc [.ref (ad 66), .ref (ad a0)] (rrW G cA ad σ)) (vp_Sl (fun r => r = c_fade σ a0)) 0 0 (fun _ => False) := by
  refine Met.ofW (cc := cX6_fadingUse) (maxL := 5) (ret := (some .long)) (by decide) rfl ?_
  intro p e s m args below meth c s₁ B hml hv
  obtain ⟨rfl, hP, hK⟩ := hv
  have hx := B.exec
  have hb := B.bytes
  have hr := B.returns
  have hts := atoms_spec (ws := wX6_fadingUse :: wG) B.pre
  have hg : ∀ w ∈ wG, w.before _ s = true := fun w h => hts w (List.mem_cons_of_mem _ h)
  have hown : s.vm.findClass RX6 = some m.cls := findClass_of_methodNamed B.named
  have hlocks := B.notSynchronized
  have hl := lv_entry ([.ref (ad 66), .ref (ad a0)]) (n := 5) (Nat.le_of_ble_eq_true rfl)
  rw [lg_entry_eq]
  generalize (lg_sl ([.ref (ad 66), .ref (ad a0)]) ++ List.replicate (5 - (lg_sl ([.ref (ad 66), .ref (ad a0)])).length) Slot.unset).toArray = ls at hl ⊢
  have hl : lv_has ls 5 [(0, .ref (ad 66)), (1, .ref (ad a0))] := hl
  refine lv_lconst (v := 0) hx hb dX6_fadingUse_0 (by decide) ?_
  refine lv_lstore_n (lv' := [(2, .long 0), (0, .ref (ad 66)), (1, .ref (ad a0))]) hx hb dX6_fadingUse_1 rfl hl (by decide) rfl (fun ls hl => ?_)
  refine lv_aload_n hx hb dX6_fadingUse_2 rfl (lv_at hl 1 rfl) ?_
  refine va_get (D := G) (ci := 6) (v := .ref (ad 72)) (C := RX6) (T := TX6) (N := 8) hx hb hg hinX6 hown hK hP 66 rl_main rfl 5 (by decide) (hg _ qF_X6_34) (fun _ h9 => h9) rfl dX6_fadingUse_3 ?_
  refine lv_bipush (v := 28) hx hb dX6_fadingUse_6 (by decide) ?_
  refine vp_callSi (W.runV (As := [.int 28]) (rest := []) ⟨hx, hb, hml, hown, hg⟩ (m_Calendar_firstOf l G cA ad σ 28) (cwV 1 hg (gV qM_X6_255 qI_X0_firstOf qS_X0_firstOf qN_X0 kX0_firstOf) rfl rfl rfl (by decide +kernel) ⟨Nat.le_of_ble_eq_true rfl, Nat.le_of_ble_eq_true rfl⟩) (rr_pv hK hP (va_recv hK hP (ci := 0) (q0 := 72) rfl rl_Calendar)) rfl rfl hl.1 rfl (lv_room (Nat.le_of_ble_eq_true rfl)) dX6_fadingUse_8 ⟨Nat.le_of_ble_eq_true rfl, Nat.le_of_ble_eq_true rfl⟩) (nm_e ?_)
  refine lv_topi (fun y_11 ey_11 => ?_)
  obtain rfl : y_11 = nI (nx (c_firstOf σ 28)) := ey_11.trans ((nI_nx (firstOf_pos (vp_pos hp0) (by decide))).symm)
  refine lv_istore (lv' := [(4, .int (nI (nx (c_firstOf σ 28)))), (2, .long 0), (0, .ref (ad 66)), (1, .ref (ad a0))]) hx hb dX6_fadingUse_11 hl (by decide) rfl (fun ls hl => ?_)
  refine lp_ro (f := c_fadeF σ a0) (t := nx (σ 40 0)) (nL := 5) (fun k a => [(4, .int (nI k)), (2, .long a), (0, .ref (ad 66)), (1, .ref (ad a0))]) (nx (σ 40 0) - nx (c_firstOf σ 28)) (nx (c_firstOf σ 28)) 0 (Nat.add_sub_cancel' (firstOf_le (vp_pos hp0) (by decide))) ?_ ?_ ls (lv_sub hl [0, 1, 2, 3] rfl)
  · intro k a hk IH ls hl
    have hl : lv_has ls 5 [(4, .int (nI k)), (2, .long a), (0, .ref (ad 66)), (1, .ref (ad a0))] := hl
    refine lv_iload hx hb dX6_fadingUse_13 (lv_at hl 0 rfl) ?_
    refine lv_aload_n hx hb dX6_fadingUse_15 rfl (lv_at hl 2 rfl) ?_
    refine va_get (D := G) (ci := 6) (v := .ref (ad 72)) (C := RX6) (T := TX6) (N := 8) hx hb hg hinX6 hown hK hP 66 rl_main rfl 5 (by decide) (hg _ qF_X6_34) (fun _ h9 => h9) rfl dX6_fadingUse_16 ?_
    refine va_get (D := G) (ci := 0) (v := .int (σ 40 0)) (C := RX0) (T := TX0) (N := 2) hx hb hg hinX0 hown hK hP 72 rl_Calendar rfl 1 (by decide) (hg _ qF_X6_125) (fun _ h9 => h9) rfl dX6_fadingUse_19 ?_
    refine lv_icmp_ge (tgt := 66) hx hb dX6_fadingUse_22 (by decide) (fun c_22 => ?_) (fun c_22 => ?_)
    · -- if_icmpge taken
      exact absurd c_22 (nx_nle (vp_pos hp0) hk)
    · -- if_icmpge not taken
      refine lv_aload_n hx hb dX6_fadingUse_25 rfl (lv_at hl 2 rfl) ?_
      refine va_get (D := G) (ci := 6) (v := .ref (ad 72)) (C := RX6) (T := TX6) (N := 8) hx hb hg hinX6 hown hK hP 66 rl_main rfl 5 (by decide) (hg _ qF_X6_34) (fun _ h9 => h9) rfl dX6_fadingUse_26 ?_
      refine lv_iload hx hb dX6_fadingUse_29 (lv_at hl 0 rfl) ?_
      refine vp_callSi (W.runV (As := [.int (nI k)]) (rest := []) ⟨hx, hb, hml, hown, hg⟩ (m_Calendar_isOpen l G cA ad σ (nI k) (day_in hp0 hk)) (cwV 1 hg (gV qM_X6_189 qI_X0_isOpen qS_X0_isOpen qN_X0 kX0_isOpen) rfl rfl rfl (by decide +kernel) ⟨Nat.le_of_ble_eq_true rfl, Nat.le_of_ble_eq_true rfl⟩) (rr_pv hK hP (va_recv hK hP (ci := 0) (q0 := 72) rfl rl_Calendar)) rfl rfl hl.1 rfl (lv_room (Nat.le_of_ble_eq_true rfl)) dX6_fadingUse_31 ⟨Nat.le_of_ble_eq_true rfl, Nat.le_of_ble_eq_true rfl⟩) (nm_e ?_)
      refine lv_if_eq (tgt := 60) hx hb dX6_fadingUse_34 (by decide) (fun c_34 => ?_) (fun c_34 => ?_)
      · -- ifeq taken
        refine lv_iinc (v := nI (k + 1)) (lv' := [(4, .int (nI (k + 1))), (2, .long a), (0, .ref (ad 66)), (1, .ref (ad a0))]) hx hb dX6_fadingUse_60 hl (k := 0) rfl (nI_1 k) (by decide) rfl (fun ls hl => ?_)
        refine lv_goto (tgt := 13) hx hb dX6_fadingUse_63 (by decide) ?_
        refine IH ls ?_
        show lv_has ls 5 [(4, .int (nI (k + 1))), (2, .long ((c_fadeF σ a0) k a)), (0, .ref (ad 66)), (1, .ref (ad a0))]
        rw [show (c_fadeF σ a0) k a = a from by simp only [c_fadeF, if_neg c_22, if_pos c_34]]
        exact lv_sub hl [0, 1, 2, 3] rfl
      · -- ifeq not taken
        refine lv_ldc2 (v := 7) hx hb hown (hg _ qD_X6_258) dX6_fadingUse_37 ?_
        refine lv_lload_n hx hb dX6_fadingUse_40 rfl (lv_at hl 1 rfl) ?_
        refine lv_lmul hx hb dX6_fadingUse_41 ?_
        refine lv_ldc2 (v := 1000) hx hb hown (hg _ qD_X6_260) dX6_fadingUse_42 ?_
        refine lv_aload_n hx hb dX6_fadingUse_45 rfl (lv_at hl 3 rfl) ?_
        refine va_get (D := G) (ci := 2) (v := .ref (ad (16 + a0))) (C := RX2) (T := TX2) (N := 13) hx hb hg hinX2 hown hK hP a0 (rl_Place ha0) rfl 1 (by decide) (hg _ qF_X6_122) (fun _ h9 => h9) rfl dX6_fadingUse_46 ?_
        refine lv_iload hx hb dX6_fadingUse_49 (lv_at hl 0 rfl) ?_
        refine va_iald hx hb hK hP (16 + a0) 0 (rl_Used ha0) rfl (day_in hp0 hk) dX6_fadingUse_51 ?_
        refine lv_i2l (v := (σ (100 + a0) (nx (nI k))).toInt64) hx hb dX6_fadingUse_52 rfl ?_
        refine lv_lmul hx hb dX6_fadingUse_53 ?_
        refine lv_ladd hx hb dX6_fadingUse_54 ?_
        refine lv_ldc2 (v := 8) hx hb hown (hg _ qD_X6_262) dX6_fadingUse_55 ?_
        refine lv_ldiv hx hb dX6_fadingUse_58 (by decide) ?_
        refine lv_lstore_n (lv' := [(2, .long (((7 * a) + (1000 * ((σ (100 + a0) (nx (nI k))).toInt64))) / 8)), (4, .int (nI k)), (0, .ref (ad 66)), (1, .ref (ad a0))]) hx hb dX6_fadingUse_59 rfl hl (by decide) rfl (fun ls hl => ?_)
        refine lv_iinc (v := nI (k + 1)) (lv' := [(4, .int (nI (k + 1))), (2, .long (((7 * a) + (1000 * ((σ (100 + a0) (nx (nI k))).toInt64))) / 8)), (0, .ref (ad 66)), (1, .ref (ad a0))]) hx hb dX6_fadingUse_60 hl (k := 1) rfl (nI_1 k) (by decide) rfl (fun ls hl => ?_)
        refine lv_goto (tgt := 13) hx hb dX6_fadingUse_63 (by decide) ?_
        refine IH ls ?_
        show lv_has ls 5 [(4, .int (nI (k + 1))), (2, .long ((c_fadeF σ a0) k a)), (0, .ref (ad 66)), (1, .ref (ad a0))]
        rw [show (c_fadeF σ a0) k a = ((7 * a) + (1000 * ((σ (100 + a0) (nx (nI k))).toInt64))) / 8 from by simp only [c_fadeF, if_neg c_22, if_neg c_34]]
        exact lv_sub hl [0, 1, 2, 3] rfl
  · intro ls hl
    have hl : lv_has ls 5 [(4, .int (nI (nx (σ 40 0)))), (2, .long (foldN (c_fadeF σ a0) (nx (σ 40 0) - nx (c_firstOf σ 28)) (nx (c_firstOf σ 28)) 0)), (0, .ref (ad 66)), (1, .ref (ad a0))] := hl
    refine lv_iload hx hb dX6_fadingUse_13 (lv_at hl 0 rfl) ?_
    refine lv_aload_n hx hb dX6_fadingUse_15 rfl (lv_at hl 2 rfl) ?_
    refine va_get (D := G) (ci := 6) (v := .ref (ad 72)) (C := RX6) (T := TX6) (N := 8) hx hb hg hinX6 hown hK hP 66 rl_main rfl 5 (by decide) (hg _ qF_X6_34) (fun _ h9 => h9) rfl dX6_fadingUse_16 ?_
    refine va_get (D := G) (ci := 0) (v := .int (σ 40 0)) (C := RX0) (T := TX0) (N := 2) hx hb hg hinX0 hown hK hP 72 rl_Calendar rfl 1 (by decide) (hg _ qF_X6_125) (fun _ h9 => h9) rfl dX6_fadingUse_19 ?_
    refine lv_icmp_ge (tgt := 66) hx hb dX6_fadingUse_22 (by decide) (fun c_22 => ?_) (fun c_22 => ?_)
    · -- if_icmpge taken
      refine lv_lload_n hx hb dX6_fadingUse_66 rfl (lv_at hl 1 rfl) ?_
      exact W.lret (v := foldN (c_fadeF σ a0) (nx (σ 40 0) - nx (c_firstOf σ 28)) (nx (c_firstOf σ 28)) 0) hx hb hr (fun t ht hW => ⟨_, rfl, rfl, ht⟩) (fun _ h => nomatch h) dX6_fadingUse_67
    · -- if_icmpge not taken
      exact absurd (nx_le (vp_pos hp0)) c_22

set_option maxHeartbeats 4000000 in
set_option maxRecDepth 100000 in
theorem m_ReplenishRules_divideUp (l : Launch) (a0 : Int64) (b0 : Int64) : Met l yX6_divideUp (wX6_divideUp :: wG) ({ frames := 0, cells := 0, slots := 0, locals := 0 }) (va_Pc [.long a0, .long b0] (fun _ => True)) (vp_Sl (fun r => r = c_divideUp a0 b0)) 0 0 (fun _ => False) := by
  refine Met.ofW (cc := cX6_divideUp) (maxL := 4) (ret := (some .long)) (by decide) rfl ?_
  intro p e s m args below meth c s₁ B hml hv
  obtain ⟨rfl, -⟩ := hv
  have hx := B.exec
  have hb := B.bytes
  have hr := B.returns
  have hts := atoms_spec (ws := wX6_divideUp :: wG) B.pre
  have hg : ∀ w ∈ wG, w.before _ s = true := fun w h => hts w (List.mem_cons_of_mem _ h)
  have hown : s.vm.findClass RX6 = some m.cls := findClass_of_methodNamed B.named
  have hlocks := B.notSynchronized
  have hl := lv_entry ([.long a0, .long b0]) (n := 4) (Nat.le_of_ble_eq_true rfl)
  rw [lg_entry_eq]
  generalize (lg_sl ([.long a0, .long b0]) ++ List.replicate (4 - (lg_sl ([.long a0, .long b0])).length) Slot.unset).toArray = ls at hl ⊢
  have hl : lv_has ls 4 [(0, .long a0), (2, .long b0)] := hl
  refine lv_lload_n hx hb dX6_divideUp_0 rfl (lv_at hl 1 rfl) ?_
  refine lv_lconst (v := 0) hx hb dX6_divideUp_1 (by decide) ?_
  refine W.lcmp hx hb dX6_divideUp_2 ?_
  refine lv_if_gt (tgt := 8) hx hb dX6_divideUp_3 (by decide) (fun c_3 => ?_) (fun c_3 => ?_)
  · -- ifgt taken
    refine lv_lload_n hx hb dX6_divideUp_8 rfl (lv_at hl 0 rfl) ?_
    refine lv_lload_n hx hb dX6_divideUp_9 rfl (lv_at hl 1 rfl) ?_
    refine lv_ladd hx hb dX6_divideUp_10 ?_
    refine lv_lconst (v := 1) hx hb dX6_divideUp_11 (by decide) ?_
    refine lv_lsub hx hb dX6_divideUp_12 ?_
    refine lv_lload_n hx hb dX6_divideUp_13 rfl (lv_at hl 1 rfl) ?_
    refine lv_ldiv hx hb dX6_divideUp_14 (cmp_pos_ne c_3) ?_
    exact W.lret (v := ((a0 + b0) - 1) / b0) hx hb hr (fun t ht hW => ⟨_, rfl, by simp only [c_divideUp, if_pos c_3], ht⟩) (fun _ h => nomatch h) dX6_divideUp_15
  · -- ifgt not taken
    refine lv_lconst (v := 0) hx hb dX6_divideUp_6 (by decide) ?_
    exact W.lret (v := 0) hx hb hr (fun t ht hW => ⟨_, rfl, by simp only [c_divideUp, if_neg c_3], ht⟩) (fun _ h => nomatch h) dX6_divideUp_7

set_option maxHeartbeats 4000000 in
set_option maxRecDepth 100000 in
theorem m_ReplenishRules_inFullCases (l : Launch) (a0 : Int32) (b0 : Int32) (c0 : Int32) : Met l yX6_inFullCases (wX6_inFullCases :: wG) ({ frames := 0, cells := 0, slots := 0, locals := 0 }) (va_Pc [.int a0, .int b0, .int c0] (fun _ => True)) (vp_Si (fun r => r = c_inFullCases a0 b0 c0)) 0 0 (fun _ => False) := by
  refine Met.ofW (cc := cX6_inFullCases) (maxL := 6) (ret := (some .int)) (by decide) rfl ?_
  intro p e s m args below meth c s₁ B hml hv
  obtain ⟨rfl, -⟩ := hv
  have hx := B.exec
  have hb := B.bytes
  have hr := B.returns
  have hts := atoms_spec (ws := wX6_inFullCases :: wG) B.pre
  have hg : ∀ w ∈ wG, w.before _ s = true := fun w h => hts w (List.mem_cons_of_mem _ h)
  have hown : s.vm.findClass RX6 = some m.cls := findClass_of_methodNamed B.named
  have hlocks := B.notSynchronized
  have hl := lv_entry ([.int a0, .int b0, .int c0]) (n := 6) (Nat.le_of_ble_eq_true rfl)
  rw [lg_entry_eq]
  generalize (lg_sl ([.int a0, .int b0, .int c0]) ++ List.replicate (6 - (lg_sl ([.int a0, .int b0, .int c0])).length) Slot.unset).toArray = ls at hl ⊢
  have hl : lv_has ls 6 [(0, .int a0), (1, .int b0), (2, .int c0)] := hl
  refine lv_iload_n hx hb dX6_inFullCases_0 rfl (lv_at hl 1 rfl) ?_
  refine lv_iconst (v := 1) hx hb dX6_inFullCases_1 (by decide) ?_
  refine lv_icmp_gt (tgt := 7) hx hb dX6_inFullCases_2 (by decide) (fun c_2 => ?_) (fun c_2 => ?_)
  · -- if_icmpgt taken
    refine lv_iload_n hx hb dX6_inFullCases_7 rfl (lv_at hl 0 rfl) ?_
    refine lv_iload_n hx hb dX6_inFullCases_8 rfl (lv_at hl 1 rfl) ?_
    refine lv_irem hx hb dX6_inFullCases_9 (one_lt_ne c_2) ?_
    refine lv_istore_n (lv' := [(3, .int (a0 - a0 / b0 * b0)), (0, .int a0), (1, .int b0), (2, .int c0)]) hx hb dX6_inFullCases_10 rfl hl (by decide) rfl (fun ls hl => ?_)
    refine lv_iload_n hx hb dX6_inFullCases_11 rfl (lv_at hl 0 rfl) ?_
    refine lv_if_ne (tgt := 17) hx hb dX6_inFullCases_12 (by decide) (fun c_12 => ?_) (fun c_12 => ?_)
    · -- ifne taken
      refine lv_iload_n hx hb dX6_inFullCases_17 rfl (lv_at hl 1 rfl) ?_
      refine lv_iload_n hx hb dX6_inFullCases_18 rfl (lv_at hl 0 rfl) ?_
      refine lv_isub hx hb dX6_inFullCases_19 ?_
      refine lv_istore (lv' := [(4, .int (a0 - (a0 - a0 / b0 * b0))), (3, .int (a0 - a0 / b0 * b0)), (0, .int a0), (1, .int b0), (2, .int c0)]) hx hb dX6_inFullCases_20 hl (by decide) rfl (fun ls hl => ?_)
      refine lv_iload hx hb dX6_inFullCases_22 (lv_at hl 0 rfl) ?_
      refine lv_iload_n hx hb dX6_inFullCases_24 rfl (lv_at hl 3 rfl) ?_
      refine lv_iadd hx hb dX6_inFullCases_25 ?_
      refine lv_istore (lv' := [(5, .int ((a0 - (a0 - a0 / b0 * b0)) + b0)), (4, .int (a0 - (a0 - a0 / b0 * b0))), (3, .int (a0 - a0 / b0 * b0)), (0, .int a0), (1, .int b0), (2, .int c0)]) hx hb dX6_inFullCases_26 hl (by decide) rfl (fun ls hl => ?_)
      refine lv_iload hx hb dX6_inFullCases_28 (lv_at hl 0 rfl) ?_
      refine lv_iload_n hx hb dX6_inFullCases_30 rfl (lv_at hl 5 rfl) ?_
      refine lv_icmp_gt (tgt := 39) hx hb dX6_inFullCases_31 (by decide) (fun c_31 => ?_) (fun c_31 => ?_)
      · -- if_icmpgt taken
        refine lv_iload hx hb dX6_inFullCases_39 (lv_at hl 1 rfl) ?_
        exact W.iret (v := a0 - (a0 - a0 / b0 * b0)) hx hb hr (fun t ht hW => ⟨_, rfl, by simp only [c_inFullCases, if_pos c_2, if_neg c_12, if_pos c_31], ht⟩) (fun _ h => nomatch h) dX6_inFullCases_41
      · -- if_icmpgt not taken
        refine lv_iload hx hb dX6_inFullCases_34 (lv_at hl 0 rfl) ?_
        refine lv_goto (tgt := 41) hx hb dX6_inFullCases_36 (by decide) ?_
        exact W.iret (v := (a0 - (a0 - a0 / b0 * b0)) + b0) hx hb hr (fun t ht hW => ⟨_, rfl, by simp only [c_inFullCases, if_pos c_2, if_neg c_12, if_neg c_31], ht⟩) (fun _ h => nomatch h) dX6_inFullCases_41
    · -- ifne not taken
      refine lv_iload_n hx hb dX6_inFullCases_15 rfl (lv_at hl 1 rfl) ?_
      exact W.iret (v := a0) hx hb hr (fun t ht hW => ⟨_, rfl, by simp only [c_inFullCases, if_pos c_2, if_pos c_12], ht⟩) (fun _ h => nomatch h) dX6_inFullCases_16
  · -- if_icmpgt not taken
    refine lv_iload_n hx hb dX6_inFullCases_5 rfl (lv_at hl 0 rfl) ?_
    exact W.iret (v := a0) hx hb hr (fun t ht hW => ⟨_, rfl, by simp only [c_inFullCases, if_neg c_2], ht⟩) (fun _ h => nomatch h) dX6_inFullCases_6

set_option maxHeartbeats 4000000 in
set_option maxRecDepth 100000 in
theorem m_ReplenishRules_forecastOf (l : Launch) (G : va_G) (cA : Nat → ClassId) (ad : Nat → Nat) (σ : St) (hI : Inv σ) (a0 : Nat) (ha0 : a0 < 16) : Met l yX6_forecastOf (wX6_forecastOf :: wG) ({ frames := 2, cells := 0, slots := 0, locals := 45 }) (va_Pc [.ref (ad 66), .ref (ad a0)] (rrW G cA ad σ)) (vp_Sl (fun r => r = c_forecastOf σ a0)) 0 0 (fun _ => False) := by
  refine Met.ofW (cc := cX6_forecastOf) (maxL := 9) (ret := (some .long)) (by decide) rfl ?_
  intro p e s m args below meth c s₁ B hml hv
  obtain ⟨rfl, hP, hK⟩ := hv
  have hx := B.exec
  have hb := B.bytes
  have hr := B.returns
  have hts := atoms_spec (ws := wX6_forecastOf :: wG) B.pre
  have hg : ∀ w ∈ wG, w.before _ s = true := fun w h => hts w (List.mem_cons_of_mem _ h)
  have hown : s.vm.findClass RX6 = some m.cls := findClass_of_methodNamed B.named
  have hlocks := B.notSynchronized
  have hl := lv_entry ([.ref (ad 66), .ref (ad a0)]) (n := 9) (Nat.le_of_ble_eq_true rfl)
  rw [lg_entry_eq]
  generalize (lg_sl ([.ref (ad 66), .ref (ad a0)]) ++ List.replicate (9 - (lg_sl ([.ref (ad 66), .ref (ad a0)])).length) Slot.unset).toArray = ls at hl ⊢
  have hl : lv_has ls 9 [(0, .ref (ad 66)), (1, .ref (ad a0))] := hl
  refine lv_aload_n hx hb dX6_forecastOf_0 rfl (lv_at hl 0 rfl) ?_
  refine va_get (D := G) (ci := 6) (v := .ref (ad 68)) (C := RX6) (T := TX6) (N := 8) hx hb hg hinX6 hown hK hP 66 rl_main rfl 1 (by decide) (hg _ qF_X6_17) (fun _ h9 => h9) rfl dX6_forecastOf_1 ?_
  refine lv_aload_n hx hb dX6_forecastOf_4 rfl (lv_at hl 1 rfl) ?_
  refine va_get (D := G) (ci := 2) (v := .int (σ 1 a0)) (C := RX2) (T := TX2) (N := 13) hx hb hg hinX2 hown hK hP a0 (rl_Place ha0) rfl 3 (by decide) (hg _ qF_X6_82) (fun _ h9 => h9) rfl dX6_forecastOf_5 ?_
  refine va_aldq hx hb hK hP 68 3 rl_rulesA rfl (inv_zone hI ha0) dX6_forecastOf_8 ?_
  show W _ _ _ _ _ _ _ _ _ _ _ _ _ _ _ (F0 m _ ls (.ref (ad (32 + nx (σ 1 a0))) :: []))
  refine lv_astore_n (lv' := [(2, .ref (ad (32 + nx (σ 1 a0)))), (0, .ref (ad 66)), (1, .ref (ad a0))]) hx hb dX6_forecastOf_9 rfl hl (by decide) rfl (fun ls hl => ?_)
  refine lv_aload_n hx hb dX6_forecastOf_10 rfl (lv_at hl 0 rfl) ?_
  refine lv_aload_n hx hb dX6_forecastOf_11 rfl (lv_at hl 1 rfl) ?_
  refine va_get (D := G) (ci := 6) (v := .ref (ad 72)) (C := RX6) (T := TX6) (N := 8) hx hb hg hinX6 hown hK hP 66 rl_main rfl 5 (by decide) (hg _ qF_X6_34) (fun _ h9 => h9) rfl dX6_forecastOf_12 ?_
  refine va_get (D := G) (ci := 0) (v := .int (σ 40 0)) (C := RX0) (T := TX0) (N := 2) hx hb hg hinX0 hown hK hP 72 rl_Calendar rfl 1 (by decide) (hg _ qF_X6_125) (fun _ h9 => h9) rfl dX6_forecastOf_15 ?_
  refine vp_callSi (W.runV (As := [.int (σ 40 0)]) (rest := []) ⟨hx, hb, hml, hown, hg⟩ (m_Rule_kindOn l G cA ad σ (nx (σ 1 a0)) (vp_lt (inv_zone hI ha0)) (σ 40 0)) (cwV 1 hg (gV qM_X6_264 qI_X4_kindOn qS_X4_kindOn qN_X4 kX4_kindOn) rfl rfl rfl (by decide +kernel) ⟨Nat.le_of_ble_eq_true rfl, Nat.le_of_ble_eq_true rfl⟩) (rr_pv hK hP (va_recv hK hP (ci := 4) (q0 := (32 + (nx (σ 1 a0)))) rfl (rl_Rule (vp_lt (inv_zone hI ha0))))) rfl rfl hl.1 rfl (lv_room (Nat.le_of_ble_eq_true rfl)) dX6_forecastOf_18 ⟨Nat.le_of_ble_eq_true rfl, Nat.le_of_ble_eq_true rfl⟩) (nm_e ?_)
  refine lv_istore_n (lv' := [(3, .int (c_kindOn σ (nx (σ 1 a0)) (σ 40 0))), (2, .ref (ad (32 + nx (σ 1 a0)))), (0, .ref (ad 66)), (1, .ref (ad a0))]) hx hb dX6_forecastOf_21 rfl hl (by decide) rfl (fun ls hl => ?_)
  refine lv_aload_n hx hb dX6_forecastOf_22 rfl (lv_at hl 2 rfl) ?_
  refine va_get (D := G) (ci := 6) (v := .ref (ad 72)) (C := RX6) (T := TX6) (N := 8) hx hb hg hinX6 hown hK hP 66 rl_main rfl 5 (by decide) (hg _ qF_X6_34) (fun _ h9 => h9) rfl dX6_forecastOf_23 ?_
  refine vp_callSi (W.runV (As := []) (rest := []) ⟨hx, hb, hml, hown, hg⟩ (m_Calendar_month l G cA ad σ) (cwV 0 hg (gV qM_X6_267 qI_X0_month qS_X0_month qN_X0 kX0_month) rfl rfl rfl (by decide +kernel) ⟨Nat.le_of_ble_eq_true rfl, Nat.le_of_ble_eq_true rfl⟩) (rr_pv hK hP (va_recv hK hP (ci := 0) (q0 := 72) rfl rl_Calendar)) rfl rfl hl.1 rfl (lv_room (Nat.le_of_ble_eq_true rfl)) dX6_forecastOf_26 ⟨Nat.le_of_ble_eq_true rfl, Nat.le_of_ble_eq_true rfl⟩) (nm_e ?_)
  refine lv_istore (lv' := [(4, .int (c_month σ)), (3, .int (c_kindOn σ (nx (σ 1 a0)) (σ 40 0))), (2, .ref (ad (32 + nx (σ 1 a0)))), (0, .ref (ad 66)), (1, .ref (ad a0))]) hx hb dX6_forecastOf_29 hl (by decide) rfl (fun ls hl => ?_)
  refine lv_aload_n hx hb dX6_forecastOf_31 rfl (lv_at hl 2 rfl) ?_
  refine lv_aload_n hx hb dX6_forecastOf_32 rfl (lv_at hl 3 rfl) ?_
  refine va_get (D := G) (ci := 6) (v := .ref (ad 72)) (C := RX6) (T := TX6) (N := 8) hx hb hg hinX6 hown hK hP 66 rl_main rfl 5 (by decide) (hg _ qF_X6_34) (fun _ h9 => h9) rfl dX6_forecastOf_33 ?_
  refine va_get (D := G) (ci := 0) (v := .int (σ 40 0)) (C := RX0) (T := TX0) (N := 2) hx hb hg hinX0 hown hK hP 72 rl_Calendar rfl 1 (by decide) (hg _ qF_X6_125) (fun _ h9 => h9) rfl dX6_forecastOf_36 ?_
  refine vp_callSi (W.runV (As := [.int (σ 40 0)]) (rest := []) ⟨hx, hb, hml, hown, hg⟩ (m_Rule_aheadOn l G cA ad σ (nx (σ 1 a0)) (vp_lt (inv_zone hI ha0)) (σ 40 0)) (cwV 1 hg (gV qM_X6_270 qI_X4_aheadOn qS_X4_aheadOn qN_X4 kX4_aheadOn) rfl rfl rfl (by decide +kernel) ⟨Nat.le_of_ble_eq_true rfl, Nat.le_of_ble_eq_true rfl⟩) (rr_pv hK hP (va_recv hK hP (ci := 4) (q0 := (32 + (nx (σ 1 a0)))) rfl (rl_Rule (vp_lt (inv_zone hI ha0))))) rfl rfl hl.1 rfl (lv_room (Nat.le_of_ble_eq_true rfl)) dX6_forecastOf_39 ⟨Nat.le_of_ble_eq_true rfl, Nat.le_of_ble_eq_true rfl⟩) (nm_e ?_)
  refine lv_i2l (v := (c_aheadOn σ (nx (σ 1 a0)) (σ 40 0)).toInt64) hx hb dX6_forecastOf_42 rfl ?_
  refine lv_aload_n hx hb dX6_forecastOf_43 rfl (lv_at hl 3 rfl) ?_
  refine va_get (D := G) (ci := 6) (v := .ref (ad 70)) (C := RX6) (T := TX6) (N := 8) hx hb hg hinX6 hown hK hP 66 rl_main rfl 3 (by decide) (hg _ qF_X6_25) (fun _ h9 => h9) rfl dX6_forecastOf_44 ?_
  refine lv_iload hx hb dX6_forecastOf_47 (lv_at hl 0 rfl) ?_
  refine va_iald hx hb hK hP 70 0 rl_upsA rfl (month_in (inv_today hI)) dX6_forecastOf_49 ?_
  refine lv_i2l (v := (σ 31 (nx (c_month σ))).toInt64) hx hb dX6_forecastOf_50 rfl ?_
  refine lv_lmul hx hb dX6_forecastOf_51 ?_
  refine lv_lstore (lv' := [(5, .long (((c_aheadOn σ (nx (σ 1 a0)) (σ 40 0)).toInt64) * ((σ 31 (nx (c_month σ))).toInt64))), (4, .int (c_month σ)), (3, .int (c_kindOn σ (nx (σ 1 a0)) (σ 40 0))), (2, .ref (ad (32 + nx (σ 1 a0)))), (0, .ref (ad 66)), (1, .ref (ad a0))]) hx hb dX6_forecastOf_52 hl (by decide) rfl (fun ls hl => ?_)
  refine lv_iload_n hx hb dX6_forecastOf_54 rfl (lv_at hl 2 rfl) ?_
  refine lv_iconst (v := 1) hx hb dX6_forecastOf_55 (by decide) ?_
  refine lv_icmp_ne (tgt := 94) hx hb dX6_forecastOf_56 (by decide) (fun c_56 => ?_) (fun c_56 => ?_)
  · -- if_icmpne taken
    refine lv_iload_n hx hb dX6_forecastOf_94 rfl (lv_at hl 2 rfl) ?_
    refine lv_iconst (v := 2) hx hb dX6_forecastOf_95 (by decide) ?_
    refine lv_icmp_ne (tgt := 123) hx hb dX6_forecastOf_96 (by decide) (fun c_96 => ?_) (fun c_96 => ?_)
    · -- if_icmpne taken
      refine lv_lconst (v := 0) hx hb dX6_forecastOf_123 (by decide) ?_
      exact W.lret (v := 0) hx hb hr (fun t ht hW => ⟨_, rfl, by simp only [c_forecastOf, if_neg c_56, if_neg c_96], ht⟩) (fun _ h => nomatch h) dX6_forecastOf_124
    · -- if_icmpne not taken
      refine lv_aload_n hx hb dX6_forecastOf_99 rfl (lv_at hl 4 rfl) ?_
      refine lv_aload_n hx hb dX6_forecastOf_100 rfl (lv_at hl 5 rfl) ?_
      refine vp_callSl (W.runV (As := [.ref (ad a0)]) (rest := []) ⟨hx, hb, hml, hown, hg⟩ (m_ReplenishRules_fadingUse l G cA ad σ a0 ha0 (inv_today hI)) (cwV 1 hg (gV qM_X6_280 qI_X6_fadingUse qS_X6_fadingUse qN_X6 kX6_fadingUse) rfl rfl rfl (by decide +kernel) ⟨Nat.le_of_ble_eq_true rfl, Nat.le_of_ble_eq_true rfl⟩) (rr_pv hK hP (va_recv hK hP (ci := 6) (q0 := 66) rfl rl_main)) rfl rfl hl.1 rfl (lv_room (Nat.le_of_ble_eq_true rfl)) dX6_forecastOf_101 ⟨Nat.le_of_ble_eq_true rfl, Nat.le_of_ble_eq_true rfl⟩) (nm_e ?_)
      refine lv_lload hx hb dX6_forecastOf_104 (lv_at hl 0 rfl) ?_
      refine lv_lmul hx hb dX6_forecastOf_106 ?_
      refine lv_ldc2 (v := 1000) hx hb hown (hg _ qD_X6_260) dX6_forecastOf_107 ?_
      refine lv_aload_n hx hb dX6_forecastOf_110 rfl (lv_at hl 4 rfl) ?_
      refine va_get (D := G) (ci := 6) (v := .ref (ad 71)) (C := RX6) (T := TX6) (N := 8) hx hb hg hinX6 hown hK hP 66 rl_main rfl 4 (by decide) (hg _ qF_X6_28) (fun _ h9 => h9) rfl dX6_forecastOf_111 ?_
      refine lv_iload hx hb dX6_forecastOf_114 (lv_at hl 1 rfl) ?_
      refine va_iald hx hb hK hP 71 0 rl_downsA rfl (month_in (inv_today hI)) dX6_forecastOf_116 ?_
      refine lv_i2l (v := (σ 32 (nx (c_month σ))).toInt64) hx hb dX6_forecastOf_117 rfl ?_
      refine lv_lmul hx hb dX6_forecastOf_118 ?_
      refine vp_callSl (W.runS (As := [.long ((c_fade σ a0) * (((c_aheadOn σ (nx (σ 1 a0)) (σ 40 0)).toInt64) * ((σ 31 (nx (c_month σ))).toInt64))), .long (1000 * ((σ 32 (nx (c_month σ))).toInt64))]) (rest := []) ⟨hx, hb, hml, hown, hg⟩ (m_ReplenishRules_divideUp l ((c_fade σ a0) * (((c_aheadOn σ (nx (σ 1 a0)) (σ 40 0)).toInt64) * ((σ 31 (nx (c_month σ))).toInt64))) (1000 * ((σ 32 (nx (c_month σ))).toInt64))) (cwS 2 hg (gS qM_X6_276 qT_X6_divideUp qN_X6 kX6_divideUp) rfl rfl rfl (by decide +kernel) ⟨Nat.le_of_ble_eq_true rfl, Nat.le_of_ble_eq_true rfl⟩) ⟨fun _ _ _ _ q => q, fun _ _ _ => ⟨rfl, trivial⟩⟩ rfl rfl hl.1 rfl (lv_room (Nat.le_of_ble_eq_true rfl)) dX6_forecastOf_119 ⟨Nat.le_of_ble_eq_true rfl, Nat.le_of_ble_eq_true rfl⟩) (nm_e ?_)
      exact W.lret (v := c_divideUp ((c_fade σ a0) * (((c_aheadOn σ (nx (σ 1 a0)) (σ 40 0)).toInt64) * ((σ 31 (nx (c_month σ))).toInt64))) (1000 * ((σ 32 (nx (c_month σ))).toInt64))) hx hb hr (fun t ht hW => ⟨_, rfl, by simp only [c_forecastOf, if_neg c_56, if_pos c_96], ht⟩) (fun _ h => nomatch h) dX6_forecastOf_122
  · -- if_icmpne not taken
    refine lv_aload_n hx hb dX6_forecastOf_59 rfl (lv_at hl 4 rfl) ?_
    refine va_get (D := G) (ci := 6) (v := .ref (ad 72)) (C := RX6) (T := TX6) (N := 8) hx hb hg hinX6 hown hK hP 66 rl_main rfl 5 (by decide) (hg _ qF_X6_34) (fun _ h9 => h9) rfl dX6_forecastOf_60 ?_
    refine lv_bipush (v := 28) hx hb dX6_forecastOf_63 (by decide) ?_
    refine vp_callSi (W.runV (As := [.int 28]) (rest := []) ⟨hx, hb, hml, hown, hg⟩ (m_Calendar_openDays l G cA ad σ 28 (inv_today hI) (by decide)) (cwV 1 hg (gV qM_X6_165 qI_X0_openDays qS_X0_openDays qN_X0 kX0_openDays) rfl rfl rfl (by decide +kernel) ⟨Nat.le_of_ble_eq_true rfl, Nat.le_of_ble_eq_true rfl⟩) (rr_pv hK hP (va_recv hK hP (ci := 0) (q0 := 72) rfl rl_Calendar)) rfl rfl hl.1 rfl (lv_room (Nat.le_of_ble_eq_true rfl)) dX6_forecastOf_65 ⟨Nat.le_of_ble_eq_true rfl, Nat.le_of_ble_eq_true rfl⟩) (nm_e ?_)
    refine lv_i2l (v := (c_openDays σ 28).toInt64) hx hb dX6_forecastOf_68 rfl ?_
    refine lv_lstore (lv' := [(7, .long ((c_openDays σ 28).toInt64)), (5, .long (((c_aheadOn σ (nx (σ 1 a0)) (σ 40 0)).toInt64) * ((σ 31 (nx (c_month σ))).toInt64))), (4, .int (c_month σ)), (3, .int (c_kindOn σ (nx (σ 1 a0)) (σ 40 0))), (2, .ref (ad (32 + nx (σ 1 a0)))), (0, .ref (ad 66)), (1, .ref (ad a0))]) hx hb dX6_forecastOf_69 hl (by decide) rfl (fun ls hl => ?_)
    refine lv_aload_n hx hb dX6_forecastOf_71 rfl (lv_at hl 5 rfl) ?_
    refine lv_aload_n hx hb dX6_forecastOf_72 rfl (lv_at hl 6 rfl) ?_
    refine vp_callSl (W.runV (As := [.ref (ad a0)]) (rest := []) ⟨hx, hb, hml, hown, hg⟩ (m_ReplenishRules_usedOnPastDays l G cA ad σ a0 ha0 (inv_today hI)) (cwV 1 hg (gV qM_X6_273 qI_X6_usedOnPastDays qS_X6_usedOnPastDays qN_X6 kX6_usedOnPastDays) rfl rfl rfl (by decide +kernel) ⟨Nat.le_of_ble_eq_true rfl, Nat.le_of_ble_eq_true rfl⟩) (rr_pv hK hP (va_recv hK hP (ci := 6) (q0 := 66) rfl rl_main)) rfl rfl hl.1 rfl (lv_room (Nat.le_of_ble_eq_true rfl)) dX6_forecastOf_73 ⟨Nat.le_of_ble_eq_true rfl, Nat.le_of_ble_eq_true rfl⟩) (nm_e ?_)
    refine lv_lload hx hb dX6_forecastOf_76 (lv_at hl 1 rfl) ?_
    refine lv_lmul hx hb dX6_forecastOf_78 ?_
    refine lv_lload hx hb dX6_forecastOf_79 (lv_at hl 0 rfl) ?_
    refine lv_aload_n hx hb dX6_forecastOf_81 rfl (lv_at hl 5 rfl) ?_
    refine va_get (D := G) (ci := 6) (v := .ref (ad 71)) (C := RX6) (T := TX6) (N := 8) hx hb hg hinX6 hown hK hP 66 rl_main rfl 4 (by decide) (hg _ qF_X6_28) (fun _ h9 => h9) rfl dX6_forecastOf_82 ?_
    refine lv_iload hx hb dX6_forecastOf_85 (lv_at hl 2 rfl) ?_
    refine va_iald hx hb hK hP 71 0 rl_downsA rfl (month_in (inv_today hI)) dX6_forecastOf_87 ?_
    refine lv_i2l (v := (σ 32 (nx (c_month σ))).toInt64) hx hb dX6_forecastOf_88 rfl ?_
    refine lv_lmul hx hb dX6_forecastOf_89 ?_
    refine vp_callSl (W.runS (As := [.long ((c_usedPast σ a0) * (((c_aheadOn σ (nx (σ 1 a0)) (σ 40 0)).toInt64) * ((σ 31 (nx (c_month σ))).toInt64))), .long (((c_openDays σ 28).toInt64) * ((σ 32 (nx (c_month σ))).toInt64))]) (rest := []) ⟨hx, hb, hml, hown, hg⟩ (m_ReplenishRules_divideUp l ((c_usedPast σ a0) * (((c_aheadOn σ (nx (σ 1 a0)) (σ 40 0)).toInt64) * ((σ 31 (nx (c_month σ))).toInt64))) (((c_openDays σ 28).toInt64) * ((σ 32 (nx (c_month σ))).toInt64))) (cwS 2 hg (gS qM_X6_276 qT_X6_divideUp qN_X6 kX6_divideUp) rfl rfl rfl (by decide +kernel) ⟨Nat.le_of_ble_eq_true rfl, Nat.le_of_ble_eq_true rfl⟩) ⟨fun _ _ _ _ q => q, fun _ _ _ => ⟨rfl, trivial⟩⟩ rfl rfl hl.1 rfl (lv_room (Nat.le_of_ble_eq_true rfl)) dX6_forecastOf_90 ⟨Nat.le_of_ble_eq_true rfl, Nat.le_of_ble_eq_true rfl⟩) (nm_e ?_)
    exact W.lret (v := c_divideUp ((c_usedPast σ a0) * (((c_aheadOn σ (nx (σ 1 a0)) (σ 40 0)).toInt64) * ((σ 31 (nx (c_month σ))).toInt64))) (((c_openDays σ 28).toInt64) * ((σ 32 (nx (c_month σ))).toInt64))) hx hb hr (fun t ht hW => ⟨_, rfl, by simp only [c_forecastOf, if_pos c_56], ht⟩) (fun _ h => nomatch h) dX6_forecastOf_93

set_option maxHeartbeats 4000000 in
set_option maxRecDepth 100000 in
theorem m_ReplenishRules_needOf (l : Launch) (G : va_G) (cA : Nat → ClassId) (ad : Nat → Nat) (σ : St) (hI : Inv σ) (a0 : Nat) (ha0 : a0 < 16) : Met l yX6_needOf (wX6_needOf :: wG) ({ frames := 3, cells := 0, slots := 0, locals := 73 }) (va_Pc [.ref (ad 66), .ref (ad a0)] (rrW G cA ad σ)) (vp_Sl (fun r => r = c_needOf σ a0)) 0 0 (fun _ => False) := by
  refine Met.ofW (cc := cX6_needOf) (maxL := 6) (ret := (some .long)) (by decide) rfl ?_
  intro p e s m args below meth c s₁ B hml hv
  obtain ⟨rfl, hP, hK⟩ := hv
  have hx := B.exec
  have hb := B.bytes
  have hr := B.returns
  have hts := atoms_spec (ws := wX6_needOf :: wG) B.pre
  have hg : ∀ w ∈ wG, w.before _ s = true := fun w h => hts w (List.mem_cons_of_mem _ h)
  have hown : s.vm.findClass RX6 = some m.cls := findClass_of_methodNamed B.named
  have hlocks := B.notSynchronized
  have hl := lv_entry ([.ref (ad 66), .ref (ad a0)]) (n := 6) (Nat.le_of_ble_eq_true rfl)
  rw [lg_entry_eq]
  generalize (lg_sl ([.ref (ad 66), .ref (ad a0)]) ++ List.replicate (6 - (lg_sl ([.ref (ad 66), .ref (ad a0)])).length) Slot.unset).toArray = ls at hl ⊢
  have hl : lv_has ls 6 [(0, .ref (ad 66)), (1, .ref (ad a0))] := hl
  refine lv_aload_n hx hb dX6_needOf_0 rfl (lv_at hl 0 rfl) ?_
  refine va_get (D := G) (ci := 6) (v := .ref (ad 72)) (C := RX6) (T := TX6) (N := 8) hx hb hg hinX6 hown hK hP 66 rl_main rfl 5 (by decide) (hg _ qF_X6_34) (fun _ h9 => h9) rfl dX6_needOf_1 ?_
  refine va_get (D := G) (ci := 0) (v := .int (σ 40 0)) (C := RX0) (T := TX0) (N := 2) hx hb hg hinX0 hown hK hP 72 rl_Calendar rfl 1 (by decide) (hg _ qF_X6_125) (fun _ h9 => h9) rfl dX6_needOf_4 ?_
  refine lv_istore_n (lv' := [(2, .int (σ 40 0)), (0, .ref (ad 66)), (1, .ref (ad a0))]) hx hb dX6_needOf_7 rfl hl (by decide) rfl (fun ls hl => ?_)
  refine lv_iload_n hx hb dX6_needOf_8 rfl (lv_at hl 0 rfl) ?_
  refine lv_aload_n hx hb dX6_needOf_9 rfl (lv_at hl 1 rfl) ?_
  refine va_get (D := G) (ci := 6) (v := .ref (ad 68)) (C := RX6) (T := TX6) (N := 8) hx hb hg hinX6 hown hK hP 66 rl_main rfl 1 (by decide) (hg _ qF_X6_17) (fun _ h9 => h9) rfl dX6_needOf_10 ?_
  refine lv_aload_n hx hb dX6_needOf_13 rfl (lv_at hl 2 rfl) ?_
  refine va_get (D := G) (ci := 2) (v := .int (σ 1 a0)) (C := RX2) (T := TX2) (N := 13) hx hb hg hinX2 hown hK hP a0 (rl_Place ha0) rfl 3 (by decide) (hg _ qF_X6_82) (fun _ h9 => h9) rfl dX6_needOf_14 ?_
  refine va_aldq hx hb hK hP 68 3 rl_rulesA rfl (inv_zone hI ha0) dX6_needOf_17 ?_
  show W _ _ _ _ _ _ _ _ _ _ _ _ _ _ _ (F0 m _ ls (.ref (ad (32 + nx (σ 1 a0))) :: [.int (σ 40 0)]))
  refine lv_iload_n hx hb dX6_needOf_18 rfl (lv_at hl 0 rfl) ?_
  refine vp_callSi (W.runV (As := [.int (σ 40 0)]) (rest := [.int (σ 40 0)]) ⟨hx, hb, hml, hown, hg⟩ (m_Rule_aheadOn l G cA ad σ (nx (σ 1 a0)) (vp_lt (inv_zone hI ha0)) (σ 40 0)) (cwV 1 hg (gV qM_X6_270 qI_X4_aheadOn qS_X4_aheadOn qN_X4 kX4_aheadOn) rfl rfl rfl (by decide +kernel) ⟨Nat.le_of_ble_eq_true rfl, Nat.le_of_ble_eq_true rfl⟩) (rr_pv hK hP (va_recv hK hP (ci := 4) (q0 := (32 + (nx (σ 1 a0)))) rfl (rl_Rule (vp_lt (inv_zone hI ha0))))) rfl rfl hl.1 rfl (lv_room (Nat.le_of_ble_eq_true rfl)) dX6_needOf_19 ⟨Nat.le_of_ble_eq_true rfl, Nat.le_of_ble_eq_true rfl⟩) (nm_e ?_)
  refine lv_iadd hx hb dX6_needOf_22 ?_
  refine lv_istore_n (lv' := [(3, .int ((σ 40 0) + (c_aheadOn σ (nx (σ 1 a0)) (σ 40 0)))), (2, .int (σ 40 0)), (0, .ref (ad 66)), (1, .ref (ad a0))]) hx hb dX6_needOf_23 rfl hl (by decide) rfl (fun ls hl => ?_)
  refine lv_aload_n hx hb dX6_needOf_24 rfl (lv_at hl 2 rfl) ?_
  refine va_get (D := G) (ci := 6) (v := .ref (ad 74)) (C := RX6) (T := TX6) (N := 8) hx hb hg hinX6 hown hK hP 66 rl_main rfl 6 (by decide) (hg _ qF_X6_41) (fun _ h9 => h9) rfl dX6_needOf_25 ?_
  refine lv_aload_n hx hb dX6_needOf_28 rfl (lv_at hl 3 rfl) ?_
  refine va_get (D := G) (ci := 2) (v := .int (nI a0)) (C := RX2) (T := TX2) (N := 13) hx hb hg hinX2 hown hK hP a0 (rl_Place ha0) rfl 0 (by decide) (hg _ qF_X6_153) (fun _ h9 => h9) rfl dX6_needOf_29 ?_
  refine lv_iload_n hx hb dX6_needOf_32 rfl (lv_at hl 1 rfl) ?_
  refine lv_iload_n hx hb dX6_needOf_33 rfl (lv_at hl 0 rfl) ?_
  refine vp_callSl (W.runV (As := [.int (nI a0), .int (σ 40 0), .int ((σ 40 0) + (c_aheadOn σ (nx (σ 1 a0)) (σ 40 0)))]) (rest := []) ⟨hx, hb, hml, hown, hg⟩ (m_Waves_neededOf l G cA ad σ (nI a0) (σ 40 0) ((σ 40 0) + (c_aheadOn σ (nx (σ 1 a0)) (σ 40 0))) (inv_wc hI).1 (inv_wc hI).2) (cwV 3 hg (gV qM_X6_283 qI_X5_neededOf qS_X5_neededOf qN_X5 kX5_neededOf) rfl rfl rfl (by decide +kernel) ⟨Nat.le_of_ble_eq_true rfl, Nat.le_of_ble_eq_true rfl⟩) (rr_pv hK hP (va_recv hK hP (ci := 5) (q0 := 74) rfl rl_Waves)) rfl rfl hl.1 rfl (lv_room (Nat.le_of_ble_eq_true rfl)) dX6_needOf_34 ⟨Nat.le_of_ble_eq_true rfl, Nat.le_of_ble_eq_true rfl⟩) (nm_e ?_)
  refine lv_lstore (lv' := [(4, .long (c_neededOf σ (nI a0) (σ 40 0) ((σ 40 0) + (c_aheadOn σ (nx (σ 1 a0)) (σ 40 0))))), (3, .int ((σ 40 0) + (c_aheadOn σ (nx (σ 1 a0)) (σ 40 0)))), (2, .int (σ 40 0)), (0, .ref (ad 66)), (1, .ref (ad a0))]) hx hb dX6_needOf_37 hl (by decide) rfl (fun ls hl => ?_)
  refine lv_aload_n hx hb dX6_needOf_39 rfl (lv_at hl 4 rfl) ?_
  refine va_get (D := G) (ci := 2) (v := .int (σ 6 a0)) (C := RX2) (T := TX2) (N := 13) hx hb hg hinX2 hown hK hP a0 (rl_Place ha0) rfl 8 (by decide) (hg _ qF_X6_94) (fun _ h9 => h9) rfl dX6_needOf_40 ?_
  refine lv_i2l (v := (σ 6 a0).toInt64) hx hb dX6_needOf_43 rfl ?_
  refine lv_aload_n hx hb dX6_needOf_44 rfl (lv_at hl 3 rfl) ?_
  refine lv_aload_n hx hb dX6_needOf_45 rfl (lv_at hl 4 rfl) ?_
  refine vp_callSl (W.runV (As := [.ref (ad a0)]) (rest := [.long ((σ 6 a0).toInt64)]) ⟨hx, hb, hml, hown, hg⟩ (m_ReplenishRules_forecastOf l G cA ad σ hI a0 ha0) (cwV 1 hg (gV qM_X6_178 qI_X6_forecastOf qS_X6_forecastOf qN_X6 kX6_forecastOf) rfl rfl rfl (by decide +kernel) ⟨Nat.le_of_ble_eq_true rfl, Nat.le_of_ble_eq_true rfl⟩) (rr_pv hK hP (va_recv hK hP (ci := 6) (q0 := 66) rfl rl_main)) rfl rfl hl.1 rfl (lv_room (Nat.le_of_ble_eq_true rfl)) dX6_needOf_46 ⟨Nat.le_of_ble_eq_true rfl, Nat.le_of_ble_eq_true rfl⟩) (nm_e ?_)
  refine va_mmax_long hx hb (hml.trans hl.1.symm) hown (hg _ qM_X6_287) (hg _ qT_Math_max_l) (hg _ qN_Math) (hg _ qY_Math_max_l) (Nat.le_of_ble_eq_true rfl) (Nat.le_of_ble_eq_true rfl) (Nat.le_of_ble_eq_true rfl) (Nat.le_of_ble_eq_true rfl) dX6_needOf_49 ?_
  show W _ _ _ _ _ _ _ _ _ _ _ _ _ _ _ (F0 m 52 ls (.long (c_maxL ((σ 6 a0).toInt64) (c_forecastOf σ a0)) :: []))
  refine lv_lload hx hb dX6_needOf_52 (lv_at hl 0 rfl) ?_
  refine va_mmax_long hx hb (hml.trans hl.1.symm) hown (hg _ qM_X6_287) (hg _ qT_Math_max_l) (hg _ qN_Math) (hg _ qY_Math_max_l) (Nat.le_of_ble_eq_true rfl) (Nat.le_of_ble_eq_true rfl) (Nat.le_of_ble_eq_true rfl) (Nat.le_of_ble_eq_true rfl) dX6_needOf_54 ?_
  show W _ _ _ _ _ _ _ _ _ _ _ _ _ _ _ (F0 m 57 ls (.long (c_maxL (c_maxL ((σ 6 a0).toInt64) (c_forecastOf σ a0)) (c_neededOf σ (nI a0) (σ 40 0) ((σ 40 0) + (c_aheadOn σ (nx (σ 1 a0)) (σ 40 0))))) :: []))
  exact W.lret (v := c_maxL (c_maxL ((σ 6 a0).toInt64) (c_forecastOf σ a0)) (c_neededOf σ (nI a0) (σ 40 0) ((σ 40 0) + (c_aheadOn σ (nx (σ 1 a0)) (σ 40 0))))) hx hb hr (fun t ht hW => ⟨_, rfl, rfl, ht⟩) (fun _ h => nomatch h) dX6_needOf_57

set_option maxHeartbeats 4000000 in
set_option maxRecDepth 100000 in
theorem m_ReplenishRules_thresholdOf (l : Launch) (G : va_G) (cA : Nat → ClassId) (ad : Nat → Nat) (σ : St) (hI : Inv σ) (a0 : Nat) (ha0 : a0 < 16) : Met l yX6_thresholdOf (wX6_thresholdOf :: wG) ({ frames := 4, cells := 0, slots := 0, locals := 98 }) (va_Pc [.ref (ad 66), .ref (ad a0)] (rrW G cA ad σ)) (vp_Si (fun r => r = c_thresholdOf σ a0)) 0 0 (fun _ => False) := by
  refine Met.ofW (cc := cX6_thresholdOf) (maxL := 2) (ret := (some .int)) (by decide) rfl ?_
  intro p e s m args below meth c s₁ B hml hv
  obtain ⟨rfl, hP, hK⟩ := hv
  have hx := B.exec
  have hb := B.bytes
  have hr := B.returns
  have hts := atoms_spec (ws := wX6_thresholdOf :: wG) B.pre
  have hg : ∀ w ∈ wG, w.before _ s = true := fun w h => hts w (List.mem_cons_of_mem _ h)
  have hown : s.vm.findClass RX6 = some m.cls := findClass_of_methodNamed B.named
  have hlocks := B.notSynchronized
  have hl := lv_entry ([.ref (ad 66), .ref (ad a0)]) (n := 2) (Nat.le_of_ble_eq_true rfl)
  rw [lg_entry_eq]
  generalize (lg_sl ([.ref (ad 66), .ref (ad a0)]) ++ List.replicate (2 - (lg_sl ([.ref (ad 66), .ref (ad a0)])).length) Slot.unset).toArray = ls at hl ⊢
  have hl : lv_has ls 2 [(0, .ref (ad 66)), (1, .ref (ad a0))] := hl
  refine lv_aload_n hx hb dX6_thresholdOf_0 rfl (lv_at hl 0 rfl) ?_
  refine lv_aload_n hx hb dX6_thresholdOf_1 rfl (lv_at hl 1 rfl) ?_
  refine vp_callSl (W.runV (As := [.ref (ad a0)]) (rest := []) ⟨hx, hb, hml, hown, hg⟩ (m_ReplenishRules_needOf l G cA ad σ hI a0 ha0) (cwV 1 hg (gV qM_X6_186 qI_X6_needOf qS_X6_needOf qN_X6 kX6_needOf) rfl rfl rfl (by decide +kernel) ⟨Nat.le_of_ble_eq_true rfl, Nat.le_of_ble_eq_true rfl⟩) (rr_pv hK hP (va_recv hK hP (ci := 6) (q0 := 66) rfl rl_main)) rfl rfl hl.1 rfl (lv_room (Nat.le_of_ble_eq_true rfl)) dX6_thresholdOf_2 ⟨Nat.le_of_ble_eq_true rfl, Nat.le_of_ble_eq_true rfl⟩) (nm_e ?_)
  refine lv_aload_n hx hb dX6_thresholdOf_5 rfl (lv_at hl 1 rfl) ?_
  refine va_get (D := G) (ci := 2) (v := .int (σ 0 a0)) (C := RX2) (T := TX2) (N := 13) hx hb hg hinX2 hown hK hP a0 (rl_Place ha0) rfl 2 (by decide) (hg _ qF_X6_79) (fun _ h9 => h9) rfl dX6_thresholdOf_6 ?_
  refine lv_i2l (v := (σ 0 a0).toInt64) hx hb dX6_thresholdOf_9 rfl ?_
  refine va_mmin_long hx hb (hml.trans hl.1.symm) hown (hg _ qM_X6_292) (hg _ qT_Math_min_l) (hg _ qN_Math) (hg _ qY_Math_min_l) (Nat.le_of_ble_eq_true rfl) (Nat.le_of_ble_eq_true rfl) (Nat.le_of_ble_eq_true rfl) (Nat.le_of_ble_eq_true rfl) dX6_thresholdOf_10 ?_
  show W _ _ _ _ _ _ _ _ _ _ _ _ _ _ _ (F0 m 13 ls (.long (c_minL (c_needOf σ a0) ((σ 0 a0).toInt64)) :: []))
  refine lv_l2i (v := (c_minL (c_needOf σ a0) ((σ 0 a0).toInt64)).toInt32) hx hb dX6_thresholdOf_13 rfl ?_
  exact W.iret (v := (c_minL (c_needOf σ a0) ((σ 0 a0).toInt64)).toInt32) hx hb hr (fun t ht hW => ⟨_, rfl, rfl, ht⟩) (fun _ h => nomatch h) dX6_thresholdOf_14

set_option maxHeartbeats 4000000 in
set_option maxRecDepth 100000 in
theorem m_ReplenishRules_needTimeOf (l : Launch) (G : va_G) (cA : Nat → ClassId) (ad : Nat → Nat) (σ : St) (hI : Inv σ) (a0 : Nat) (ha0 : a0 < 16) : Met l yX6_needTimeOf (wX6_needTimeOf :: wG) ({ frames := 2, cells := 0, slots := 0, locals := 45 }) (va_Pc [.ref (ad 66), .ref (ad a0)] (rrW G cA ad σ)) (vp_Si (fun r => r = c_needTimeOf σ a0)) 0 0 (fun _ => False) := by
  refine Met.ofW (cc := cX6_needTimeOf) (maxL := 4) (ret := (some .int)) (by decide) rfl ?_
  intro p e s m args below meth c s₁ B hml hv
  obtain ⟨rfl, hP, hK⟩ := hv
  have hx := B.exec
  have hb := B.bytes
  have hr := B.returns
  have hts := atoms_spec (ws := wX6_needTimeOf :: wG) B.pre
  have hg : ∀ w ∈ wG, w.before _ s = true := fun w h => hts w (List.mem_cons_of_mem _ h)
  have hown : s.vm.findClass RX6 = some m.cls := findClass_of_methodNamed B.named
  have hlocks := B.notSynchronized
  have hl := lv_entry ([.ref (ad 66), .ref (ad a0)]) (n := 4) (Nat.le_of_ble_eq_true rfl)
  rw [lg_entry_eq]
  generalize (lg_sl ([.ref (ad 66), .ref (ad a0)]) ++ List.replicate (4 - (lg_sl ([.ref (ad 66), .ref (ad a0)])).length) Slot.unset).toArray = ls at hl ⊢
  have hl : lv_has ls 4 [(0, .ref (ad 66)), (1, .ref (ad a0))] := hl
  refine lv_aload_n hx hb dX6_needTimeOf_0 rfl (lv_at hl 0 rfl) ?_
  refine lv_aload_n hx hb dX6_needTimeOf_1 rfl (lv_at hl 1 rfl) ?_
  refine vp_callSl (W.runV (As := [.ref (ad a0)]) (rest := []) ⟨hx, hb, hml, hown, hg⟩ (m_ReplenishRules_usedOnPastDays l G cA ad σ a0 ha0 (inv_today hI)) (cwV 1 hg (gV qM_X6_273 qI_X6_usedOnPastDays qS_X6_usedOnPastDays qN_X6 kX6_usedOnPastDays) rfl rfl rfl (by decide +kernel) ⟨Nat.le_of_ble_eq_true rfl, Nat.le_of_ble_eq_true rfl⟩) (rr_pv hK hP (va_recv hK hP (ci := 6) (q0 := 66) rfl rl_main)) rfl rfl hl.1 rfl (lv_room (Nat.le_of_ble_eq_true rfl)) dX6_needTimeOf_2 ⟨Nat.le_of_ble_eq_true rfl, Nat.le_of_ble_eq_true rfl⟩) (nm_e ?_)
  refine lv_lstore_n (lv' := [(2, .long (c_usedPast σ a0)), (0, .ref (ad 66)), (1, .ref (ad a0))]) hx hb dX6_needTimeOf_5 rfl hl (by decide) rfl (fun ls hl => ?_)
  refine lv_lload_n hx hb dX6_needTimeOf_6 rfl (lv_at hl 0 rfl) ?_
  refine lv_lconst (v := 0) hx hb dX6_needTimeOf_7 (by decide) ?_
  refine W.lcmp hx hb dX6_needTimeOf_8 ?_
  refine lv_if_ne (tgt := 16) hx hb dX6_needTimeOf_9 (by decide) (fun c_9 => ?_) (fun c_9 => ?_)
  · -- ifne taken
    refine lv_aload_n hx hb dX6_needTimeOf_16 rfl (lv_at hl 2 rfl) ?_
    refine va_get (D := G) (ci := 2) (v := .int (σ 2 a0)) (C := RX2) (T := TX2) (N := 13) hx hb hg hinX2 hown hK hP a0 (rl_Place ha0) rfl 4 (by decide) (hg _ qF_X6_65) (fun _ h9 => h9) rfl dX6_needTimeOf_17 ?_
    refine lv_i2l (v := (σ 2 a0).toInt64) hx hb dX6_needTimeOf_20 rfl ?_
    refine lv_aload_n hx hb dX6_needTimeOf_21 rfl (lv_at hl 1 rfl) ?_
    refine va_get (D := G) (ci := 6) (v := .ref (ad 72)) (C := RX6) (T := TX6) (N := 8) hx hb hg hinX6 hown hK hP 66 rl_main rfl 5 (by decide) (hg _ qF_X6_34) (fun _ h9 => h9) rfl dX6_needTimeOf_22 ?_
    refine lv_bipush (v := 28) hx hb dX6_needTimeOf_25 (by decide) ?_
    refine vp_callSi (W.runV (As := [.int 28]) (rest := [.long ((σ 2 a0).toInt64)]) ⟨hx, hb, hml, hown, hg⟩ (m_Calendar_openDays l G cA ad σ 28 (inv_today hI) (by decide)) (cwV 1 hg (gV qM_X6_165 qI_X0_openDays qS_X0_openDays qN_X0 kX0_openDays) rfl rfl rfl (by decide +kernel) ⟨Nat.le_of_ble_eq_true rfl, Nat.le_of_ble_eq_true rfl⟩) (rr_pv hK hP (va_recv hK hP (ci := 0) (q0 := 72) rfl rl_Calendar)) rfl rfl hl.1 rfl (lv_room (Nat.le_of_ble_eq_true rfl)) dX6_needTimeOf_27 ⟨Nat.le_of_ble_eq_true rfl, Nat.le_of_ble_eq_true rfl⟩) (nm_e ?_)
    refine lv_i2l (v := (c_openDays σ 28).toInt64) hx hb dX6_needTimeOf_30 rfl ?_
    refine lv_lmul hx hb dX6_needTimeOf_31 ?_
    refine lv_lload_n hx hb dX6_needTimeOf_32 rfl (lv_at hl 0 rfl) ?_
    refine lv_ldiv hx hb dX6_needTimeOf_33 (cmp_ne c_9) ?_
    refine lv_l2i (v := ((((σ 2 a0).toInt64) * ((c_openDays σ 28).toInt64)) / (c_usedPast σ a0)).toInt32) hx hb dX6_needTimeOf_34 rfl ?_
    exact W.iret (v := ((((σ 2 a0).toInt64) * ((c_openDays σ 28).toInt64)) / (c_usedPast σ a0)).toInt32) hx hb hr (fun t ht hW => ⟨_, rfl, by simp only [c_needTimeOf, if_neg c_9], ht⟩) (fun _ h => nomatch h) dX6_needTimeOf_35
  · -- ifne not taken
    refine lv_sipush (v := 9999) hx hb dX6_needTimeOf_12 (by decide) ?_
    exact W.iret (v := 9999) hx hb hr (fun t ht hW => ⟨_, rfl, by simp only [c_needTimeOf, if_pos c_9], ht⟩) (fun _ h => nomatch h) dX6_needTimeOf_15

set_option maxHeartbeats 4000000 in
set_option maxRecDepth 100000 in
theorem m_ReplenishRules_wantedBy (l : Launch) (G : va_G) (cA : Nat → ClassId) (ad : Nat → Nat) (σ : St) (a0 : Nat) (ha0 : a0 < 16) (b0 : Int32) (hp0 : vp_in (σ 5 a0) 8) : Met l yX6_wantedBy (wX6_wantedBy :: wG) ({ frames := 1, cells := 0, slots := 0, locals := 25 }) (va_Pc [.ref (ad 66), .ref (ad a0), .int b0] (rrW G cA ad σ)) (vp_Si (fun r => r = c_wantedBy σ a0 b0)) 0 0 (fun _ => False) := by
  refine Met.ofW (cc := cX6_wantedBy) (maxL := 4) (ret := (some .int)) (by decide) rfl ?_
  intro p e s m args below meth c s₁ B hml hv
  obtain ⟨rfl, hP, hK⟩ := hv
  have hx := B.exec
  have hb := B.bytes
  have hr := B.returns
  have hts := atoms_spec (ws := wX6_wantedBy :: wG) B.pre
  have hg : ∀ w ∈ wG, w.before _ s = true := fun w h => hts w (List.mem_cons_of_mem _ h)
  have hown : s.vm.findClass RX6 = some m.cls := findClass_of_methodNamed B.named
  have hlocks := B.notSynchronized
  have hl := lv_entry ([.ref (ad 66), .ref (ad a0), .int b0]) (n := 4) (Nat.le_of_ble_eq_true rfl)
  rw [lg_entry_eq]
  generalize (lg_sl ([.ref (ad 66), .ref (ad a0), .int b0]) ++ List.replicate (4 - (lg_sl ([.ref (ad 66), .ref (ad a0), .int b0])).length) Slot.unset).toArray = ls at hl ⊢
  have hl : lv_has ls 4 [(0, .ref (ad 66)), (1, .ref (ad a0)), (2, .int b0)] := hl
  refine lv_aload_n hx hb dX6_wantedBy_0 rfl (lv_at hl 1 rfl) ?_
  refine va_get (D := G) (ci := 2) (v := .int (σ 2 a0)) (C := RX2) (T := TX2) (N := 13) hx hb hg hinX2 hown hK hP a0 (rl_Place ha0) rfl 4 (by decide) (hg _ qF_X6_65) (fun _ h9 => h9) rfl dX6_wantedBy_1 ?_
  refine lv_iload_n hx hb dX6_wantedBy_4 rfl (lv_at hl 2 rfl) ?_
  refine lv_icmp_lt (tgt := 10) hx hb dX6_wantedBy_5 (by decide) (fun c_5 => ?_) (fun c_5 => ?_)
  · -- if_icmplt taken
    refine lv_aload_n hx hb dX6_wantedBy_10 rfl (lv_at hl 1 rfl) ?_
    refine va_get (D := G) (ci := 2) (v := .int (σ 7 a0)) (C := RX2) (T := TX2) (N := 13) hx hb hg hinX2 hown hK hP a0 (rl_Place ha0) rfl 9 (by decide) (hg _ qF_X6_69) (fun _ h9 => h9) rfl dX6_wantedBy_11 ?_
    refine lv_iload_n hx hb dX6_wantedBy_14 rfl (lv_at hl 2 rfl) ?_
    refine va_mmax hx hb (hml.trans hl.1.symm) hown (hg _ qM_X6_311) (hg _ qT_Math_max_i) (hg _ qN_Math) (hg _ qY_Math_max_i) (Nat.le_of_ble_eq_true rfl) (Nat.le_of_ble_eq_true rfl) (Nat.le_of_ble_eq_true rfl) (Nat.le_of_ble_eq_true rfl) dX6_wantedBy_15 ?_
    show W _ _ _ _ _ _ _ _ _ _ _ _ _ _ _ (F0 m 18 ls (.int (c_maxI (σ 7 a0) b0) :: []))
    refine lv_aload_n hx hb dX6_wantedBy_18 rfl (lv_at hl 1 rfl) ?_
    refine va_get (D := G) (ci := 2) (v := .int (σ 2 a0)) (C := RX2) (T := TX2) (N := 13) hx hb hg hinX2 hown hK hP a0 (rl_Place ha0) rfl 4 (by decide) (hg _ qF_X6_65) (fun _ h9 => h9) rfl dX6_wantedBy_19 ?_
    refine lv_isub hx hb dX6_wantedBy_22 ?_
    refine lv_istore_n (lv' := [(3, .int ((c_maxI (σ 7 a0) b0) - (σ 2 a0))), (0, .ref (ad 66)), (1, .ref (ad a0)), (2, .int b0)]) hx hb dX6_wantedBy_23 rfl hl (by decide) rfl (fun ls hl => ?_)
    refine lv_iload_n hx hb dX6_wantedBy_24 rfl (lv_at hl 0 rfl) ?_
    refine lv_aload_n hx hb dX6_wantedBy_25 rfl (lv_at hl 1 rfl) ?_
    refine va_get (D := G) (ci := 6) (v := .ref (ad 69)) (C := RX6) (T := TX6) (N := 8) hx hb hg hinX6 hown hK hP 66 rl_main rfl 2 (by decide) (hg _ qF_X6_21) (fun _ h9 => h9) rfl dX6_wantedBy_26 ?_
    refine lv_aload_n hx hb dX6_wantedBy_29 rfl (lv_at hl 2 rfl) ?_
    refine va_get (D := G) (ci := 2) (v := .int (σ 5 a0)) (C := RX2) (T := TX2) (N := 13) hx hb hg hinX2 hown hK hP a0 (rl_Place ha0) rfl 7 (by decide) (hg _ qF_X6_91) (fun _ h9 => h9) rfl dX6_wantedBy_30 ?_
    refine va_iald hx hb hK hP 69 0 rl_casesA rfl hp0 dX6_wantedBy_33 ?_
    refine lv_aload_n hx hb dX6_wantedBy_34 rfl (lv_at hl 2 rfl) ?_
    refine vp_callSi (W.runV (As := []) (rest := [.int (σ 30 (nx (σ 5 a0))), .int ((c_maxI (σ 7 a0) b0) - (σ 2 a0))]) ⟨hx, hb, hml, hown, hg⟩ (m_Place_space l G cA ad σ a0 ha0) (cwV 0 hg (gV qM_X6_244 qI_X2_space qS_X2_space qN_X2 kX2_space) rfl rfl rfl (by decide +kernel) ⟨Nat.le_of_ble_eq_true rfl, Nat.le_of_ble_eq_true rfl⟩) (rr_pv hK hP (va_recv hK hP (ci := 2) (q0 := a0) rfl (rl_Place ha0))) rfl rfl hl.1 rfl (lv_room (Nat.le_of_ble_eq_true rfl)) dX6_wantedBy_35 ⟨Nat.le_of_ble_eq_true rfl, Nat.le_of_ble_eq_true rfl⟩) (nm_e ?_)
    refine vp_callSi (W.runS (As := [.int ((c_maxI (σ 7 a0) b0) - (σ 2 a0)), .int (σ 30 (nx (σ 5 a0))), .int (c_space σ a0)]) (rest := []) ⟨hx, hb, hml, hown, hg⟩ (m_ReplenishRules_inFullCases l ((c_maxI (σ 7 a0) b0) - (σ 2 a0)) (σ 30 (nx (σ 5 a0))) (c_space σ a0)) (cwS 3 hg (gS qM_X6_314 qT_X6_inFullCases qN_X6 kX6_inFullCases) rfl rfl rfl (by decide +kernel) ⟨Nat.le_of_ble_eq_true rfl, Nat.le_of_ble_eq_true rfl⟩) ⟨fun _ _ _ _ q => q, fun _ _ _ => ⟨rfl, trivial⟩⟩ rfl rfl hl.1 rfl (lv_room (Nat.le_of_ble_eq_true rfl)) dX6_wantedBy_38 ⟨Nat.le_of_ble_eq_true rfl, Nat.le_of_ble_eq_true rfl⟩) (nm_e ?_)
    exact W.iret (v := c_inFullCases ((c_maxI (σ 7 a0) b0) - (σ 2 a0)) (σ 30 (nx (σ 5 a0))) (c_space σ a0)) hx hb hr (fun t ht hW => ⟨_, rfl, by simp only [c_wantedBy, if_pos c_5], ht⟩) (fun _ h => nomatch h) dX6_wantedBy_41
  · -- if_icmplt not taken
    refine lv_iconst (v := 0) hx hb dX6_wantedBy_8 (by decide) ?_
    exact W.iret (v := 0) hx hb hr (fun t ht hW => ⟨_, rfl, by simp only [c_wantedBy, if_neg c_5], ht⟩) (fun _ h => nomatch h) dX6_wantedBy_9
end
section
set_option maxHeartbeats 4000000 in
set_option maxRecDepth 100000 in
theorem m_ReplenishRules_mostUrgentFace (l : Launch) (G : va_G) (cA : Nat → ClassId) (ad : Nat → Nat) (σ : St) : Met l yX6_mostUrgentFace (wX6_mostUrgentFace :: wG) ({ frames := 0, cells := 0, slots := 0, locals := 0 }) (va_Pc [.ref (ad 66)] (rrW G cA ad σ)) (va_Sq (fun r => r = Option.map ad (c_urgent σ))) 0 0 (fun _ => False) := by
  refine Met.ofW (cc := cX6_mostUrgentFace) (maxL := 4) (ret := (some (.object "ReplenishRules$Place"))) (by decide) rfl ?_
  intro p e s m args below meth c s₁ B hml hv
  obtain ⟨rfl, hP, hK⟩ := hv
  have hx := B.exec
  have hb := B.bytes
  have hr := B.returns
  have hts := atoms_spec (ws := wX6_mostUrgentFace :: wG) B.pre
  have hg : ∀ w ∈ wG, w.before _ s = true := fun w h => hts w (List.mem_cons_of_mem _ h)
  have hown : s.vm.findClass RX6 = some m.cls := findClass_of_methodNamed B.named
  have hlocks := B.notSynchronized
  have hl := lv_entry ([.ref (ad 66)]) (n := 4) (Nat.le_of_ble_eq_true rfl)
  rw [lg_entry_eq]
  generalize (lg_sl ([.ref (ad 66)]) ++ List.replicate (4 - (lg_sl ([.ref (ad 66)])).length) Slot.unset).toArray = ls at hl ⊢
  have hl : lv_has ls 4 [(0, .ref (ad 66))] := hl
  refine lv_null hx hb dX6_mostUrgentFace_0 ?_
  refine lv_astore_nN (lv' := [(1, .null), (0, .ref (ad 66))]) hx hb dX6_mostUrgentFace_1 rfl hl (by decide) rfl (fun ls hl => ?_)
  refine lv_iconst (v := 0) hx hb dX6_mostUrgentFace_2 (by decide) ?_
  refine lv_topi (fun y_3 ey_3 => ?_)
  obtain rfl : y_3 = nI 0 := ey_3.trans (nI_0.symm)
  refine lv_istore_n (lv' := [(2, .int (nI 0)), (1, .null), (0, .ref (ad 66))]) hx hb dX6_mostUrgentFace_3 rfl hl (by decide) rfl (fun ls hl => ?_)
  refine lp_ri (f := c_urgF σ) (t := 16) (nL := 4) (fun _ a => ∀ j, a = some j → j < 16) (fun k a => [(2, .int (nI k)), (1, va_rf (Option.map ad a)), (0, .ref (ad 66))]) 16 0 none (by decide) ?_ ?_ (fun _ h => by cases h) ls (lv_sub hl [0, 1, 2] rfl)
  · intro k a hk hIa IH ls hl
    have hIb := urgF_lt (σ := σ) hk hIa
    rcases a with _ | j
    · have hl : lv_has ls 4 [(2, .int (nI k)), (1, .null), (0, .ref (ad 66))] := hl
      refine lv_iload_n hx hb dX6_mostUrgentFace_4 rfl (lv_at hl 0 rfl) ?_
      refine lv_bipush (v := 16) hx hb dX6_mostUrgentFace_5 (by decide) ?_
      refine lv_icmp_ge (tgt := 47) hx hb dX6_mostUrgentFace_7 (by decide) (fun c_7 => ?_) (fun c_7 => ?_)
      · -- if_icmpge taken
        exact absurd c_7 (nI_ge hk (by decide))
      · -- if_icmpge not taken
        refine lv_aload_n hx hb dX6_mostUrgentFace_10 rfl (lv_at hl 2 rfl) ?_
        refine va_get (D := G) (ci := 6) (v := .ref (ad 67)) (C := RX6) (T := TX6) (N := 8) hx hb hg hinX6 hown hK hP 66 rl_main rfl 0 (by decide) (hg _ qF_X6_11) (fun _ h9 => h9) rfl dX6_mostUrgentFace_11 ?_
        refine lv_iload_n hx hb dX6_mostUrgentFace_14 rfl (lv_at hl 0 rfl) ?_
        refine va_aldq hx hb hK hP 67 2 rl_placesA rfl (nI_in16 hk) dX6_mostUrgentFace_15 ?_
        show W _ _ _ _ _ _ _ _ _ _ _ _ _ _ _ (F0 m _ ls (.ref (ad (nx (nI k))) :: []))
        refine lv_astore_n (lv' := [(3, .ref (ad (nx (nI k)))), (2, .int (nI k)), (1, .null), (0, .ref (ad 66))]) hx hb dX6_mostUrgentFace_16 rfl hl (by decide) rfl (fun ls hl => ?_)
        refine lv_aload_n hx hb dX6_mostUrgentFace_17 rfl (lv_at hl 0 rfl) ?_
        refine va_get (D := G) (ci := 2) (v := .int (σ 9 (nx (nI k)))) (C := RX2) (T := TX2) (N := 13) hx hb hg hinX2 hown hK hP (nx (nI k)) (rl_Place (vp_lt (nI_in16 hk))) rfl 11 (by decide) (hg _ qF_X6_298) (fun _ h9 => h9) rfl dX6_mostUrgentFace_18 ?_
        refine lv_if_le (tgt := 41) hx hb dX6_mostUrgentFace_21 (by decide) (fun c_21 => ?_) (fun c_21 => ?_)
        · -- ifle taken
          refine lv_iinc (v := nI (k + 1)) (lv' := [(2, .int (nI (k + 1))), (3, .ref (ad (nx (nI k)))), (1, .null), (0, .ref (ad 66))]) hx hb dX6_mostUrgentFace_41 hl (k := 1) rfl (nI_1 k) (by decide) rfl (fun ls hl => ?_)
          refine lv_goto (tgt := 4) hx hb dX6_mostUrgentFace_44 (by decide) ?_
          have eF : c_urgF σ k none = none := by simp only [c_urgF, if_neg c_7, if_pos c_21]
          refine IH ls hIb ?_
          show lv_has ls 4 [(2, .int (nI (k + 1))), (1, va_rf (Option.map ad (c_urgF σ k none))), (0, .ref (ad 66))]
          rw [eF]
          exact lv_sub hl [0, 2, 3] rfl
        · -- ifle not taken
          refine lv_aload_nN hx hb dX6_mostUrgentFace_24 rfl (lv_at hl 2 rfl) ?_
          refine lv_ifnullN (tgt := 39) hx hb dX6_mostUrgentFace_25 (by decide) ?_
          refine lv_aload_n hx hb dX6_mostUrgentFace_39 rfl (lv_at hl 0 rfl) ?_
          refine lv_astore_n (lv' := [(1, .ref (ad (nx (nI k)))), (3, .ref (ad (nx (nI k)))), (2, .int (nI k)), (0, .ref (ad 66))]) hx hb dX6_mostUrgentFace_40 rfl hl (by decide) rfl (fun ls hl => ?_)
          refine lv_iinc (v := nI (k + 1)) (lv' := [(2, .int (nI (k + 1))), (1, .ref (ad (nx (nI k)))), (3, .ref (ad (nx (nI k)))), (0, .ref (ad 66))]) hx hb dX6_mostUrgentFace_41 hl (k := 2) rfl (nI_1 k) (by decide) rfl (fun ls hl => ?_)
          refine lv_goto (tgt := 4) hx hb dX6_mostUrgentFace_44 (by decide) ?_
          have eF : c_urgF σ k none = some (nx (nI k)) := by simp only [c_urgF, if_neg c_7, if_neg c_21]
          refine IH ls hIb ?_
          show lv_has ls 4 [(2, .int (nI (k + 1))), (1, va_rf (Option.map ad (c_urgF σ k none))), (0, .ref (ad 66))]
          rw [eF]
          exact lv_sub hl [0, 1, 3] rfl
    · have hl : lv_has ls 4 [(2, .int (nI k)), (1, .ref (ad j)), (0, .ref (ad 66))] := hl
      have hj : j < 16 := hIa j rfl
      refine lv_iload_n hx hb dX6_mostUrgentFace_4 rfl (lv_at hl 0 rfl) ?_
      refine lv_bipush (v := 16) hx hb dX6_mostUrgentFace_5 (by decide) ?_
      refine lv_icmp_ge (tgt := 47) hx hb dX6_mostUrgentFace_7 (by decide) (fun c_7 => ?_) (fun c_7 => ?_)
      · -- if_icmpge taken
        exact absurd c_7 (nI_ge hk (by decide))
      · -- if_icmpge not taken
        refine lv_aload_n hx hb dX6_mostUrgentFace_10 rfl (lv_at hl 2 rfl) ?_
        refine va_get (D := G) (ci := 6) (v := .ref (ad 67)) (C := RX6) (T := TX6) (N := 8) hx hb hg hinX6 hown hK hP 66 rl_main rfl 0 (by decide) (hg _ qF_X6_11) (fun _ h9 => h9) rfl dX6_mostUrgentFace_11 ?_
        refine lv_iload_n hx hb dX6_mostUrgentFace_14 rfl (lv_at hl 0 rfl) ?_
        refine va_aldq hx hb hK hP 67 2 rl_placesA rfl (nI_in16 hk) dX6_mostUrgentFace_15 ?_
        show W _ _ _ _ _ _ _ _ _ _ _ _ _ _ _ (F0 m _ ls (.ref (ad (nx (nI k))) :: []))
        refine lv_astore_n (lv' := [(3, .ref (ad (nx (nI k)))), (2, .int (nI k)), (1, .ref (ad j)), (0, .ref (ad 66))]) hx hb dX6_mostUrgentFace_16 rfl hl (by decide) rfl (fun ls hl => ?_)
        refine lv_aload_n hx hb dX6_mostUrgentFace_17 rfl (lv_at hl 0 rfl) ?_
        refine va_get (D := G) (ci := 2) (v := .int (σ 9 (nx (nI k)))) (C := RX2) (T := TX2) (N := 13) hx hb hg hinX2 hown hK hP (nx (nI k)) (rl_Place (vp_lt (nI_in16 hk))) rfl 11 (by decide) (hg _ qF_X6_298) (fun _ h9 => h9) rfl dX6_mostUrgentFace_18 ?_
        refine lv_if_le (tgt := 41) hx hb dX6_mostUrgentFace_21 (by decide) (fun c_21 => ?_) (fun c_21 => ?_)
        · -- ifle taken
          refine lv_iinc (v := nI (k + 1)) (lv' := [(2, .int (nI (k + 1))), (3, .ref (ad (nx (nI k)))), (1, .ref (ad j)), (0, .ref (ad 66))]) hx hb dX6_mostUrgentFace_41 hl (k := 1) rfl (nI_1 k) (by decide) rfl (fun ls hl => ?_)
          refine lv_goto (tgt := 4) hx hb dX6_mostUrgentFace_44 (by decide) ?_
          have eF : c_urgF σ k (some j) = some j := by simp only [c_urgF, if_neg c_7, if_pos c_21]
          refine IH ls hIb ?_
          show lv_has ls 4 [(2, .int (nI (k + 1))), (1, va_rf (Option.map ad (c_urgF σ k (some j)))), (0, .ref (ad 66))]
          rw [eF]
          exact lv_sub hl [0, 2, 3] rfl
        · -- ifle not taken
          refine lv_aload_n hx hb dX6_mostUrgentFace_24 rfl (lv_at hl 2 rfl) ?_
          refine lv_ifnull hx hb dX6_mostUrgentFace_25 ?_
          refine lv_aload_n hx hb dX6_mostUrgentFace_28 rfl (lv_at hl 0 rfl) ?_
          refine va_get (D := G) (ci := 2) (v := .int (σ 10 (nx (nI k)))) (C := RX2) (T := TX2) (N := 13) hx hb hg hinX2 hown hK hP (nx (nI k)) (rl_Place (vp_lt (nI_in16 hk))) rfl 12 (by decide) (hg _ qF_X6_308) (fun _ h9 => h9) rfl dX6_mostUrgentFace_29 ?_
          refine lv_aload_n hx hb dX6_mostUrgentFace_32 rfl (lv_at hl 2 rfl) ?_
          refine va_get (D := G) (ci := 2) (v := .int (σ 10 j)) (C := RX2) (T := TX2) (N := 13) hx hb hg hinX2 hown hK hP j (rl_Place hj) rfl 12 (by decide) (hg _ qF_X6_308) (fun _ h9 => h9) rfl dX6_mostUrgentFace_33 ?_
          refine lv_icmp_ge (tgt := 41) hx hb dX6_mostUrgentFace_36 (by decide) (fun c_36 => ?_) (fun c_36 => ?_)
          · -- if_icmpge taken
            refine lv_iinc (v := nI (k + 1)) (lv' := [(2, .int (nI (k + 1))), (3, .ref (ad (nx (nI k)))), (1, .ref (ad j)), (0, .ref (ad 66))]) hx hb dX6_mostUrgentFace_41 hl (k := 1) rfl (nI_1 k) (by decide) rfl (fun ls hl => ?_)
            refine lv_goto (tgt := 4) hx hb dX6_mostUrgentFace_44 (by decide) ?_
            have eF : c_urgF σ k (some j) = some j := by simp only [c_urgF, if_neg c_7, if_neg c_21, if_pos c_36]
            refine IH ls hIb ?_
            show lv_has ls 4 [(2, .int (nI (k + 1))), (1, va_rf (Option.map ad (c_urgF σ k (some j)))), (0, .ref (ad 66))]
            rw [eF]
            exact lv_sub hl [0, 2, 3] rfl
          · -- if_icmpge not taken
            refine lv_aload_n hx hb dX6_mostUrgentFace_39 rfl (lv_at hl 0 rfl) ?_
            refine lv_astore_n (lv' := [(1, .ref (ad (nx (nI k)))), (3, .ref (ad (nx (nI k)))), (2, .int (nI k)), (0, .ref (ad 66))]) hx hb dX6_mostUrgentFace_40 rfl hl (by decide) rfl (fun ls hl => ?_)
            refine lv_iinc (v := nI (k + 1)) (lv' := [(2, .int (nI (k + 1))), (1, .ref (ad (nx (nI k)))), (3, .ref (ad (nx (nI k)))), (0, .ref (ad 66))]) hx hb dX6_mostUrgentFace_41 hl (k := 2) rfl (nI_1 k) (by decide) rfl (fun ls hl => ?_)
            refine lv_goto (tgt := 4) hx hb dX6_mostUrgentFace_44 (by decide) ?_
            have eF : c_urgF σ k (some j) = some (nx (nI k)) := by simp only [c_urgF, if_neg c_7, if_neg c_21, if_neg c_36]
            refine IH ls hIb ?_
            show lv_has ls 4 [(2, .int (nI (k + 1))), (1, va_rf (Option.map ad (c_urgF σ k (some j)))), (0, .ref (ad 66))]
            rw [eF]
            exact lv_sub hl [0, 1, 3] rfl
  · intro hIa ls hl
    have hu : foldN (c_urgF σ) 16 0 none = c_urgent σ := rfl
    rw [hu] at hIa hl
    rcases hv : c_urgent σ with _ | j
    · rw [hv] at hl
      have hl : lv_has ls 4 [(2, .int (nI 16)), (1, .null), (0, .ref (ad 66))] := hl
      refine lv_iload_n hx hb dX6_mostUrgentFace_4 rfl (lv_at hl 0 rfl) ?_
      refine lv_bipush (v := 16) hx hb dX6_mostUrgentFace_5 (by decide) ?_
      refine lv_icmp_ge (tgt := 47) hx hb dX6_mostUrgentFace_7 (by decide) (fun c_7 => ?_) (fun c_7 => ?_)
      · -- if_icmpge taken
        refine lv_aload_nN hx hb dX6_mostUrgentFace_47 rfl (lv_at hl 1 rfl) ?_
        exact W.aret (v := .null) (rt := .object "ReplenishRules$Place") hx hb hr (Or.inl ⟨_, rfl⟩) (Or.inl rfl) (fun t ht hW => ⟨none, rfl, rfl, ht⟩) (fun _ h => nomatch h) dX6_mostUrgentFace_48
      · -- if_icmpge not taken
        exact absurd (Int32.le_refl _) c_7
    · rw [hv] at hl
      have hl : lv_has ls 4 [(2, .int (nI 16)), (1, .ref (ad j)), (0, .ref (ad 66))] := hl
      refine lv_iload_n hx hb dX6_mostUrgentFace_4 rfl (lv_at hl 0 rfl) ?_
      refine lv_bipush (v := 16) hx hb dX6_mostUrgentFace_5 (by decide) ?_
      refine lv_icmp_ge (tgt := 47) hx hb dX6_mostUrgentFace_7 (by decide) (fun c_7 => ?_) (fun c_7 => ?_)
      · -- if_icmpge taken
        refine lv_aload_n hx hb dX6_mostUrgentFace_47 rfl (lv_at hl 1 rfl) ?_
        exact W.aret (v := .ref (ad j)) (rt := .object "ReplenishRules$Place") hx hb hr (Or.inl ⟨_, rfl⟩) (Or.inr ⟨_, rfl⟩) (fun t ht hW => ⟨some (ad j), rfl, rfl, ht⟩) (fun _ h => nomatch h) dX6_mostUrgentFace_48
      · -- if_icmpge not taken
        exact absurd (Int32.le_refl _) c_7
end
section
set_option maxHeartbeats 4000000 in
set_option maxRecDepth 100000 in
theorem m_Place_bring (l : Launch) (G : va_G) (cA : Nat → ClassId) (ad : Nat → Nat) (σ : St) (hJ : rr_inj ad) (a0 : Nat) (ha0 : a0 < 16) (b0 : Int32) (c0 : Int32) : Met l yX2_bring (wX2_bring :: wG) ({ frames := 0, cells := 0, slots := 0, locals := 0 }) (va_Pc [.ref (ad a0), .int b0, .int c0] (rrW G cA ad σ)) (va_Qv (fun σ' => σ' = c_bring σ a0 b0 c0) (rrW G cA ad) (rrA ad)) 0 0 (rrA ad) := by
  refine Met.ofW (cc := cX2_bring) (maxL := 3) (ret := none) (by decide) rfl ?_
  intro p e s m args below meth c s₁ B hml hv
  obtain ⟨rfl, hP, hK⟩ := hv
  have hx := B.exec
  have hb := B.bytes
  have hr := B.returns
  have hts := atoms_spec (ws := wX2_bring :: wG) B.pre
  have hg : ∀ w ∈ wG, w.before _ s = true := fun w h => hts w (List.mem_cons_of_mem _ h)
  have hown : s.vm.findClass RX2 = some m.cls := findClass_of_methodNamed B.named
  have hlocks := B.notSynchronized
  have hS : va_S (rrA ad) s.heap s.heap [] := va_S.rf
  have hl := lv_entry ([.ref (ad a0), .int b0, .int c0]) (n := 3) (Nat.le_of_ble_eq_true rfl)
  rw [lg_entry_eq]
  generalize (lg_sl ([.ref (ad a0), .int b0, .int c0]) ++ List.replicate (3 - (lg_sl ([.ref (ad a0), .int b0, .int c0])).length) Slot.unset).toArray = ls at hl ⊢
  have hl : lv_has ls 3 [(0, .ref (ad a0)), (1, .int b0), (2, .int c0)] := hl
  refine lv_aload_n hx hb dX2_bring_0 rfl (lv_at hl 0 rfl) ?_
  refine lv_iload_n hx hb dX2_bring_1 rfl (lv_at hl 1 rfl) ?_
  refine pp_put (D := G) (ci := 2) (v := .int b0) (ty := .int) (C := RX2) (T := TX2) (N := 13) hx hb hg hinX2 tyX2 tyX2_ok nmX2 hown hK hP (rr_D hJ) hS a0 (rl_Place ha0) rfl 6 (by decide) (hg _ qF_X2_28) (fun _ h9 => h9) rfl (by decide +kernel) rfl rfl (Nat.le_of_ble_eq_true rfl) (rs_Place_good ha0) dX2_bring_2 (fun H locs hP hS => ?_)
  obtain ⟨σ1, eσ1⟩ : ∃ z, z = up σ 4 a0 b0 := ⟨_, rfl⟩
  rw [← eσ1] at hP
  refine lv_aload_n hx hb dX2_bring_5 rfl (lv_at hl 0 rfl) ?_
  refine lv_dup hx hb dX2_bring_6 rfl ?_
  refine va_get (D := G) (ci := 2) (v := .int (σ1 2 a0)) (C := RX2) (T := TX2) (N := 13) hx hb hg hinX2 hown hK hP a0 (rl_Place ha0) rfl 4 (by decide) (hg _ qF_X2_22) (fun _ h9 => h9) rfl dX2_bring_7 ?_
  refine lv_iload_n hx hb dX2_bring_10 rfl (lv_at hl 2 rfl) ?_
  refine lv_iadd hx hb dX2_bring_11 ?_
  refine pp_put (D := G) (ci := 2) (v := .int ((σ1 2 a0) + c0)) (ty := .int) (C := RX2) (T := TX2) (N := 13) hx hb hg hinX2 tyX2 tyX2_ok nmX2 hown hK hP (rr_D hJ) hS a0 (rl_Place ha0) rfl 4 (by decide) (hg _ qF_X2_22) (fun _ h9 => h9) rfl (by decide +kernel) rfl rfl (Nat.le_of_ble_eq_true rfl) (rs_Place_pieces ha0) dX2_bring_12 (fun H locs hP hS => ?_)
  obtain ⟨σ2, eσ2⟩ : ∃ z, z = up σ1 2 a0 ((σ1 2 a0) + c0) := ⟨_, rfl⟩
  rw [← eσ2] at hP
  exact W.vret hx hb hr (fun t ht hW => ⟨⟨σ2, rfl, by subst eσ1 eσ2; exact rfl, by rw [ht]; exact hP, va_K.moved hW.alike hK⟩, hS.F ht⟩) hS.2.2 dX2_bring_15

set_option maxHeartbeats 4000000 in
set_option maxRecDepth 100000 in
theorem m_Place_takeAway (l : Launch) (G : va_G) (cA : Nat → ClassId) (ad : Nat → Nat) (σ : St) (hJ : rr_inj ad) (a0 : Nat) (ha0 : a0 < 16) (b0 : Int32) : Met l yX2_takeAway (wX2_takeAway :: wG) ({ frames := 0, cells := 0, slots := 0, locals := 0 }) (va_Pc [.ref (ad a0), .int b0] (rrW G cA ad σ)) (va_Qv (fun σ' => σ' = c_takeAway σ a0 b0) (rrW G cA ad) (rrA ad)) 0 0 (rrA ad) := by
  refine Met.ofW (cc := cX2_takeAway) (maxL := 2) (ret := none) (by decide) rfl ?_
  intro p e s m args below meth c s₁ B hml hv
  obtain ⟨rfl, hP, hK⟩ := hv
  have hx := B.exec
  have hb := B.bytes
  have hr := B.returns
  have hts := atoms_spec (ws := wX2_takeAway :: wG) B.pre
  have hg : ∀ w ∈ wG, w.before _ s = true := fun w h => hts w (List.mem_cons_of_mem _ h)
  have hown : s.vm.findClass RX2 = some m.cls := findClass_of_methodNamed B.named
  have hlocks := B.notSynchronized
  have hS : va_S (rrA ad) s.heap s.heap [] := va_S.rf
  have hl := lv_entry ([.ref (ad a0), .int b0]) (n := 2) (Nat.le_of_ble_eq_true rfl)
  rw [lg_entry_eq]
  generalize (lg_sl ([.ref (ad a0), .int b0]) ++ List.replicate (2 - (lg_sl ([.ref (ad a0), .int b0])).length) Slot.unset).toArray = ls at hl ⊢
  have hl : lv_has ls 2 [(0, .ref (ad a0)), (1, .int b0)] := hl
  refine lv_aload_n hx hb dX2_takeAway_0 rfl (lv_at hl 0 rfl) ?_
  refine lv_dup hx hb dX2_takeAway_1 rfl ?_
  refine va_get (D := G) (ci := 2) (v := .int (σ 2 a0)) (C := RX2) (T := TX2) (N := 13) hx hb hg hinX2 hown hK hP a0 (rl_Place ha0) rfl 4 (by decide) (hg _ qF_X2_22) (fun _ h9 => h9) rfl dX2_takeAway_2 ?_
  refine lv_iload_n hx hb dX2_takeAway_5 rfl (lv_at hl 1 rfl) ?_
  refine lv_isub hx hb dX2_takeAway_6 ?_
  refine pp_put (D := G) (ci := 2) (v := .int ((σ 2 a0) - b0)) (ty := .int) (C := RX2) (T := TX2) (N := 13) hx hb hg hinX2 tyX2 tyX2_ok nmX2 hown hK hP (rr_D hJ) hS a0 (rl_Place ha0) rfl 4 (by decide) (hg _ qF_X2_22) (fun _ h9 => h9) rfl (by decide +kernel) rfl rfl (Nat.le_of_ble_eq_true rfl) (rs_Place_pieces ha0) dX2_takeAway_7 (fun H locs hP hS => ?_)
  obtain ⟨σ1, eσ1⟩ : ∃ z, z = up σ 2 a0 ((σ 2 a0) - b0) := ⟨_, rfl⟩
  rw [← eσ1] at hP
  refine lv_aload_n hx hb dX2_takeAway_10 rfl (lv_at hl 0 rfl) ?_
  refine va_get (D := G) (ci := 2) (v := .int (σ1 2 a0)) (C := RX2) (T := TX2) (N := 13) hx hb hg hinX2 hown hK hP a0 (rl_Place ha0) rfl 4 (by decide) (hg _ qF_X2_22) (fun _ h9 => h9) rfl dX2_takeAway_11 ?_
  refine lv_if_ne (tgt := 22) hx hb dX2_takeAway_14 (by decide) (fun c_14 => ?_) (fun c_14 => ?_)
  · -- ifne taken
    exact W.vret hx hb hr (fun t ht hW => ⟨⟨σ1, rfl, by subst eσ1; simp only [c_takeAway, if_neg c_14], by rw [ht]; exact hP, va_K.moved hW.alike hK⟩, hS.F ht⟩) hS.2.2 dX2_takeAway_22
  · -- ifne not taken
    refine lv_aload_n hx hb dX2_takeAway_17 rfl (lv_at hl 0 rfl) ?_
    refine lv_iconst (v := (-1)) hx hb dX2_takeAway_18 (by decide) ?_
    refine pp_put (D := G) (ci := 2) (v := .int (-1)) (ty := .int) (C := RX2) (T := TX2) (N := 13) hx hb hg hinX2 tyX2 tyX2_ok nmX2 hown hK hP (rr_D hJ) hS a0 (rl_Place ha0) rfl 6 (by decide) (hg _ qF_X2_28) (fun _ h9 => h9) rfl (by decide +kernel) rfl rfl (Nat.le_of_ble_eq_true rfl) (rs_Place_good ha0) dX2_takeAway_19 (fun H locs hP hS => ?_)
    obtain ⟨σ2, eσ2⟩ : ∃ z, z = up σ1 4 a0 (-1) := ⟨_, rfl⟩
    rw [← eσ2] at hP
    exact W.vret hx hb hr (fun t ht hW => ⟨⟨σ2, rfl, by subst eσ1 eσ2; simp only [c_takeAway, if_pos c_14], by rw [ht]; exact hP, va_K.moved hW.alike hK⟩, hS.F ht⟩) hS.2.2 dX2_takeAway_22

set_option maxHeartbeats 4000000 in
set_option maxRecDepth 100000 in
theorem m_Waves_add (l : Launch) (G : va_G) (cA : Nat → ClassId) (ad : Nat → Nat) (σ : St) (hJ : rr_inj ad) (a0 : Int32) (b0 : Int32) (c0 : Int32) (hp0 : ¬ σ 41 0 < 0) : Met l yX5_add (wX5_add :: wG) ({ frames := 0, cells := 0, slots := 0, locals := 0 }) (va_Pc [.ref (ad 74), .int a0, .int b0, .int c0] (rrW G cA ad σ)) (va_Qv (fun σ' => σ' = c_wavesAdd σ a0 b0 c0) (rrW G cA ad) (rrA ad)) 0 0 (rrA ad) := by
  refine Met.ofW (cc := cX5_add) (maxL := 4) (ret := none) (by decide) rfl ?_
  intro p e s m args below meth c s₁ B hml hv
  obtain ⟨rfl, hP, hK⟩ := hv
  have hx := B.exec
  have hb := B.bytes
  have hr := B.returns
  have hts := atoms_spec (ws := wX5_add :: wG) B.pre
  have hg : ∀ w ∈ wG, w.before _ s = true := fun w h => hts w (List.mem_cons_of_mem _ h)
  have hown : s.vm.findClass RX5 = some m.cls := findClass_of_methodNamed B.named
  have hlocks := B.notSynchronized
  have hS : va_S (rrA ad) s.heap s.heap [] := va_S.rf
  have hl := lv_entry ([.ref (ad 74), .int a0, .int b0, .int c0]) (n := 4) (Nat.le_of_ble_eq_true rfl)
  rw [lg_entry_eq]
  generalize (lg_sl ([.ref (ad 74), .int a0, .int b0, .int c0]) ++ List.replicate (4 - (lg_sl ([.ref (ad 74), .int a0, .int b0, .int c0])).length) Slot.unset).toArray = ls at hl ⊢
  have hl : lv_has ls 4 [(0, .ref (ad 74)), (1, .int a0), (2, .int b0), (3, .int c0)] := hl
  refine lv_aload_n hx hb dX5_add_0 rfl (lv_at hl 0 rfl) ?_
  refine va_get (D := G) (ci := 5) (v := .int (σ 41 0)) (C := RX5) (T := TX5) (N := 4) hx hb hg hinX5 hown hK hP 74 rl_Waves rfl 3 (by decide) (hg _ qF_X5_21) (fun _ h9 => h9) rfl dX5_add_1 ?_
  refine lv_bipush (v := 30) hx hb dX5_add_4 (by decide) ?_
  refine lv_icmp_lt (tgt := 10) hx hb dX5_add_6 (by decide) (fun c_6 => ?_) (fun c_6 => ?_)
  · -- if_icmplt taken
    refine lv_aload_n hx hb dX5_add_10 rfl (lv_at hl 0 rfl) ?_
    refine va_get (D := G) (ci := 5) (v := .ref (ad 75)) (C := RX5) (T := TX5) (N := 4) hx hb hg hinX5 hown hK hP 74 rl_Waves rfl 0 (by decide) (hg _ qF_X5_9) (fun _ h9 => h9) rfl dX5_add_11 ?_
    refine lv_aload_n hx hb dX5_add_14 rfl (lv_at hl 0 rfl) ?_
    refine va_get (D := G) (ci := 5) (v := .int (σ 41 0)) (C := RX5) (T := TX5) (N := 4) hx hb hg hinX5 hown hK hP 74 rl_Waves rfl 3 (by decide) (hg _ qF_X5_21) (fun _ h9 => h9) rfl dX5_add_15 ?_
    refine lv_iload_n hx hb dX5_add_18 rfl (lv_at hl 1 rfl) ?_
    refine pp_iast (x := a0) hx hb hK hP (rr_D hJ) hS 75 0 rl_facesA rfl (lt30_in hp0 c_6) (rs_facesA) dX5_add_19 (fun H locs hP hS => ?_)
    obtain ⟨σ1, eσ1⟩ : ∃ z, z = up σ 34 (nx (σ 41 0)) a0 := ⟨_, rfl⟩
    rw [← eσ1] at hP
    refine lv_aload_n hx hb dX5_add_20 rfl (lv_at hl 0 rfl) ?_
    refine va_get (D := G) (ci := 5) (v := .ref (ad 76)) (C := RX5) (T := TX5) (N := 4) hx hb hg hinX5 hown hK hP 74 rl_Waves rfl 1 (by decide) (hg _ qF_X5_15) (fun _ h9 => h9) rfl dX5_add_21 ?_
    refine lv_aload_n hx hb dX5_add_24 rfl (lv_at hl 0 rfl) ?_
    refine va_get (D := G) (ci := 5) (v := .int (σ1 41 0)) (C := RX5) (T := TX5) (N := 4) hx hb hg hinX5 hown hK hP 74 rl_Waves rfl 3 (by decide) (hg _ qF_X5_21) (fun _ h9 => h9) rfl dX5_add_25 ?_
    refine lv_iload_n hx hb dX5_add_28 rfl (lv_at hl 2 rfl) ?_
    refine pp_iast (x := b0) hx hb hK hP (rr_D hJ) hS 76 0 rl_wpiecesA rfl (by rw [eσ1]; exact lt30_in hp0 c_6) (rs_wpiecesA) dX5_add_29 (fun H locs hP hS => ?_)
    obtain ⟨σ2, eσ2⟩ : ∃ z, z = up σ1 35 (nx (σ1 41 0)) b0 := ⟨_, rfl⟩
    rw [← eσ2] at hP
    refine lv_aload_n hx hb dX5_add_30 rfl (lv_at hl 0 rfl) ?_
    refine va_get (D := G) (ci := 5) (v := .ref (ad 77)) (C := RX5) (T := TX5) (N := 4) hx hb hg hinX5 hown hK hP 74 rl_Waves rfl 2 (by decide) (hg _ qF_X5_18) (fun _ h9 => h9) rfl dX5_add_31 ?_
    refine lv_aload_n hx hb dX5_add_34 rfl (lv_at hl 0 rfl) ?_
    refine va_get (D := G) (ci := 5) (v := .int (σ2 41 0)) (C := RX5) (T := TX5) (N := 4) hx hb hg hinX5 hown hK hP 74 rl_Waves rfl 3 (by decide) (hg _ qF_X5_21) (fun _ h9 => h9) rfl dX5_add_35 ?_
    refine lv_iload_n hx hb dX5_add_38 rfl (lv_at hl 3 rfl) ?_
    refine pp_iast (x := c0) hx hb hK hP (rr_D hJ) hS 77 0 rl_daysA rfl (by rw [eσ2, eσ1]; exact lt30_in hp0 c_6) (rs_daysA) dX5_add_39 (fun H locs hP hS => ?_)
    obtain ⟨σ3, eσ3⟩ : ∃ z, z = up σ2 36 (nx (σ2 41 0)) c0 := ⟨_, rfl⟩
    rw [← eσ3] at hP
    refine lv_aload_n hx hb dX5_add_40 rfl (lv_at hl 0 rfl) ?_
    refine lv_dup hx hb dX5_add_41 rfl ?_
    refine va_get (D := G) (ci := 5) (v := .int (σ3 41 0)) (C := RX5) (T := TX5) (N := 4) hx hb hg hinX5 hown hK hP 74 rl_Waves rfl 3 (by decide) (hg _ qF_X5_21) (fun _ h9 => h9) rfl dX5_add_42 ?_
    refine lv_iconst (v := 1) hx hb dX5_add_45 (by decide) ?_
    refine lv_iadd hx hb dX5_add_46 ?_
    refine pp_put (D := G) (ci := 5) (v := .int ((σ3 41 0) + 1)) (ty := .int) (C := RX5) (T := TX5) (N := 4) hx hb hg hinX5 tyX5 tyX5_ok nmX5 hown hK hP (rr_D hJ) hS 74 rl_Waves rfl 3 (by decide) (hg _ qF_X5_21) (fun _ h9 => h9) rfl (by decide +kernel) rfl rfl (Nat.le_of_ble_eq_true rfl) (rs_Waves_count) dX5_add_47 (fun H locs hP hS => ?_)
    obtain ⟨σ4, eσ4⟩ : ∃ z, z = up σ3 41 0 ((σ3 41 0) + 1) := ⟨_, rfl⟩
    rw [← eσ4] at hP
    exact W.vret hx hb hr (fun t ht hW => ⟨⟨σ4, rfl, by subst eσ1 eσ2 eσ3 eσ4; simp only [c_wavesAdd, up_row (show (41 : Nat) ≠ 34 by decide), up_row (show (41 : Nat) ≠ 35 by decide), up_row (show (41 : Nat) ≠ 36 by decide), if_pos c_6], by rw [ht]; exact hP, va_K.moved hW.alike hK⟩, hS.F ht⟩) hS.2.2 dX5_add_50
  · -- if_icmplt not taken
    exact W.vret hx hb hr (fun t ht hW => ⟨⟨σ, rfl, by simp only [c_wavesAdd, up_row (show (41 : Nat) ≠ 34 by decide), up_row (show (41 : Nat) ≠ 35 by decide), up_row (show (41 : Nat) ≠ 36 by decide), if_neg c_6], by rw [ht]; exact hP, va_K.moved hW.alike hK⟩, hS.F ht⟩) hS.2.2 dX5_add_9

set_option maxHeartbeats 4000000 in
set_option maxRecDepth 100000 in
theorem m_Plan_clear (l : Launch) (G : va_G) (cA : Nat → ClassId) (ad : Nat → Nat) (σ : St) (hJ : rr_inj ad) : Met l yX3_clear (wX3_clear :: wG) ({ frames := 0, cells := 0, slots := 0, locals := 0 }) (va_Pc [.ref (ad 78)] (rrW G cA ad σ)) (va_Qv (fun σ' => σ' = c_clear σ) (rrW G cA ad) (rrA ad)) 0 0 (rrA ad) := by
  refine Met.ofW (cc := cX3_clear) (maxL := 1) (ret := none) (by decide) rfl ?_
  intro p e s m args below meth c s₁ B hml hv
  obtain ⟨rfl, hP, hK⟩ := hv
  have hx := B.exec
  have hb := B.bytes
  have hr := B.returns
  have hts := atoms_spec (ws := wX3_clear :: wG) B.pre
  have hg : ∀ w ∈ wG, w.before _ s = true := fun w h => hts w (List.mem_cons_of_mem _ h)
  have hown : s.vm.findClass RX3 = some m.cls := findClass_of_methodNamed B.named
  have hlocks := B.notSynchronized
  have hS : va_S (rrA ad) s.heap s.heap [] := va_S.rf
  have hl := lv_entry ([.ref (ad 78)]) (n := 1) (Nat.le_of_ble_eq_true rfl)
  rw [lg_entry_eq]
  generalize (lg_sl ([.ref (ad 78)]) ++ List.replicate (1 - (lg_sl ([.ref (ad 78)])).length) Slot.unset).toArray = ls at hl ⊢
  have hl : lv_has ls 1 [(0, .ref (ad 78))] := hl
  refine lv_aload_n hx hb dX3_clear_0 rfl (lv_at hl 0 rfl) ?_
  refine lv_iconst (v := 0) hx hb dX3_clear_1 (by decide) ?_
  refine pp_put (D := G) (ci := 3) (v := .int 0) (ty := .int) (C := RX3) (T := TX3) (N := 5) hx hb hg hinX3 tyX3 tyX3_ok nmX3 hown hK hP (rr_D hJ) hS 78 rl_Plan rfl 1 (by decide) (hg _ qF_X3_17) (fun _ h9 => h9) rfl (by decide +kernel) rfl rfl (Nat.le_of_ble_eq_true rfl) (rs_Plan_count) dX3_clear_2 (fun H locs hP hS => ?_)
  obtain ⟨σ1, eσ1⟩ : ∃ z, z = up σ 42 0 0 := ⟨_, rfl⟩
  rw [← eσ1] at hP
  refine lv_aload_n hx hb dX3_clear_5 rfl (lv_at hl 0 rfl) ?_
  refine lv_iconst (v := (-1)) hx hb dX3_clear_6 (by decide) ?_
  refine pp_put (D := G) (ci := 3) (v := .int (-1)) (ty := .int) (C := RX3) (T := TX3) (N := 5) hx hb hg hinX3 tyX3 tyX3_ok nmX3 hown hK hP (rr_D hJ) hS 78 rl_Plan rfl 2 (by decide) (hg _ qF_X3_21) (fun _ h9 => h9) rfl (by decide +kernel) rfl rfl (Nat.le_of_ble_eq_true rfl) (rs_Plan_trip) dX3_clear_7 (fun H locs hP hS => ?_)
  obtain ⟨σ2, eσ2⟩ : ∃ z, z = up σ1 43 0 (-1) := ⟨_, rfl⟩
  rw [← eσ2] at hP
  refine lv_aload_n hx hb dX3_clear_10 rfl (lv_at hl 0 rfl) ?_
  refine lv_iconst (v := (-1)) hx hb dX3_clear_11 (by decide) ?_
  refine pp_put (D := G) (ci := 3) (v := .int (-1)) (ty := .int) (C := RX3) (T := TX3) (N := 5) hx hb hg hinX3 tyX3 tyX3_ok nmX3 hown hK hP (rr_D hJ) hS 78 rl_Plan rfl 3 (by decide) (hg _ qF_X3_24) (fun _ h9 => h9) rfl (by decide +kernel) rfl rfl (Nat.le_of_ble_eq_true rfl) (rs_Plan_tripZone) dX3_clear_12 (fun H locs hP hS => ?_)
  obtain ⟨σ3, eσ3⟩ : ∃ z, z = up σ2 44 0 (-1) := ⟨_, rfl⟩
  rw [← eσ3] at hP
  refine lv_aload_n hx hb dX3_clear_15 rfl (lv_at hl 0 rfl) ?_
  refine lv_iconst (v := 0) hx hb dX3_clear_16 (by decide) ?_
  refine pp_put (D := G) (ci := 3) (v := .int 0) (ty := .int) (C := RX3) (T := TX3) (N := 5) hx hb hg hinX3 tyX3 tyX3_ok nmX3 hown hK hP (rr_D hJ) hS 78 rl_Plan rfl 4 (by decide) (hg _ qF_X3_27) (fun _ h9 => h9) rfl (by decide +kernel) rfl rfl (Nat.le_of_ble_eq_true rfl) (rs_Plan_tripMoves) dX3_clear_17 (fun H locs hP hS => ?_)
  obtain ⟨σ4, eσ4⟩ : ∃ z, z = up σ3 45 0 0 := ⟨_, rfl⟩
  rw [← eσ4] at hP
  exact W.vret hx hb hr (fun t ht hW => ⟨⟨σ4, rfl, by subst eσ1 eσ2 eσ3 eσ4; exact rfl, by rw [ht]; exact hP, va_K.moved hW.alike hK⟩, hS.F ht⟩) hS.2.2 dX3_clear_20

set_option maxHeartbeats 4000000 in
set_option maxRecDepth 100000 in
theorem m_Plan_joinTrip (l : Launch) (G : va_G) (cA : Nat → ClassId) (ad : Nat → Nat) (σ : St) (hJ : rr_inj ad) (a0 : Int32) : Met l yX3_joinTrip (wX3_joinTrip :: wG) ({ frames := 0, cells := 0, slots := 0, locals := 0 }) (va_Pc [.ref (ad 78), .int a0] (rrW G cA ad σ)) (va_Qv (fun σ' => σ' = c_join σ a0) (rrW G cA ad) (rrA ad)) 0 0 (rrA ad) := by
  refine Met.ofW (cc := cX3_joinTrip) (maxL := 2) (ret := none) (by decide) rfl ?_
  intro p e s m args below meth c s₁ B hml hv
  obtain ⟨rfl, hP, hK⟩ := hv
  have hx := B.exec
  have hb := B.bytes
  have hr := B.returns
  have hts := atoms_spec (ws := wX3_joinTrip :: wG) B.pre
  have hg : ∀ w ∈ wG, w.before _ s = true := fun w h => hts w (List.mem_cons_of_mem _ h)
  have hown : s.vm.findClass RX3 = some m.cls := findClass_of_methodNamed B.named
  have hlocks := B.notSynchronized
  have hS : va_S (rrA ad) s.heap s.heap [] := va_S.rf
  have hl := lv_entry ([.ref (ad 78), .int a0]) (n := 2) (Nat.le_of_ble_eq_true rfl)
  rw [lg_entry_eq]
  generalize (lg_sl ([.ref (ad 78), .int a0]) ++ List.replicate (2 - (lg_sl ([.ref (ad 78), .int a0])).length) Slot.unset).toArray = ls at hl ⊢
  have hl : lv_has ls 2 [(0, .ref (ad 78)), (1, .int a0)] := hl
  refine lv_aload_n hx hb dX3_joinTrip_0 rfl (lv_at hl 0 rfl) ?_
  refine va_get (D := G) (ci := 3) (v := .int (σ 44 0)) (C := RX3) (T := TX3) (N := 5) hx hb hg hinX3 hown hK hP 78 rl_Plan rfl 3 (by decide) (hg _ qF_X3_24) (fun _ h9 => h9) rfl dX3_joinTrip_1 ?_
  refine lv_iload_n hx hb dX3_joinTrip_4 rfl (lv_at hl 1 rfl) ?_
  refine lv_icmp_ne (tgt := 16) hx hb dX3_joinTrip_5 (by decide) (fun c_5 => ?_) (fun c_5 => ?_)
  · -- if_icmpne taken
    refine lv_aload_n hx hb dX3_joinTrip_16 rfl (lv_at hl 0 rfl) ?_
    refine lv_dup hx hb dX3_joinTrip_17 rfl ?_
    refine va_get (D := G) (ci := 3) (v := .int (σ 43 0)) (C := RX3) (T := TX3) (N := 5) hx hb hg hinX3 hown hK hP 78 rl_Plan rfl 2 (by decide) (hg _ qF_X3_21) (fun _ h9 => h9) rfl dX3_joinTrip_18 ?_
    refine lv_iconst (v := 1) hx hb dX3_joinTrip_21 (by decide) ?_
    refine lv_iadd hx hb dX3_joinTrip_22 ?_
    refine pp_put (D := G) (ci := 3) (v := .int ((σ 43 0) + 1)) (ty := .int) (C := RX3) (T := TX3) (N := 5) hx hb hg hinX3 tyX3 tyX3_ok nmX3 hown hK hP (rr_D hJ) hS 78 rl_Plan rfl 2 (by decide) (hg _ qF_X3_21) (fun _ h9 => h9) rfl (by decide +kernel) rfl rfl (Nat.le_of_ble_eq_true rfl) (rs_Plan_trip) dX3_joinTrip_23 (fun H locs hP hS => ?_)
    obtain ⟨σ1, eσ1⟩ : ∃ z, z = up σ 43 0 ((σ 43 0) + 1) := ⟨_, rfl⟩
    rw [← eσ1] at hP
    refine lv_aload_n hx hb dX3_joinTrip_26 rfl (lv_at hl 0 rfl) ?_
    refine lv_iload_n hx hb dX3_joinTrip_27 rfl (lv_at hl 1 rfl) ?_
    refine pp_put (D := G) (ci := 3) (v := .int a0) (ty := .int) (C := RX3) (T := TX3) (N := 5) hx hb hg hinX3 tyX3 tyX3_ok nmX3 hown hK hP (rr_D hJ) hS 78 rl_Plan rfl 3 (by decide) (hg _ qF_X3_24) (fun _ h9 => h9) rfl (by decide +kernel) rfl rfl (Nat.le_of_ble_eq_true rfl) (rs_Plan_tripZone) dX3_joinTrip_28 (fun H locs hP hS => ?_)
    obtain ⟨σ2, eσ2⟩ : ∃ z, z = up σ1 44 0 a0 := ⟨_, rfl⟩
    rw [← eσ2] at hP
    refine lv_aload_n hx hb dX3_joinTrip_31 rfl (lv_at hl 0 rfl) ?_
    refine lv_iconst (v := 0) hx hb dX3_joinTrip_32 (by decide) ?_
    refine pp_put (D := G) (ci := 3) (v := .int 0) (ty := .int) (C := RX3) (T := TX3) (N := 5) hx hb hg hinX3 tyX3 tyX3_ok nmX3 hown hK hP (rr_D hJ) hS 78 rl_Plan rfl 4 (by decide) (hg _ qF_X3_27) (fun _ h9 => h9) rfl (by decide +kernel) rfl rfl (Nat.le_of_ble_eq_true rfl) (rs_Plan_tripMoves) dX3_joinTrip_33 (fun H locs hP hS => ?_)
    obtain ⟨σ3, eσ3⟩ : ∃ z, z = up σ2 45 0 0 := ⟨_, rfl⟩
    rw [← eσ3] at hP
    refine lv_aload_n hx hb dX3_joinTrip_36 rfl (lv_at hl 0 rfl) ?_
    refine lv_dup hx hb dX3_joinTrip_37 rfl ?_
    refine va_get (D := G) (ci := 3) (v := .int (σ3 45 0)) (C := RX3) (T := TX3) (N := 5) hx hb hg hinX3 hown hK hP 78 rl_Plan rfl 4 (by decide) (hg _ qF_X3_27) (fun _ h9 => h9) rfl dX3_joinTrip_38 ?_
    refine lv_iconst (v := 1) hx hb dX3_joinTrip_41 (by decide) ?_
    refine lv_iadd hx hb dX3_joinTrip_42 ?_
    refine pp_put (D := G) (ci := 3) (v := .int ((σ3 45 0) + 1)) (ty := .int) (C := RX3) (T := TX3) (N := 5) hx hb hg hinX3 tyX3 tyX3_ok nmX3 hown hK hP (rr_D hJ) hS 78 rl_Plan rfl 4 (by decide) (hg _ qF_X3_27) (fun _ h9 => h9) rfl (by decide +kernel) rfl rfl (Nat.le_of_ble_eq_true rfl) (rs_Plan_tripMoves) dX3_joinTrip_43 (fun H locs hP hS => ?_)
    obtain ⟨σ4, eσ4⟩ : ∃ z, z = up σ3 45 0 ((σ3 45 0) + 1) := ⟨_, rfl⟩
    rw [← eσ4] at hP
    exact W.vret hx hb hr (fun t ht hW => ⟨⟨σ4, rfl, by subst eσ1 eσ2 eσ3 eσ4; simp only [c_join, c_joinA, c_joinB, if_neg c_5], by rw [ht]; exact hP, va_K.moved hW.alike hK⟩, hS.F ht⟩) hS.2.2 dX3_joinTrip_46
  · -- if_icmpne not taken
    refine lv_aload_n hx hb dX3_joinTrip_8 rfl (lv_at hl 0 rfl) ?_
    refine va_get (D := G) (ci := 3) (v := .int (σ 45 0)) (C := RX3) (T := TX3) (N := 5) hx hb hg hinX3 hown hK hP 78 rl_Plan rfl 4 (by decide) (hg _ qF_X3_27) (fun _ h9 => h9) rfl dX3_joinTrip_9 ?_
    refine lv_iconst (v := 3) hx hb dX3_joinTrip_12 (by decide) ?_
    refine lv_icmp_lt (tgt := 36) hx hb dX3_joinTrip_13 (by decide) (fun c_13 => ?_) (fun c_13 => ?_)
    · -- if_icmplt taken
      refine lv_aload_n hx hb dX3_joinTrip_36 rfl (lv_at hl 0 rfl) ?_
      refine lv_dup hx hb dX3_joinTrip_37 rfl ?_
      refine va_get (D := G) (ci := 3) (v := .int (σ 45 0)) (C := RX3) (T := TX3) (N := 5) hx hb hg hinX3 hown hK hP 78 rl_Plan rfl 4 (by decide) (hg _ qF_X3_27) (fun _ h9 => h9) rfl dX3_joinTrip_38 ?_
      refine lv_iconst (v := 1) hx hb dX3_joinTrip_41 (by decide) ?_
      refine lv_iadd hx hb dX3_joinTrip_42 ?_
      refine pp_put (D := G) (ci := 3) (v := .int ((σ 45 0) + 1)) (ty := .int) (C := RX3) (T := TX3) (N := 5) hx hb hg hinX3 tyX3 tyX3_ok nmX3 hown hK hP (rr_D hJ) hS 78 rl_Plan rfl 4 (by decide) (hg _ qF_X3_27) (fun _ h9 => h9) rfl (by decide +kernel) rfl rfl (Nat.le_of_ble_eq_true rfl) (rs_Plan_tripMoves) dX3_joinTrip_43 (fun H locs hP hS => ?_)
      obtain ⟨σ1, eσ1⟩ : ∃ z, z = up σ 45 0 ((σ 45 0) + 1) := ⟨_, rfl⟩
      rw [← eσ1] at hP
      exact W.vret hx hb hr (fun t ht hW => ⟨⟨σ1, rfl, by subst eσ1; simp only [c_join, c_joinA, c_joinB, if_pos c_5, if_pos c_13], by rw [ht]; exact hP, va_K.moved hW.alike hK⟩, hS.F ht⟩) hS.2.2 dX3_joinTrip_46
    · -- if_icmplt not taken
      refine lv_aload_n hx hb dX3_joinTrip_16 rfl (lv_at hl 0 rfl) ?_
      refine lv_dup hx hb dX3_joinTrip_17 rfl ?_
      refine va_get (D := G) (ci := 3) (v := .int (σ 43 0)) (C := RX3) (T := TX3) (N := 5) hx hb hg hinX3 hown hK hP 78 rl_Plan rfl 2 (by decide) (hg _ qF_X3_21) (fun _ h9 => h9) rfl dX3_joinTrip_18 ?_
      refine lv_iconst (v := 1) hx hb dX3_joinTrip_21 (by decide) ?_
      refine lv_iadd hx hb dX3_joinTrip_22 ?_
      refine pp_put (D := G) (ci := 3) (v := .int ((σ 43 0) + 1)) (ty := .int) (C := RX3) (T := TX3) (N := 5) hx hb hg hinX3 tyX3 tyX3_ok nmX3 hown hK hP (rr_D hJ) hS 78 rl_Plan rfl 2 (by decide) (hg _ qF_X3_21) (fun _ h9 => h9) rfl (by decide +kernel) rfl rfl (Nat.le_of_ble_eq_true rfl) (rs_Plan_trip) dX3_joinTrip_23 (fun H locs hP hS => ?_)
      obtain ⟨σ1, eσ1⟩ : ∃ z, z = up σ 43 0 ((σ 43 0) + 1) := ⟨_, rfl⟩
      rw [← eσ1] at hP
      refine lv_aload_n hx hb dX3_joinTrip_26 rfl (lv_at hl 0 rfl) ?_
      refine lv_iload_n hx hb dX3_joinTrip_27 rfl (lv_at hl 1 rfl) ?_
      refine pp_put (D := G) (ci := 3) (v := .int a0) (ty := .int) (C := RX3) (T := TX3) (N := 5) hx hb hg hinX3 tyX3 tyX3_ok nmX3 hown hK hP (rr_D hJ) hS 78 rl_Plan rfl 3 (by decide) (hg _ qF_X3_24) (fun _ h9 => h9) rfl (by decide +kernel) rfl rfl (Nat.le_of_ble_eq_true rfl) (rs_Plan_tripZone) dX3_joinTrip_28 (fun H locs hP hS => ?_)
      obtain ⟨σ2, eσ2⟩ : ∃ z, z = up σ1 44 0 a0 := ⟨_, rfl⟩
      rw [← eσ2] at hP
      refine lv_aload_n hx hb dX3_joinTrip_31 rfl (lv_at hl 0 rfl) ?_
      refine lv_iconst (v := 0) hx hb dX3_joinTrip_32 (by decide) ?_
      refine pp_put (D := G) (ci := 3) (v := .int 0) (ty := .int) (C := RX3) (T := TX3) (N := 5) hx hb hg hinX3 tyX3 tyX3_ok nmX3 hown hK hP (rr_D hJ) hS 78 rl_Plan rfl 4 (by decide) (hg _ qF_X3_27) (fun _ h9 => h9) rfl (by decide +kernel) rfl rfl (Nat.le_of_ble_eq_true rfl) (rs_Plan_tripMoves) dX3_joinTrip_33 (fun H locs hP hS => ?_)
      obtain ⟨σ3, eσ3⟩ : ∃ z, z = up σ2 45 0 0 := ⟨_, rfl⟩
      rw [← eσ3] at hP
      refine lv_aload_n hx hb dX3_joinTrip_36 rfl (lv_at hl 0 rfl) ?_
      refine lv_dup hx hb dX3_joinTrip_37 rfl ?_
      refine va_get (D := G) (ci := 3) (v := .int (σ3 45 0)) (C := RX3) (T := TX3) (N := 5) hx hb hg hinX3 hown hK hP 78 rl_Plan rfl 4 (by decide) (hg _ qF_X3_27) (fun _ h9 => h9) rfl dX3_joinTrip_38 ?_
      refine lv_iconst (v := 1) hx hb dX3_joinTrip_41 (by decide) ?_
      refine lv_iadd hx hb dX3_joinTrip_42 ?_
      refine pp_put (D := G) (ci := 3) (v := .int ((σ3 45 0) + 1)) (ty := .int) (C := RX3) (T := TX3) (N := 5) hx hb hg hinX3 tyX3 tyX3_ok nmX3 hown hK hP (rr_D hJ) hS 78 rl_Plan rfl 4 (by decide) (hg _ qF_X3_27) (fun _ h9 => h9) rfl (by decide +kernel) rfl rfl (Nat.le_of_ble_eq_true rfl) (rs_Plan_tripMoves) dX3_joinTrip_43 (fun H locs hP hS => ?_)
      obtain ⟨σ4, eσ4⟩ : ∃ z, z = up σ3 45 0 ((σ3 45 0) + 1) := ⟨_, rfl⟩
      rw [← eσ4] at hP
      exact W.vret hx hb hr (fun t ht hW => ⟨⟨σ4, rfl, by subst eσ1 eσ2 eσ3 eσ4; simp only [c_join, c_joinA, c_joinB, if_pos c_5, if_neg c_13], by rw [ht]; exact hP, va_K.moved hW.alike hK⟩, hS.F ht⟩) hS.2.2 dX3_joinTrip_46

set_option maxHeartbeats 4000000 in
set_option maxRecDepth 100000 in
theorem m_Plan_add (l : Launch) (G : va_G) (cA : Nat → ClassId) (ad : Nat → Nat) (σ : St) (hJ : rr_inj ad) (a0 : Nat) (ha0 : a0 < 16) (b0 : Nat) (hb0 : b0 < 16) (c0 : Int32) (hp0 : ¬ σ 42 0 < 0) : Met l yX3_add (wX3_add :: wG) ({ frames := 2, cells := 0, slots := 0, locals := 40 }) (va_Pc [.ref (ad 78), .ref (ad a0), .ref (ad b0), .int c0] (rrW G cA ad σ)) (va_Qv (fun σ' => σ' = c_add σ a0 b0 c0) (rrW G cA ad) (rrA ad)) 0 0 (rrA ad) := by
  refine Met.ofW (cc := cX3_add) (maxL := 5) (ret := none) (by decide) rfl ?_
  intro p e s m args below meth c s₁ B hml hv
  obtain ⟨rfl, hP, hK⟩ := hv
  have hx := B.exec
  have hb := B.bytes
  have hr := B.returns
  have hts := atoms_spec (ws := wX3_add :: wG) B.pre
  have hg : ∀ w ∈ wG, w.before _ s = true := fun w h => hts w (List.mem_cons_of_mem _ h)
  have hown : s.vm.findClass RX3 = some m.cls := findClass_of_methodNamed B.named
  have hlocks := B.notSynchronized
  have hS : va_S (rrA ad) s.heap s.heap [] := va_S.rf
  have hl := lv_entry ([.ref (ad 78), .ref (ad a0), .ref (ad b0), .int c0]) (n := 5) (Nat.le_of_ble_eq_true rfl)
  rw [lg_entry_eq]
  generalize (lg_sl ([.ref (ad 78), .ref (ad a0), .ref (ad b0), .int c0]) ++ List.replicate (5 - (lg_sl ([.ref (ad 78), .ref (ad a0), .ref (ad b0), .int c0])).length) Slot.unset).toArray = ls at hl ⊢
  have hl : lv_has ls 5 [(0, .ref (ad 78)), (1, .ref (ad a0)), (2, .ref (ad b0)), (3, .int c0)] := hl
  refine lv_aload_n hx hb dX3_add_0 rfl (lv_at hl 0 rfl) ?_
  refine va_get (D := G) (ci := 3) (v := .int (σ 42 0)) (C := RX3) (T := TX3) (N := 5) hx hb hg hinX3 hown hK hP 78 rl_Plan rfl 1 (by decide) (hg _ qF_X3_17) (fun _ h9 => h9) rfl dX3_add_1 ?_
  refine lv_bipush (v := 30) hx hb dX3_add_4 (by decide) ?_
  refine lv_icmp_lt (tgt := 10) hx hb dX3_add_6 (by decide) (fun c_6 => ?_) (fun c_6 => ?_)
  · -- if_icmplt taken
    refine lv_aload_n hx hb dX3_add_10 rfl (lv_at hl 0 rfl) ?_
    refine lv_aload_n hx hb dX3_add_11 rfl (lv_at hl 1 rfl) ?_
    refine va_get (D := G) (ci := 2) (v := .int (σ 1 a0)) (C := RX2) (T := TX2) (N := 13) hx hb hg hinX2 hown hK hP a0 (rl_Place ha0) rfl 3 (by decide) (hg _ qF_X3_38) (fun _ h9 => h9) rfl dX3_add_12 ?_
    refine va_callv (va_runV (As := [.int (σ 1 a0)]) (rest := []) ⟨hx, hb, hml, hown, hg⟩ (m_Plan_joinTrip l G cA ad σ hJ (σ 1 a0)) (cwV 1 hg (gV qM_X3_43 qI_X3_joinTrip qS_X3_joinTrip qN_X3 kX3_joinTrip) rfl rfl rfl (by decide +kernel) ⟨Nat.le_of_ble_eq_true rfl, Nat.le_of_ble_eq_true rfl⟩) (rr_pv hK hP (va_recv hK hP (ci := 3) (q0 := 78) rfl rl_Plan)) rfl rfl hl.1 rfl (lv_room (Nat.le_of_ble_eq_true rfl)) dX3_add_15 ⟨Nat.le_of_ble_eq_true rfl, Nat.le_of_ble_eq_true rfl⟩) hS (fun q _ h => h) (fun q h => h) (fun σ1 t H locs ht hvm eσ1 hB hz9 hk9 hS => ?_)
    have hP := hB.1
    rw [ht] at hP
    refine lv_aload_n hx hb dX3_add_18 rfl (lv_at hl 0 rfl) ?_
    refine va_get (D := G) (ci := 3) (v := .ref (ad 79)) (C := RX3) (T := TX3) (N := 5) hx hb hg hinX3 hown hK hP 78 rl_Plan rfl 0 (by decide) (hg _ qF_X3_11) (fun _ h9 => h9) rfl dX3_add_19 ?_
    refine lv_aload_n hx hb dX3_add_22 rfl (lv_at hl 0 rfl) ?_
    refine va_get (D := G) (ci := 3) (v := .int (σ1 42 0)) (C := RX3) (T := TX3) (N := 5) hx hb hg hinX3 hown hK hP 78 rl_Plan rfl 1 (by decide) (hg _ qF_X3_17) (fun _ h9 => h9) rfl dX3_add_23 ?_
    refine va_aldq hx hb hK hP 79 4 rl_movesA rfl (by rw [eσ1, join_42]; exact lt30_in hp0 c_6) dX3_add_26 ?_
    show W _ _ _ _ _ _ _ _ _ _ _ _ _ _ _ (F0 m _ ls (.ref (ad (36 + nx (σ1 42 0))) :: []))
    refine lv_astore (lv' := [(4, .ref (ad (36 + nx (σ1 42 0)))), (0, .ref (ad 78)), (1, .ref (ad a0)), (2, .ref (ad b0)), (3, .int c0)]) hx hb dX3_add_27 hl (by decide) rfl (fun ls hl => ?_)
    refine lv_aload hx hb dX3_add_29 (lv_at hl 0 rfl) ?_
    refine lv_aload_n hx hb dX3_add_31 rfl (lv_at hl 2 rfl) ?_
    refine va_get (D := G) (ci := 2) (v := .int (nI a0)) (C := RX2) (T := TX2) (N := 13) hx hb hg hinX2 hown hK hP a0 (rl_Place ha0) rfl 0 (by decide) (hg _ qF_X3_47) (fun _ h9 => h9) rfl dX3_add_32 ?_
    refine pp_put (D := G) (ci := 1) (v := .int (nI a0)) (ty := .int) (C := RX1) (T := TX1) (N := 7) hx hb hg hinX1 tyX1 tyX1_ok nmX1 hown hK hP (rr_D hJ) hS (36 + (nx (σ1 42 0))) (rl_Move (vp_lt (by rw [eσ1, join_42]; exact lt30_in hp0 c_6))) rfl 0 (by decide) (hg _ qF_X3_50) (fun _ h9 => h9) rfl (by decide +kernel) rfl rfl (Nat.le_of_ble_eq_true rfl) (rs_Move_from (vp_lt (by rw [eσ1, join_42]; exact lt30_in hp0 c_6))) dX3_add_35 (fun H locs hP hS => ?_)
    obtain ⟨σ2, eσ2⟩ : ∃ z, z = up σ1 50 (nx (σ1 42 0)) (nI a0) := ⟨_, rfl⟩
    rw [← eσ2] at hP
    refine lv_aload hx hb dX3_add_38 (lv_at hl 0 rfl) ?_
    refine lv_aload_n hx hb dX3_add_40 rfl (lv_at hl 3 rfl) ?_
    refine va_get (D := G) (ci := 2) (v := .int (nI b0)) (C := RX2) (T := TX2) (N := 13) hx hb hg hinX2 hown hK hP b0 (rl_Place hb0) rfl 0 (by decide) (hg _ qF_X3_47) (fun _ h9 => h9) rfl dX3_add_41 ?_
    refine pp_put (D := G) (ci := 1) (v := .int (nI b0)) (ty := .int) (C := RX1) (T := TX1) (N := 7) hx hb hg hinX1 tyX1 tyX1_ok nmX1 hown hK hP (rr_D hJ) hS (36 + (nx (σ1 42 0))) (rl_Move (vp_lt (by rw [eσ1, join_42]; exact lt30_in hp0 c_6))) rfl 1 (by decide) (hg _ qF_X3_53) (fun _ h9 => h9) rfl (by decide +kernel) rfl rfl (Nat.le_of_ble_eq_true rfl) (rs_Move_to (vp_lt (by rw [eσ1, join_42]; exact lt30_in hp0 c_6))) dX3_add_44 (fun H locs hP hS => ?_)
    obtain ⟨σ3, eσ3⟩ : ∃ z, z = up σ2 51 (nx (σ1 42 0)) (nI b0) := ⟨_, rfl⟩
    rw [← eσ3] at hP
    refine lv_aload hx hb dX3_add_47 (lv_at hl 0 rfl) ?_
    refine lv_iload_n hx hb dX3_add_49 rfl (lv_at hl 4 rfl) ?_
    refine pp_put (D := G) (ci := 1) (v := .int c0) (ty := .int) (C := RX1) (T := TX1) (N := 7) hx hb hg hinX1 tyX1 tyX1_ok nmX1 hown hK hP (rr_D hJ) hS (36 + (nx (σ1 42 0))) (rl_Move (vp_lt (by rw [eσ1, join_42]; exact lt30_in hp0 c_6))) rfl 2 (by decide) (hg _ qF_X3_56) (fun _ h9 => h9) rfl (by decide +kernel) rfl rfl (Nat.le_of_ble_eq_true rfl) (rs_Move_pieces (vp_lt (by rw [eσ1, join_42]; exact lt30_in hp0 c_6))) dX3_add_50 (fun H locs hP hS => ?_)
    obtain ⟨σ4, eσ4⟩ : ∃ z, z = up σ3 52 (nx (σ1 42 0)) c0 := ⟨_, rfl⟩
    rw [← eσ4] at hP
    refine lv_aload hx hb dX3_add_53 (lv_at hl 0 rfl) ?_
    refine lv_aload_n hx hb dX3_add_55 rfl (lv_at hl 3 rfl) ?_
    refine va_get (D := G) (ci := 2) (v := .int (σ4 10 b0)) (C := RX2) (T := TX2) (N := 13) hx hb hg hinX2 hown hK hP b0 (rl_Place hb0) rfl 12 (by decide) (hg _ qF_X3_59) (fun _ h9 => h9) rfl dX3_add_56 ?_
    refine pp_put (D := G) (ci := 1) (v := .int (σ4 10 b0)) (ty := .int) (C := RX1) (T := TX1) (N := 7) hx hb hg hinX1 tyX1 tyX1_ok nmX1 hown hK hP (rr_D hJ) hS (36 + (nx (σ1 42 0))) (rl_Move (vp_lt (by rw [eσ1, join_42]; exact lt30_in hp0 c_6))) rfl 3 (by decide) (hg _ qF_X3_62) (fun _ h9 => h9) rfl (by decide +kernel) rfl rfl (Nat.le_of_ble_eq_true rfl) (rs_Move_needTime (vp_lt (by rw [eσ1, join_42]; exact lt30_in hp0 c_6))) dX3_add_59 (fun H locs hP hS => ?_)
    obtain ⟨σ5, eσ5⟩ : ∃ z, z = up σ4 53 (nx (σ1 42 0)) (σ4 10 b0) := ⟨_, rfl⟩
    rw [← eσ5] at hP
    refine lv_aload hx hb dX3_add_62 (lv_at hl 0 rfl) ?_
    refine lv_aload_n hx hb dX3_add_64 rfl (lv_at hl 1 rfl) ?_
    refine va_get (D := G) (ci := 3) (v := .int (σ5 43 0)) (C := RX3) (T := TX3) (N := 5) hx hb hg hinX3 hown hK hP 78 rl_Plan rfl 2 (by decide) (hg _ qF_X3_21) (fun _ h9 => h9) rfl dX3_add_65 ?_
    refine pp_put (D := G) (ci := 1) (v := .int (σ5 43 0)) (ty := .int) (C := RX1) (T := TX1) (N := 7) hx hb hg hinX1 tyX1 tyX1_ok nmX1 hown hK hP (rr_D hJ) hS (36 + (nx (σ1 42 0))) (rl_Move (vp_lt (by rw [eσ1, join_42]; exact lt30_in hp0 c_6))) rfl 4 (by decide) (hg _ qF_X3_63) (fun _ h9 => h9) rfl (by decide +kernel) rfl rfl (Nat.le_of_ble_eq_true rfl) (rs_Move_trip (vp_lt (by rw [eσ1, join_42]; exact lt30_in hp0 c_6))) dX3_add_68 (fun H locs hP hS => ?_)
    obtain ⟨σ6, eσ6⟩ : ∃ z, z = up σ5 54 (nx (σ1 42 0)) (σ5 43 0) := ⟨_, rfl⟩
    rw [← eσ6] at hP
    refine lv_aload hx hb dX3_add_71 (lv_at hl 0 rfl) ?_
    refine lv_aload_n hx hb dX3_add_73 rfl (lv_at hl 2 rfl) ?_
    refine vp_callSi (W.runV (As := []) (rest := [.ref (ad (36 + nx (σ1 42 0)))]) ⟨hx, hb, hml, hown, hg⟩ (m_Place_free l G cA ad σ6 a0 ha0) (cwV 0 hg (gV qM_X3_64 qI_X2_free qS_X2_free qN_X2 kX2_free) rfl rfl rfl (by decide +kernel) ⟨Nat.le_of_ble_eq_true rfl, Nat.le_of_ble_eq_true rfl⟩) (rr_pv hK hP (va_recv hK hP (ci := 2) (q0 := a0) rfl (rl_Place ha0))) rfl rfl hl.1 rfl (lv_room (Nat.le_of_ble_eq_true rfl)) dX3_add_74 ⟨Nat.le_of_ble_eq_true rfl, Nat.le_of_ble_eq_true rfl⟩) (nm_e ?_)
    refine lv_if_ne (tgt := 84) hx hb dX3_add_77 (by decide) (fun c_77 => ?_) (fun c_77 => ?_)
    · -- ifne taken
      refine lv_iconst (v := 0) hx hb dX3_add_84 (by decide) ?_
      refine pp_put (D := G) (ci := 1) (v := .int 0) (ty := .boolean) (C := RX1) (T := TX1) (N := 7) hx hb hg hinX1 tyX1 tyX1_ok nmX1 hown hK hP (rr_D hJ) hS (36 + (nx (σ1 42 0))) (rl_Move (vp_lt (by rw [eσ1, join_42]; exact lt30_in hp0 c_6))) rfl 5 (by decide) (hg _ qF_X3_68) (fun _ h9 => h9) rfl (by decide +kernel) rfl rfl (Nat.le_of_ble_eq_true rfl) (rs_Move_emptiesReserve (vp_lt (by rw [eσ1, join_42]; exact lt30_in hp0 c_6))) dX3_add_85 (fun H locs hP hS => ?_)
      obtain ⟨σ7, eσ7⟩ : ∃ z, z = up σ6 55 (nx (σ1 42 0)) 0 := ⟨_, rfl⟩
      rw [← eσ7] at hP
      refine lv_aload hx hb dX3_add_88 (lv_at hl 0 rfl) ?_
      refine lv_iconst (v := 0) hx hb dX3_add_90 (by decide) ?_
      refine pp_put (D := G) (ci := 1) (v := .int 0) (ty := .boolean) (C := RX1) (T := TX1) (N := 7) hx hb hg hinX1 tyX1 tyX1_ok nmX1 hown hK hP (rr_D hJ) hS (36 + (nx (σ1 42 0))) (rl_Move (vp_lt (by rw [eσ1, join_42]; exact lt30_in hp0 c_6))) rfl 6 (by decide) (hg _ qF_X3_72) (fun _ h9 => h9) rfl (by decide +kernel) rfl rfl (Nat.le_of_ble_eq_true rfl) (rs_Move_isDone (vp_lt (by rw [eσ1, join_42]; exact lt30_in hp0 c_6))) dX3_add_91 (fun H locs hP hS => ?_)
      obtain ⟨σ8, eσ8⟩ : ∃ z, z = up σ7 56 (nx (σ1 42 0)) 0 := ⟨_, rfl⟩
      rw [← eσ8] at hP
      refine lv_aload_n hx hb dX3_add_94 rfl (lv_at hl 1 rfl) ?_
      refine lv_dup hx hb dX3_add_95 rfl ?_
      refine va_get (D := G) (ci := 3) (v := .int (σ8 42 0)) (C := RX3) (T := TX3) (N := 5) hx hb hg hinX3 hown hK hP 78 rl_Plan rfl 1 (by decide) (hg _ qF_X3_17) (fun _ h9 => h9) rfl dX3_add_96 ?_
      refine lv_iconst (v := 1) hx hb dX3_add_99 (by decide) ?_
      refine lv_iadd hx hb dX3_add_100 ?_
      refine pp_put (D := G) (ci := 3) (v := .int ((σ8 42 0) + 1)) (ty := .int) (C := RX3) (T := TX3) (N := 5) hx hb hg hinX3 tyX3 tyX3_ok nmX3 hown hK hP (rr_D hJ) hS 78 rl_Plan rfl 1 (by decide) (hg _ qF_X3_17) (fun _ h9 => h9) rfl (by decide +kernel) rfl rfl (Nat.le_of_ble_eq_true rfl) (rs_Plan_count) dX3_add_101 (fun H locs hP hS => ?_)
      obtain ⟨σ9, eσ9⟩ : ∃ z, z = up σ8 42 0 ((σ8 42 0) + 1) := ⟨_, rfl⟩
      rw [← eσ9] at hP
      exact W.vret hx hb hr (fun t ht hW => ⟨⟨σ9, rfl, by subst eσ1 eσ2 eσ3 eσ4 eσ5 eσ6 eσ7 eσ8 eσ9; simp only [c_add, if_pos c_6, if_neg c_77], by rw [ht]; exact hP, va_K.moved hW.alike hK⟩, hS.F ht⟩) hS.2.2 dX3_add_104
    · -- ifne not taken
      refine lv_iconst (v := 1) hx hb dX3_add_80 (by decide) ?_
      refine lv_goto (tgt := 85) hx hb dX3_add_81 (by decide) ?_
      refine pp_put (D := G) (ci := 1) (v := .int 1) (ty := .boolean) (C := RX1) (T := TX1) (N := 7) hx hb hg hinX1 tyX1 tyX1_ok nmX1 hown hK hP (rr_D hJ) hS (36 + (nx (σ1 42 0))) (rl_Move (vp_lt (by rw [eσ1, join_42]; exact lt30_in hp0 c_6))) rfl 5 (by decide) (hg _ qF_X3_68) (fun _ h9 => h9) rfl (by decide +kernel) rfl rfl (Nat.le_of_ble_eq_true rfl) (rs_Move_emptiesReserve (vp_lt (by rw [eσ1, join_42]; exact lt30_in hp0 c_6))) dX3_add_85 (fun H locs hP hS => ?_)
      obtain ⟨σ7, eσ7⟩ : ∃ z, z = up σ6 55 (nx (σ1 42 0)) 1 := ⟨_, rfl⟩
      rw [← eσ7] at hP
      refine lv_aload hx hb dX3_add_88 (lv_at hl 0 rfl) ?_
      refine lv_iconst (v := 0) hx hb dX3_add_90 (by decide) ?_
      refine pp_put (D := G) (ci := 1) (v := .int 0) (ty := .boolean) (C := RX1) (T := TX1) (N := 7) hx hb hg hinX1 tyX1 tyX1_ok nmX1 hown hK hP (rr_D hJ) hS (36 + (nx (σ1 42 0))) (rl_Move (vp_lt (by rw [eσ1, join_42]; exact lt30_in hp0 c_6))) rfl 6 (by decide) (hg _ qF_X3_72) (fun _ h9 => h9) rfl (by decide +kernel) rfl rfl (Nat.le_of_ble_eq_true rfl) (rs_Move_isDone (vp_lt (by rw [eσ1, join_42]; exact lt30_in hp0 c_6))) dX3_add_91 (fun H locs hP hS => ?_)
      obtain ⟨σ8, eσ8⟩ : ∃ z, z = up σ7 56 (nx (σ1 42 0)) 0 := ⟨_, rfl⟩
      rw [← eσ8] at hP
      refine lv_aload_n hx hb dX3_add_94 rfl (lv_at hl 1 rfl) ?_
      refine lv_dup hx hb dX3_add_95 rfl ?_
      refine va_get (D := G) (ci := 3) (v := .int (σ8 42 0)) (C := RX3) (T := TX3) (N := 5) hx hb hg hinX3 hown hK hP 78 rl_Plan rfl 1 (by decide) (hg _ qF_X3_17) (fun _ h9 => h9) rfl dX3_add_96 ?_
      refine lv_iconst (v := 1) hx hb dX3_add_99 (by decide) ?_
      refine lv_iadd hx hb dX3_add_100 ?_
      refine pp_put (D := G) (ci := 3) (v := .int ((σ8 42 0) + 1)) (ty := .int) (C := RX3) (T := TX3) (N := 5) hx hb hg hinX3 tyX3 tyX3_ok nmX3 hown hK hP (rr_D hJ) hS 78 rl_Plan rfl 1 (by decide) (hg _ qF_X3_17) (fun _ h9 => h9) rfl (by decide +kernel) rfl rfl (Nat.le_of_ble_eq_true rfl) (rs_Plan_count) dX3_add_101 (fun H locs hP hS => ?_)
      obtain ⟨σ9, eσ9⟩ : ∃ z, z = up σ8 42 0 ((σ8 42 0) + 1) := ⟨_, rfl⟩
      rw [← eσ9] at hP
      exact W.vret hx hb hr (fun t ht hW => ⟨⟨σ9, rfl, by subst eσ1 eσ2 eσ3 eσ4 eσ5 eσ6 eσ7 eσ8 eσ9; simp only [c_add, if_pos c_6, if_pos c_77], by rw [ht]; exact hP, va_K.moved hW.alike hK⟩, hS.F ht⟩) hS.2.2 dX3_add_104
  · -- if_icmplt not taken
    exact W.vret hx hb hr (fun t ht hW => ⟨⟨σ, rfl, by simp only [c_add, if_neg c_6], by rw [ht]; exact hP, va_K.moved hW.alike hK⟩, hS.F ht⟩) hS.2.2 dX3_add_9

set_option maxHeartbeats 4000000 in
set_option maxRecDepth 100000 in
theorem m_ReplenishRules_planMove (l : Launch) (G : va_G) (cA : Nat → ClassId) (ad : Nat → Nat) (σ : St) (hJ : rr_inj ad) (a0 : Nat) (ha0 : a0 < 16) (b0 : Nat) (hb0 : b0 < 16) (hp0 : ¬ σ 42 0 < 0) : Met l yX6_planMove (wX6_planMove :: wG) ({ frames := 3, cells := 0, slots := 0, locals := 64 }) (va_Pc [.ref (ad 66), .ref (ad a0), .ref (ad b0)] (rrW G cA ad σ)) (va_Qv (fun σ' => σ' = c_planMove σ a0 b0) (rrW G cA ad) (rrA ad)) 0 0 (rrA ad) := by
  refine Met.ofW (cc := cX6_planMove) (maxL := 4) (ret := none) (by decide) rfl ?_
  intro p e s m args below meth c s₁ B hml hv
  obtain ⟨rfl, hP, hK⟩ := hv
  have hx := B.exec
  have hb := B.bytes
  have hr := B.returns
  have hts := atoms_spec (ws := wX6_planMove :: wG) B.pre
  have hg : ∀ w ∈ wG, w.before _ s = true := fun w h => hts w (List.mem_cons_of_mem _ h)
  have hown : s.vm.findClass RX6 = some m.cls := findClass_of_methodNamed B.named
  have hlocks := B.notSynchronized
  have hS : va_S (rrA ad) s.heap s.heap [] := va_S.rf
  have hl := lv_entry ([.ref (ad 66), .ref (ad a0), .ref (ad b0)]) (n := 4) (Nat.le_of_ble_eq_true rfl)
  rw [lg_entry_eq]
  generalize (lg_sl ([.ref (ad 66), .ref (ad a0), .ref (ad b0)]) ++ List.replicate (4 - (lg_sl ([.ref (ad 66), .ref (ad a0), .ref (ad b0)])).length) Slot.unset).toArray = ls at hl ⊢
  have hl : lv_has ls 4 [(0, .ref (ad 66)), (1, .ref (ad a0)), (2, .ref (ad b0))] := hl
  refine lv_aload_n hx hb dX6_planMove_0 rfl (lv_at hl 1 rfl) ?_
  refine vp_callSi (W.runV (As := []) (rest := []) ⟨hx, hb, hml, hown, hg⟩ (m_Place_free l G cA ad σ a0 ha0) (cwV 0 hg (gV qM_X6_329 qI_X2_free qS_X2_free qN_X2 kX2_free) rfl rfl rfl (by decide +kernel) ⟨Nat.le_of_ble_eq_true rfl, Nat.le_of_ble_eq_true rfl⟩) (rr_pv hK hP (va_recv hK hP (ci := 2) (q0 := a0) rfl (rl_Place ha0))) rfl rfl hl.1 rfl (lv_room (Nat.le_of_ble_eq_true rfl)) dX6_planMove_1 ⟨Nat.le_of_ble_eq_true rfl, Nat.le_of_ble_eq_true rfl⟩) (nm_e ?_)
  refine lv_aload_n hx hb dX6_planMove_4 rfl (lv_at hl 2 rfl) ?_
  refine va_get (D := G) (ci := 2) (v := .int (σ 9 b0)) (C := RX2) (T := TX2) (N := 13) hx hb hg hinX2 hown hK hP b0 (rl_Place hb0) rfl 11 (by decide) (hg _ qF_X6_298) (fun _ h9 => h9) rfl dX6_planMove_5 ?_
  refine va_mmin hx hb (hml.trans hl.1.symm) hown (hg _ qM_X6_332) (hg _ qT_Math_min_i) (hg _ qN_Math) (hg _ qY_Math_min_i) (Nat.le_of_ble_eq_true rfl) (Nat.le_of_ble_eq_true rfl) (Nat.le_of_ble_eq_true rfl) (Nat.le_of_ble_eq_true rfl) dX6_planMove_8 ?_
  show W _ _ _ _ _ _ _ _ _ _ _ _ _ _ _ (F0 m 11 ls (.int (c_minI (c_free σ a0) (σ 9 b0)) :: []))
  refine lv_istore_n (lv' := [(3, .int (c_minI (c_free σ a0) (σ 9 b0))), (0, .ref (ad 66)), (1, .ref (ad a0)), (2, .ref (ad b0))]) hx hb dX6_planMove_11 rfl hl (by decide) rfl (fun ls hl => ?_)
  refine lv_iload_n hx hb dX6_planMove_12 rfl (lv_at hl 0 rfl) ?_
  refine lv_if_le (tgt := 28) hx hb dX6_planMove_13 (by decide) (fun c_13 => ?_) (fun c_13 => ?_)
  · -- ifle taken
    exact W.vret hx hb hr (fun t ht hW => ⟨⟨σ, rfl, by simp only [c_planMove, if_pos c_13], by rw [ht]; exact hP, va_K.moved hW.alike hK⟩, hS.F ht⟩) hS.2.2 dX6_planMove_28
  · -- ifle not taken
    refine lv_aload_n hx hb dX6_planMove_16 rfl (lv_at hl 1 rfl) ?_
    refine va_get (D := G) (ci := 6) (v := .ref (ad 78)) (C := RX6) (T := TX6) (N := 8) hx hb hg hinX6 hown hK hP 66 rl_main rfl 7 (by decide) (hg _ qF_X6_48) (fun _ h9 => h9) rfl dX6_planMove_17 ?_
    refine va_get (D := G) (ci := 3) (v := .int (σ 42 0)) (C := RX3) (T := TX3) (N := 5) hx hb hg hinX3 hown hK hP 78 rl_Plan rfl 1 (by decide) (hg _ qF_X6_208) (fun _ h9 => h9) rfl dX6_planMove_20 ?_
    refine lv_bipush (v := 30) hx hb dX6_planMove_23 (by decide) ?_
    refine lv_icmp_lt (tgt := 29) hx hb dX6_planMove_25 (by decide) (fun c_25 => ?_) (fun c_25 => ?_)
    · -- if_icmplt taken
      refine lv_aload_n hx hb dX6_planMove_29 rfl (lv_at hl 2 rfl) ?_
      refine lv_dup hx hb dX6_planMove_30 rfl ?_
      refine va_get (D := G) (ci := 2) (v := .int (σ 8 a0)) (C := RX2) (T := TX2) (N := 13) hx hb hg hinX2 hown hK hP a0 (rl_Place ha0) rfl 10 (by decide) (hg _ qF_X6_295) (fun _ h9 => h9) rfl dX6_planMove_31 ?_
      refine lv_iload_n hx hb dX6_planMove_34 rfl (lv_at hl 0 rfl) ?_
      refine lv_iadd hx hb dX6_planMove_35 ?_
      refine pp_put (D := G) (ci := 2) (v := .int ((σ 8 a0) + (c_minI (c_free σ a0) (σ 9 b0)))) (ty := .int) (C := RX2) (T := TX2) (N := 13) hx hb hg hinX2 tyX2 tyX2_ok nmX2 hown hK hP (rr_D hJ) hS a0 (rl_Place ha0) rfl 10 (by decide) (hg _ qF_X6_295) (fun _ h9 => h9) rfl (by decide +kernel) rfl rfl (Nat.le_of_ble_eq_true rfl) (rs_Place_planned ha0) dX6_planMove_36 (fun H locs hP hS => ?_)
      obtain ⟨σ1, eσ1⟩ : ∃ z, z = up σ 8 a0 ((σ 8 a0) + (c_minI (c_free σ a0) (σ 9 b0))) := ⟨_, rfl⟩
      rw [← eσ1] at hP
      refine lv_aload_n hx hb dX6_planMove_39 rfl (lv_at hl 3 rfl) ?_
      refine lv_dup hx hb dX6_planMove_40 rfl ?_
      refine va_get (D := G) (ci := 2) (v := .int (σ1 9 b0)) (C := RX2) (T := TX2) (N := 13) hx hb hg hinX2 hown hK hP b0 (rl_Place hb0) rfl 11 (by decide) (hg _ qF_X6_298) (fun _ h9 => h9) rfl dX6_planMove_41 ?_
      refine lv_iload_n hx hb dX6_planMove_44 rfl (lv_at hl 0 rfl) ?_
      refine lv_isub hx hb dX6_planMove_45 ?_
      refine pp_put (D := G) (ci := 2) (v := .int ((σ1 9 b0) - (c_minI (c_free σ a0) (σ 9 b0)))) (ty := .int) (C := RX2) (T := TX2) (N := 13) hx hb hg hinX2 tyX2 tyX2_ok nmX2 hown hK hP (rr_D hJ) hS b0 (rl_Place hb0) rfl 11 (by decide) (hg _ qF_X6_298) (fun _ h9 => h9) rfl (by decide +kernel) rfl rfl (Nat.le_of_ble_eq_true rfl) (rs_Place_wanted hb0) dX6_planMove_46 (fun H locs hP hS => ?_)
      obtain ⟨σ2, eσ2⟩ : ∃ z, z = up σ1 9 b0 ((σ1 9 b0) - (c_minI (c_free σ a0) (σ 9 b0))) := ⟨_, rfl⟩
      rw [← eσ2] at hP
      refine lv_aload_n hx hb dX6_planMove_49 rfl (lv_at hl 1 rfl) ?_
      refine va_get (D := G) (ci := 6) (v := .ref (ad 78)) (C := RX6) (T := TX6) (N := 8) hx hb hg hinX6 hown hK hP 66 rl_main rfl 7 (by decide) (hg _ qF_X6_48) (fun _ h9 => h9) rfl dX6_planMove_50 ?_
      refine lv_aload_n hx hb dX6_planMove_53 rfl (lv_at hl 2 rfl) ?_
      refine lv_aload_n hx hb dX6_planMove_54 rfl (lv_at hl 3 rfl) ?_
      refine lv_iload_n hx hb dX6_planMove_55 rfl (lv_at hl 0 rfl) ?_
      refine va_callv (va_runV (As := [.ref (ad a0), .ref (ad b0), .int (c_minI (c_free σ a0) (σ 9 b0))]) (rest := []) ⟨hx, hb, hml, hown, hg⟩ (m_Plan_add l G cA ad σ2 hJ a0 ha0 b0 hb0 (c_minI (c_free σ a0) (σ 9 b0)) (by rw [eσ2, eσ1, up_row (by decide), up_row (by decide)]; exact hp0)) (cwV 3 hg (gV qM_X6_334 qI_X3_add qS_X3_add qN_X3 kX3_add) rfl rfl rfl (by decide +kernel) ⟨Nat.le_of_ble_eq_true rfl, Nat.le_of_ble_eq_true rfl⟩) (rr_pv hK hP (va_recv hK hP (ci := 3) (q0 := 78) rfl rl_Plan)) rfl rfl hl.1 rfl (lv_room (Nat.le_of_ble_eq_true rfl)) dX6_planMove_56 ⟨Nat.le_of_ble_eq_true rfl, Nat.le_of_ble_eq_true rfl⟩) hS (fun q _ h => h) (fun q h => h) (fun σ3 t H locs ht hvm eσ3 hB hz9 hk9 hS => ?_)
      have hP := hB.1
      rw [ht] at hP
      exact W.vret hx hb hr (fun t ht hW => ⟨⟨σ3, rfl, by subst eσ1 eσ2 eσ3; simp only [c_planMove, if_neg c_13, if_pos c_25], by rw [ht]; exact hP, va_K.moved hW.alike hK⟩, hS.F ht⟩) hS.2.2 dX6_planMove_59
    · -- if_icmplt not taken
      exact W.vret hx hb hr (fun t ht hW => ⟨⟨σ, rfl, by simp only [c_planMove, if_neg c_13, if_neg c_25], by rw [ht]; exact hP, va_K.moved hW.alike hK⟩, hS.F ht⟩) hS.2.2 dX6_planMove_28
end
section
set_option maxHeartbeats 600000 in
set_option maxRecDepth 100000 in
theorem m_ReplenishRules_takeFromReserves (l : Launch) (G : va_G) (cA : Nat → ClassId) (ad : Nat → Nat) (σ : St) (hJ : rr_inj ad) (hI : Inv σ) (a0 : Nat) (ha0 : a0 < 16) (b0 : Int32) : Met l yX6_takeFromReserves (wX6_takeFromReserves :: wG) ({ frames := 4, cells := 0, slots := 0, locals := 87 }) (va_Pc [.ref (ad 66), .ref (ad a0), .int b0] (rrW G cA ad σ)) (va_Qv (fun σ' => σ' = c_takeFrom σ a0 b0) (rrW G cA ad) (rrA ad)) 0 0 (rrA ad) := by
  refine Met.ofW (cc := cX6_takeFromReserves) (maxL := 6) (ret := none) (by decide) rfl ?_
  intro p e s m args below meth c s₁ B hml hv
  obtain ⟨rfl, hP, hK⟩ := hv
  have hx := B.exec
  have hb := B.bytes
  have hr := B.returns
  have hts := atoms_spec (ws := wX6_takeFromReserves :: wG) B.pre
  have hg : ∀ w ∈ wG, w.before _ s = true := fun w h => hts w (List.mem_cons_of_mem _ h)
  have hown : s.vm.findClass RX6 = some m.cls := findClass_of_methodNamed B.named
  have hlocks := B.notSynchronized
  have hS : va_S (rrA ad) s.heap s.heap [] := va_S.rf
  have hl := lv_entry ([.ref (ad 66), .ref (ad a0), .int b0]) (n := 6) (Nat.le_of_ble_eq_true rfl)
  rw [lg_entry_eq]
  generalize (lg_sl ([.ref (ad 66), .ref (ad a0), .int b0]) ++ List.replicate (6 - (lg_sl ([.ref (ad 66), .ref (ad a0), .int b0])).length) Slot.unset).toArray = ls at hl ⊢
  have hl : lv_has ls 6 [(0, .ref (ad 66)), (1, .ref (ad a0)), (2, .int b0)] := hl
  refine lv_iconst (v := 0) hx hb dX6_takeFromReserves_0 (by decide) ?_
  refine lv_topi (fun y_1 ey_1 => ?_)
  obtain rfl : y_1 = nI 0 := ey_1.trans (nI_0.symm)
  refine lv_istore_n (lv' := [(3, .int (nI 0)), (0, .ref (ad 66)), (1, .ref (ad a0)), (2, .int b0)]) hx hb dX6_takeFromReserves_1 rfl hl (by decide) rfl (fun ls hl => ?_)
  refine lp_rw (f := c_takeF a0 b0) (t := 16) (nL := 6) (fun _ σ => Inv σ) (fun k => [(3, .int (nI k)), (0, .ref (ad 66)), (1, .ref (ad a0)), (2, .int b0)]) 16 0 σ (by decide) ?_ ?_ hI hP hS ls (lv_sub hl [0, 1, 2, 3] rfl)
  · intro k σ1 H locs hk hIσ1 hP hS IH ls hl
    have hl : lv_has ls 6 [(3, .int (nI k)), (0, .ref (ad 66)), (1, .ref (ad a0)), (2, .int b0)] := hl
    refine lv_iload_n hx hb dX6_takeFromReserves_2 rfl (lv_at hl 0 rfl) ?_
    refine lv_bipush (v := 16) hx hb dX6_takeFromReserves_3 (by decide) ?_
    refine lv_icmp_ge (tgt := 66) hx hb dX6_takeFromReserves_5 (by decide) (fun c_5 => ?_) (fun c_5 => ?_)
    · -- if_icmpge taken
      exact absurd c_5 (nI_ge hk (by decide))
    · -- if_icmpge not taken
      refine lv_aload_n hx hb dX6_takeFromReserves_8 rfl (lv_at hl 1 rfl) ?_
      refine va_get (D := G) (ci := 6) (v := .ref (ad 67)) (C := RX6) (T := TX6) (N := 8) hx hb hg hinX6 hown hK hP 66 rl_main rfl 0 (by decide) (hg _ qF_X6_11) (fun _ h9 => h9) rfl dX6_takeFromReserves_9 ?_
      refine lv_iload_n hx hb dX6_takeFromReserves_12 rfl (lv_at hl 0 rfl) ?_
      refine va_aldq hx hb hK hP 67 2 rl_placesA rfl (nI_in16 hk) dX6_takeFromReserves_13 ?_
      show W _ _ _ _ _ _ _ _ _ _ _ _ _ _ _ (F0 m _ ls (.ref (ad (nx (nI k))) :: []))
      refine lv_astore (lv' := [(4, .ref (ad (nx (nI k)))), (3, .int (nI k)), (0, .ref (ad 66)), (1, .ref (ad a0)), (2, .int b0)]) hx hb dX6_takeFromReserves_14 hl (by decide) rfl (fun ls hl => ?_)
      refine lv_aload hx hb dX6_takeFromReserves_16 (lv_at hl 0 rfl) ?_
      refine va_get (D := G) (ci := 2) (v := .int (σ1 1 (nx (nI k)))) (C := RX2) (T := TX2) (N := 13) hx hb hg hinX2 hown hK hP (nx (nI k)) (rl_Place (vp_lt (nI_in16 hk))) rfl 3 (by decide) (hg _ qF_X6_82) (fun _ h9 => h9) rfl dX6_takeFromReserves_18 ?_
      refine lv_aload_n hx hb dX6_takeFromReserves_21 rfl (lv_at hl 3 rfl) ?_
      refine va_get (D := G) (ci := 2) (v := .int (σ1 1 a0)) (C := RX2) (T := TX2) (N := 13) hx hb hg hinX2 hown hK hP a0 (rl_Place ha0) rfl 3 (by decide) (hg _ qF_X6_82) (fun _ h9 => h9) rfl dX6_takeFromReserves_22 ?_
      refine lv_icmp_ne (tgt := 32) hx hb dX6_takeFromReserves_25 (by decide) (fun c_25 => ?_) (fun c_25 => ?_)
      · -- if_icmpne taken
        refine lv_iconst (v := 0) hx hb dX6_takeFromReserves_32 (by decide) ?_
        refine lv_istore (lv' := [(5, .int 0), (4, .ref (ad (nx (nI k)))), (3, .int (nI k)), (0, .ref (ad 66)), (1, .ref (ad a0)), (2, .int b0)]) hx hb dX6_takeFromReserves_33 hl (by decide) rfl (fun ls hl => ?_)
        refine lv_iload hx hb dX6_takeFromReserves_35 (lv_at hl 0 rfl) ?_
        refine lv_iload_n hx hb dX6_takeFromReserves_37 rfl (lv_at hl 5 rfl) ?_
        refine lv_icmp_ne (tgt := 60) hx hb dX6_takeFromReserves_38 (by decide) (fun c_38 => ?_) (fun c_38 => ?_)
        · -- if_icmpne taken
          refine lv_iinc (v := nI (k + 1)) (lv' := [(3, .int (nI (k + 1))), (5, .int 0), (4, .ref (ad (nx (nI k)))), (0, .ref (ad 66)), (1, .ref (ad a0)), (2, .int b0)]) hx hb dX6_takeFromReserves_60 hl (k := 2) rfl (nI_1 k) (by decide) rfl (fun ls hl => ?_)
          refine lv_goto (tgt := 2) hx hb dX6_takeFromReserves_63 (by decide) ?_
          have eF : (c_takeF a0 b0) k σ1 = σ1 := by simp only [c_takeF, if_neg c_5, if_neg c_25, if_neg c_38]
          exact IH H locs ls (by rw [eF]; exact hIσ1) (by rw [eF]; exact hP) hS (lv_sub hl [0, 3, 4, 5] rfl)
        · -- if_icmpne not taken
          refine lv_aload hx hb dX6_takeFromReserves_41 (lv_at hl 1 rfl) ?_
          refine lv_aload_n hx hb dX6_takeFromReserves_43 rfl (lv_at hl 4 rfl) ?_
          refine va_get (D := G) (ci := 2) (v := .int (σ1 5 a0)) (C := RX2) (T := TX2) (N := 13) hx hb hg hinX2 hown hK hP a0 (rl_Place ha0) rfl 7 (by decide) (hg _ qF_X6_91) (fun _ h9 => h9) rfl dX6_takeFromReserves_44 ?_
          refine vp_callSi (W.runV (As := [.int (σ1 5 a0)]) (rest := []) ⟨hx, hb, hml, hown, hg⟩ (m_Place_isReserveOf l G cA ad σ1 (nx (nI k)) (vp_lt (nI_in16 hk)) (σ1 5 a0)) (cwV 1 hg (gV qM_X6_322 qI_X2_isReserveOf qS_X2_isReserveOf qN_X2 kX2_isReserveOf) rfl rfl rfl (by decide +kernel) ⟨Nat.le_of_ble_eq_true rfl, Nat.le_of_ble_eq_true rfl⟩) (rr_pv hK hP (va_recv hK hP (ci := 2) (q0 := (nx (nI k))) rfl (rl_Place (vp_lt (nI_in16 hk))))) rfl rfl hl.1 rfl (lv_room (Nat.le_of_ble_eq_true rfl)) dX6_takeFromReserves_47 ⟨Nat.le_of_ble_eq_true rfl, Nat.le_of_ble_eq_true rfl⟩) (nm_e ?_)
          refine lv_if_eq (tgt := 60) hx hb dX6_takeFromReserves_50 (by decide) (fun c_50 => ?_) (fun c_50 => ?_)
          · -- ifeq taken
            refine lv_iinc (v := nI (k + 1)) (lv' := [(3, .int (nI (k + 1))), (5, .int 0), (4, .ref (ad (nx (nI k)))), (0, .ref (ad 66)), (1, .ref (ad a0)), (2, .int b0)]) hx hb dX6_takeFromReserves_60 hl (k := 2) rfl (nI_1 k) (by decide) rfl (fun ls hl => ?_)
            refine lv_goto (tgt := 2) hx hb dX6_takeFromReserves_63 (by decide) ?_
            have eF : (c_takeF a0 b0) k σ1 = σ1 := by simp only [c_takeF, if_neg c_5, if_neg c_25, if_pos c_38, if_pos c_50]
            exact IH H locs ls (by rw [eF]; exact hIσ1) (by rw [eF]; exact hP) hS (lv_sub hl [0, 3, 4, 5] rfl)
          · -- ifeq not taken
            refine lv_aload_n hx hb dX6_takeFromReserves_53 rfl (lv_at hl 3 rfl) ?_
            refine lv_aload hx hb dX6_takeFromReserves_54 (lv_at hl 1 rfl) ?_
            refine lv_aload_n hx hb dX6_takeFromReserves_56 rfl (lv_at hl 4 rfl) ?_
            refine va_callv (va_runV (As := [.ref (ad (nx (nI k))), .ref (ad a0)]) (rest := []) ⟨hx, hb, hml, hown, hg⟩ (m_ReplenishRules_planMove l G cA ad σ1 hJ (nx (nI k)) (vp_lt (nI_in16 hk)) a0 ha0 (inv_pc hIσ1).1) (cwV 2 hg (gV qM_X6_325 qI_X6_planMove qS_X6_planMove qN_X6 kX6_planMove) rfl rfl rfl (by decide +kernel) ⟨Nat.le_of_ble_eq_true rfl, Nat.le_of_ble_eq_true rfl⟩) (rr_pv hK hP (va_recv hK hP (ci := 6) (q0 := 66) rfl rl_main)) rfl rfl hl.1 rfl (lv_room (Nat.le_of_ble_eq_true rfl)) dX6_takeFromReserves_57 ⟨Nat.le_of_ble_eq_true rfl, Nat.le_of_ble_eq_true rfl⟩) hS (fun q _ h => h) (fun q h => h) (fun σ2 t H locs ht hvm eσ2 hB hz9 hk9 hS => ?_)
            have hP := hB.1
            rw [ht] at hP
            refine lv_iinc (v := nI (k + 1)) (lv' := [(3, .int (nI (k + 1))), (5, .int 0), (4, .ref (ad (nx (nI k)))), (0, .ref (ad 66)), (1, .ref (ad a0)), (2, .int b0)]) hx hb dX6_takeFromReserves_60 hl (k := 2) rfl (nI_1 k) (by decide) rfl (fun ls hl => ?_)
            refine lv_goto (tgt := 2) hx hb dX6_takeFromReserves_63 (by decide) ?_
            have eF : (c_takeF a0 b0) k σ1 = σ2 := by subst eσ2; simp only [c_takeF, if_neg c_5, if_neg c_25, if_pos c_38, if_neg c_50]
            exact IH H locs ls (by rw [eF]; exact (by rw [eσ2]; exact inv_planMove hIσ1 (nx16 hk) ha0)) (by rw [eF]; exact hP) hS (lv_sub hl [0, 3, 4, 5] rfl)
      · -- if_icmpne not taken
        refine lv_iconst (v := 1) hx hb dX6_takeFromReserves_28 (by decide) ?_
        refine lv_goto (tgt := 33) hx hb dX6_takeFromReserves_29 (by decide) ?_
        refine lv_istore (lv' := [(5, .int 1), (4, .ref (ad (nx (nI k)))), (3, .int (nI k)), (0, .ref (ad 66)), (1, .ref (ad a0)), (2, .int b0)]) hx hb dX6_takeFromReserves_33 hl (by decide) rfl (fun ls hl => ?_)
        refine lv_iload hx hb dX6_takeFromReserves_35 (lv_at hl 0 rfl) ?_
        refine lv_iload_n hx hb dX6_takeFromReserves_37 rfl (lv_at hl 5 rfl) ?_
        refine lv_icmp_ne (tgt := 60) hx hb dX6_takeFromReserves_38 (by decide) (fun c_38 => ?_) (fun c_38 => ?_)
        · -- if_icmpne taken
          refine lv_iinc (v := nI (k + 1)) (lv' := [(3, .int (nI (k + 1))), (5, .int 1), (4, .ref (ad (nx (nI k)))), (0, .ref (ad 66)), (1, .ref (ad a0)), (2, .int b0)]) hx hb dX6_takeFromReserves_60 hl (k := 2) rfl (nI_1 k) (by decide) rfl (fun ls hl => ?_)
          refine lv_goto (tgt := 2) hx hb dX6_takeFromReserves_63 (by decide) ?_
          have eF : (c_takeF a0 b0) k σ1 = σ1 := by simp only [c_takeF, if_neg c_5, if_pos c_25, if_neg c_38]
          exact IH H locs ls (by rw [eF]; exact hIσ1) (by rw [eF]; exact hP) hS (lv_sub hl [0, 3, 4, 5] rfl)
        · -- if_icmpne not taken
          refine lv_aload hx hb dX6_takeFromReserves_41 (lv_at hl 1 rfl) ?_
          refine lv_aload_n hx hb dX6_takeFromReserves_43 rfl (lv_at hl 4 rfl) ?_
          refine va_get (D := G) (ci := 2) (v := .int (σ1 5 a0)) (C := RX2) (T := TX2) (N := 13) hx hb hg hinX2 hown hK hP a0 (rl_Place ha0) rfl 7 (by decide) (hg _ qF_X6_91) (fun _ h9 => h9) rfl dX6_takeFromReserves_44 ?_
          refine vp_callSi (W.runV (As := [.int (σ1 5 a0)]) (rest := []) ⟨hx, hb, hml, hown, hg⟩ (m_Place_isReserveOf l G cA ad σ1 (nx (nI k)) (vp_lt (nI_in16 hk)) (σ1 5 a0)) (cwV 1 hg (gV qM_X6_322 qI_X2_isReserveOf qS_X2_isReserveOf qN_X2 kX2_isReserveOf) rfl rfl rfl (by decide +kernel) ⟨Nat.le_of_ble_eq_true rfl, Nat.le_of_ble_eq_true rfl⟩) (rr_pv hK hP (va_recv hK hP (ci := 2) (q0 := (nx (nI k))) rfl (rl_Place (vp_lt (nI_in16 hk))))) rfl rfl hl.1 rfl (lv_room (Nat.le_of_ble_eq_true rfl)) dX6_takeFromReserves_47 ⟨Nat.le_of_ble_eq_true rfl, Nat.le_of_ble_eq_true rfl⟩) (nm_e ?_)
          refine lv_if_eq (tgt := 60) hx hb dX6_takeFromReserves_50 (by decide) (fun c_50 => ?_) (fun c_50 => ?_)
          · -- ifeq taken
            refine lv_iinc (v := nI (k + 1)) (lv' := [(3, .int (nI (k + 1))), (5, .int 1), (4, .ref (ad (nx (nI k)))), (0, .ref (ad 66)), (1, .ref (ad a0)), (2, .int b0)]) hx hb dX6_takeFromReserves_60 hl (k := 2) rfl (nI_1 k) (by decide) rfl (fun ls hl => ?_)
            refine lv_goto (tgt := 2) hx hb dX6_takeFromReserves_63 (by decide) ?_
            have eF : (c_takeF a0 b0) k σ1 = σ1 := by simp only [c_takeF, if_neg c_5, if_pos c_25, if_pos c_38, if_pos c_50]
            exact IH H locs ls (by rw [eF]; exact hIσ1) (by rw [eF]; exact hP) hS (lv_sub hl [0, 3, 4, 5] rfl)
          · -- ifeq not taken
            refine lv_aload_n hx hb dX6_takeFromReserves_53 rfl (lv_at hl 3 rfl) ?_
            refine lv_aload hx hb dX6_takeFromReserves_54 (lv_at hl 1 rfl) ?_
            refine lv_aload_n hx hb dX6_takeFromReserves_56 rfl (lv_at hl 4 rfl) ?_
            refine va_callv (va_runV (As := [.ref (ad (nx (nI k))), .ref (ad a0)]) (rest := []) ⟨hx, hb, hml, hown, hg⟩ (m_ReplenishRules_planMove l G cA ad σ1 hJ (nx (nI k)) (vp_lt (nI_in16 hk)) a0 ha0 (inv_pc hIσ1).1) (cwV 2 hg (gV qM_X6_325 qI_X6_planMove qS_X6_planMove qN_X6 kX6_planMove) rfl rfl rfl (by decide +kernel) ⟨Nat.le_of_ble_eq_true rfl, Nat.le_of_ble_eq_true rfl⟩) (rr_pv hK hP (va_recv hK hP (ci := 6) (q0 := 66) rfl rl_main)) rfl rfl hl.1 rfl (lv_room (Nat.le_of_ble_eq_true rfl)) dX6_takeFromReserves_57 ⟨Nat.le_of_ble_eq_true rfl, Nat.le_of_ble_eq_true rfl⟩) hS (fun q _ h => h) (fun q h => h) (fun σ2 t H locs ht hvm eσ2 hB hz9 hk9 hS => ?_)
            have hP := hB.1
            rw [ht] at hP
            refine lv_iinc (v := nI (k + 1)) (lv' := [(3, .int (nI (k + 1))), (5, .int 1), (4, .ref (ad (nx (nI k)))), (0, .ref (ad 66)), (1, .ref (ad a0)), (2, .int b0)]) hx hb dX6_takeFromReserves_60 hl (k := 2) rfl (nI_1 k) (by decide) rfl (fun ls hl => ?_)
            refine lv_goto (tgt := 2) hx hb dX6_takeFromReserves_63 (by decide) ?_
            have eF : (c_takeF a0 b0) k σ1 = σ2 := by subst eσ2; simp only [c_takeF, if_neg c_5, if_pos c_25, if_pos c_38, if_neg c_50]
            exact IH H locs ls (by rw [eF]; exact (by rw [eσ2]; exact inv_planMove hIσ1 (nx16 hk) ha0)) (by rw [eF]; exact hP) hS (lv_sub hl [0, 3, 4, 5] rfl)
  · intro H locs hI9 hP hS ls hl
    have hl : lv_has ls 6 [(3, .int (nI 16)), (0, .ref (ad 66)), (1, .ref (ad a0)), (2, .int b0)] := hl
    obtain ⟨σ2, eσ2⟩ : ∃ z, z = foldN (c_takeF a0 b0) 16 0 σ := ⟨_, rfl⟩
    rw [← eσ2] at hP hI9
    refine lv_iload_n hx hb dX6_takeFromReserves_2 rfl (lv_at hl 0 rfl) ?_
    refine lv_bipush (v := 16) hx hb dX6_takeFromReserves_3 (by decide) ?_
    refine lv_icmp_ge (tgt := 66) hx hb dX6_takeFromReserves_5 (by decide) (fun c_5 => ?_) (fun c_5 => ?_)
    · -- if_icmpge taken
      exact W.vret hx hb hr (fun t ht hW => ⟨⟨σ2, rfl, by unfold c_takeFrom; exact eσ2, by rw [ht]; exact hP, va_K.moved hW.alike hK⟩, hS.F ht⟩) hS.2.2 dX6_takeFromReserves_66
    · -- if_icmpge not taken
      exact absurd (Int32.le_refl _) c_5

set_option maxHeartbeats 600000 in
set_option maxRecDepth 100000 in
theorem m_ReplenishRules_serve (l : Launch) (G : va_G) (cA : Nat → ClassId) (ad : Nat → Nat) (σ : St) (hJ : rr_inj ad) (hI : Inv σ) (a0 : Nat) (ha0 : a0 < 16) : Met l yX6_serve (wX6_serve :: wG) ({ frames := 5, cells := 0, slots := 0, locals := 112 }) (va_Pc [.ref (ad 66), .ref (ad a0)] (rrW G cA ad σ)) (va_Qv (fun σ' => σ' = c_serve σ a0) (rrW G cA ad) (rrA ad)) 0 0 (rrA ad) := by
  refine Met.ofW (cc := cX6_serve) (maxL := 2) (ret := none) (by decide) rfl ?_
  intro p e s m args below meth c s₁ B hml hv
  obtain ⟨rfl, hP, hK⟩ := hv
  have hx := B.exec
  have hb := B.bytes
  have hr := B.returns
  have hts := atoms_spec (ws := wX6_serve :: wG) B.pre
  have hg : ∀ w ∈ wG, w.before _ s = true := fun w h => hts w (List.mem_cons_of_mem _ h)
  have hown : s.vm.findClass RX6 = some m.cls := findClass_of_methodNamed B.named
  have hlocks := B.notSynchronized
  have hS : va_S (rrA ad) s.heap s.heap [] := va_S.rf
  have hl := lv_entry ([.ref (ad 66), .ref (ad a0)]) (n := 2) (Nat.le_of_ble_eq_true rfl)
  rw [lg_entry_eq]
  generalize (lg_sl ([.ref (ad 66), .ref (ad a0)]) ++ List.replicate (2 - (lg_sl ([.ref (ad 66), .ref (ad a0)])).length) Slot.unset).toArray = ls at hl ⊢
  have hl : lv_has ls 2 [(0, .ref (ad 66)), (1, .ref (ad a0))] := hl
  refine lv_aload_n hx hb dX6_serve_0 rfl (lv_at hl 0 rfl) ?_
  refine lv_aload_n hx hb dX6_serve_1 rfl (lv_at hl 1 rfl) ?_
  refine lv_iconst (v := 1) hx hb dX6_serve_2 (by decide) ?_
  refine va_callv (va_runV (As := [.ref (ad a0), .int 1]) (rest := []) ⟨hx, hb, hml, hown, hg⟩ (m_ReplenishRules_takeFromReserves l G cA ad σ hJ hI a0 ha0 1) (cwV 2 hg (gV qM_X6_318 qI_X6_takeFromReserves qS_X6_takeFromReserves qN_X6 kX6_takeFromReserves) rfl rfl rfl (by decide +kernel) ⟨Nat.le_of_ble_eq_true rfl, Nat.le_of_ble_eq_true rfl⟩) (rr_pv hK hP (va_recv hK hP (ci := 6) (q0 := 66) rfl rl_main)) rfl rfl hl.1 rfl (lv_room (Nat.le_of_ble_eq_true rfl)) dX6_serve_3 ⟨Nat.le_of_ble_eq_true rfl, Nat.le_of_ble_eq_true rfl⟩) hS (fun q _ h => h) (fun q h => h) (fun σ1 t H locs ht hvm eσ1 hB hz9 hk9 hS => ?_)
  have hP := hB.1
  rw [ht] at hP
  have hIσ1 : Inv σ1 := by rw [eσ1]; exact inv_takeFrom hI ha0 1
  refine lv_aload_n hx hb dX6_serve_6 rfl (lv_at hl 0 rfl) ?_
  refine lv_aload_n hx hb dX6_serve_7 rfl (lv_at hl 1 rfl) ?_
  refine lv_iconst (v := 0) hx hb dX6_serve_8 (by decide) ?_
  refine va_callv (va_runV (As := [.ref (ad a0), .int 0]) (rest := []) ⟨hx, hb, hml, hown, hg⟩ (m_ReplenishRules_takeFromReserves l G cA ad σ1 hJ hIσ1 a0 ha0 0) (cwV 2 hg (gV qM_X6_318 qI_X6_takeFromReserves qS_X6_takeFromReserves qN_X6 kX6_takeFromReserves) rfl rfl rfl (by decide +kernel) ⟨Nat.le_of_ble_eq_true rfl, Nat.le_of_ble_eq_true rfl⟩) (rr_pv hK hP (va_recv hK hP (ci := 6) (q0 := 66) rfl rl_main)) rfl rfl hl.1 rfl (lv_room (Nat.le_of_ble_eq_true rfl)) dX6_serve_9 ⟨Nat.le_of_ble_eq_true rfl, Nat.le_of_ble_eq_true rfl⟩) hS (fun q _ h => h) (fun q h => h) (fun σ2 t H locs ht hvm eσ2 hB hz9 hk9 hS => ?_)
  have hP := hB.1
  rw [ht] at hP
  have hIσ2 : Inv σ2 := by rw [eσ2]; exact inv_takeFrom hIσ1 ha0 0
  refine lv_aload_n hx hb dX6_serve_12 rfl (lv_at hl 1 rfl) ?_
  refine lv_iconst (v := 0) hx hb dX6_serve_13 (by decide) ?_
  refine pp_put (D := G) (ci := 2) (v := .int 0) (ty := .int) (C := RX2) (T := TX2) (N := 13) hx hb hg hinX2 tyX2 tyX2_ok nmX2 hown hK hP (rr_D hJ) hS a0 (rl_Place ha0) rfl 11 (by decide) (hg _ qF_X6_298) (fun _ h9 => h9) rfl (by decide +kernel) rfl rfl (Nat.le_of_ble_eq_true rfl) (rs_Place_wanted ha0) dX6_serve_14 (fun H locs hP hS => ?_)
  obtain ⟨σ3, eσ3⟩ : ∃ z, z = up σ2 9 a0 0 := ⟨_, rfl⟩
  rw [← eσ3] at hP
  exact W.vret hx hb hr (fun t ht hW => ⟨⟨σ3, rfl, by rw [eσ3, eσ2, eσ1]; unfold c_serve; rfl, by rw [ht]; exact hP, va_K.moved hW.alike hK⟩, hS.F ht⟩) hS.2.2 dX6_serve_17

set_option maxHeartbeats 600000 in
set_option maxRecDepth 100000 in
theorem m_ReplenishRules_prepare (l : Launch) (G : va_G) (cA : Nat → ClassId) (ad : Nat → Nat) (σ : St) (hJ : rr_inj ad) (hI : Inv σ) (a0 : Nat) (ha0 : a0 < 16) : Met l yX6_prepare (wX6_prepare :: wG) ({ frames := 5, cells := 0, slots := 0, locals := 119 }) (va_Pc [.ref (ad 66), .ref (ad a0)] (rrW G cA ad σ)) (va_Qv (fun σ' => σ' = c_prepare σ a0) (rrW G cA ad) (rrA ad)) 0 0 (rrA ad) := by
  refine Met.ofW (cc := cX6_prepare) (maxL := 2) (ret := none) (by decide) rfl ?_
  intro p e s m args below meth c s₁ B hml hv
  obtain ⟨rfl, hP, hK⟩ := hv
  have hx := B.exec
  have hb := B.bytes
  have hr := B.returns
  have hts := atoms_spec (ws := wX6_prepare :: wG) B.pre
  have hg : ∀ w ∈ wG, w.before _ s = true := fun w h => hts w (List.mem_cons_of_mem _ h)
  have hown : s.vm.findClass RX6 = some m.cls := findClass_of_methodNamed B.named
  have hlocks := B.notSynchronized
  have hS : va_S (rrA ad) s.heap s.heap [] := va_S.rf
  have hl := lv_entry ([.ref (ad 66), .ref (ad a0)]) (n := 2) (Nat.le_of_ble_eq_true rfl)
  rw [lg_entry_eq]
  generalize (lg_sl ([.ref (ad 66), .ref (ad a0)]) ++ List.replicate (2 - (lg_sl ([.ref (ad 66), .ref (ad a0)])).length) Slot.unset).toArray = ls at hl ⊢
  have hl : lv_has ls 2 [(0, .ref (ad 66)), (1, .ref (ad a0))] := hl
  refine lv_aload_n hx hb dX6_prepare_0 rfl (lv_at hl 1 rfl) ?_
  refine lv_iconst (v := 0) hx hb dX6_prepare_1 (by decide) ?_
  refine pp_put (D := G) (ci := 2) (v := .int 0) (ty := .int) (C := RX2) (T := TX2) (N := 13) hx hb hg hinX2 tyX2 tyX2_ok nmX2 hown hK hP (rr_D hJ) hS a0 (rl_Place ha0) rfl 10 (by decide) (hg _ qF_X6_295) (fun _ h9 => h9) rfl (by decide +kernel) rfl rfl (Nat.le_of_ble_eq_true rfl) (rs_Place_planned ha0) dX6_prepare_2 (fun H locs hP hS => ?_)
  obtain ⟨σ1, eσ1⟩ : ∃ z, z = up σ 8 a0 0 := ⟨_, rfl⟩
  rw [← eσ1] at hP
  have hIσ1 : Inv σ1 := by rw [eσ1]; exact inv_up (by decide) hI
  refine lv_aload_n hx hb dX6_prepare_5 rfl (lv_at hl 1 rfl) ?_
  refine lv_iconst (v := 0) hx hb dX6_prepare_6 (by decide) ?_
  refine pp_put (D := G) (ci := 2) (v := .int 0) (ty := .int) (C := RX2) (T := TX2) (N := 13) hx hb hg hinX2 tyX2 tyX2_ok nmX2 hown hK hP (rr_D hJ) hS a0 (rl_Place ha0) rfl 11 (by decide) (hg _ qF_X6_298) (fun _ h9 => h9) rfl (by decide +kernel) rfl rfl (Nat.le_of_ble_eq_true rfl) (rs_Place_wanted ha0) dX6_prepare_7 (fun H locs hP hS => ?_)
  obtain ⟨σ2, eσ2⟩ : ∃ z, z = up σ1 9 a0 0 := ⟨_, rfl⟩
  rw [← eσ2] at hP
  have hIσ2 : Inv σ2 := by rw [eσ2]; exact inv_up (by decide) hIσ1
  refine lv_aload_n hx hb dX6_prepare_10 rfl (lv_at hl 1 rfl) ?_
  refine vp_callSi (W.runV (As := []) (rest := []) ⟨hx, hb, hml, hown, hg⟩ (m_Place_isFace l G cA ad σ2 a0 ha0) (cwV 0 hg (gV qM_X6_249 qI_X2_isFace qS_X2_isFace qN_X2 kX2_isFace) rfl rfl rfl (by decide +kernel) ⟨Nat.le_of_ble_eq_true rfl, Nat.le_of_ble_eq_true rfl⟩) (rr_pv hK hP (va_recv hK hP (ci := 2) (q0 := a0) rfl (rl_Place ha0))) rfl rfl hl.1 rfl (lv_room (Nat.le_of_ble_eq_true rfl)) dX6_prepare_11 ⟨Nat.le_of_ble_eq_true rfl, Nat.le_of_ble_eq_true rfl⟩) (nm_e ?_)
  refine lv_if_eq (tgt := 40) hx hb dX6_prepare_14 (by decide) (fun c_14 => ?_) (fun c_14 => ?_)
  · -- ifeq taken
    exact W.vret hx hb hr (fun t ht hW => ⟨⟨σ2, rfl, by subst eσ1 eσ2; unfold c_prepare; exact (if_pos c_14).symm, by rw [ht]; exact hP, va_K.moved hW.alike hK⟩, hS.F ht⟩) hS.2.2 dX6_prepare_40
  · -- ifeq not taken
    refine lv_aload_n hx hb dX6_prepare_17 rfl (lv_at hl 1 rfl) ?_
    refine lv_aload_n hx hb dX6_prepare_18 rfl (lv_at hl 0 rfl) ?_
    refine lv_aload_n hx hb dX6_prepare_19 rfl (lv_at hl 1 rfl) ?_
    refine lv_aload_n hx hb dX6_prepare_20 rfl (lv_at hl 0 rfl) ?_
    refine lv_aload_n hx hb dX6_prepare_21 rfl (lv_at hl 1 rfl) ?_
    refine vp_callSi (W.runV (As := [.ref (ad a0)]) (rest := [.ref (ad a0), .ref (ad 66), .ref (ad a0)]) ⟨hx, hb, hml, hown, hg⟩ (m_ReplenishRules_thresholdOf l G cA ad σ2 hIσ2 a0 ha0) (cwV 1 hg (gV qM_X6_182 qI_X6_thresholdOf qS_X6_thresholdOf qN_X6 kX6_thresholdOf) rfl rfl rfl (by decide +kernel) ⟨Nat.le_of_ble_eq_true rfl, Nat.le_of_ble_eq_true rfl⟩) (rr_pv hK hP (va_recv hK hP (ci := 6) (q0 := 66) rfl rl_main)) rfl rfl hl.1 rfl (lv_room (Nat.le_of_ble_eq_true rfl)) dX6_prepare_22 ⟨Nat.le_of_ble_eq_true rfl, Nat.le_of_ble_eq_true rfl⟩) (nm_e ?_)
    refine vp_callSi (W.runV (As := [.ref (ad a0), .int (c_thresholdOf σ2 a0)]) (rest := [.ref (ad a0)]) ⟨hx, hb, hml, hown, hg⟩ (m_ReplenishRules_wantedBy l G cA ad σ2 a0 ha0 (c_thresholdOf σ2 a0) (inv_face hIσ2 ha0 c_14)) (cwV 2 hg (gV qM_X6_301 qI_X6_wantedBy qS_X6_wantedBy qN_X6 kX6_wantedBy) rfl rfl rfl (by decide +kernel) ⟨Nat.le_of_ble_eq_true rfl, Nat.le_of_ble_eq_true rfl⟩) (rr_pv hK hP (va_recv hK hP (ci := 6) (q0 := 66) rfl rl_main)) rfl rfl hl.1 rfl (lv_room (Nat.le_of_ble_eq_true rfl)) dX6_prepare_25 ⟨Nat.le_of_ble_eq_true rfl, Nat.le_of_ble_eq_true rfl⟩) (nm_e ?_)
    refine pp_put (D := G) (ci := 2) (v := .int (c_wantedBy σ2 a0 (c_thresholdOf σ2 a0))) (ty := .int) (C := RX2) (T := TX2) (N := 13) hx hb hg hinX2 tyX2 tyX2_ok nmX2 hown hK hP (rr_D hJ) hS a0 (rl_Place ha0) rfl 11 (by decide) (hg _ qF_X6_298) (fun _ h9 => h9) rfl (by decide +kernel) rfl rfl (Nat.le_of_ble_eq_true rfl) (rs_Place_wanted ha0) dX6_prepare_28 (fun H locs hP hS => ?_)
    obtain ⟨σ3, eσ3⟩ : ∃ z, z = up σ2 9 a0 (c_wantedBy σ2 a0 (c_thresholdOf σ2 a0)) := ⟨_, rfl⟩
    rw [← eσ3] at hP
    have hIσ3 : Inv σ3 := by rw [eσ3]; exact inv_up (by decide) hIσ2
    refine lv_aload_n hx hb dX6_prepare_31 rfl (lv_at hl 1 rfl) ?_
    refine lv_aload_n hx hb dX6_prepare_32 rfl (lv_at hl 0 rfl) ?_
    refine lv_aload_n hx hb dX6_prepare_33 rfl (lv_at hl 1 rfl) ?_
    refine vp_callSi (W.runV (As := [.ref (ad a0)]) (rest := [.ref (ad a0)]) ⟨hx, hb, hml, hown, hg⟩ (m_ReplenishRules_needTimeOf l G cA ad σ3 hIσ3 a0 ha0) (cwV 1 hg (gV qM_X6_305 qI_X6_needTimeOf qS_X6_needTimeOf qN_X6 kX6_needTimeOf) rfl rfl rfl (by decide +kernel) ⟨Nat.le_of_ble_eq_true rfl, Nat.le_of_ble_eq_true rfl⟩) (rr_pv hK hP (va_recv hK hP (ci := 6) (q0 := 66) rfl rl_main)) rfl rfl hl.1 rfl (lv_room (Nat.le_of_ble_eq_true rfl)) dX6_prepare_34 ⟨Nat.le_of_ble_eq_true rfl, Nat.le_of_ble_eq_true rfl⟩) (nm_e ?_)
    refine pp_put (D := G) (ci := 2) (v := .int (c_needTimeOf σ3 a0)) (ty := .int) (C := RX2) (T := TX2) (N := 13) hx hb hg hinX2 tyX2 tyX2_ok nmX2 hown hK hP (rr_D hJ) hS a0 (rl_Place ha0) rfl 12 (by decide) (hg _ qF_X6_308) (fun _ h9 => h9) rfl (by decide +kernel) rfl rfl (Nat.le_of_ble_eq_true rfl) (rs_Place_needTime ha0) dX6_prepare_37 (fun H locs hP hS => ?_)
    obtain ⟨σ4, eσ4⟩ : ∃ z, z = up σ3 10 a0 (c_needTimeOf σ3 a0) := ⟨_, rfl⟩
    rw [← eσ4] at hP
    have hIσ4 : Inv σ4 := by rw [eσ4]; exact inv_up (by decide) hIσ3
    exact W.vret hx hb hr (fun t ht hW => ⟨⟨σ4, rfl, by subst eσ1 eσ2 eσ3 eσ4; unfold c_prepare; exact (if_neg c_14).symm, by rw [ht]; exact hP, va_K.moved hW.alike hK⟩, hS.F ht⟩) hS.2.2 dX6_prepare_40
end
section
def rr_strs : List (String × Nat × String) := [("ReplenishRules", 241, "a number is outside its range"), ("ReplenishRules", 74, "the place has more, or its face's most is more"), ("ReplenishRules", 89, "the place holds another good"), ("ReplenishRules", 100, "the place is for another good"), ("ReplenishRules", 247, "the place has no room for so many"), ("ReplenishRules", 253, "the place is no face"), ("ReplenishRules", 117, "the face has not so many that are not held"), ("ReplenishRules", 131, "the place has not so many"), ("ReplenishRules", 150, "thirty waves are told"), ("ReplenishRules", 159, "the day is before today"), ("ReplenishRules", 171, "none of the days was open"), ("ReplenishRules", 192, "today is closed"), ("ReplenishRules$Plan", 33, "there is no such move"), ("ReplenishRules", 228, "the move was done"), ("ReplenishRules", 234, "the reserve has not so many free pieces of the good"), ("ReplenishRules", 236, "the face holds another good")]
/-! a method of the class that returns or throws: my own contract over the class's world, and its rows -/
def rr_bad : List Cond := [.castable "java/lang/IllegalArgumentException" "java/lang/IllegalArgumentException", .castable "java/lang/IllegalStateException" "java/lang/IllegalStateException", .castable "java/lang/UnsupportedOperationException" "java/lang/UnsupportedOperationException", .castable "java/util/NoSuchElementException" "java/util/NoSuchElementException", .castable "java/lang/ArithmeticException" "java/lang/ArithmeticException", .declares ⟨"java/lang/RuntimeException", "<init>", "(Ljava/lang/String;)V"⟩, .declares ⟨"java/lang/Exception", "<init>", "(Ljava/lang/String;)V"⟩, .declares ⟨"java/lang/Throwable", "<init>", "(Ljava/lang/String;)V"⟩]
/-- a static of a class of the JDK's: where it lies, and that it holds null or a reference -/
def rr_st (C n d : String) (A : Nat → Prop) (U : State) (H : Heap) : Prop := ∃ (c : ClassId) (k : Class) (i : Nat) (f : Field) (a : Nat) (cell : Cell) (v : Value), U.vm.findClass C = some c ∧ U.fieldFound? C n d = some (c, k, i, f) ∧ f.isStatic = true ∧ k.init = .initialized ∧ k.statics = some a ∧ H[a]? = some cell ∧ cell.vm.isStatics = true ∧ cell.cls = c ∧ cell.slots[f.slot]? = some v ∧ v.isRef = true ∧ k.staticTypes[f.slot]? = some f.type ∧ ¬ A a
theorem rr_st.moved {C n d : String} {A : Nat → Prop} {u U : State} {H : Heap} (hvm : u.vm.Alike U.vm) (h : rr_st C n d A u H) : rr_st C n d A U H := by
  obtain ⟨c, k, i, f, a, cell, v, h1, h2, h3, h4, h5, h6⟩ := h
  obtain ⟨k', hi', he⟩ := State.fieldFound?_setVm hvm h2
  exact ⟨c, k', i, f, a, cell, v, by rw [hvm.findClass]; exact h1, hi', h3, by rw [he]; exact h4, by rw [he]; exact h5, by rw [he]; exact h6⟩
theorem rr_st.kept {C n d : String} {A : Nat → Prop} {U : State} {H H1 : Heap} (h : rr_st C n d A U H) (hq : ∀ a : Nat, a < H.size → ¬ A a → H1[a]? = H[a]?) : rr_st C n d A U H1 := by
  obtain ⟨c, k, i, f, a, cell, v, h1, h2, h3, h4, h5, h6, h7, h8, h9, h10, h11, h12⟩ := h
  exact ⟨c, k, i, f, a, cell, v, h1, h2, h3, h4, h5, by rw [hq a (Array.getElem?_eq_some_iff.mp h6).1 h12]; exact h6, h7, h8, h9, h10, h11, h12⟩
def rr_T (A : Nat → Prop) (U : State) (H : Heap) : Prop := rr_st Bundle.tN "UNASSIGNED_STACK" Bundle.steD A U H ∧ rr_st Bundle.tN "SUPPRESSED_SENTINEL" Bundle.listD A U H ∧ (∀ w ∈ rr_bad, va_Nw w U) ∧ ∀ q ∈ rr_strs, ∃ sa : Nat, vk_R q.1 q.2.1 q.2.2 sa U
theorem rr_bad_warm {s U : State} (hW : s.WarmedH U.vm) {w : Cond} (hw : w ∈ rr_bad) (h : va_Nw w s) : va_Nw w U := by
  simp only [rr_bad, List.mem_cons, List.not_mem_nil, or_false] at hw
  rcases hw with rfl | rfl | rfl | rfl | rfl | rfl | rfl | rfl
  · exact va_Nw.warmC hW h
  · exact va_Nw.warmC hW h
  · exact va_Nw.warmC hW h
  · exact va_Nw.warmC hW h
  · exact va_Nw.warmC hW h
  · exact va_Nw.warmD hW h
  · exact va_Nw.warmD hW h
  · exact va_Nw.warmD hW h
theorem rr_bad_tab : ∀ w ∈ rr_bad, w.onTables = true := by decide +kernel
theorem rr_T.kept {A : Nat → Prop} {U : State} {H H1 : Heap} {locs : List Loc} (h : rr_T A U H) (hS : va_S A H H1 locs) : rr_T A U H1 := ⟨h.1.kept hS.2.1, h.2.1.kept hS.2.1, h.2.2⟩
theorem rr_T.warm {A : Nat → Prop} {s U : State} {H : Heap} (hW : s.WarmedH U.vm) (h : rr_T A s H) : rr_T A U H := ⟨h.1.moved hW.alike, h.2.1.moved hW.alike, fun w hw => rr_bad_warm hW hw (h.2.2.1 w hw), fun q hq => (h.2.2.2 q hq).imp fun _ z => z.warm hW⟩
theorem rr_T.same {A : Nat → Prop} {s U : State} {H : Heap} (hv : s.vm = U.vm) (h : rr_T A s H) : rr_T A U H := ⟨h.1.moved (by rw [← hv]; exact Vm.Alike.refl _), h.2.1.moved (by rw [← hv]; exact Vm.Alike.refl _), fun w hw => va_Nw.same (rr_bad_tab w hw) hv (h.2.2.1 w hw), fun q hq => (h.2.2.2 q hq).imp fun _ z => z.same hv.symm⟩
def rrX (G : va_G) (cA : Nat → ClassId) (ad : Nat → Nat) (σ : St) (U : State) : Prop := va_P G vwCl (rrL cA ad σ) U.heap ∧ va_K G vwCl (rrTy cA) U ∧ rr_T (rrA ad) U U.heap
theorem rr_blx {G : va_G} {cA : Nat → ClassId} {ad : Nat → Nat} {σ : St} {av : List Value} : FrameBlind (va_Pc av (rrX G cA ad σ)) := fun a U g mk q => ⟨q.1, q.2.1, va_K.moved (u := U) (U := U.calling g mk a) (Vm.Alike.refl U.vm) q.2.2.1, rr_T.same (s := U) (U := U.calling g mk a) rfl q.2.2.2⟩
/-- the class's cells are objects and arrays, no statics -/
theorem rr_nst {G : va_G} {cA : Nat → ClassId} {ad : Nat → Nat} {σ : St} {H : Heap} (hP : va_P G vwCl (rrL cA ad σ) H) {q : Nat} (hq : rrA ad q) {cell : Cell} (hc : H[q]? = some cell) : cell.vm.isStatics = false := by
  obtain ⟨k, hk, rfl⟩ := hq
  have h := hP k _ (rr_look hk)
  unfold va_at at h
  split at h
  · rename_i x _
    rw [hc] at h
    cases h
    unfold vp_cell
    split <;> rfl
  · obtain ⟨r, -, cl, h2, h3⟩ := h
    rw [hc] at h2
    cases h2
    rw [h3.2.1]
    rfl
def cx_Q (fr : Nat → Prop) (G : va_G) (cA : Nat → ClassId) (ad : Nat → Nat) (σ : St) (K : Nat) (Ret : Option Value → St → Prop) (mc ms : Nat) : Array Value → State → Outcome → State → Prop := fun _ st o t =>
  (∃ L, st.WarmedH t.vm ∧ st.sameButNew ({ t with vm := st.vm } : State) L mc ms ∧ ∀ z ∈ L, fr z.base) ∧ va_F fr st t ∧
  ((K = 0 ∧ ∃ (v : Option Value) (τ : St), o = .returned v ∧ Ret v τ ∧ rrW G cA ad τ t) ∨ (¬ K = 0 ∧ ∃ (q : Addr) (ce : Cell), o = .threw q ∧ t.heap[q]? = some ce ∧ ce.vm = .none ∧ st.vm.findClass (exN K) = some ce.cls ∧ rrW G cA ad σ t))
def cx_Met (fr : Nat → Prop) (l : Launch) (y : MethodName) (cw : Cond) (rm : Room) (av : List Value) (G : va_G) (cA : Nat → ClassId) (ad : Nat → Nat) (σ : St) (K : Nat) (Ret : Option Value → St → Prop) (mc ms : Nat) : Prop :=
  MetFree l y (headSpec (cw :: wG) rm) (va_Pc av (rrX G cA ad σ)) (fun _ _ _ _ _ => True) (cx_Q fr G cA ad σ K Ret mc ms)
def cx_E (fr : Nat → Prop) (below : List Frame) (G : va_G) (cA : Nat → ClassId) (ad : Nat → Nat) (σ : St) (K : Nat) (Ret : Option Value → St → Prop) (a : Array Value) (s : State) (mc ms : Nat) : State → Prop := fun t =>
  ∃ o, t.status = .running ∧ Ended t below o ∧ cx_Q fr G cA ad σ K Ret mc ms a s o t
def cx_R (fr : Nat → Prop) (G : va_G) (cA : Nat → ClassId) (ad : Nat → Nat) (Ret : Option Value → St → Prop) : Array Value → State → Outcome → State → Prop := fun _ st o t => (∃ (v : Option Value) (τ : St), o = .returned v ∧ Ret v τ ∧ rrW G cA ad τ t) ∧ va_F fr st t
section
variable {p : Program} {l : Launch} {e : Env} {R : Room} {s : State} {m : MethodId} {args : Array Value} {below : List Frame} {meth : Method} {c : Code} {H : Heap} {locs : List Loc} {cells slots : Nat}
variable {G : va_G} {cA : Nat → ClassId} {ad : Nat → Nat} {σ : St} {K : Nat} {Ret : Option Value → St → Prop} {mc ms : Nat} {fr : Nat → Prop}
theorem cx_ofW {y : MethodName} {cc : ByteArray} {maxL : Nat} {ret : Option FieldType} {rm : Room} {av : List Value} (hy : plainName y.cls = true)
    (body : ∀ p e s m args below meth c s₁, BodyLoose p l y (headSpec (Cond.code y cc maxL ret :: wG) rm) cc maxL ret e s m args below meth c s₁ → c.maxLocals = maxL → (∀ x ∈ c.exceptionTable.toList, False) → va_Pc av (rrX G cA ad σ) args s →
      W p l e (headSpec (Cond.code y cc maxL ret :: wG) rm).room s m args below meth c s.heap [] 0 0 (cx_E fr below G cA ad σ K Ret args s mc ms) (entryFrame m args maxL)) : cx_Met fr l y (Cond.code y cc maxL ret) rm av G cA ad σ K Ret mc ms := by
  refine MetFree.of_bodyS (code := cc) (maxLocals := maxL) (ret := ret) hy ?_ ?_
  · intro args s m h hn
    obtain ⟨meth, c, h1, h2, h3, h4, h5, h6, -, -⟩ := Cond.code_spec hn (atoms_spec (ws := Cond.code y cc maxL ret :: wG) h _ List.mem_cons_self)
    exact ⟨meth, c, h1, h2, h3, h4, h5, h6⟩
  · intro p e s m args below meth c s₁ B hml hP _
    have hh0 : s₁.heap = s.heap := by rw [B.state]; rfl
    have hne := BodyLoose.noHandlers B (atoms_spec (ws := Cond.code y cc maxL ret :: wG) B.pre _ List.mem_cons_self)
    have hEx : ∀ x ∈ c.exceptionTable.toList, False := fun x hx => by
      rw [Array.isEmpty_iff.mp hne] at hx
      cases hx
    obtain ⟨t, a1, o, b1, b2, b3⟩ := body p e s m args below meth c s₁ B hml hEx hP s₁ hh0 (Stand.of_body B)
    exact ⟨t, o, a1, b1, b2, b3⟩
theorem cx_ret {g : JFrame} (hK0 : K = 0) (k : W p l e R s m args below meth c H locs cells slots (MQ below (cx_R fr G cA ad Ret) args s mc ms fr) g) : W p l e R s m args below meth c H locs cells slots (cx_E fr below G cA ad σ K Ret args s mc ms) g := by
  intro T hT X
  obtain ⟨t, a1, o, b1, b2, ⟨b3, b4⟩, L, ⟨-, hW, hsm⟩, hL⟩ := k T hT X
  exact ⟨t, a1, o, b1, b2, ⟨L, hW, hsm, hL⟩, b4, Or.inl ⟨hK0, b3⟩⟩
/-- the frame g with q thrown over it leaves the method -/
theorem cx_out {T : State} (X : Stand p l e R s m args below meth c T locs cells slots) {g : JFrame} (hg : g.method = m) (h1 : g.locked = none) (h2 : g.entered = []) (hEx : ∀ x ∈ c.exceptionTable.toList, False) (hlocks : meth.locks = false) {q : Addr} {ce : Cell} (hce : T.heap[q]? = some ce) (hcv : ce.vm = .none) (hcl : s.vm.findClass (exN K) = some ce.cls) (hKn : ¬ K = 0) (hP : va_P G vwCl (rrL cA ad σ) T.heap) (hK : va_K G vwCl (rrTy cA) s) (hS : va_S fr s.heap T.heap locs) (hc : cells ≤ mc) (hs : slots ≤ ms) :
    ∃ t, Steps p.tables e below ((T.setTop g).pushFrame (.throwing q)) t ∧ cx_E fr below G cA ad σ K Ret args s mc ms t := by
  obtain ⟨st1, hrun, hend, hW, hsm⟩ := X.leaveThrown q (g := g) hg h1 h2 (fun x hx => (hEx x hx).elim) hlocks
  exact ⟨_, st1, .threw q, hrun, hend, ⟨locs, hW, hsm.mono hc hs, hS.2.2⟩, ⟨hS.1, hS.2.1⟩, Or.inr ⟨hKn, q, ce, rfl, hce, hcv, hcl, hP, va_K.moved hW.alike hK⟩⟩
/-- a call comes back, or throws -/
theorem cx_go {T : State} (X : Stand p l e R s m args below meth c T locs cells slots) {y : MethodName} {bytes : ByteArray} {maxL : Nat} {ret : Option FieldType} {rm : Room} {av : List Value} {K' : Nat} {Ret' : Option Value → St → Prop} {mc' ms' : Nat} (hM : cx_Met (fun _ => False) l y (Cond.code y bytes maxL ret) rm av G cA ad σ K' Ret' mc' ms') (hrc : rm.cells = mc') (hrs : rm.slots = ms') (hfr : rm.frames + 1 ≤ R.frames) (hlo : 8 + (maxL + 11) + rm.locals ≤ R.locals)
    (hws : ∀ w ∈ Cond.code y bytes maxL ret :: wG, ∀ (a' : Array Value) (U : State), s.WarmedH U.vm → w.before a' U = true) (hini : (Cond.initialized y.cls).before args s = true)
    {g : JFrame} (hg : g.method = m) (hsize : g.locals.size = c.maxLocals) {ig : Instr} (hdg : decode c.code g.pc = .ok (ig, 3)) (hW : 2 * g.monitorRoom + (g.stack.map fun v => v.category).sum ≤ 8) {mk : MethodId} (hn : T.methodNamed? y = some mk) (hcells : cells + mc' ≤ R.cells) (hslots : slots + ms' ≤ R.slots) (hp : va_Pc av (rrX G cA ad σ) av.toArray T) :
    (K' = 0 ∧ ∃ (v : Option Value) (τ : St) (T' : State), Stand p l e R s m args below meth c T' locs (cells + mc') (slots + ms') ∧ Ret' v τ ∧ va_P G vwCl (rrL cA ad τ) T'.heap ∧ T.heap.size ≤ T'.heap.size ∧ (∀ q : Nat, q < T.heap.size → T'.heap[q]? = T.heap[q]?) ∧ Steps p.tables e below (doInvoke e (T.setTop g) [] mk av.toArray).1 (T'.setTop { g with pc := g.pc + 3, stack := v.toList ++ g.stack })) ∨
    (¬ K' = 0 ∧ ∃ (q : Addr) (ce : Cell) (T' : State), Stand p l e R s m args below meth c T' locs (cells + mc') (slots + ms') ∧ T'.heap[q]? = some ce ∧ ce.vm = .none ∧ s.vm.findClass (exN K') = some ce.cls ∧ va_P G vwCl (rrL cA ad σ) T'.heap ∧ T.heap.size ≤ T'.heap.size ∧ (∀ q : Nat, q < T.heap.size → T'.heap[q]? = T.heap[q]?) ∧ Steps p.tables e below (doInvoke e (T.setTop g) [] mk av.toArray).1 ((T'.setTop g).pushFrame (.throwing q))) := by
  have hin9 : (Cond.initialized y.cls).before av.toArray T = true := word_at X.warmed (Or.inl (by first | rfl | simp [Cond.onTables, Cond.keeps, Cond.steady])) hini
  obtain ⟨methY, cY, hmY, hcY, -, hlY, -, -, -, -⟩ := Cond.code_spec hn (hws _ List.mem_cons_self av.toArray T X.warmed)
  obtain ⟨kY, hkY, -⟩ := className_of_methodNamed hn
  have hinitY : kY.init = .initialized := Cond.initialized_spec (findClass_of_methodNamed hn) hkY hin9
  have h : At T g.method c below := by rw [hg]; exact X.here
  have happ : (headSpec (Cond.code y bytes maxL ret :: wG) rm).appliesLoose y e.platform (T.calling g mk av.toArray) = true :=
    Spec.appliesLoose_calling (g := g) h hdg hn hkY hinitY
      (X.room_calling (g := g) (R' := rm) hsize hmY hcY hfr (by rw [hlY]; omega) (by rw [hrc]; exact hcells) (by rw [hrs]; exact hslots)) (atoms_intro fun w hw => hws w hw _ _ X.warmed)
  obtain ⟨mid, hmid⟩ := h.above
  have hfr9 : (T.setTop g).frames = (.java g :: mid) ++ below := by rw [State.frames_setTop' g h.top, hmid]; rfl
  obtain ⟨o, s₂, hsteps, -, hend, ⟨⟨L, hW2, hsm, hL⟩, hF, hq⟩⟩ := Steps.callFree hM p X.admits X.cas X.clock (acts := []) hfr9 happ (rr_blx _ _ g mk hp) trivial
  rw [State.frames_setTop' g h.top, X.tail] at hend
  obtain rfl : L = [] := by
    cases L with
    | nil => rfl
    | cons z _ => exact (hL z List.mem_cons_self).elim
  rcases hq with ⟨hk, v, τ, rfl, hr, hw⟩ | ⟨hk, q, ce, rfl, hce, hcv, hcl, hw⟩
  · obtain ⟨T', X', -, -, rfl⟩ := X.outOf hg hdg (mk := mk) (a := av.toArray) hend hW2 hsm
    rw [List.append_nil] at X'
    exact Or.inl ⟨hk, v, τ, T', X', hr, hw.1, hF.1, fun q hq => hF.2 q hq id, hsteps⟩
  · obtain ⟨T', X', -, -, rfl⟩ := X.outOfThrown hg (mk := mk) (a := av.toArray) hend hW2 hsm
    rw [List.append_nil] at X'
    have hh : ((T'.setTop g).pushFrame (.throwing q)).heap = T'.heap := Stand.throwing_heap T' g q
    rw [hh] at hce
    have hw1 := hw.1
    rw [hh] at hw1
    have hF1 := hF.1
    have hF2 := hF.2
    rw [hh] at hF1 hF2
    have hcl' : s.vm.findClass (exN K') = some ce.cls := by
      have : T.vm.findClass (exN K') = some ce.cls := hcl
      rwa [X.warmed.alike.findClass] at this
    exact Or.inr ⟨hk, q, ce, T', X', hce, hcv, hcl', hw1, hF1, fun q hq => hF2 q hq id, hsteps⟩
theorem cx_keep {H1 : Heap} (hS : va_S fr s.heap H locs) (h1 : H.size ≤ H1.size) (h2 : ∀ q : Nat, q < H.size → H1[q]? = H[q]?) : va_S fr s.heap H1 locs :=
  ⟨Nat.le_trans hS.1 h1, fun q hq hn => by rw [h2 q (Nat.lt_of_lt_of_le hq hS.1)]; exact hS.2.1 q hq hn, hS.2.2⟩
theorem cx_wide {A B : Nat → Prop} {H0 H1 : Heap} (h : ∀ q, A q → B q) (hS : va_S A H0 H1 locs) : va_S B H0 H1 locs :=
  ⟨hS.1, fun q hq hn => hS.2.1 q hq fun z => hn (h q z), fun z hz => h _ (hS.2.2 z hz)⟩
theorem cx_callV {cc bytes : ByteArray} {nL maxL index n pc : Nat} {own C : String} {y : MethodName} {ret : Option FieldType} {rm : Room} {K' : Nat} {Ret' : Option Value → St → Prop} {mc' ms' b : Nat} {As rest st0 : List Value} {ls : Array Slot}
    (S : CallFix p m c cc nL s args wG own) (hM : cx_Met (fun _ => False) l y (Cond.code y bytes maxL ret) rm (.ref b :: As) G cA ad σ K' Ret' mc' ms') (cw : CallW R s args own C index y bytes maxL ret (Cond.code y bytes maxL ret :: wG) rm mc' ms' n) (hK : va_K G vwCl (rrTy cA) s) (hP : va_P G vwCl (rrL cA ad σ) H) (hT : rr_T (rrA ad) s s.heap) (hfq : ∀ q, fr q → rrA ad q) (hS : va_S fr s.heap H locs)
    (hrv : ∃ cell : Cell, H[b]? = some cell ∧ cell.vm.isStatics = false ∧ s.vm.findClass C = some cell.cls) (hn : As.length = n) (hsize : ls.size = nL) (hstack : st0 = As.reverse ++ .ref b :: rest) (hW : 2 * (F0 m pc ls st0).monitorRoom + (rest.map fun v => v.category).sum ≤ 8) (hdg : decode cc pc = .ok (.invokevirtual index, 3)) (hf : cells + mc' ≤ R.cells ∧ slots + ms' ≤ R.slots)
    (hEx : ∀ x ∈ c.exceptionTable.toList, False) (hlocks : meth.locks = false) (hc : cells + mc' ≤ mc) (hs : slots + ms' ≤ ms) (hKK : ¬ K' = 0 → K = K')
    (kk : K' = 0 → ∀ (v : Option Value) (τ : St) (H1 : Heap), Ret' v τ → va_P G vwCl (rrL cA ad τ) H1 → va_S fr s.heap H1 locs → (∀ q : Nat, q < H.size → H1[q]? = H[q]?) → W p l e R s m args below meth c H1 locs (cells + mc') (slots + ms') (cx_E fr below G cA ad σ K Ret args s mc ms) (F0 m (pc + 3) ls (v.toList ++ rest))) :
    W p l e R s m args below meth c H locs cells slots (cx_E fr below G cA ad σ K Ret args s mc ms) (F0 m pc ls st0) := by
  obtain ⟨⟨hrc, hrs, hfr, hlo, hws, -, hcode, hini, hy, hlen, hl⟩, hin, hse⟩ := cw
  obtain ⟨hx, hb, hml, ho, -⟩ := S
  obtain ⟨cellB, hcB, hoB, hclB⟩ := hrv
  subst hstack
  intro T hT' X
  obtain ⟨mk, methM, hnamed, hmethM, hstM, habM⟩ := Cond.instanceMethod_spec hin
  obtain ⟨methM', cM, hmethM', -, -, -, -, -, -, hsigM⟩ := Cond.code_spec hnamed hcode
  cases hmethM.symm.trans hmethM'
  obtain ⟨c2, r2, m2, q1, q2, q3, q4, kP, hkP, hkPi⟩ := Cond.selects_spec hse
  cases hclB.symm.trans q1
  cases (State.methodFound?_of_named hnamed hy).symm.trans q2
  cases hnamed.symm.trans q3
  have hselP : selectMethod e.platform s.vm cellB.cls mk = .method mk := by rw [Launch.admits_selectMethod X.admits]; exact q4
  obtain ⟨vm₁, X₁, hstep₁⟩ := X.invokevirtual hx ho hl hnamed hmethM hstM hkP hkPi hy (a := b) (cell := cellB) (by rw [hT']; exact hcB)
    (fun z h => by rw [h] at hoB; cases hoB) hselP hmethM habM hkP hkPi (g := F0 m pc ls (As.reverse ++ .ref b :: rest)) rfl (argsL := As) (rest := rest) (hn.trans (hlen _ hsigM)) rfl (by rw [hb]; exact hdg)
  have hp : va_Pc (.ref b :: As) (rrX G cA ad σ) (Value.ref b :: As).toArray (T.setVm vm₁) := ⟨rfl, by rw [show (T.setVm vm₁).heap = H from hT']; exact hP, va_K.moved X₁.warmed.alike hK, by rw [show (T.setVm vm₁).heap = H from hT']; exact (hT.kept (cx_wide hfq hS)).warm X₁.warmed⟩
  rcases cx_go X₁ hM hrc hrs hfr hlo hws hini (g := F0 m pc ls rest) rfl (hsize.trans hml.symm) (by rw [hb]; exact hdg) hW (X₁.named hnamed) hf.1 hf.2 hp with ⟨hk, v, τ, T', X', hr, hP1, h1, h2, st⟩ | ⟨hk, q, ce, T', X', hce, hcv, hcl, hP1, h1, h2, st⟩
  · rw [show (T.setVm vm₁).heap = H from hT'] at h1 h2
    obtain ⟨t, a1, b1⟩ := kk hk v τ T'.heap hr hP1 (cx_keep hS h1 h2) h2 T' rfl X'
    exact ⟨t, hstep₁ _ fun acts => by rw [doInvoke_state]; exact st.trans a1, b1⟩
  · rw [show (T.setVm vm₁).heap = H from hT'] at h1 h2
    obtain ⟨t, a1, b1⟩ := cx_out (Ret := Ret) (mc := mc) (ms := ms) (σ := σ) (K := K) X' (g := F0 m pc ls rest) rfl rfl rfl hEx hlocks hce hcv (by rw [hKK hk]; exact hcl) (by rw [hKK hk]; exact hk) hP1 hK (cx_keep hS h1 h2) hc hs
    exact ⟨t, hstep₁ _ fun acts => by rw [doInvoke_state]; exact st.trans a1, b1⟩
theorem cx_callS {cc bytes : ByteArray} {nL maxL index n pc : Nat} {own : String} {y : MethodName} {ret : Option FieldType} {rm : Room} {K' : Nat} {Ret' : Option Value → St → Prop} {mc' ms' : Nat} {As rest st0 : List Value} {ls : Array Slot}
    (S : CallFix p m c cc nL s args wG own) (hM : cx_Met (fun _ => False) l y (Cond.code y bytes maxL ret) rm As G cA ad σ K' Ret' mc' ms') (cw : CallB R s args own index y bytes maxL ret (Cond.code y bytes maxL ret :: wG) rm mc' ms' n ∧ (Cond.static y).before args s = true) (hK : va_K G vwCl (rrTy cA) s) (hP : va_P G vwCl (rrL cA ad σ) H) (hT : rr_T (rrA ad) s s.heap) (hfq : ∀ q, fr q → rrA ad q) (hS : va_S fr s.heap H locs)
    (hn : As.length = n) (hsize : ls.size = nL) (hstack : st0 = As.reverse ++ rest) (hW : 2 * (F0 m pc ls st0).monitorRoom + (rest.map fun v => v.category).sum ≤ 8) (hdg : decode cc pc = .ok (.invokestatic index, 3)) (hf : cells + mc' ≤ R.cells ∧ slots + ms' ≤ R.slots)
    (hEx : ∀ x ∈ c.exceptionTable.toList, False) (hlocks : meth.locks = false) (hc : cells + mc' ≤ mc) (hs : slots + ms' ≤ ms) (hKK : ¬ K' = 0 → K = K')
    (kk : K' = 0 → ∀ (v : Option Value) (τ : St) (H1 : Heap), Ret' v τ → va_P G vwCl (rrL cA ad τ) H1 → va_S fr s.heap H1 locs → (∀ q : Nat, q < H.size → H1[q]? = H[q]?) → W p l e R s m args below meth c H1 locs (cells + mc') (slots + ms') (cx_E fr below G cA ad σ K Ret args s mc ms) (F0 m (pc + 3) ls (v.toList ++ rest))) :
    W p l e R s m args below meth c H locs cells slots (cx_E fr below G cA ad σ K Ret args s mc ms) (F0 m pc ls st0) := by
  obtain ⟨⟨hrc, hrs, hfr, hlo, hws, -, hcode, hini, hy, hlen, hl⟩, hstt⟩ := cw
  obtain ⟨hx, hb, hml, ho, -⟩ := S
  subst hstack
  intro T hT' X
  obtain ⟨mk, hnamed⟩ := Cond.code_named hcode
  obtain ⟨methM, cM, hmethM, -, -, -, -, -, -, hsigM⟩ := Cond.code_spec hnamed hcode
  have hstatic : methM.isStatic = true := Cond.static_spec hnamed hmethM hstt
  obtain ⟨kP, hkP, -⟩ := className_of_methodNamed hnamed
  have hinitP : kP.init = .initialized := Cond.initialized_spec (findClass_of_methodNamed hnamed) hkP hini
  obtain ⟨vm₁, X₁, hstep₁⟩ := X.invokestatic hx ho hl hnamed hmethM hstatic hkP hinitP hy (g := F0 m pc ls (As.reverse ++ rest)) rfl (argsL := As) (rest := rest) (hn.trans (hlen _ hsigM)) rfl (by rw [hb]; exact hdg)
  have hp : va_Pc As (rrX G cA ad σ) As.toArray (T.setVm vm₁) := ⟨rfl, by rw [show (T.setVm vm₁).heap = H from hT']; exact hP, va_K.moved X₁.warmed.alike hK, by rw [show (T.setVm vm₁).heap = H from hT']; exact (hT.kept (cx_wide hfq hS)).warm X₁.warmed⟩
  rcases cx_go X₁ hM hrc hrs hfr hlo hws hini (g := F0 m pc ls rest) rfl (hsize.trans hml.symm) (by rw [hb]; exact hdg) hW (X₁.named hnamed) hf.1 hf.2 hp with ⟨hk, v, τ, T', X', hr, hP1, h1, h2, st⟩ | ⟨hk, q, ce, T', X', hce, hcv, hcl, hP1, h1, h2, st⟩
  · rw [show (T.setVm vm₁).heap = H from hT'] at h1 h2
    obtain ⟨t, a1, b1⟩ := kk hk v τ T'.heap hr hP1 (cx_keep hS h1 h2) h2 T' rfl X'
    exact ⟨t, hstep₁ _ fun acts => by rw [doInvoke_state]; exact st.trans a1, b1⟩
  · rw [show (T.setVm vm₁).heap = H from hT'] at h1 h2
    obtain ⟨t, a1, b1⟩ := cx_out (Ret := Ret) (mc := mc) (ms := ms) (σ := σ) (K := K) X' (g := F0 m pc ls rest) rfl rfl rfl hEx hlocks hce hcv (by rw [hKK hk]; exact hcl) (by rw [hKK hk]; exact hk) hP1 hK (cx_keep hS h1 h2) hc hs
    exact ⟨t, hstep₁ _ fun acts => by rw [doInvoke_state]; exact st.trans a1, b1⟩
end
end
section
/-! a throw: the words that it needs, the row -/
theorem c_then_z {b : Nat} : c_then 0 b = b := rfl
def rr_hw : List Cond := [.isRef (.static Bundle.tN "UNASSIGNED_STACK" Bundle.steD), .isRef (.static Bundle.tN "SUPPRESSED_SENTINEL" Bundle.listD), .laysStatic Bundle.tN "UNASSIGNED_STACK" Bundle.steD, .laysStatic Bundle.tN "SUPPRESSED_SENTINEL" Bundle.listD]
theorem rr_st.ref {C n d : String} {A : Nat → Prop} {s : State} {args : Array Value} (h : rr_st C n d A s s.heap) : (Cond.isRef (.static C n d)).before args s = true := by
  obtain ⟨c, k, i, f, a, cell, v, h1, h2, h3, h4, h5, h6, h7, h8, h9, h10, h11, h12⟩ := h
  have e := Term.static_eval (args := args) (first := s) (o := none) (idx := []) h2 h3 h5 h6 h7 h9
  simp only [Cond.before, Cond.holds, Cond.value, e, Option.map_some]
  cases v <;> first | rfl | cases h10
theorem rr_st.lay {C n d : String} {A : Nat → Prop} {s : State} {args : Array Value} (h : rr_st C n d A s s.heap) : (Cond.laysStatic C n d).before args s = true := by
  obtain ⟨c, k, i, f, a, cell, v, h1, h2, h3, h4, h5, h6, h7, h8, h9, h10, h11, h12⟩ := h
  exact Cond.laysStatic_of h1 h2 h3 h5 h6 h7 h8 (Array.getElem?_eq_some_iff.mp h9).1 h11
def rr_nm : List String := ["java/lang/RuntimeException", "java/lang/Exception"]
theorem rr_nm_fit : ∀ n ∈ rr_nm, Bundle.fit n = true := by decide +kernel
theorem rr_at1 : ∀ w ∈ Bundle.ownAtoms RX6 243 "java/lang/IllegalArgumentException" rr_nm, (w ∈ lw_tbl ∧ goodWord w = true) ∨ w ∈ rr_bad ∨ w ∈ rr_hw := by decide +kernel
theorem rr_at2 : ∀ w ∈ Bundle.ownAtoms RX6 76 "java/lang/IllegalStateException" rr_nm, (w ∈ lw_tbl ∧ goodWord w = true) ∨ w ∈ rr_bad ∨ w ∈ rr_hw := by decide +kernel
theorem rr_at3 : ∀ w ∈ Bundle.ownAtoms RX6 152 "java/lang/UnsupportedOperationException" rr_nm, (w ∈ lw_tbl ∧ goodWord w = true) ∨ w ∈ rr_bad ∨ w ∈ rr_hw := by decide +kernel
theorem rr_at5 : ∀ w ∈ Bundle.ownAtoms RX6 173 "java/lang/ArithmeticException" rr_nm, (w ∈ lw_tbl ∧ goodWord w = true) ∨ w ∈ rr_bad ∨ w ∈ rr_hw := by decide +kernel
/-! NoSuchElementException passes its message on by the link 13: a throw of it -/
def nse : String := "java/util/NoSuchElementException"
def nseB : ByteArray := ⟨#[0x2a, 0x2b, 0xb7, 0x00, 0x0d, 0xb1]⟩
def nseW (own : String) (ic : Nat) : List Cond := Bundle.throwableAtoms ++ Bundle.throwableSAtoms ++ Bundle.passSAtoms nse "java/lang/RuntimeException" 13 nseB ++ Bundle.chainSAtoms "java/lang/RuntimeException" ["java/lang/Exception"] ++
  [.methodLink own ic (Bundle.initS nse), .instantiable nse 6, .selects nse Bundle.tFill0 Bundle.tFill0, .selects nse Bundle.tFill Bundle.tFill, .lays nse Bundle.tN "cause" "Ljava/lang/Throwable;", .lays nse Bundle.tN "stackTrace" Bundle.steD, .lays nse Bundle.tN "suppressedExceptions" Bundle.listD, .lays nse Bundle.tN "detailMessage" "Ljava/lang/String;",
   .isRef (.static Bundle.tN "UNASSIGNED_STACK" Bundle.steD), .isRef (.static Bundle.tN "SUPPRESSED_SENTINEL" Bundle.listD), .fieldLink Bundle.tN 198 Bundle.tN "backtrace" "Ljava/lang/Object;", .lays Bundle.tN Bundle.tN "backtrace" "Ljava/lang/Object;", .lays nse Bundle.tN "backtrace" "Ljava/lang/Object;"]
theorem rr_at4 : ∀ w ∈ nseW RX3 35, (w ∈ lw_tbl ∧ goodWord w = true) ∨ w ∈ rr_bad ∨ w ∈ rr_hw := by decide +kernel
theorem nseB_0 : decode nseB 0 = .ok (.aload_n 0, 1) := by decide +kernel
theorem nseB_1 : decode nseB 1 = .ok (.aload_n 1, 1) := by decide +kernel
theorem nseB_2 : decode nseB 2 = .ok (.invokespecial 13, 3) := by decide +kernel
theorem nseB_5 : decode nseB 5 = .ok (.return_, 1) := by decide +kernel
section
variable {p : Program} {l : Launch} {e : Env} {R : Room} {s : State} {m : MethodId} {args : Array Value} {below : List Frame} {meth : Method} {c : Code} {W : State} {locs : List Loc} {cells slots : Nat}
set_option maxHeartbeats 1000000 in
theorem nse_throw (X : Stand p l e R s m args below meth c W [] cells slots) (hexec : p.tables.exec = Jvm.exec) (htr : e.platform.stackTraces = false) {own : String} {ic : Nat} (hown : s.vm.findClass own = some m.cls) (h : ∀ a ∈ nseW own ic, a.before args s = true)
    {a : Addr} {cX : ClassId} {kX : Class} (hfX : s.vm.findClass nse = some cX) (hkX : s.vm.classes[cX]? = some kX) (hcell : W.heap[a]? = some (freshCell cX kX)) (hnew : s.heap.size ≤ a) {msg : Value} (hmsg : msg.isRef = true)
    {g : JFrame} (hg : g.method = m) (hsize : g.locals.size = c.maxLocals) (hlocked : g.locked = none) (hentered : g.entered = []) {rest : List Value} (hstack : g.stack = msg :: .ref a :: .ref a :: rest)
    (hd6 : decode c.code g.pc = .ok (.invokespecial ic, 3)) (hd9 : decode c.code (g.pc + 3) = .ok (.athrow, 1)) (hout : ∀ x ∈ c.exceptionTable.toList, covers x (g.pc + 3) = false)
    (hRf : 5 < R.frames) (hRl : 2 * g.monitorRoom + ((Value.ref a :: rest).map fun v => v.category).sum + 81 ≤ R.locals) (hlocks : meth.locks = false) :
    ∃ U : State, Steps p.tables e below (W.setTop g) U ∧ U.status = .running ∧ Ended U below (.threw a) ∧ s.WarmedH U.vm ∧ s.sameButNew ({ U with vm := s.vm } : State) [] cells slots ∧ ∃ ce : Cell, U.heap[a]? = some ce ∧ ce.vm = .none ∧ s.vm.findClass nse = some ce.cls := by
  have hpl : e.platform.magicAccessors = ({} : Platform).magicAccessors := by rw [X.admits.platform]
  have q : ∀ x, x ∈ nseW own ic → x.holds args s none s [] = true := fun x hx => h x hx
  obtain ⟨T, Z0, L, -, Y⟩ := ThrowableC.of_atoms (args := args) (by rw [X.admits.platform]) (by rw [X.admits.platform]) hpl (fun x hx => h x (by simp [nseW, hx]))
  obtain ⟨Z, M, LZ, LM, hnZ⟩ := Init0T.ofS_atoms (args := args) hpl L Y (fun x hx => h x (by simp [nseW, hx]))
  obtain ⟨P2, Ps, hlen, L2, hL, hP2m, hlink2, hlink⟩ := Bundle.chainS (args := args) hpl hnZ ["java/lang/Exception"] "java/lang/RuntimeException" (by decide +kernel) (by decide +kernel) (fun x hx => h x (by simp [nseW, hx]))
  obtain ⟨P1, L1, hP1m, hP1s⟩ := PassC.ofS_atoms (args := args) (s := s) hpl (X := nse) (Y := "java/lang/RuntimeException") (index := 13) (bytes := nseB) (by decide +kernel) (by decide +kernel) nseB_0 nseB_1 nseB_2 nseB_5 (fun x hx => h x (by simp [nseW, hx]))
  have hsup1 : P1.sup = P2.m := Option.some.inj (hP1s.symm.trans hP2m)
  have hf : s.vm.findClass nse = some P1.m.cls := findClass_of_methodNamed hP1m
  cases Option.some.inj (hfX.symm.trans hf)
  obtain ⟨c1, kX', hc1, hk, hord, -, -, -⟩ := Cond.instantiable_spec (q (.instantiable nse 6) (by simp [nseW]))
  cases Option.some.inj (hc1.symm.trans hf)
  cases Option.some.inj (hkX.symm.trans hk)
  have sel : ∀ {y : MethodName} {n : MethodId}, (y.cls ≠ "java/lang/invoke/MethodHandle" ∧ y.cls ≠ "java/lang/invoke/VarHandle") → s.methodNamed? y = some n → (Cond.selects nse y y).holds args s none s [] = true → selectMethod e.platform s.vm P1.m.cls n = .method n := by
    intro y n hy hn hs
    obtain ⟨c2, r2, m2, q1, q2, q3, q4, -⟩ := Cond.selects_spec hs
    cases Option.some.inj (q1.symm.trans hf)
    cases Option.some.inj (q2.symm.trans (State.methodFound?_of_named hn hy))
    cases Option.some.inj (q3.symm.trans hn)
    rw [Launch.admits_selectMethod X.admits]; exact q4
  obtain ⟨cellS0, hcS0, hiss⟩ := Y.statics
  obtain ⟨u0, hu0⟩ := Cond.staticRefV Y.unassigned L.unassignedStatic L.statics hcS0 hiss (q (.isRef (.static Bundle.tN "UNASSIGNED_STACK" Bundle.steD)) (by simp [nseW]))
  obtain ⟨sen, hsen⟩ := Cond.staticRefV Y.sentinel L.sentinelStatic L.statics hcS0 hiss (q (.isRef (.static Bundle.tN "SUPPRESSED_SENTINEL" Bundle.listD)) (by simp [nseW]))
  obtain ⟨ci198, i198, fB, hk198, hg198, ha198, hsB, -, hnB, htB, hffB⟩ := Cond.ownField (t := .object "java/lang/Object") Y.found L.cls (by decide +kernel) (q (.fieldLink Bundle.tN 198 Bundle.tN "backtrace" "Ljava/lang/Object;") (by simp [nseW])) (q (.lays Bundle.tN Bundle.tN "backtrace" "Ljava/lang/Object;") (by simp [nseW])) e.platform hpl
  obtain ⟨cellS, hcS', heS, -, hkeep⟩ := X.same.2.2.2.2.2 T.aS cellS0 hcS0
  have hcellS : W.heap[T.aS]? = some cellS := hcS'
  have hkn : cellS.vm ≠ .unknown := by
    rw [heS]; intro hu
    rw [show cellS0.vm = .unknown from hu] at hiss
    cases hiss
  have hne : T.aS ≠ a := Nat.ne_of_lt (Nat.lt_of_lt_of_le (Array.getElem?_eq_some_iff.mp hcS0).1 hnew)
  obtain ⟨iM, hffM⟩ := Y.msg
  obtain ⟨tyC, dC, hdC, hdnC⟩ := Cond.laysAt hf hk Y.cause (q (.lays nse Bundle.tN "cause" "Ljava/lang/Throwable;") (by simp [nseW]))
  obtain ⟨tyS, dS, hdS, hdnS⟩ := Cond.laysAt hf hk Y.stack (q (.lays nse Bundle.tN "stackTrace" Bundle.steD) (by simp [nseW]))
  obtain ⟨tyP, dP, hdP, hdnP⟩ := Cond.laysAt hf hk Y.supp (q (.lays nse Bundle.tN "suppressedExceptions" Bundle.listD) (by simp [nseW]))
  obtain ⟨tyM, dM, hdM, hdnM⟩ := Cond.laysAt hf hk hffM (q (.lays nse Bundle.tN "detailMessage" "Ljava/lang/String;") (by simp [nseW]))
  obtain ⟨tyB, dB, hdB, hdnB⟩ := Cond.laysAt hf hk hffB (q (.lays nse Bundle.tN "backtrace" "Ljava/lang/Object;") (by simp [nseW]))
  have bC := Cond.laysApart hdB hdC hdnB hdnC (by rw [hnB, Y.causeName]; decide)
  have bS := Cond.laysApart hdB hdS hdnB hdnS (by rw [hnB, Y.stackName]; decide)
  have bP := Cond.laysApart hdB hdP hdnB hdnP (by rw [hnB, Y.suppName]; decide)
  have hskip : SkipFacts T e.platform s (fun u => u) u0 ((preparedCellV T.toThrowableT (freshCell P1.m.cls kX) a u0 sen).withEntry W.cur) :=
    ⟨{ ci198 := ci198, i198 := i198, fBack := fB }, ⟨hk198, hg198, ha198, hsB⟩, by
      have := fresh_default (c := P1.m.cls) tyB
      rw [htB] at this
      simpa [preparedCellV, Cell.setSlot, Cell.withEntry, Array.getElem?_setIfInBounds, bC, bS, bP, bC.symm, bS.symm, bP.symm, defaultValue] using this, fun _ _ => rfl⟩
  obtain ⟨tm, methC, cdC, kC, vm₁, hnC, -, -, -, -, -, -, -, hW₁, st1⟩ := Steps.initColdS (tb := p.tables) (e := e) (below := below) (s := s) (U := W) X.here hexec X.warmed hpl hown (t := Bundle.initS nse) rfl rfl (by decide +kernel)
    (q (.methodLink own ic (Bundle.initS nse)) (by simp [nseW])) (h (.instanceMethod (Bundle.initS nse)) (by simp [nseW, Bundle.passSAtoms])) (bytes := nseB) (maxL := 2) (h (.code (Bundle.initS nse) nseB 2 none) (by simp [nseW, Bundle.passSAtoms]))
    (f := g) hg (a := a) (msg := msg) (rest := .ref a :: rest) hstack hd6
  cases Option.some.inj (hnC.symm.trans hP1m)
  have X₁ := X.noted hW₁
  obtain ⟨vm₂, X₂, st2⟩ := X₁.ctorMessageOffV hexec (g := { g with stack := .ref a :: rest }) hg hsize T L Z LZ M LM (P1 :: P2 :: Ps)
    (fun P hP => by rcases List.mem_cons.mp hP with rfl | hP; exact L1; rcases List.mem_cons.mp hP with rfl | hP; exact L2; exact hL P hP) ⟨hsup1, hlink2, hlink⟩ (u0 := u0) (sen := sen) (self := a) hmsg (cell := freshCell P1.m.cls kX) (cellS := cellS)
    hcell (fun _ => by simp) (by simp) rfl rfl (sel (by decide) Y.fill0 (q (.selects nse Bundle.tFill0 Bundle.tFill0) (by simp [nseW]))) (sel (by decide) Y.fill (q (.selects nse Bundle.tFill Bundle.tFill) (by simp [nseW]))) hcellS hne hkn (by rw [hkeep _ (fun hm => nomatch hm)]; exact hu0) (by rw [hkeep _ (fun hm => nomatch hm)]; exact hsen)
    (Takes.of_laid hk hord tyC (by rw [Y.causeType]; rfl)) (Takes.of_laid hk hord tyS (by rw [Y.stackType]; exact fits_refV_array _ u0)) (Takes.of_laid hk hord tyP (by rw [Y.suppType]; exact fits_refV_object _ sen))
    (Takes.of_laid hk hord tyM (by rw [Y.msgType]; exact fits_refV_object _ ⟨msg, hmsg⟩)) Y.objLocals hskip htr [] hd6
    (by simp only [List.length_cons, hlen, List.length_nil]; omega) (by simp only [List.length_cons, hlen, List.length_nil]; exact hRl)
  obtain ⟨hwalk, hrun, hended, hWU, hsame⟩ := X₂.athrowLeaves hexec (g := { g with stack := .ref a :: rest, pc := g.pc + 3 }) hg hlocked hentered hout (a := a) (rest := rest) rfl hd9
  have hU := heapAt_setCell_self (s := (W.setVm vm₁).setVm vm₂) (plainBareV T.toThrowableT (freshCell P1.m.cls kX) a u0 sen msg) (Array.getElem?_eq_some_iff.mp hcell).1
  refine ⟨_, st1 _ (fun acts => ?_), hrun, hended, hWU, hsame.weaken (fun y hy hlt' => ?_) (Nat.le_refl _) (Nat.le_refl _), _, hU, rfl, hf⟩
  · rw [doInvoke_state]
    exact st2 _ hwalk
  · exfalso
    rcases List.mem_append.mp hy with h1 | h1
    · cases h1
    · have hb : y.base = a := by
        simp only [List.mem_cons, List.not_mem_nil, or_false] at h1
        rcases h1 with rfl | rfl | rfl | rfl | rfl <;> rfl
      rw [hb] at hlt'
      exact Nat.not_lt.mpr hnew hlt'
end
theorem cx_words {L : List Cond} {A : Nat → Prop} {s : State} {args : Array Value} (hL : ∀ w ∈ L, (w ∈ lw_tbl ∧ goodWord w = true) ∨ w ∈ rr_bad ∨ w ∈ rr_hw) (hg : ∀ w ∈ wG, w.before args s = true) (hT : rr_T A s s.heap) : ∀ w ∈ L, w.before args s = true := by
  intro w hw
  rcases hL w hw with h | h | h
  · exact hg w (List.mem_filter.mpr h)
  · exact va_Nw.use (rr_bad_tab w h) (hT.2.2.1 w h)
  · simp only [rr_hw, List.mem_cons, List.not_mem_nil, or_false] at h
    rcases h with rfl | rfl | rfl | rfl
    · exact hT.1.ref
    · exact hT.2.1.ref
    · exact hT.1.lay
    · exact hT.2.1.lay
section
variable {p : Program} {l : Launch} {e : Env} {R : Room} {s : State} {m : MethodId} {args : Array Value} {below : List Frame} {meth : Method} {c : Code} {H : Heap} {locs : List Loc} {cells slots : Nat}
variable {G : va_G} {cA : Nat → ClassId} {ad : Nat → Nat} {σ : St} {K : Nat} {Ret : Option Value → St → Prop} {mc ms : Nat} {fr : Nat → Prop} {T0 : State}
/-- the end of a throw: the machine behind it -/
theorem cx_thrown {U : State} {a : Nat} {ce : Cell} (st : Steps p.tables e below (T0) U) (hrun : U.status = .running) (hend : Ended U below (.threw a)) (hW : s.WarmedH U.vm) (hsm : s.sameButNew ({ U with vm := s.vm } : State) [] cells slots) (hce : U.heap[a]? = some ce) (hcv : ce.vm = .none) (hcl : s.vm.findClass (exN K) = some ce.cls) (hP0 : va_P G vwCl (rrL cA ad σ) s.heap) (hK : va_K G vwCl (rrTy cA) s) (hKn : ¬ K = 0) (hc : cells ≤ mc) (hs : slots ≤ ms) :
    ∃ t, Steps p.tables e below T0 t ∧ cx_E fr below G cA ad σ K Ret args s mc ms t := by
  have hsz : s.heap.size ≤ U.heap.size := hsm.2.1
  have hfr : ∀ q : Nat, q < s.heap.size → U.heap[q]? = s.heap[q]? := by
    intro q hq
    obtain ⟨-, -, -, -, -, h6⟩ := hsm
    obtain ⟨c9, e1, e2, e3, e4⟩ := h6 q _ (Array.getElem?_eq_getElem hq)
    have hs9 : c9.slots = (s.heap[q]).slots := Array.ext_getElem? fun i => e4 i fun hm => nomatch hm
    have h9 : c9 = s.heap[q] := by
      rw [hs9] at e2
      exact e2
    have e5 : U.heap[q]? = some c9 := e1
    rw [e5, h9, Array.getElem?_eq_getElem hq]
  exact ⟨U, st, .threw a, hrun, hend, ⟨[], hW, hsm.mono hc hs, fun _ h => nomatch h⟩, ⟨hsz, fun q hq _ => hfr q hq⟩, Or.inr ⟨hKn, a, ce, rfl, hce, hcv, hcl, hP0.kept (fun k q hk => hfr _ (hP0 k q hk).lt), va_K.moved hW.alike hK⟩⟩
theorem cx_throw {cc : ByteArray} {pc : Nat} {ls : Array Slot} {rest : List Value} (hx : p.tables.exec = Jvm.exec) (hb : c.code = cc) (hl9 : l.stackTraces = false) {own cls text : String} {names : List String} {ik is ic sa : Nat}
    (hown : s.vm.findClass own = some m.cls) (hcls : Bundle.fit cls = true) (hnames : ∀ n ∈ names, Bundle.fit n = true) (hk : (Cond.classLink own ik cls).before args s = true) (hins : (Cond.instantiable cls 6).before args s = true) (hini : (Cond.initialized cls).before args s = true)
    (hstr : vk_R own is text sa s) (hat : ∀ w ∈ Bundle.ownAtoms own ic cls names, w.before args s = true) (hP0 : va_P G vwCl (rrL cA ad σ) s.heap) (hK : va_K G vwCl (rrTy cA) s) (hS : va_S fr s.heap H []) (hsize : ls.size = c.maxLocals)
    (d0 : decode cc pc = .ok (.new ik, 3)) (d3 : decode cc (pc + 3) = .ok (.dup, 1)) (d4 : decode cc (pc + 4) = .ok (.ldc is, 2)) (d6 : decode cc (pc + 6) = .ok (.invokespecial ic, 3)) (d9 : decode cc (pc + 9) = .ok (.athrow, 1))
    (hEx : ∀ x ∈ c.exceptionTable.toList, False) (hlocks : meth.locks = false) (hRf : names.length + 3 < R.frames) (hRl : (rest.map fun v => v.category).sum + (13 * (names.length + 1) + 43) ≤ R.locals) (hRc : cells + 1 ≤ R.cells) (hRs : slots + 6 ≤ R.slots) (hKn : ¬ K = 0) (hE : exN K = cls) (hc : cells + 1 ≤ mc) (hs : slots + 6 ≤ ms) :
    W p l e R s m args below meth c H [] cells slots (cx_E fr below G cA ad σ K Ret args s mc ms) (F0 m pc ls rest) := by
  refine W.newc hx hb hown hk hins hini (g := F0 m pc ls rest) rfl d0 hRc hRs (fun cC kC f1 f2 f3 f4 => ?_)
  refine W.eq (g2 := F0 m (pc + 3) ls (.ref H.size :: rest)) rfl ?_
  refine lv_dup hx hb d3 rfl ?_
  refine va_ldcS hx hb hown hstr d4 ?_
  intro T hT X
  have htr : e.platform.stackTraces = false := by rw [X.admits.platform]; exact hl9
  have hce0 : T.heap[H.size]? = some (freshCell cC kC) := by rw [hT]; simp
  have hcat : (Value.ref H.size).category = 1 := rfl
  obtain ⟨U, st, hrun, hend, hW, hsm, ce, hce, hO⟩ := X.ctorThrowS hx htr (own := own) (cls := cls) (names := names) (ic := ic) hown hcls hnames hat
    (fun x hx' => nomatch hx') f1 f2 hce0 hS.1 (msg := .ref sa) rfl (g := F0 m (pc + 6) ls (.ref sa :: .ref H.size :: .ref H.size :: rest)) rfl hsize rfl rfl (rest := rest) rfl
    (by rw [hb]; exact d6) (by rw [hb]; exact d9) (fun x hx => (hEx x hx).elim) hRf (by show 2 * 0 + _ + _ ≤ _; simp only [List.map_cons, List.sum_cons, hcat]; omega) hlocks
  exact cx_thrown st hrun hend hW hsm hce hO.vm (by rw [hE]; exact hO.cls) hP0 hK hKn hc hs
theorem cx_throwN {cc : ByteArray} {pc : Nat} {ls : Array Slot} {rest : List Value} (hx : p.tables.exec = Jvm.exec) (hb : c.code = cc) (hl9 : l.stackTraces = false) {own text : String} {ik is ic sa : Nat}
    (hown : s.vm.findClass own = some m.cls) (hk : (Cond.classLink own ik nse).before args s = true) (hins : (Cond.instantiable nse 6).before args s = true) (hini : (Cond.initialized nse).before args s = true)
    (hstr : vk_R own is text sa s) (hat : ∀ w ∈ nseW own ic, w.before args s = true) (hP0 : va_P G vwCl (rrL cA ad σ) s.heap) (hK : va_K G vwCl (rrTy cA) s) (hS : va_S fr s.heap H []) (hsize : ls.size = c.maxLocals)
    (d0 : decode cc pc = .ok (.new ik, 3)) (d3 : decode cc (pc + 3) = .ok (.dup, 1)) (d4 : decode cc (pc + 4) = .ok (.ldc is, 2)) (d6 : decode cc (pc + 6) = .ok (.invokespecial ic, 3)) (d9 : decode cc (pc + 9) = .ok (.athrow, 1))
    (hEx : ∀ x ∈ c.exceptionTable.toList, False) (hlocks : meth.locks = false) (hRf : 5 < R.frames) (hRl : (rest.map fun v => v.category).sum + 82 ≤ R.locals) (hRc : cells + 1 ≤ R.cells) (hRs : slots + 6 ≤ R.slots) (hKn : ¬ K = 0) (hE : exN K = nse) (hc : cells + 1 ≤ mc) (hs : slots + 6 ≤ ms) :
    W p l e R s m args below meth c H [] cells slots (cx_E fr below G cA ad σ K Ret args s mc ms) (F0 m pc ls rest) := by
  refine W.newc hx hb hown hk hins hini (g := F0 m pc ls rest) rfl d0 hRc hRs (fun cC kC f1 f2 f3 f4 => ?_)
  refine W.eq (g2 := F0 m (pc + 3) ls (.ref H.size :: rest)) rfl ?_
  refine lv_dup hx hb d3 rfl ?_
  refine va_ldcS hx hb hown hstr d4 ?_
  intro T hT X
  have htr : e.platform.stackTraces = false := by rw [X.admits.platform]; exact hl9
  have hce0 : T.heap[H.size]? = some (freshCell cC kC) := by rw [hT]; simp
  have hcat : (Value.ref H.size).category = 1 := rfl
  obtain ⟨U, st, hrun, hend, hW, hsm, ce, hce, hcv, hcl⟩ := nse_throw X hx htr (own := own) (ic := ic) hown hat f1 f2 hce0 hS.1 (msg := .ref sa) rfl (g := F0 m (pc + 6) ls (.ref sa :: .ref H.size :: .ref H.size :: rest)) rfl hsize rfl rfl (rest := rest) rfl
    (by rw [hb]; exact d6) (by rw [hb]; exact d9) (fun x hx => (hEx x hx).elim) hRf (by show 2 * 0 + _ + _ ≤ _; simp only [List.map_cons, List.sum_cons, hcat]; omega) hlocks
  exact cx_thrown st hrun hend hW hsm hce hcv (by rw [hE]; exact hcl) hP0 hK hKn hc hs
end
end
section
theorem qA_ArithmeticException : Cond.instantiable "java/lang/ArithmeticException" 6 ∈ wG := mG 493 (by decide +kernel) rfl
theorem qA_IllegalArgumentException : Cond.instantiable "java/lang/IllegalArgumentException" 6 ∈ wG := mG 251 (by decide +kernel) rfl
theorem qA_IllegalStateException : Cond.instantiable "java/lang/IllegalStateException" 6 ∈ wG := mG 322 (by decide +kernel) rfl
theorem qA_NoSuchElementException : Cond.instantiable "java/util/NoSuchElementException" 6 ∈ wG := mG 663 (by decide +kernel) rfl
theorem qA_UnsupportedOperationException : Cond.instantiable "java/lang/UnsupportedOperationException" 6 ∈ wG := mG 374 (by decide +kernel) rfl
theorem qC_X6_130 : Cond.constant RX6 130 2147483647 ∈ wG := mG 422 (by decide +kernel) rfl
theorem qC_X6_60 : Cond.constant RX6 60 100000 ∈ wG := mG 320 (by decide +kernel) rfl
theorem qF_X6_133 : Cond.fieldLink RX6 133 "ReplenishRules$Place" "held" "I" ∈ wG := mG 148 (by decide +kernel) rfl
theorem qF_X6_136 : Cond.fieldLink RX6 136 "ReplenishRules$Rule" "kind" "I" ∈ wG := mG 197 (by decide +kernel) rfl
theorem qF_X6_139 : Cond.fieldLink RX6 139 "ReplenishRules$Rule" "ahead" "I" ∈ wG := mG 199 (by decide +kernel) rfl
theorem qF_X6_142 : Cond.fieldLink RX6 142 "ReplenishRules$Rule" "until" "I" ∈ wG := mG 201 (by decide +kernel) rfl
theorem qF_X6_145 : Cond.fieldLink RX6 145 "ReplenishRules$Waves" "count" "I" ∈ wG := mG 57 (by decide +kernel) rfl
theorem qF_X6_161 : Cond.fieldLink RX6 161 "ReplenishRules$Calendar" "closed" "[Z" ∈ wG := mG 37 (by decide +kernel) rfl
theorem qF_X6_218 : Cond.fieldLink RX6 218 "ReplenishRules$Move" "from" "I" ∈ wG := mG 82 (by decide +kernel) rfl
theorem qF_X6_221 : Cond.fieldLink RX6 221 "ReplenishRules$Move" "to" "I" ∈ wG := mG 85 (by decide +kernel) rfl
theorem qF_X6_224 : Cond.fieldLink RX6 224 "ReplenishRules$Move" "isDone" "Z" ∈ wG := mG 97 (by decide +kernel) rfl
theorem qF_X6_230 : Cond.fieldLink RX6 230 "ReplenishRules$Place" "good" "I" ∈ wG := mG 150 (by decide +kernel) rfl
theorem qF_X6_233 : Cond.fieldLink RX6 233 "ReplenishRules$Move" "pieces" "I" ∈ wG := mG 88 (by decide +kernel) rfl
theorem qI_X1_tell : Cond.instanceMethod yX1_tell ∈ wG := mG 679 (by decide +kernel) rfl
theorem qI_X2_bring : Cond.instanceMethod yX2_bring ∈ wG := mG 390 (by decide +kernel) rfl
theorem qI_X2_holdsAnother : Cond.instanceMethod yX2_holdsAnother ∈ wG := mG 345 (by decide +kernel) rfl
theorem qI_X2_isFaceOfAnother : Cond.instanceMethod yX2_isFaceOfAnother ∈ wG := mG 358 (by decide +kernel) rfl
theorem qI_X2_takeAway : Cond.instanceMethod yX2_takeAway ∈ wG := mG 412 (by decide +kernel) rfl
theorem qI_X2_tell : Cond.instanceMethod yX2_tell ∈ wG := mG 700 (by decide +kernel) rfl
theorem qI_X3_clear : Cond.instanceMethod yX3_clear ∈ wG := mG 592 (by decide +kernel) rfl
theorem qI_X3_moveAt : Cond.instanceMethod yX3_moveAt ∈ wG := mG 659 (by decide +kernel) rfl
theorem qI_X5_add : Cond.instanceMethod yX5_add ∈ wG := mG 454 (by decide +kernel) rfl
theorem qI_X6_faceAt : Cond.instanceMethod yX6_faceAt ∈ wG := mG 402 (by decide +kernel) rfl
theorem qI_X6_mostUrgentFace : Cond.instanceMethod yX6_mostUrgentFace ∈ wG := mG 615 (by decide +kernel) rfl
theorem qI_X6_placeAt : Cond.instanceMethod yX6_placeAt ∈ wG := mG 245 (by decide +kernel) rfl
theorem qI_X6_prepare : Cond.instanceMethod yX6_prepare ∈ wG := mG 597 (by decide +kernel) rfl
theorem qI_X6_serve : Cond.instanceMethod yX6_serve ∈ wG := mG 619 (by decide +kernel) rfl
theorem qI_X6_usedOnAllDays : Cond.instanceMethod yX6_usedOnAllDays ∈ wG := mG 510 (by decide +kernel) rfl
theorem qK_X3_31 : Cond.classLink RX3 31 "java/util/NoSuchElementException" ∈ wG := mG 662 (by decide +kernel) rfl
theorem qK_X6_148 : Cond.classLink RX6 148 "java/lang/UnsupportedOperationException" ∈ wG := mG 373 (by decide +kernel) rfl
theorem qK_X6_169 : Cond.classLink RX6 169 "java/lang/ArithmeticException" ∈ wG := mG 492 (by decide +kernel) rfl
theorem qK_X6_239 : Cond.classLink RX6 239 "java/lang/IllegalArgumentException" ∈ wG := mG 250 (by decide +kernel) rfl
theorem qK_X6_72 : Cond.classLink RX6 72 "java/lang/IllegalStateException" ∈ wG := mG 321 (by decide +kernel) rfl
theorem qM_X6_102 : Cond.methodLink RX6 102 yX6_checkSpace ∈ wG := mG 366 (by decide +kernel) rfl
theorem qM_X6_106 : Cond.methodLink RX6 106 yX2_bring ∈ wG := mG 389 (by decide +kernel) rfl
theorem qM_X6_110 : Cond.methodLink RX6 110 yX6_faceAt ∈ wG := mG 400 (by decide +kernel) rfl
theorem qM_X6_113 : Cond.methodLink RX6 113 yX2_notHeld ∈ wG := mG 406 (by decide +kernel) rfl
theorem qM_X6_119 : Cond.methodLink RX6 119 yX2_takeAway ∈ wG := mG 411 (by decide +kernel) rfl
theorem qM_X6_156 : Cond.methodLink RX6 156 yX5_add ∈ wG := mG 453 (by decide +kernel) rfl
theorem qM_X6_174 : Cond.methodLink RX6 174 yX6_usedOnAllDays ∈ wG := mG 508 (by decide +kernel) rfl
theorem qM_X6_194 : Cond.methodLink RX6 194 yX3_clear ∈ wG := mG 591 (by decide +kernel) rfl
theorem qM_X6_197 : Cond.methodLink RX6 197 yX6_prepare ∈ wG := mG 595 (by decide +kernel) rfl
theorem qM_X6_201 : Cond.methodLink RX6 201 yX6_mostUrgentFace ∈ wG := mG 613 (by decide +kernel) rfl
theorem qM_X6_205 : Cond.methodLink RX6 205 yX6_serve ∈ wG := mG 617 (by decide +kernel) rfl
theorem qM_X6_209 : Cond.methodLink RX6 209 yX3_moveAt ∈ wG := mG 658 (by decide +kernel) rfl
theorem qM_X6_213 : Cond.methodLink RX6 213 yX1_tell ∈ wG := mG 678 (by decide +kernel) rfl
theorem qM_X6_238 : Cond.methodLink RX6 238 yX2_tell ∈ wG := mG 699 (by decide +kernel) rfl
theorem qM_X6_56 : Cond.methodLink RX6 56 yX6_placeAt ∈ wG := mG 243 (by decide +kernel) rfl
theorem qM_X6_61 : Cond.methodLink RX6 61 yX6_checkRange ∈ wG := mG 247 (by decide +kernel) rfl
theorem qM_X6_85 : Cond.methodLink RX6 85 yX2_holdsAnother ∈ wG := mG 344 (by decide +kernel) rfl
theorem qM_X6_97 : Cond.methodLink RX6 97 yX2_isFaceOfAnother ∈ wG := mG 357 (by decide +kernel) rfl
theorem qN_ArithmeticException : Cond.initialized "java/lang/ArithmeticException" ∈ wG := mG 15 (by decide +kernel) rfl
theorem qN_IllegalArgumentException : Cond.initialized "java/lang/IllegalArgumentException" ∈ wG := mG 12 (by decide +kernel) rfl
theorem qN_IllegalStateException : Cond.initialized "java/lang/IllegalStateException" ∈ wG := mG 13 (by decide +kernel) rfl
theorem qN_NoSuchElementException : Cond.initialized "java/util/NoSuchElementException" ∈ wG := mG 17 (by decide +kernel) rfl
theorem qN_UnsupportedOperationException : Cond.initialized "java/lang/UnsupportedOperationException" ∈ wG := mG 14 (by decide +kernel) rfl
theorem qN_X1 : Cond.initialized RX1 ∈ wG := mG 5 (by decide +kernel) rfl
theorem qS_X1_tell : Cond.selects RX1 yX1_tell yX1_tell ∈ wG := mG 680 (by decide +kernel) rfl
theorem qS_X2_bring : Cond.selects RX2 yX2_bring yX2_bring ∈ wG := mG 391 (by decide +kernel) rfl
theorem qS_X2_holdsAnother : Cond.selects RX2 yX2_holdsAnother yX2_holdsAnother ∈ wG := mG 346 (by decide +kernel) rfl
theorem qS_X2_isFaceOfAnother : Cond.selects RX2 yX2_isFaceOfAnother yX2_isFaceOfAnother ∈ wG := mG 359 (by decide +kernel) rfl
theorem qS_X2_takeAway : Cond.selects RX2 yX2_takeAway yX2_takeAway ∈ wG := mG 413 (by decide +kernel) rfl
theorem qS_X2_tell : Cond.selects RX2 yX2_tell yX2_tell ∈ wG := mG 701 (by decide +kernel) rfl
theorem qS_X3_clear : Cond.selects RX3 yX3_clear yX3_clear ∈ wG := mG 593 (by decide +kernel) rfl
theorem qS_X3_moveAt : Cond.selects RX3 yX3_moveAt yX3_moveAt ∈ wG := mG 660 (by decide +kernel) rfl
theorem qS_X5_add : Cond.selects RX5 yX5_add yX5_add ∈ wG := mG 455 (by decide +kernel) rfl
theorem qS_X6_faceAt : Cond.selects RX6 yX6_faceAt yX6_faceAt ∈ wG := mS 2 (by decide +kernel) rfl
theorem qS_X6_mostUrgentFace : Cond.selects RX6 yX6_mostUrgentFace yX6_mostUrgentFace ∈ wG := mS 12 (by decide +kernel) rfl
theorem qS_X6_placeAt : Cond.selects RX6 yX6_placeAt yX6_placeAt ∈ wG := mS 0 (by decide +kernel) rfl
theorem qS_X6_prepare : Cond.selects RX6 yX6_prepare yX6_prepare ∈ wG := mS 9 (by decide +kernel) rfl
theorem qS_X6_serve : Cond.selects RX6 yX6_serve yX6_serve ∈ wG := mS 13 (by decide +kernel) rfl
theorem qS_X6_usedOnAllDays : Cond.selects RX6 yX6_usedOnAllDays yX6_usedOnAllDays ∈ wG := mS 3 (by decide +kernel) rfl
theorem qT_X6_checkRange : Cond.static yX6_checkRange ∈ wG := mG 248 (by decide +kernel) rfl
theorem qT_X6_checkSpace : Cond.static yX6_checkSpace ∈ wG := mG 367 (by decide +kernel) rfl
end
section
set_option maxHeartbeats 600000 in
set_option maxRecDepth 100000 in
theorem m_ReplenishRules_checkRange (l : Launch) (hl9 : l.stackTraces = false) (G : va_G) (cA : Nat → ClassId) (ad : Nat → Nat) (σ : St) (hJ : rr_inj ad) (a0 : Int32) (b0 : Int32) (c0 : Int32) : cx_Met (fun _ => False) l yX6_checkRange wX6_checkRange ({ frames := 6, cells := 1, slots := 6, locals := 91 }) [.int a0, .int b0, .int c0] G cA ad σ (c_rg a0 b0 c0) (fun v τ => v = none ∧ τ = σ) 1 6 := by
  refine cx_ofW (cc := cX6_checkRange) (maxL := 3) (ret := none) (by decide) ?_
  intro p e s m args below meth c s₁ B hml hEx hv
  obtain ⟨rfl, hP, hK, hT⟩ := hv
  have hx := B.exec
  have hb := B.bytes
  have hr := B.returns
  have hts := atoms_spec (ws := wX6_checkRange :: wG) B.pre
  have hg : ∀ w ∈ wG, w.before _ s = true := fun w h => hts w (List.mem_cons_of_mem _ h)
  have hown : s.vm.findClass RX6 = some m.cls := findClass_of_methodNamed B.named
  have hlocks := B.notSynchronized
  have hS : va_S (fun _ => False) s.heap s.heap [] := va_S.rf
  have hP0 := hP
  have hl := lv_entry ([.int a0, .int b0, .int c0]) (n := 3) (Nat.le_of_ble_eq_true rfl)
  rw [lg_entry_eq]
  generalize (lg_sl ([.int a0, .int b0, .int c0]) ++ List.replicate (3 - (lg_sl ([.int a0, .int b0, .int c0])).length) Slot.unset).toArray = ls at hl ⊢
  have hl : lv_has ls 3 [(0, .int a0), (1, .int b0), (2, .int c0)] := hl
  refine lv_iload_n hx hb dX6_checkRange_0 rfl (lv_at hl 0 rfl) ?_
  refine lv_iload_n hx hb dX6_checkRange_1 rfl (lv_at hl 1 rfl) ?_
  refine lv_icmp_lt (tgt := 10) hx hb dX6_checkRange_2 (by decide) (fun c_2 => ?_) (fun c_2 => ?_)
  · -- if_icmplt taken
    have eK : c_rg a0 b0 c0 = 1 := by simp only [c_rg, if_pos c_2]
    obtain ⟨sa, hstr⟩ := hT.2.2.2 ("ReplenishRules", 241, "a number is outside its range") (by decide +kernel)
    exact cx_throw (own := RX6) (cls := "java/lang/IllegalArgumentException") (names := rr_nm) hx hb hl9 hown (by decide +kernel) rr_nm_fit (hg _ qK_X6_239) (hg _ qA_IllegalArgumentException) (hg _ qN_IllegalArgumentException) hstr (cx_words rr_at1 hg hT) hP0 hK hS (hl.1.trans hml.symm) dX6_checkRange_10 dX6_checkRange_13 dX6_checkRange_14 dX6_checkRange_16 dX6_checkRange_19 hEx hlocks (Nat.le_of_ble_eq_true rfl) (Nat.le_of_ble_eq_true rfl) (Nat.le_of_ble_eq_true rfl) (Nat.le_of_ble_eq_true rfl) (by rw [eK]; decide) (by rw [eK]; rfl) (Nat.le_of_ble_eq_true rfl) (Nat.le_of_ble_eq_true rfl)
  · -- if_icmplt not taken
    refine lv_iload_n hx hb dX6_checkRange_5 rfl (lv_at hl 0 rfl) ?_
    refine lv_iload_n hx hb dX6_checkRange_6 rfl (lv_at hl 2 rfl) ?_
    refine lv_icmp_le (tgt := 20) hx hb dX6_checkRange_7 (by decide) (fun c_7 => ?_) (fun c_7 => ?_)
    · -- if_icmple taken
      refine W.widen (k := 1) (n := 6) (Nat.le_of_ble_eq_true rfl) (Nat.le_of_ble_eq_true rfl) ?_
      exact cx_ret (by simp only [c_rg, if_neg c_2, if_pos c_7]) (W.vret hx hb hr (fun t ht hW => ⟨⟨_, σ, rfl, ⟨rfl, rfl⟩, by rw [ht]; exact hP, va_K.moved hW.alike hK⟩, hS.F ht⟩) hS.2.2 dX6_checkRange_20)
    · -- if_icmple not taken
      have eK : c_rg a0 b0 c0 = 1 := by simp only [c_rg, if_neg c_2, if_neg c_7]
      obtain ⟨sa, hstr⟩ := hT.2.2.2 ("ReplenishRules", 241, "a number is outside its range") (by decide +kernel)
      exact cx_throw (own := RX6) (cls := "java/lang/IllegalArgumentException") (names := rr_nm) hx hb hl9 hown (by decide +kernel) rr_nm_fit (hg _ qK_X6_239) (hg _ qA_IllegalArgumentException) (hg _ qN_IllegalArgumentException) hstr (cx_words rr_at1 hg hT) hP0 hK hS (hl.1.trans hml.symm) dX6_checkRange_10 dX6_checkRange_13 dX6_checkRange_14 dX6_checkRange_16 dX6_checkRange_19 hEx hlocks (Nat.le_of_ble_eq_true rfl) (Nat.le_of_ble_eq_true rfl) (Nat.le_of_ble_eq_true rfl) (Nat.le_of_ble_eq_true rfl) (by rw [eK]; decide) (by rw [eK]; rfl) (Nat.le_of_ble_eq_true rfl) (Nat.le_of_ble_eq_true rfl)

set_option maxHeartbeats 600000 in
set_option maxRecDepth 100000 in
theorem m_ReplenishRules_checkSpace (l : Launch) (hl9 : l.stackTraces = false) (G : va_G) (cA : Nat → ClassId) (ad : Nat → Nat) (σ : St) (hJ : rr_inj ad) (a0 : Nat) (ha0 : a0 < 16) (b0 : Int32) : cx_Met (fun _ => False) l yX6_checkSpace wX6_checkSpace ({ frames := 6, cells := 1, slots := 6, locals := 91 }) [.ref (ad a0), .int b0] G cA ad σ (c_sp σ a0 b0) (fun v τ => v = none ∧ τ = σ) 1 6 := by
  refine cx_ofW (cc := cX6_checkSpace) (maxL := 2) (ret := none) (by decide) ?_
  intro p e s m args below meth c s₁ B hml hEx hv
  obtain ⟨rfl, hP, hK, hT⟩ := hv
  have hx := B.exec
  have hb := B.bytes
  have hr := B.returns
  have hts := atoms_spec (ws := wX6_checkSpace :: wG) B.pre
  have hg : ∀ w ∈ wG, w.before _ s = true := fun w h => hts w (List.mem_cons_of_mem _ h)
  have hown : s.vm.findClass RX6 = some m.cls := findClass_of_methodNamed B.named
  have hlocks := B.notSynchronized
  have hS : va_S (fun _ => False) s.heap s.heap [] := va_S.rf
  have hP0 := hP
  have hl := lv_entry ([.ref (ad a0), .int b0]) (n := 2) (Nat.le_of_ble_eq_true rfl)
  rw [lg_entry_eq]
  generalize (lg_sl ([.ref (ad a0), .int b0]) ++ List.replicate (2 - (lg_sl ([.ref (ad a0), .int b0])).length) Slot.unset).toArray = ls at hl ⊢
  have hl : lv_has ls 2 [(0, .ref (ad a0)), (1, .int b0)] := hl
  refine lv_aload_n hx hb dX6_checkSpace_0 rfl (lv_at hl 0 rfl) ?_
  refine vp_callSi (W.runV (As := []) (rest := []) ⟨hx, hb, hml, hown, hg⟩ (m_Place_space l G cA ad σ a0 ha0) (cwV 0 hg (gV qM_X6_244 qI_X2_space qS_X2_space qN_X2 kX2_space) rfl rfl rfl (by decide +kernel) ⟨Nat.le_of_ble_eq_true rfl, Nat.le_of_ble_eq_true rfl⟩) (rr_pv hK hP (va_recv hK hP (ci := 2) (q0 := a0) rfl (rl_Place ha0))) rfl rfl hl.1 rfl (lv_room (Nat.le_of_ble_eq_true rfl)) dX6_checkSpace_1 ⟨Nat.le_of_ble_eq_true rfl, Nat.le_of_ble_eq_true rfl⟩) (nm_e ?_)
  refine lv_iload_n hx hb dX6_checkSpace_4 rfl (lv_at hl 1 rfl) ?_
  refine lv_icmp_ge (tgt := 18) hx hb dX6_checkSpace_5 (by decide) (fun c_5 => ?_) (fun c_5 => ?_)
  · -- if_icmpge taken
    refine W.widen (k := 1) (n := 6) (Nat.le_of_ble_eq_true rfl) (Nat.le_of_ble_eq_true rfl) ?_
    exact cx_ret (by simp only [c_sp, if_pos c_5]) (W.vret hx hb hr (fun t ht hW => ⟨⟨_, σ, rfl, ⟨rfl, rfl⟩, by rw [ht]; exact hP, va_K.moved hW.alike hK⟩, hS.F ht⟩) hS.2.2 dX6_checkSpace_18)
  · -- if_icmpge not taken
    have eK : c_sp σ a0 b0 = 3 := by simp only [c_sp, if_neg c_5]
    obtain ⟨sa, hstr⟩ := hT.2.2.2 ("ReplenishRules", 247, "the place has no room for so many") (by decide +kernel)
    exact cx_throw (own := RX6) (cls := "java/lang/UnsupportedOperationException") (names := rr_nm) hx hb hl9 hown (by decide +kernel) rr_nm_fit (hg _ qK_X6_148) (hg _ qA_UnsupportedOperationException) (hg _ qN_UnsupportedOperationException) hstr (cx_words rr_at3 hg hT) hP0 hK hS (hl.1.trans hml.symm) dX6_checkSpace_8 dX6_checkSpace_11 dX6_checkSpace_12 dX6_checkSpace_14 dX6_checkSpace_17 hEx hlocks (Nat.le_of_ble_eq_true rfl) (Nat.le_of_ble_eq_true rfl) (Nat.le_of_ble_eq_true rfl) (Nat.le_of_ble_eq_true rfl) (by rw [eK]; decide) (by rw [eK]; rfl) (Nat.le_of_ble_eq_true rfl) (Nat.le_of_ble_eq_true rfl)

set_option maxHeartbeats 600000 in
set_option maxRecDepth 100000 in
theorem m_ReplenishRules_placeAt (l : Launch) (hl9 : l.stackTraces = false) (G : va_G) (cA : Nat → ClassId) (ad : Nat → Nat) (σ : St) (hJ : rr_inj ad) (a0 : Int32) : cx_Met (fun _ => False) l yX6_placeAt wX6_placeAt ({ frames := 7, cells := 1, slots := 6, locals := 113 }) [.ref (ad 66), .int a0] G cA ad σ (c_placeAt a0) (fun v τ => v = some (.ref (ad (nx a0))) ∧ τ = σ) 1 6 := by
  refine cx_ofW (cc := cX6_placeAt) (maxL := 2) (ret := (some (.object "ReplenishRules$Place"))) (by decide) ?_
  intro p e s m args below meth c s₁ B hml hEx hv
  obtain ⟨rfl, hP, hK, hT⟩ := hv
  have hx := B.exec
  have hb := B.bytes
  have hr := B.returns
  have hts := atoms_spec (ws := wX6_placeAt :: wG) B.pre
  have hg : ∀ w ∈ wG, w.before _ s = true := fun w h => hts w (List.mem_cons_of_mem _ h)
  have hown : s.vm.findClass RX6 = some m.cls := findClass_of_methodNamed B.named
  have hlocks := B.notSynchronized
  have hS : va_S (fun _ => False) s.heap s.heap [] := va_S.rf
  have hP0 := hP
  have hl := lv_entry ([.ref (ad 66), .int a0]) (n := 2) (Nat.le_of_ble_eq_true rfl)
  rw [lg_entry_eq]
  generalize (lg_sl ([.ref (ad 66), .int a0]) ++ List.replicate (2 - (lg_sl ([.ref (ad 66), .int a0])).length) Slot.unset).toArray = ls at hl ⊢
  have hl : lv_has ls 2 [(0, .ref (ad 66)), (1, .int a0)] := hl
  refine lv_iload_n hx hb dX6_placeAt_0 rfl (lv_at hl 1 rfl) ?_
  refine lv_iconst (v := 0) hx hb dX6_placeAt_1 (by decide) ?_
  refine lv_bipush (v := 15) hx hb dX6_placeAt_2 (by decide) ?_
  refine cx_callS (As := [.int a0, .int 0, .int 15]) (rest := []) ⟨hx, hb, hml, hown, hg⟩ (m_ReplenishRules_checkRange l hl9 G cA ad σ hJ a0 0 15) (cwS 3 hg (gS qM_X6_61 qT_X6_checkRange qN_X6 kX6_checkRange) rfl rfl rfl (by decide +kernel) ⟨Nat.le_of_ble_eq_true rfl, Nat.le_of_ble_eq_true rfl⟩) hK hP hT (fun _ h => h.elim) hS  rfl hl.1 rfl (lv_room (Nat.le_of_ble_eq_true rfl)) dX6_placeAt_4 ⟨Nat.le_of_ble_eq_true rfl, Nat.le_of_ble_eq_true rfl⟩ hEx hlocks (Nat.le_of_ble_eq_true rfl) (Nat.le_of_ble_eq_true rfl) (fun hk_4 => by simp only [c_placeAt, c_then_n hk_4]) (fun hk_4 v9 τ9 H hR hP hS _ => ?_)
  obtain ⟨rfl, hτ9⟩ := hR
  rw [hτ9] at hP
  show W _ _ _ _ _ _ _ _ _ _ _ _ _ _ _ (F0 m 7 ls [])
  refine W.widen (k := 1) (n := 6) (Nat.le_of_ble_eq_true rfl) (Nat.le_of_ble_eq_true rfl) ?_
  refine lv_aload_n hx hb dX6_placeAt_7 rfl (lv_at hl 0 rfl) ?_
  refine va_get (D := G) (ci := 6) (v := .ref (ad 67)) (C := RX6) (T := TX6) (N := 8) hx hb hg hinX6 hown hK hP 66 rl_main rfl 0 (by decide) (hg _ qF_X6_11) (fun _ h9 => h9) rfl dX6_placeAt_8 ?_
  refine lv_iload_n hx hb dX6_placeAt_11 rfl (lv_at hl 1 rfl) ?_
  refine va_aldq hx hb hK hP 67 2 rl_placesA rfl (placeAt_in hk_4) dX6_placeAt_12 ?_
  show W _ _ _ _ _ _ _ _ _ _ _ _ _ _ _ (F0 m _ ls (.ref (ad (nx a0)) :: []))
  refine W.widen (k := 1) (n := 6) (Nat.le_of_ble_eq_true rfl) (Nat.le_of_ble_eq_true rfl) ?_
  exact cx_ret (by simp only [c_placeAt, hk_4, c_then_z]) (W.aret (v := .ref (ad (nx a0))) (rt := .object "ReplenishRules$Place") hx hb hr (Or.inl ⟨_, rfl⟩) (Or.inr ⟨_, rfl⟩) (fun t ht hW => ⟨⟨_, σ, rfl, ⟨rfl, rfl⟩, by rw [ht]; exact hP, va_K.moved hW.alike hK⟩, hS.F ht⟩) hS.2.2 dX6_placeAt_13)

set_option maxHeartbeats 600000 in
set_option maxRecDepth 100000 in
theorem m_ReplenishRules_faceAt (l : Launch) (hl9 : l.stackTraces = false) (G : va_G) (cA : Nat → ClassId) (ad : Nat → Nat) (σ : St) (hJ : rr_inj ad) (a0 : Int32) : cx_Met (fun _ => False) l yX6_faceAt wX6_faceAt ({ frames := 8, cells := 2, slots := 12, locals := 134 }) [.ref (ad 66), .int a0] G cA ad σ (c_faceAt σ a0) (fun v τ => v = some (.ref (ad (nx a0))) ∧ τ = σ) 2 12 := by
  refine cx_ofW (cc := cX6_faceAt) (maxL := 3) (ret := (some (.object "ReplenishRules$Place"))) (by decide) ?_
  intro p e s m args below meth c s₁ B hml hEx hv
  obtain ⟨rfl, hP, hK, hT⟩ := hv
  have hx := B.exec
  have hb := B.bytes
  have hr := B.returns
  have hts := atoms_spec (ws := wX6_faceAt :: wG) B.pre
  have hg : ∀ w ∈ wG, w.before _ s = true := fun w h => hts w (List.mem_cons_of_mem _ h)
  have hown : s.vm.findClass RX6 = some m.cls := findClass_of_methodNamed B.named
  have hlocks := B.notSynchronized
  have hS : va_S (fun _ => False) s.heap s.heap [] := va_S.rf
  have hP0 := hP
  have hl := lv_entry ([.ref (ad 66), .int a0]) (n := 3) (Nat.le_of_ble_eq_true rfl)
  rw [lg_entry_eq]
  generalize (lg_sl ([.ref (ad 66), .int a0]) ++ List.replicate (3 - (lg_sl ([.ref (ad 66), .int a0])).length) Slot.unset).toArray = ls at hl ⊢
  have hl : lv_has ls 3 [(0, .ref (ad 66)), (1, .int a0)] := hl
  refine lv_aload_n hx hb dX6_faceAt_0 rfl (lv_at hl 0 rfl) ?_
  refine lv_iload_n hx hb dX6_faceAt_1 rfl (lv_at hl 1 rfl) ?_
  refine cx_callV (As := [.int a0]) (rest := []) ⟨hx, hb, hml, hown, hg⟩ (m_ReplenishRules_placeAt l hl9 G cA ad σ hJ a0) (cwV 1 hg (gV qM_X6_56 qI_X6_placeAt qS_X6_placeAt qN_X6 kX6_placeAt) rfl rfl rfl (by decide +kernel) ⟨Nat.le_of_ble_eq_true rfl, Nat.le_of_ble_eq_true rfl⟩) hK hP hT (fun _ h => h.elim) hS (va_recv hK hP (ci := 6) (q0 := 66) rfl rl_main) rfl hl.1 rfl (lv_room (Nat.le_of_ble_eq_true rfl)) dX6_faceAt_2 ⟨Nat.le_of_ble_eq_true rfl, Nat.le_of_ble_eq_true rfl⟩ hEx hlocks (Nat.le_of_ble_eq_true rfl) (Nat.le_of_ble_eq_true rfl) (fun hk_2 => by simp only [c_faceAt, c_then_n hk_2]) (fun hk_2 v9 τ9 H hR hP hS _ => ?_)
  obtain ⟨rfl, hτ9⟩ := hR
  rw [hτ9] at hP
  show W _ _ _ _ _ _ _ _ _ _ _ _ _ _ _ (F0 m 5 ls [.ref (ad (nx a0))])
  refine W.widen (k := 1) (n := 6) (Nat.le_of_ble_eq_true rfl) (Nat.le_of_ble_eq_true rfl) ?_
  refine lv_astore_n (lv' := [(2, .ref (ad (nx a0))), (0, .ref (ad 66)), (1, .int a0)]) hx hb dX6_faceAt_5 rfl hl (by decide) rfl (fun ls hl => ?_)
  refine lv_aload_n hx hb dX6_faceAt_6 rfl (lv_at hl 0 rfl) ?_
  refine vp_callSi (W.runV (As := []) (rest := []) ⟨hx, hb, hml, hown, hg⟩ (m_Place_isFace l G cA ad σ (nx a0) (vp_lt (placeAt_in hk_2))) (cwV 0 hg (gV qM_X6_249 qI_X2_isFace qS_X2_isFace qN_X2 kX2_isFace) rfl rfl rfl (by decide +kernel) ⟨Nat.le_of_ble_eq_true rfl, Nat.le_of_ble_eq_true rfl⟩) (rr_pv hK hP (va_recv hK hP (ci := 2) (q0 := (nx a0)) rfl (rl_Place (vp_lt (placeAt_in hk_2))))) rfl rfl hl.1 rfl (lv_room (Nat.le_of_ble_eq_true rfl)) dX6_faceAt_7 ⟨Nat.le_of_ble_eq_true rfl, Nat.le_of_ble_eq_true rfl⟩) (nm_e ?_)
  refine lv_if_ne (tgt := 23) hx hb dX6_faceAt_10 (by decide) (fun c_10 => ?_) (fun c_10 => ?_)
  · -- ifne taken
    refine lv_aload_n hx hb dX6_faceAt_23 rfl (lv_at hl 0 rfl) ?_
    refine W.widen (k := 2) (n := 12) (Nat.le_of_ble_eq_true rfl) (Nat.le_of_ble_eq_true rfl) ?_
    exact cx_ret (by simp only [c_faceAt, hk_2, c_then_z, if_neg c_10]) (W.aret (v := .ref (ad (nx a0))) (rt := .object "ReplenishRules$Place") hx hb hr (Or.inl ⟨_, rfl⟩) (Or.inr ⟨_, rfl⟩) (fun t ht hW => ⟨⟨_, σ, rfl, ⟨rfl, rfl⟩, by rw [ht]; exact hP, va_K.moved hW.alike hK⟩, hS.F ht⟩) hS.2.2 dX6_faceAt_24)
  · -- ifne not taken
    have eK : c_faceAt σ a0 = 2 := by simp only [c_faceAt, hk_2, c_then_z, if_pos c_10]
    obtain ⟨sa, hstr⟩ := hT.2.2.2 ("ReplenishRules", 253, "the place is no face") (by decide +kernel)
    exact cx_throw (own := RX6) (cls := "java/lang/IllegalStateException") (names := rr_nm) hx hb hl9 hown (by decide +kernel) rr_nm_fit (hg _ qK_X6_72) (hg _ qA_IllegalStateException) (hg _ qN_IllegalStateException) hstr (cx_words rr_at2 hg hT) hP0 hK hS (hl.1.trans hml.symm) dX6_faceAt_13 dX6_faceAt_16 dX6_faceAt_17 dX6_faceAt_19 dX6_faceAt_22 hEx hlocks (Nat.le_of_ble_eq_true rfl) (Nat.le_of_ble_eq_true rfl) (Nat.le_of_ble_eq_true rfl) (Nat.le_of_ble_eq_true rfl) (by rw [eK]; decide) (by rw [eK]; rfl) (Nat.le_of_ble_eq_true rfl) (Nat.le_of_ble_eq_true rfl)

set_option maxHeartbeats 600000 in
set_option maxRecDepth 100000 in
theorem m_Plan_moveAt (l : Launch) (hl9 : l.stackTraces = false) (G : va_G) (cA : Nat → ClassId) (ad : Nat → Nat) (σ : St) (hJ : rr_inj ad) (hI : Inv σ) (a0 : Int32) : cx_Met (fun _ => False) l yX3_moveAt wX3_moveAt ({ frames := 6, cells := 1, slots := 6, locals := 91 }) [.ref (ad 78), .int a0] G cA ad σ (c_moveAt σ a0) (fun v τ => v = some (.ref (ad (36 + nx a0))) ∧ τ = σ) 1 6 := by
  refine cx_ofW (cc := cX3_moveAt) (maxL := 2) (ret := (some (.object "ReplenishRules$Move"))) (by decide) ?_
  intro p e s m args below meth c s₁ B hml hEx hv
  obtain ⟨rfl, hP, hK, hT⟩ := hv
  have hx := B.exec
  have hb := B.bytes
  have hr := B.returns
  have hts := atoms_spec (ws := wX3_moveAt :: wG) B.pre
  have hg : ∀ w ∈ wG, w.before _ s = true := fun w h => hts w (List.mem_cons_of_mem _ h)
  have hown : s.vm.findClass RX3 = some m.cls := findClass_of_methodNamed B.named
  have hlocks := B.notSynchronized
  have hS : va_S (fun _ => False) s.heap s.heap [] := va_S.rf
  have hP0 := hP
  have hl := lv_entry ([.ref (ad 78), .int a0]) (n := 2) (Nat.le_of_ble_eq_true rfl)
  rw [lg_entry_eq]
  generalize (lg_sl ([.ref (ad 78), .int a0]) ++ List.replicate (2 - (lg_sl ([.ref (ad 78), .int a0])).length) Slot.unset).toArray = ls at hl ⊢
  have hl : lv_has ls 2 [(0, .ref (ad 78)), (1, .int a0)] := hl
  refine lv_iload_n hx hb dX3_moveAt_0 rfl (lv_at hl 1 rfl) ?_
  refine lv_if_lt (tgt := 12) hx hb dX3_moveAt_1 (by decide) (fun c_1 => ?_) (fun c_1 => ?_)
  · -- iflt taken
    have eK : c_moveAt σ a0 = 4 := by simp only [c_moveAt, if_pos c_1]
    obtain ⟨sa, hstr⟩ := hT.2.2.2 ("ReplenishRules$Plan", 33, "there is no such move") (by decide +kernel)
    exact cx_throwN (own := RX3) hx hb hl9 hown  (hg _ qK_X3_31) (hg _ qA_NoSuchElementException) (hg _ qN_NoSuchElementException) hstr (cx_words rr_at4 hg hT) hP0 hK hS (hl.1.trans hml.symm) dX3_moveAt_12 dX3_moveAt_15 dX3_moveAt_16 dX3_moveAt_18 dX3_moveAt_21 hEx hlocks (Nat.le_of_ble_eq_true rfl) (Nat.le_of_ble_eq_true rfl) (Nat.le_of_ble_eq_true rfl) (Nat.le_of_ble_eq_true rfl) (by rw [eK]; decide) (by rw [eK]; rfl) (Nat.le_of_ble_eq_true rfl) (Nat.le_of_ble_eq_true rfl)
  · -- iflt not taken
    refine lv_iload_n hx hb dX3_moveAt_4 rfl (lv_at hl 1 rfl) ?_
    refine lv_aload_n hx hb dX3_moveAt_5 rfl (lv_at hl 0 rfl) ?_
    refine va_get (D := G) (ci := 3) (v := .int (σ 42 0)) (C := RX3) (T := TX3) (N := 5) hx hb hg hinX3 hown hK hP 78 rl_Plan rfl 1 (by decide) (hg _ qF_X3_17) (fun _ h9 => h9) rfl dX3_moveAt_6 ?_
    refine lv_icmp_lt (tgt := 22) hx hb dX3_moveAt_9 (by decide) (fun c_9 => ?_) (fun c_9 => ?_)
    · -- if_icmplt taken
      refine lv_aload_n hx hb dX3_moveAt_22 rfl (lv_at hl 0 rfl) ?_
      refine va_get (D := G) (ci := 3) (v := .ref (ad 79)) (C := RX3) (T := TX3) (N := 5) hx hb hg hinX3 hown hK hP 78 rl_Plan rfl 0 (by decide) (hg _ qF_X3_11) (fun _ h9 => h9) rfl dX3_moveAt_23 ?_
      refine lv_iload_n hx hb dX3_moveAt_26 rfl (lv_at hl 1 rfl) ?_
      refine va_aldq hx hb hK hP 79 4 rl_movesA rfl (moveAt_in hI (by simp only [c_moveAt, if_neg c_1, if_pos c_9])) dX3_moveAt_27 ?_
      show W _ _ _ _ _ _ _ _ _ _ _ _ _ _ _ (F0 m _ ls (.ref (ad (36 + nx a0)) :: []))
      refine W.widen (k := 1) (n := 6) (Nat.le_of_ble_eq_true rfl) (Nat.le_of_ble_eq_true rfl) ?_
      exact cx_ret (by simp only [c_moveAt, if_neg c_1, if_pos c_9]) (W.aret (v := .ref (ad (36 + nx a0))) (rt := .object "ReplenishRules$Move") hx hb hr (Or.inl ⟨_, rfl⟩) (Or.inr ⟨_, rfl⟩) (fun t ht hW => ⟨⟨_, σ, rfl, ⟨rfl, rfl⟩, by rw [ht]; exact hP, va_K.moved hW.alike hK⟩, hS.F ht⟩) hS.2.2 dX3_moveAt_28)
    · -- if_icmplt not taken
      have eK : c_moveAt σ a0 = 4 := by simp only [c_moveAt, if_neg c_1, if_neg c_9]
      obtain ⟨sa, hstr⟩ := hT.2.2.2 ("ReplenishRules$Plan", 33, "there is no such move") (by decide +kernel)
      exact cx_throwN (own := RX3) hx hb hl9 hown  (hg _ qK_X3_31) (hg _ qA_NoSuchElementException) (hg _ qN_NoSuchElementException) hstr (cx_words rr_at4 hg hT) hP0 hK hS (hl.1.trans hml.symm) dX3_moveAt_12 dX3_moveAt_15 dX3_moveAt_16 dX3_moveAt_18 dX3_moveAt_21 hEx hlocks (Nat.le_of_ble_eq_true rfl) (Nat.le_of_ble_eq_true rfl) (Nat.le_of_ble_eq_true rfl) (Nat.le_of_ble_eq_true rfl) (by rw [eK]; decide) (by rw [eK]; rfl) (Nat.le_of_ble_eq_true rfl) (Nat.le_of_ble_eq_true rfl)
end
section
def c_doneK2 (σ : St) (i : Int32) : Nat := c_then (c_moveAt σ i) (if σ 56 (nx i) = 0 then (if σ 4 (nx (σ 50 (nx i))) = σ 5 (nx (σ 51 (nx i))) then (if σ 52 (nx i) ≤ c_notHeld σ (nx (σ 50 (nx i))) then (if c_holdsAnother σ (nx (σ 51 (nx i))) (σ 5 (nx (σ 51 (nx i)))) = 0 then c_sp σ (nx (σ 51 (nx i))) (σ 52 (nx i)) else 2) else 2) else 2) else 2)
set_option maxHeartbeats 600000 in
set_option maxRecDepth 100000 in
theorem m_ReplenishRules_place (l : Launch) (hl9 : l.stackTraces = false) (G : va_G) (cA : Nat → ClassId) (ad : Nat → Nat) (σ : St) (hJ : rr_inj ad) (a0 : Int32) (b0 : Int32) (c0 : Int32) : cx_Met (rrA ad) l yX6_place wX6_place ({ frames := 8, cells := 4, slots := 24, locals := 134 }) [.ref (ad 66), .int a0, .int b0, .int c0] G cA ad σ (c_placeK σ a0 b0 c0) (fun v τ => v = none ∧ τ = c_placeS σ a0 b0 c0) 4 24 := by
  refine cx_ofW (cc := cX6_place) (maxL := 5) (ret := none) (by decide) ?_
  intro p e s m args below meth c s₁ B hml hEx hv
  obtain ⟨rfl, hP, hK, hT⟩ := hv
  have hx := B.exec
  have hb := B.bytes
  have hr := B.returns
  have hts := atoms_spec (ws := wX6_place :: wG) B.pre
  have hg : ∀ w ∈ wG, w.before _ s = true := fun w h => hts w (List.mem_cons_of_mem _ h)
  have hown : s.vm.findClass RX6 = some m.cls := findClass_of_methodNamed B.named
  have hlocks := B.notSynchronized
  have hS : va_S (rrA ad) s.heap s.heap [] := va_S.rf
  have hP0 := hP
  have hl := lv_entry ([.ref (ad 66), .int a0, .int b0, .int c0]) (n := 5) (Nat.le_of_ble_eq_true rfl)
  rw [lg_entry_eq]
  generalize (lg_sl ([.ref (ad 66), .int a0, .int b0, .int c0]) ++ List.replicate (5 - (lg_sl ([.ref (ad 66), .int a0, .int b0, .int c0])).length) Slot.unset).toArray = ls at hl ⊢
  have hl : lv_has ls 5 [(0, .ref (ad 66)), (1, .int a0), (2, .int b0), (3, .int c0)] := hl
  refine lv_aload_n hx hb dX6_place_0 rfl (lv_at hl 0 rfl) ?_
  refine lv_iload_n hx hb dX6_place_1 rfl (lv_at hl 1 rfl) ?_
  refine cx_callV (As := [.int a0]) (rest := []) ⟨hx, hb, hml, hown, hg⟩ (m_ReplenishRules_placeAt l hl9 G cA ad σ hJ a0) (cwV 1 hg (gV qM_X6_56 qI_X6_placeAt qS_X6_placeAt qN_X6 kX6_placeAt) rfl rfl rfl (by decide +kernel) ⟨Nat.le_of_ble_eq_true rfl, Nat.le_of_ble_eq_true rfl⟩) hK hP hT (fun _ h => h) hS (va_recv hK hP (ci := 6) (q0 := 66) rfl rl_main) rfl hl.1 rfl (lv_room (Nat.le_of_ble_eq_true rfl)) dX6_place_2 ⟨Nat.le_of_ble_eq_true rfl, Nat.le_of_ble_eq_true rfl⟩ hEx hlocks (Nat.le_of_ble_eq_true rfl) (Nat.le_of_ble_eq_true rfl) (fun hk_2 => by simp only [c_placeK, c_then_n hk_2]) (fun hk_2 v9 τ9 H hR hP hS _ => ?_)
  obtain ⟨rfl, hτ9⟩ := hR
  rw [hτ9] at hP
  show W _ _ _ _ _ _ _ _ _ _ _ _ _ _ _ (F0 m 5 ls [.ref (ad (nx a0))])
  refine W.widen (k := 1) (n := 6) (Nat.le_of_ble_eq_true rfl) (Nat.le_of_ble_eq_true rfl) ?_
  refine lv_astore (lv' := [(4, .ref (ad (nx a0))), (0, .ref (ad 66)), (1, .int a0), (2, .int b0), (3, .int c0)]) hx hb dX6_place_5 hl (by decide) rfl (fun ls hl => ?_)
  refine lv_iload_n hx hb dX6_place_7 rfl (lv_at hl 3 rfl) ?_
  refine lv_iconst (v := 1) hx hb dX6_place_8 (by decide) ?_
  refine lv_ldc (v := 100000) hx hb hown (hg _ qC_X6_60) dX6_place_9 ?_
  refine cx_callS (As := [.int b0, .int 1, .int 100000]) (rest := []) ⟨hx, hb, hml, hown, hg⟩ (m_ReplenishRules_checkRange l hl9 G cA ad σ hJ b0 1 100000) (cwS 3 hg (gS qM_X6_61 qT_X6_checkRange qN_X6 kX6_checkRange) rfl rfl rfl (by decide +kernel) ⟨Nat.le_of_ble_eq_true rfl, Nat.le_of_ble_eq_true rfl⟩) hK hP hT (fun _ h => h) hS  rfl hl.1 rfl (lv_room (Nat.le_of_ble_eq_true rfl)) dX6_place_11 ⟨Nat.le_of_ble_eq_true rfl, Nat.le_of_ble_eq_true rfl⟩ hEx hlocks (Nat.le_of_ble_eq_true rfl) (Nat.le_of_ble_eq_true rfl) (fun hk_11 => by simp only [c_placeK, hk_2, c_then_z, c_then_n hk_11]) (fun hk_11 v9 τ9 H hR hP hS _ => ?_)
  obtain ⟨rfl, hτ9⟩ := hR
  rw [hτ9] at hP
  show W _ _ _ _ _ _ _ _ _ _ _ _ _ _ _ (F0 m 14 ls [])
  refine W.widen (k := 2) (n := 12) (Nat.le_of_ble_eq_true rfl) (Nat.le_of_ble_eq_true rfl) ?_
  refine lv_iload_n hx hb dX6_place_14 rfl (lv_at hl 4 rfl) ?_
  refine lv_iconst (v := 0) hx hb dX6_place_15 (by decide) ?_
  refine lv_iconst (v := 3) hx hb dX6_place_16 (by decide) ?_
  refine cx_callS (As := [.int c0, .int 0, .int 3]) (rest := []) ⟨hx, hb, hml, hown, hg⟩ (m_ReplenishRules_checkRange l hl9 G cA ad σ hJ c0 0 3) (cwS 3 hg (gS qM_X6_61 qT_X6_checkRange qN_X6 kX6_checkRange) rfl rfl rfl (by decide +kernel) ⟨Nat.le_of_ble_eq_true rfl, Nat.le_of_ble_eq_true rfl⟩) hK hP hT (fun _ h => h) hS  rfl hl.1 rfl (lv_room (Nat.le_of_ble_eq_true rfl)) dX6_place_17 ⟨Nat.le_of_ble_eq_true rfl, Nat.le_of_ble_eq_true rfl⟩ hEx hlocks (Nat.le_of_ble_eq_true rfl) (Nat.le_of_ble_eq_true rfl) (fun hk_17 => by simp only [c_placeK, hk_2, c_then_z, hk_11, c_then_z, c_then_n hk_17]) (fun hk_17 v9 τ9 H hR hP hS _ => ?_)
  obtain ⟨rfl, hτ9⟩ := hR
  rw [hτ9] at hP
  show W _ _ _ _ _ _ _ _ _ _ _ _ _ _ _ (F0 m 20 ls [])
  refine W.widen (k := 3) (n := 18) (Nat.le_of_ble_eq_true rfl) (Nat.le_of_ble_eq_true rfl) ?_
  refine lv_aload hx hb dX6_place_20 (lv_at hl 0 rfl) ?_
  refine va_get (D := G) (ci := 2) (v := .int (σ 2 (nx a0))) (C := RX2) (T := TX2) (N := 13) hx hb hg hinX2 hown hK hP (nx a0) (rl_Place (vp_lt (placeAt_in hk_2))) rfl 4 (by decide) (hg _ qF_X6_65) (fun _ h9 => h9) rfl dX6_place_22 ?_
  refine lv_iload_n hx hb dX6_place_25 rfl (lv_at hl 3 rfl) ?_
  refine lv_icmp_gt (tgt := 38) hx hb dX6_place_26 (by decide) (fun c_26 => ?_) (fun c_26 => ?_)
  · -- if_icmpgt taken
    have eK : c_placeK σ a0 b0 c0 = 2 := by simp only [c_placeK, hk_2, c_then_z, hk_11, c_then_z, hk_17, c_then_z, if_pos c_26]
    obtain ⟨sa, hstr⟩ := hT.2.2.2 ("ReplenishRules", 74, "the place has more, or its face\'s most is more") (by decide +kernel)
    exact cx_throw (own := RX6) (cls := "java/lang/IllegalStateException") (names := rr_nm) hx hb hl9 hown (by decide +kernel) rr_nm_fit (hg _ qK_X6_72) (hg _ qA_IllegalStateException) (hg _ qN_IllegalStateException) hstr (cx_words rr_at2 hg hT) hP0 hK hS (hl.1.trans hml.symm) dX6_place_38 dX6_place_41 dX6_place_42 dX6_place_44 dX6_place_47 hEx hlocks (Nat.le_of_ble_eq_true rfl) (Nat.le_of_ble_eq_true rfl) (Nat.le_of_ble_eq_true rfl) (Nat.le_of_ble_eq_true rfl) (by rw [eK]; decide) (by rw [eK]; rfl) (Nat.le_of_ble_eq_true rfl) (Nat.le_of_ble_eq_true rfl)
  · -- if_icmpgt not taken
    refine lv_aload hx hb dX6_place_29 (lv_at hl 0 rfl) ?_
    refine va_get (D := G) (ci := 2) (v := .int (σ 7 (nx a0))) (C := RX2) (T := TX2) (N := 13) hx hb hg hinX2 hown hK hP (nx a0) (rl_Place (vp_lt (placeAt_in hk_2))) rfl 9 (by decide) (hg _ qF_X6_69) (fun _ h9 => h9) rfl dX6_place_31 ?_
    refine lv_iload_n hx hb dX6_place_34 rfl (lv_at hl 3 rfl) ?_
    refine lv_icmp_le (tgt := 48) hx hb dX6_place_35 (by decide) (fun c_35 => ?_) (fun c_35 => ?_)
    · -- if_icmple taken
      refine lv_aload hx hb dX6_place_48 (lv_at hl 0 rfl) ?_
      refine lv_iload_n hx hb dX6_place_50 rfl (lv_at hl 3 rfl) ?_
      refine pp_put (D := G) (ci := 2) (v := .int b0) (ty := .int) (C := RX2) (T := TX2) (N := 13) hx hb hg hinX2 tyX2 tyX2_ok nmX2 hown hK hP (rr_D hJ) hS (nx a0) (rl_Place (vp_lt (placeAt_in hk_2))) rfl 2 (by decide) (hg _ qF_X6_79) (fun _ h9 => h9) rfl (by decide +kernel) rfl rfl (Nat.le_of_ble_eq_true rfl) (rs_Place_room (vp_lt (placeAt_in hk_2))) dX6_place_51 (fun H locs hP hS => ?_)
      obtain ⟨σ1, eσ1⟩ : ∃ z, z = up σ 0 (nx a0) b0 := ⟨_, rfl⟩
      rw [← eσ1] at hP
      refine lv_aload hx hb dX6_place_54 (lv_at hl 0 rfl) ?_
      refine lv_iload_n hx hb dX6_place_56 rfl (lv_at hl 4 rfl) ?_
      refine pp_put (D := G) (ci := 2) (v := .int c0) (ty := .int) (C := RX2) (T := TX2) (N := 13) hx hb hg hinX2 tyX2 tyX2_ok nmX2 hown hK hP (rr_D hJ) hS (nx a0) (rl_Place (vp_lt (placeAt_in hk_2))) rfl 3 (by decide) (hg _ qF_X6_82) (fun _ h9 => h9) rfl (by decide +kernel) rfl rfl (Nat.le_of_ble_eq_true rfl) (rs_Place_zone (vp_lt (placeAt_in hk_2))) dX6_place_57 (fun H locs hP hS => ?_)
      obtain ⟨σ2, eσ2⟩ : ∃ z, z = up σ1 1 (nx a0) c0 := ⟨_, rfl⟩
      rw [← eσ2] at hP
      refine W.widen (k := 4) (n := 24) (Nat.le_of_ble_eq_true rfl) (Nat.le_of_ble_eq_true rfl) ?_
      exact cx_ret (by simp only [c_placeK, hk_2, c_then_z, hk_11, c_then_z, hk_17, c_then_z, if_neg c_26, if_pos c_35]) (W.vret hx hb hr (fun t ht hW => ⟨⟨_, σ2, rfl, ⟨rfl, by subst eσ1 eσ2; rfl⟩, by rw [ht]; exact hP, va_K.moved hW.alike hK⟩, hS.F ht⟩) hS.2.2 dX6_place_60)
    · -- if_icmple not taken
      have eK : c_placeK σ a0 b0 c0 = 2 := by simp only [c_placeK, hk_2, c_then_z, hk_11, c_then_z, hk_17, c_then_z, if_neg c_26, if_neg c_35]
      obtain ⟨sa, hstr⟩ := hT.2.2.2 ("ReplenishRules", 74, "the place has more, or its face\'s most is more") (by decide +kernel)
      exact cx_throw (own := RX6) (cls := "java/lang/IllegalStateException") (names := rr_nm) hx hb hl9 hown (by decide +kernel) rr_nm_fit (hg _ qK_X6_72) (hg _ qA_IllegalStateException) (hg _ qN_IllegalStateException) hstr (cx_words rr_at2 hg hT) hP0 hK hS (hl.1.trans hml.symm) dX6_place_38 dX6_place_41 dX6_place_42 dX6_place_44 dX6_place_47 hEx hlocks (Nat.le_of_ble_eq_true rfl) (Nat.le_of_ble_eq_true rfl) (Nat.le_of_ble_eq_true rfl) (Nat.le_of_ble_eq_true rfl) (by rw [eK]; decide) (by rw [eK]; rfl) (Nat.le_of_ble_eq_true rfl) (Nat.le_of_ble_eq_true rfl)

set_option maxHeartbeats 600000 in
set_option maxRecDepth 100000 in
theorem m_ReplenishRules_face (l : Launch) (hl9 : l.stackTraces = false) (G : va_G) (cA : Nat → ClassId) (ad : Nat → Nat) (σ : St) (hJ : rr_inj ad) (a0 : Int32) (b0 : Int32) (c0 : Int32) (d0 : Int32) : cx_Met (rrA ad) l yX6_face wX6_face ({ frames := 8, cells := 5, slots := 30, locals := 134 }) [.ref (ad 66), .int a0, .int b0, .int c0, .int d0] G cA ad σ (c_faceK σ a0 b0 c0 d0) (fun v τ => v = none ∧ τ = c_faceS σ a0 b0 c0 d0) 5 30 := by
  refine cx_ofW (cc := cX6_face) (maxL := 6) (ret := none) (by decide) ?_
  intro p e s m args below meth c s₁ B hml hEx hv
  obtain ⟨rfl, hP, hK, hT⟩ := hv
  have hx := B.exec
  have hb := B.bytes
  have hr := B.returns
  have hts := atoms_spec (ws := wX6_face :: wG) B.pre
  have hg : ∀ w ∈ wG, w.before _ s = true := fun w h => hts w (List.mem_cons_of_mem _ h)
  have hown : s.vm.findClass RX6 = some m.cls := findClass_of_methodNamed B.named
  have hlocks := B.notSynchronized
  have hS : va_S (rrA ad) s.heap s.heap [] := va_S.rf
  have hP0 := hP
  have hl := lv_entry ([.ref (ad 66), .int a0, .int b0, .int c0, .int d0]) (n := 6) (Nat.le_of_ble_eq_true rfl)
  rw [lg_entry_eq]
  generalize (lg_sl ([.ref (ad 66), .int a0, .int b0, .int c0, .int d0]) ++ List.replicate (6 - (lg_sl ([.ref (ad 66), .int a0, .int b0, .int c0, .int d0])).length) Slot.unset).toArray = ls at hl ⊢
  have hl : lv_has ls 6 [(0, .ref (ad 66)), (1, .int a0), (2, .int b0), (3, .int c0), (4, .int d0)] := hl
  refine lv_aload_n hx hb dX6_face_0 rfl (lv_at hl 0 rfl) ?_
  refine lv_iload_n hx hb dX6_face_1 rfl (lv_at hl 1 rfl) ?_
  refine cx_callV (As := [.int a0]) (rest := []) ⟨hx, hb, hml, hown, hg⟩ (m_ReplenishRules_placeAt l hl9 G cA ad σ hJ a0) (cwV 1 hg (gV qM_X6_56 qI_X6_placeAt qS_X6_placeAt qN_X6 kX6_placeAt) rfl rfl rfl (by decide +kernel) ⟨Nat.le_of_ble_eq_true rfl, Nat.le_of_ble_eq_true rfl⟩) hK hP hT (fun _ h => h) hS (va_recv hK hP (ci := 6) (q0 := 66) rfl rl_main) rfl hl.1 rfl (lv_room (Nat.le_of_ble_eq_true rfl)) dX6_face_2 ⟨Nat.le_of_ble_eq_true rfl, Nat.le_of_ble_eq_true rfl⟩ hEx hlocks (Nat.le_of_ble_eq_true rfl) (Nat.le_of_ble_eq_true rfl) (fun hk_2 => by simp only [c_faceK, c_then_n hk_2]) (fun hk_2 v9 τ9 H hR hP hS _ => ?_)
  obtain ⟨rfl, hτ9⟩ := hR
  rw [hτ9] at hP
  show W _ _ _ _ _ _ _ _ _ _ _ _ _ _ _ (F0 m 5 ls [.ref (ad (nx a0))])
  refine W.widen (k := 1) (n := 6) (Nat.le_of_ble_eq_true rfl) (Nat.le_of_ble_eq_true rfl) ?_
  refine lv_astore (lv' := [(5, .ref (ad (nx a0))), (0, .ref (ad 66)), (1, .int a0), (2, .int b0), (3, .int c0), (4, .int d0)]) hx hb dX6_face_5 hl (by decide) rfl (fun ls hl => ?_)
  refine lv_iload_n hx hb dX6_face_7 rfl (lv_at hl 3 rfl) ?_
  refine lv_iconst (v := 0) hx hb dX6_face_8 (by decide) ?_
  refine lv_bipush (v := 7) hx hb dX6_face_9 (by decide) ?_
  refine cx_callS (As := [.int b0, .int 0, .int 7]) (rest := []) ⟨hx, hb, hml, hown, hg⟩ (m_ReplenishRules_checkRange l hl9 G cA ad σ hJ b0 0 7) (cwS 3 hg (gS qM_X6_61 qT_X6_checkRange qN_X6 kX6_checkRange) rfl rfl rfl (by decide +kernel) ⟨Nat.le_of_ble_eq_true rfl, Nat.le_of_ble_eq_true rfl⟩) hK hP hT (fun _ h => h) hS  rfl hl.1 rfl (lv_room (Nat.le_of_ble_eq_true rfl)) dX6_face_11 ⟨Nat.le_of_ble_eq_true rfl, Nat.le_of_ble_eq_true rfl⟩ hEx hlocks (Nat.le_of_ble_eq_true rfl) (Nat.le_of_ble_eq_true rfl) (fun hk_11 => by simp only [c_faceK, hk_2, c_then_z, c_then_n hk_11]) (fun hk_11 v9 τ9 H hR hP hS _ => ?_)
  obtain ⟨rfl, hτ9⟩ := hR
  rw [hτ9] at hP
  show W _ _ _ _ _ _ _ _ _ _ _ _ _ _ _ (F0 m 14 ls [])
  refine W.widen (k := 2) (n := 12) (Nat.le_of_ble_eq_true rfl) (Nat.le_of_ble_eq_true rfl) ?_
  refine lv_iload hx hb dX6_face_14 (lv_at hl 5 rfl) ?_
  refine lv_iconst (v := 0) hx hb dX6_face_16 (by decide) ?_
  refine lv_aload hx hb dX6_face_17 (lv_at hl 0 rfl) ?_
  refine va_get (D := G) (ci := 2) (v := .int (σ 0 (nx a0))) (C := RX2) (T := TX2) (N := 13) hx hb hg hinX2 hown hK hP (nx a0) (rl_Place (vp_lt (placeAt_in hk_2))) rfl 2 (by decide) (hg _ qF_X6_79) (fun _ h9 => h9) rfl dX6_face_19 ?_
  refine cx_callS (As := [.int d0, .int 0, .int (σ 0 (nx a0))]) (rest := []) ⟨hx, hb, hml, hown, hg⟩ (m_ReplenishRules_checkRange l hl9 G cA ad σ hJ d0 0 (σ 0 (nx a0))) (cwS 3 hg (gS qM_X6_61 qT_X6_checkRange qN_X6 kX6_checkRange) rfl rfl rfl (by decide +kernel) ⟨Nat.le_of_ble_eq_true rfl, Nat.le_of_ble_eq_true rfl⟩) hK hP hT (fun _ h => h) hS  rfl hl.1 rfl (lv_room (Nat.le_of_ble_eq_true rfl)) dX6_face_22 ⟨Nat.le_of_ble_eq_true rfl, Nat.le_of_ble_eq_true rfl⟩ hEx hlocks (Nat.le_of_ble_eq_true rfl) (Nat.le_of_ble_eq_true rfl) (fun hk_22 => by simp only [c_faceK, hk_2, c_then_z, hk_11, c_then_z, c_then_n hk_22]) (fun hk_22 v9 τ9 H hR hP hS _ => ?_)
  obtain ⟨rfl, hτ9⟩ := hR
  rw [hτ9] at hP
  show W _ _ _ _ _ _ _ _ _ _ _ _ _ _ _ (F0 m 25 ls [])
  refine W.widen (k := 3) (n := 18) (Nat.le_of_ble_eq_true rfl) (Nat.le_of_ble_eq_true rfl) ?_
  refine lv_iload_n hx hb dX6_face_25 rfl (lv_at hl 4 rfl) ?_
  refine lv_iconst (v := 0) hx hb dX6_face_26 (by decide) ?_
  refine lv_iload hx hb dX6_face_27 (lv_at hl 5 rfl) ?_
  refine cx_callS (As := [.int c0, .int 0, .int d0]) (rest := []) ⟨hx, hb, hml, hown, hg⟩ (m_ReplenishRules_checkRange l hl9 G cA ad σ hJ c0 0 d0) (cwS 3 hg (gS qM_X6_61 qT_X6_checkRange qN_X6 kX6_checkRange) rfl rfl rfl (by decide +kernel) ⟨Nat.le_of_ble_eq_true rfl, Nat.le_of_ble_eq_true rfl⟩) hK hP hT (fun _ h => h) hS  rfl hl.1 rfl (lv_room (Nat.le_of_ble_eq_true rfl)) dX6_face_29 ⟨Nat.le_of_ble_eq_true rfl, Nat.le_of_ble_eq_true rfl⟩ hEx hlocks (Nat.le_of_ble_eq_true rfl) (Nat.le_of_ble_eq_true rfl) (fun hk_29 => by simp only [c_faceK, hk_2, c_then_z, hk_11, c_then_z, hk_22, c_then_z, c_then_n hk_29]) (fun hk_29 v9 τ9 H hR hP hS _ => ?_)
  obtain ⟨rfl, hτ9⟩ := hR
  rw [hτ9] at hP
  show W _ _ _ _ _ _ _ _ _ _ _ _ _ _ _ (F0 m 32 ls [])
  refine W.widen (k := 4) (n := 24) (Nat.le_of_ble_eq_true rfl) (Nat.le_of_ble_eq_true rfl) ?_
  refine lv_aload hx hb dX6_face_32 (lv_at hl 0 rfl) ?_
  refine lv_iload_n hx hb dX6_face_34 rfl (lv_at hl 3 rfl) ?_
  refine vp_callSi (W.runV (As := [.int b0]) (rest := []) ⟨hx, hb, hml, hown, hg⟩ (m_Place_holdsAnother l G cA ad σ (nx a0) (vp_lt (placeAt_in hk_2)) b0) (cwV 1 hg (gV qM_X6_85 qI_X2_holdsAnother qS_X2_holdsAnother qN_X2 kX2_holdsAnother) rfl rfl rfl (by decide +kernel) ⟨Nat.le_of_ble_eq_true rfl, Nat.le_of_ble_eq_true rfl⟩) (rr_pv hK hP (va_recv hK hP (ci := 2) (q0 := (nx a0)) rfl (rl_Place (vp_lt (placeAt_in hk_2))))) rfl rfl hl.1 rfl (lv_room (Nat.le_of_ble_eq_true rfl)) dX6_face_35 ⟨Nat.le_of_ble_eq_true rfl, Nat.le_of_ble_eq_true rfl⟩) (nm_e ?_)
  refine lv_if_eq (tgt := 51) hx hb dX6_face_38 (by decide) (fun c_38 => ?_) (fun c_38 => ?_)
  · -- ifeq taken
    refine lv_aload hx hb dX6_face_51 (lv_at hl 0 rfl) ?_
    refine lv_iload_n hx hb dX6_face_53 rfl (lv_at hl 3 rfl) ?_
    refine pp_put (D := G) (ci := 2) (v := .int b0) (ty := .int) (C := RX2) (T := TX2) (N := 13) hx hb hg hinX2 tyX2 tyX2_ok nmX2 hown hK hP (rr_D hJ) hS (nx a0) (rl_Place (vp_lt (placeAt_in hk_2))) rfl 7 (by decide) (hg _ qF_X6_91) (fun _ h9 => h9) rfl (by decide +kernel) rfl rfl (Nat.le_of_ble_eq_true rfl) (rs_Place_faceGood (vp_lt (placeAt_in hk_2))) dX6_face_54 (fun H locs hP hS => ?_)
    obtain ⟨σ1, eσ1⟩ : ∃ z, z = up σ 5 (nx a0) b0 := ⟨_, rfl⟩
    rw [← eσ1] at hP
    refine lv_aload hx hb dX6_face_57 (lv_at hl 0 rfl) ?_
    refine lv_iload_n hx hb dX6_face_59 rfl (lv_at hl 4 rfl) ?_
    refine pp_put (D := G) (ci := 2) (v := .int c0) (ty := .int) (C := RX2) (T := TX2) (N := 13) hx hb hg hinX2 tyX2 tyX2_ok nmX2 hown hK hP (rr_D hJ) hS (nx a0) (rl_Place (vp_lt (placeAt_in hk_2))) rfl 8 (by decide) (hg _ qF_X6_94) (fun _ h9 => h9) rfl (by decide +kernel) rfl rfl (Nat.le_of_ble_eq_true rfl) (rs_Place_least (vp_lt (placeAt_in hk_2))) dX6_face_60 (fun H locs hP hS => ?_)
    obtain ⟨σ2, eσ2⟩ : ∃ z, z = up σ1 6 (nx a0) c0 := ⟨_, rfl⟩
    rw [← eσ2] at hP
    refine lv_aload hx hb dX6_face_63 (lv_at hl 0 rfl) ?_
    refine lv_iload hx hb dX6_face_65 (lv_at hl 5 rfl) ?_
    refine pp_put (D := G) (ci := 2) (v := .int d0) (ty := .int) (C := RX2) (T := TX2) (N := 13) hx hb hg hinX2 tyX2 tyX2_ok nmX2 hown hK hP (rr_D hJ) hS (nx a0) (rl_Place (vp_lt (placeAt_in hk_2))) rfl 9 (by decide) (hg _ qF_X6_69) (fun _ h9 => h9) rfl (by decide +kernel) rfl rfl (Nat.le_of_ble_eq_true rfl) (rs_Place_most (vp_lt (placeAt_in hk_2))) dX6_face_67 (fun H locs hP hS => ?_)
    obtain ⟨σ3, eσ3⟩ : ∃ z, z = up σ2 7 (nx a0) d0 := ⟨_, rfl⟩
    rw [← eσ3] at hP
    refine W.widen (k := 5) (n := 30) (Nat.le_of_ble_eq_true rfl) (Nat.le_of_ble_eq_true rfl) ?_
    exact cx_ret (by simp only [c_faceK, hk_2, c_then_z, hk_11, c_then_z, hk_22, c_then_z, hk_29, c_then_z, if_pos c_38]) (W.vret hx hb hr (fun t ht hW => ⟨⟨_, σ3, rfl, ⟨rfl, by subst eσ1 eσ2 eσ3; rfl⟩, by rw [ht]; exact hP, va_K.moved hW.alike hK⟩, hS.F ht⟩) hS.2.2 dX6_face_70)
  · -- ifeq not taken
    have eK : c_faceK σ a0 b0 c0 d0 = 2 := by simp only [c_faceK, hk_2, c_then_z, hk_11, c_then_z, hk_22, c_then_z, hk_29, c_then_z, if_neg c_38]
    obtain ⟨sa, hstr⟩ := hT.2.2.2 ("ReplenishRules", 89, "the place holds another good") (by decide +kernel)
    exact cx_throw (own := RX6) (cls := "java/lang/IllegalStateException") (names := rr_nm) hx hb hl9 hown (by decide +kernel) rr_nm_fit (hg _ qK_X6_72) (hg _ qA_IllegalStateException) (hg _ qN_IllegalStateException) hstr (cx_words rr_at2 hg hT) hP0 hK hS (hl.1.trans hml.symm) dX6_face_41 dX6_face_44 dX6_face_45 dX6_face_47 dX6_face_50 hEx hlocks (Nat.le_of_ble_eq_true rfl) (Nat.le_of_ble_eq_true rfl) (Nat.le_of_ble_eq_true rfl) (Nat.le_of_ble_eq_true rfl) (by rw [eK]; decide) (by rw [eK]; rfl) (Nat.le_of_ble_eq_true rfl) (Nat.le_of_ble_eq_true rfl)

set_option maxHeartbeats 600000 in
set_option maxRecDepth 100000 in
theorem m_ReplenishRules_put (l : Launch) (hl9 : l.stackTraces = false) (G : va_G) (cA : Nat → ClassId) (ad : Nat → Nat) (σ : St) (hJ : rr_inj ad) (a0 : Int32) (b0 : Int32) (c0 : Int32) : cx_Met (rrA ad) l yX6_put wX6_put ({ frames := 8, cells := 5, slots := 30, locals := 134 }) [.ref (ad 66), .int a0, .int b0, .int c0] G cA ad σ (c_putK σ a0 b0 c0) (fun v τ => v = none ∧ τ = c_putS σ a0 b0 c0) 5 30 := by
  refine cx_ofW (cc := cX6_put) (maxL := 5) (ret := none) (by decide) ?_
  intro p e s m args below meth c s₁ B hml hEx hv
  obtain ⟨rfl, hP, hK, hT⟩ := hv
  have hx := B.exec
  have hb := B.bytes
  have hr := B.returns
  have hts := atoms_spec (ws := wX6_put :: wG) B.pre
  have hg : ∀ w ∈ wG, w.before _ s = true := fun w h => hts w (List.mem_cons_of_mem _ h)
  have hown : s.vm.findClass RX6 = some m.cls := findClass_of_methodNamed B.named
  have hlocks := B.notSynchronized
  have hS : va_S (rrA ad) s.heap s.heap [] := va_S.rf
  have hP0 := hP
  have hl := lv_entry ([.ref (ad 66), .int a0, .int b0, .int c0]) (n := 5) (Nat.le_of_ble_eq_true rfl)
  rw [lg_entry_eq]
  generalize (lg_sl ([.ref (ad 66), .int a0, .int b0, .int c0]) ++ List.replicate (5 - (lg_sl ([.ref (ad 66), .int a0, .int b0, .int c0])).length) Slot.unset).toArray = ls at hl ⊢
  have hl : lv_has ls 5 [(0, .ref (ad 66)), (1, .int a0), (2, .int b0), (3, .int c0)] := hl
  refine lv_aload_n hx hb dX6_put_0 rfl (lv_at hl 0 rfl) ?_
  refine lv_iload_n hx hb dX6_put_1 rfl (lv_at hl 1 rfl) ?_
  refine cx_callV (As := [.int a0]) (rest := []) ⟨hx, hb, hml, hown, hg⟩ (m_ReplenishRules_placeAt l hl9 G cA ad σ hJ a0) (cwV 1 hg (gV qM_X6_56 qI_X6_placeAt qS_X6_placeAt qN_X6 kX6_placeAt) rfl rfl rfl (by decide +kernel) ⟨Nat.le_of_ble_eq_true rfl, Nat.le_of_ble_eq_true rfl⟩) hK hP hT (fun _ h => h) hS (va_recv hK hP (ci := 6) (q0 := 66) rfl rl_main) rfl hl.1 rfl (lv_room (Nat.le_of_ble_eq_true rfl)) dX6_put_2 ⟨Nat.le_of_ble_eq_true rfl, Nat.le_of_ble_eq_true rfl⟩ hEx hlocks (Nat.le_of_ble_eq_true rfl) (Nat.le_of_ble_eq_true rfl) (fun hk_2 => by simp only [c_putK, c_then_n hk_2]) (fun hk_2 v9 τ9 H hR hP hS _ => ?_)
  obtain ⟨rfl, hτ9⟩ := hR
  rw [hτ9] at hP
  show W _ _ _ _ _ _ _ _ _ _ _ _ _ _ _ (F0 m 5 ls [.ref (ad (nx a0))])
  refine W.widen (k := 1) (n := 6) (Nat.le_of_ble_eq_true rfl) (Nat.le_of_ble_eq_true rfl) ?_
  refine lv_astore (lv' := [(4, .ref (ad (nx a0))), (0, .ref (ad 66)), (1, .int a0), (2, .int b0), (3, .int c0)]) hx hb dX6_put_5 hl (by decide) rfl (fun ls hl => ?_)
  refine lv_iload_n hx hb dX6_put_7 rfl (lv_at hl 3 rfl) ?_
  refine lv_iconst (v := 0) hx hb dX6_put_8 (by decide) ?_
  refine lv_bipush (v := 7) hx hb dX6_put_9 (by decide) ?_
  refine cx_callS (As := [.int b0, .int 0, .int 7]) (rest := []) ⟨hx, hb, hml, hown, hg⟩ (m_ReplenishRules_checkRange l hl9 G cA ad σ hJ b0 0 7) (cwS 3 hg (gS qM_X6_61 qT_X6_checkRange qN_X6 kX6_checkRange) rfl rfl rfl (by decide +kernel) ⟨Nat.le_of_ble_eq_true rfl, Nat.le_of_ble_eq_true rfl⟩) hK hP hT (fun _ h => h) hS  rfl hl.1 rfl (lv_room (Nat.le_of_ble_eq_true rfl)) dX6_put_11 ⟨Nat.le_of_ble_eq_true rfl, Nat.le_of_ble_eq_true rfl⟩ hEx hlocks (Nat.le_of_ble_eq_true rfl) (Nat.le_of_ble_eq_true rfl) (fun hk_11 => by simp only [c_putK, hk_2, c_then_z, c_then_n hk_11]) (fun hk_11 v9 τ9 H hR hP hS _ => ?_)
  obtain ⟨rfl, hτ9⟩ := hR
  rw [hτ9] at hP
  show W _ _ _ _ _ _ _ _ _ _ _ _ _ _ _ (F0 m 14 ls [])
  refine W.widen (k := 2) (n := 12) (Nat.le_of_ble_eq_true rfl) (Nat.le_of_ble_eq_true rfl) ?_
  refine lv_iload_n hx hb dX6_put_14 rfl (lv_at hl 4 rfl) ?_
  refine lv_iconst (v := 1) hx hb dX6_put_15 (by decide) ?_
  refine lv_ldc (v := 100000) hx hb hown (hg _ qC_X6_60) dX6_put_16 ?_
  refine cx_callS (As := [.int c0, .int 1, .int 100000]) (rest := []) ⟨hx, hb, hml, hown, hg⟩ (m_ReplenishRules_checkRange l hl9 G cA ad σ hJ c0 1 100000) (cwS 3 hg (gS qM_X6_61 qT_X6_checkRange qN_X6 kX6_checkRange) rfl rfl rfl (by decide +kernel) ⟨Nat.le_of_ble_eq_true rfl, Nat.le_of_ble_eq_true rfl⟩) hK hP hT (fun _ h => h) hS  rfl hl.1 rfl (lv_room (Nat.le_of_ble_eq_true rfl)) dX6_put_18 ⟨Nat.le_of_ble_eq_true rfl, Nat.le_of_ble_eq_true rfl⟩ hEx hlocks (Nat.le_of_ble_eq_true rfl) (Nat.le_of_ble_eq_true rfl) (fun hk_18 => by simp only [c_putK, hk_2, c_then_z, hk_11, c_then_z, c_then_n hk_18]) (fun hk_18 v9 τ9 H hR hP hS _ => ?_)
  obtain ⟨rfl, hτ9⟩ := hR
  rw [hτ9] at hP
  show W _ _ _ _ _ _ _ _ _ _ _ _ _ _ _ (F0 m 21 ls [])
  refine W.widen (k := 3) (n := 18) (Nat.le_of_ble_eq_true rfl) (Nat.le_of_ble_eq_true rfl) ?_
  refine lv_aload hx hb dX6_put_21 (lv_at hl 0 rfl) ?_
  refine lv_iload_n hx hb dX6_put_23 rfl (lv_at hl 3 rfl) ?_
  refine vp_callSi (W.runV (As := [.int b0]) (rest := []) ⟨hx, hb, hml, hown, hg⟩ (m_Place_holdsAnother l G cA ad σ (nx a0) (vp_lt (placeAt_in hk_2)) b0) (cwV 1 hg (gV qM_X6_85 qI_X2_holdsAnother qS_X2_holdsAnother qN_X2 kX2_holdsAnother) rfl rfl rfl (by decide +kernel) ⟨Nat.le_of_ble_eq_true rfl, Nat.le_of_ble_eq_true rfl⟩) (rr_pv hK hP (va_recv hK hP (ci := 2) (q0 := (nx a0)) rfl (rl_Place (vp_lt (placeAt_in hk_2))))) rfl rfl hl.1 rfl (lv_room (Nat.le_of_ble_eq_true rfl)) dX6_put_24 ⟨Nat.le_of_ble_eq_true rfl, Nat.le_of_ble_eq_true rfl⟩) (nm_e ?_)
  refine lv_if_ne (tgt := 39) hx hb dX6_put_27 (by decide) (fun c_27 => ?_) (fun c_27 => ?_)
  · -- ifne taken
    have eK : c_putK σ a0 b0 c0 = 2 := by simp only [c_putK, hk_2, c_then_z, hk_11, c_then_z, hk_18, c_then_z, if_neg c_27]
    obtain ⟨sa, hstr⟩ := hT.2.2.2 ("ReplenishRules", 100, "the place is for another good") (by decide +kernel)
    exact cx_throw (own := RX6) (cls := "java/lang/IllegalStateException") (names := rr_nm) hx hb hl9 hown (by decide +kernel) rr_nm_fit (hg _ qK_X6_72) (hg _ qA_IllegalStateException) (hg _ qN_IllegalStateException) hstr (cx_words rr_at2 hg hT) hP0 hK hS (hl.1.trans hml.symm) dX6_put_39 dX6_put_42 dX6_put_43 dX6_put_45 dX6_put_48 hEx hlocks (Nat.le_of_ble_eq_true rfl) (Nat.le_of_ble_eq_true rfl) (Nat.le_of_ble_eq_true rfl) (Nat.le_of_ble_eq_true rfl) (by rw [eK]; decide) (by rw [eK]; rfl) (Nat.le_of_ble_eq_true rfl) (Nat.le_of_ble_eq_true rfl)
  · -- ifne not taken
    refine lv_aload hx hb dX6_put_30 (lv_at hl 0 rfl) ?_
    refine lv_iload_n hx hb dX6_put_32 rfl (lv_at hl 3 rfl) ?_
    refine vp_callSi (W.runV (As := [.int b0]) (rest := []) ⟨hx, hb, hml, hown, hg⟩ (m_Place_isFaceOfAnother l G cA ad σ (nx a0) (vp_lt (placeAt_in hk_2)) b0) (cwV 1 hg (gV qM_X6_97 qI_X2_isFaceOfAnother qS_X2_isFaceOfAnother qN_X2 kX2_isFaceOfAnother) rfl rfl rfl (by decide +kernel) ⟨Nat.le_of_ble_eq_true rfl, Nat.le_of_ble_eq_true rfl⟩) (rr_pv hK hP (va_recv hK hP (ci := 2) (q0 := (nx a0)) rfl (rl_Place (vp_lt (placeAt_in hk_2))))) rfl rfl hl.1 rfl (lv_room (Nat.le_of_ble_eq_true rfl)) dX6_put_33 ⟨Nat.le_of_ble_eq_true rfl, Nat.le_of_ble_eq_true rfl⟩) (nm_e ?_)
    refine lv_if_eq (tgt := 49) hx hb dX6_put_36 (by decide) (fun c_36 => ?_) (fun c_36 => ?_)
    · -- ifeq taken
      refine lv_aload hx hb dX6_put_49 (lv_at hl 0 rfl) ?_
      refine lv_iload_n hx hb dX6_put_51 rfl (lv_at hl 4 rfl) ?_
      refine cx_callS (As := [.ref (ad (nx a0)), .int c0]) (rest := []) ⟨hx, hb, hml, hown, hg⟩ (m_ReplenishRules_checkSpace l hl9 G cA ad σ hJ (nx a0) (vp_lt (placeAt_in hk_2)) c0) (cwS 2 hg (gS qM_X6_102 qT_X6_checkSpace qN_X6 kX6_checkSpace) rfl rfl rfl (by decide +kernel) ⟨Nat.le_of_ble_eq_true rfl, Nat.le_of_ble_eq_true rfl⟩) hK hP hT (fun _ h => h) hS  rfl hl.1 rfl (lv_room (Nat.le_of_ble_eq_true rfl)) dX6_put_52 ⟨Nat.le_of_ble_eq_true rfl, Nat.le_of_ble_eq_true rfl⟩ hEx hlocks (Nat.le_of_ble_eq_true rfl) (Nat.le_of_ble_eq_true rfl) (fun hk_52 => by simp only [c_putK, hk_2, c_then_z, hk_11, c_then_z, hk_18, c_then_z, if_pos c_27, if_pos c_36, c_then_n hk_52]) (fun hk_52 v9 τ9 H hR hP hS _ => ?_)
      obtain ⟨rfl, hτ9⟩ := hR
      rw [hτ9] at hP
      show W _ _ _ _ _ _ _ _ _ _ _ _ _ _ _ (F0 m 55 ls [])
      refine W.widen (k := 4) (n := 24) (Nat.le_of_ble_eq_true rfl) (Nat.le_of_ble_eq_true rfl) ?_
      refine lv_aload hx hb dX6_put_55 (lv_at hl 0 rfl) ?_
      refine lv_iload_n hx hb dX6_put_57 rfl (lv_at hl 3 rfl) ?_
      refine lv_iload_n hx hb dX6_put_58 rfl (lv_at hl 4 rfl) ?_
      refine va_callv (va_runV (As := [.int b0, .int c0]) (rest := []) ⟨hx, hb, hml, hown, hg⟩ (m_Place_bring l G cA ad σ hJ (nx a0) (vp_lt (placeAt_in hk_2)) b0 c0) (cwV 2 hg (gV qM_X6_106 qI_X2_bring qS_X2_bring qN_X2 kX2_bring) rfl rfl rfl (by decide +kernel) ⟨Nat.le_of_ble_eq_true rfl, Nat.le_of_ble_eq_true rfl⟩) (rr_pv hK hP (va_recv hK hP (ci := 2) (q0 := (nx a0)) rfl (rl_Place (vp_lt (placeAt_in hk_2))))) rfl rfl hl.1 rfl (lv_room (Nat.le_of_ble_eq_true rfl)) dX6_put_59 ⟨Nat.le_of_ble_eq_true rfl, Nat.le_of_ble_eq_true rfl⟩) hS (fun q _ h => h) (fun q h => h) (fun σ1 t H locs ht hvm eσ1 hB hz9 hk9 hS => ?_)
      have hP := hB.1
      rw [ht] at hP
      refine W.widen (k := 5) (n := 30) (Nat.le_of_ble_eq_true rfl) (Nat.le_of_ble_eq_true rfl) ?_
      exact cx_ret (by simp only [c_putK, hk_2, c_then_z, hk_11, c_then_z, hk_18, c_then_z, if_pos c_27, if_pos c_36, hk_52, c_then_z]) (W.vret hx hb hr (fun t ht hW => ⟨⟨_, σ1, rfl, ⟨rfl, by subst eσ1; rfl⟩, by rw [ht]; exact hP, va_K.moved hW.alike hK⟩, hS.F ht⟩) hS.2.2 dX6_put_62)
    · -- ifeq not taken
      have eK : c_putK σ a0 b0 c0 = 2 := by simp only [c_putK, hk_2, c_then_z, hk_11, c_then_z, hk_18, c_then_z, if_pos c_27, if_neg c_36]
      obtain ⟨sa, hstr⟩ := hT.2.2.2 ("ReplenishRules", 100, "the place is for another good") (by decide +kernel)
      exact cx_throw (own := RX6) (cls := "java/lang/IllegalStateException") (names := rr_nm) hx hb hl9 hown (by decide +kernel) rr_nm_fit (hg _ qK_X6_72) (hg _ qA_IllegalStateException) (hg _ qN_IllegalStateException) hstr (cx_words rr_at2 hg hT) hP0 hK hS (hl.1.trans hml.symm) dX6_put_39 dX6_put_42 dX6_put_43 dX6_put_45 dX6_put_48 hEx hlocks (Nat.le_of_ble_eq_true rfl) (Nat.le_of_ble_eq_true rfl) (Nat.le_of_ble_eq_true rfl) (Nat.le_of_ble_eq_true rfl) (by rw [eK]; decide) (by rw [eK]; rfl) (Nat.le_of_ble_eq_true rfl) (Nat.le_of_ble_eq_true rfl)

set_option maxHeartbeats 600000 in
set_option maxRecDepth 100000 in
theorem m_ReplenishRules_use (l : Launch) (hl9 : l.stackTraces = false) (G : va_G) (cA : Nat → ClassId) (ad : Nat → Nat) (σ : St) (hJ : rr_inj ad) (hI : Inv σ) (a0 : Int32) (b0 : Int32) : cx_Met (rrA ad) l yX6_use wX6_use ({ frames := 9, cells := 4, slots := 24, locals := 156 }) [.ref (ad 66), .int a0, .int b0] G cA ad σ (c_useK σ a0 b0) (fun v τ => v = none ∧ τ = c_useS σ a0 b0) 4 24 := by
  refine cx_ofW (cc := cX6_use) (maxL := 4) (ret := none) (by decide) ?_
  intro p e s m args below meth c s₁ B hml hEx hv
  obtain ⟨rfl, hP, hK, hT⟩ := hv
  have hx := B.exec
  have hb := B.bytes
  have hr := B.returns
  have hts := atoms_spec (ws := wX6_use :: wG) B.pre
  have hg : ∀ w ∈ wG, w.before _ s = true := fun w h => hts w (List.mem_cons_of_mem _ h)
  have hown : s.vm.findClass RX6 = some m.cls := findClass_of_methodNamed B.named
  have hlocks := B.notSynchronized
  have hS : va_S (rrA ad) s.heap s.heap [] := va_S.rf
  have hP0 := hP
  have hl := lv_entry ([.ref (ad 66), .int a0, .int b0]) (n := 4) (Nat.le_of_ble_eq_true rfl)
  rw [lg_entry_eq]
  generalize (lg_sl ([.ref (ad 66), .int a0, .int b0]) ++ List.replicate (4 - (lg_sl ([.ref (ad 66), .int a0, .int b0])).length) Slot.unset).toArray = ls at hl ⊢
  have hl : lv_has ls 4 [(0, .ref (ad 66)), (1, .int a0), (2, .int b0)] := hl
  refine lv_iload_n hx hb dX6_use_0 rfl (lv_at hl 2 rfl) ?_
  refine lv_iconst (v := 1) hx hb dX6_use_1 (by decide) ?_
  refine lv_ldc (v := 100000) hx hb hown (hg _ qC_X6_60) dX6_use_2 ?_
  refine cx_callS (As := [.int b0, .int 1, .int 100000]) (rest := []) ⟨hx, hb, hml, hown, hg⟩ (m_ReplenishRules_checkRange l hl9 G cA ad σ hJ b0 1 100000) (cwS 3 hg (gS qM_X6_61 qT_X6_checkRange qN_X6 kX6_checkRange) rfl rfl rfl (by decide +kernel) ⟨Nat.le_of_ble_eq_true rfl, Nat.le_of_ble_eq_true rfl⟩) hK hP hT (fun _ h => h) hS  rfl hl.1 rfl (lv_room (Nat.le_of_ble_eq_true rfl)) dX6_use_4 ⟨Nat.le_of_ble_eq_true rfl, Nat.le_of_ble_eq_true rfl⟩ hEx hlocks (Nat.le_of_ble_eq_true rfl) (Nat.le_of_ble_eq_true rfl) (fun hk_4 => by simp only [c_useK, c_then_n hk_4]) (fun hk_4 v9 τ9 H hR hP hS _ => ?_)
  obtain ⟨rfl, hτ9⟩ := hR
  rw [hτ9] at hP
  show W _ _ _ _ _ _ _ _ _ _ _ _ _ _ _ (F0 m 7 ls [])
  refine W.widen (k := 1) (n := 6) (Nat.le_of_ble_eq_true rfl) (Nat.le_of_ble_eq_true rfl) ?_
  refine lv_aload_n hx hb dX6_use_7 rfl (lv_at hl 0 rfl) ?_
  refine lv_iload_n hx hb dX6_use_8 rfl (lv_at hl 1 rfl) ?_
  refine cx_callV (As := [.int a0]) (rest := []) ⟨hx, hb, hml, hown, hg⟩ (m_ReplenishRules_faceAt l hl9 G cA ad σ hJ a0) (cwV 1 hg (gV qM_X6_110 qI_X6_faceAt qS_X6_faceAt qN_X6 kX6_faceAt) rfl rfl rfl (by decide +kernel) ⟨Nat.le_of_ble_eq_true rfl, Nat.le_of_ble_eq_true rfl⟩) hK hP hT (fun _ h => h) hS (va_recv hK hP (ci := 6) (q0 := 66) rfl rl_main) rfl hl.1 rfl (lv_room (Nat.le_of_ble_eq_true rfl)) dX6_use_9 ⟨Nat.le_of_ble_eq_true rfl, Nat.le_of_ble_eq_true rfl⟩ hEx hlocks (Nat.le_of_ble_eq_true rfl) (Nat.le_of_ble_eq_true rfl) (fun hk_9 => by simp only [c_useK, hk_4, c_then_z, c_then_n hk_9]) (fun hk_9 v9 τ9 H hR hP hS _ => ?_)
  obtain ⟨rfl, hτ9⟩ := hR
  rw [hτ9] at hP
  show W _ _ _ _ _ _ _ _ _ _ _ _ _ _ _ (F0 m 12 ls [.ref (ad (nx a0))])
  refine W.widen (k := 3) (n := 18) (Nat.le_of_ble_eq_true rfl) (Nat.le_of_ble_eq_true rfl) ?_
  refine lv_astore_n (lv' := [(3, .ref (ad (nx a0))), (0, .ref (ad 66)), (1, .int a0), (2, .int b0)]) hx hb dX6_use_12 rfl hl (by decide) rfl (fun ls hl => ?_)
  refine lv_aload_n hx hb dX6_use_13 rfl (lv_at hl 0 rfl) ?_
  refine vp_callSi (W.runV (As := []) (rest := []) ⟨hx, hb, hml, hown, hg⟩ (m_Place_notHeld l G cA ad σ (nx a0) (vp_lt (placeAt_in (faceAt_place hk_9).1))) (cwV 0 hg (gV qM_X6_113 qI_X2_notHeld qS_X2_notHeld qN_X2 kX2_notHeld) rfl rfl rfl (by decide +kernel) ⟨Nat.le_of_ble_eq_true rfl, Nat.le_of_ble_eq_true rfl⟩) (rr_pv hK hP (va_recv hK hP (ci := 2) (q0 := (nx a0)) rfl (rl_Place (vp_lt (placeAt_in (faceAt_place hk_9).1))))) rfl rfl hl.1 rfl (lv_room (Nat.le_of_ble_eq_true rfl)) dX6_use_14 ⟨Nat.le_of_ble_eq_true rfl, Nat.le_of_ble_eq_true rfl⟩) (nm_e ?_)
  refine lv_iload_n hx hb dX6_use_17 rfl (lv_at hl 3 rfl) ?_
  refine lv_icmp_ge (tgt := 31) hx hb dX6_use_18 (by decide) (fun c_18 => ?_) (fun c_18 => ?_)
  · -- if_icmpge taken
    refine lv_aload_n hx hb dX6_use_31 rfl (lv_at hl 0 rfl) ?_
    refine lv_iload_n hx hb dX6_use_32 rfl (lv_at hl 3 rfl) ?_
    refine va_callv (va_runV (As := [.int b0]) (rest := []) ⟨hx, hb, hml, hown, hg⟩ (m_Place_takeAway l G cA ad σ hJ (nx a0) (vp_lt (placeAt_in (faceAt_place hk_9).1)) b0) (cwV 1 hg (gV qM_X6_119 qI_X2_takeAway qS_X2_takeAway qN_X2 kX2_takeAway) rfl rfl rfl (by decide +kernel) ⟨Nat.le_of_ble_eq_true rfl, Nat.le_of_ble_eq_true rfl⟩) (rr_pv hK hP (va_recv hK hP (ci := 2) (q0 := (nx a0)) rfl (rl_Place (vp_lt (placeAt_in (faceAt_place hk_9).1))))) rfl rfl hl.1 rfl (lv_room (Nat.le_of_ble_eq_true rfl)) dX6_use_33 ⟨Nat.le_of_ble_eq_true rfl, Nat.le_of_ble_eq_true rfl⟩) hS (fun q _ h => h) (fun q h => h) (fun σ1 t H locs ht hvm eσ1 hB hz9 hk9 hS => ?_)
    have hP := hB.1
    rw [ht] at hP
    refine lv_aload_n hx hb dX6_use_36 rfl (lv_at hl 0 rfl) ?_
    refine va_get (D := G) (ci := 2) (v := .ref (ad (16 + (nx a0)))) (C := RX2) (T := TX2) (N := 13) hx hb hg hinX2 hown hK hP (nx a0) (rl_Place (vp_lt (placeAt_in (faceAt_place hk_9).1))) rfl 1 (by decide) (hg _ qF_X6_122) (fun _ h9 => h9) rfl dX6_use_37 ?_
    refine lv_aload_n hx hb dX6_use_40 rfl (lv_at hl 1 rfl) ?_
    refine va_get (D := G) (ci := 6) (v := .ref (ad 72)) (C := RX6) (T := TX6) (N := 8) hx hb hg hinX6 hown hK hP 66 rl_main rfl 5 (by decide) (hg _ qF_X6_34) (fun _ h9 => h9) rfl dX6_use_41 ?_
    refine va_get (D := G) (ci := 0) (v := .int (σ1 40 0)) (C := RX0) (T := TX0) (N := 2) hx hb hg hinX0 hown hK hP 72 rl_Calendar rfl 1 (by decide) (hg _ qF_X6_125) (fun _ h9 => h9) rfl dX6_use_44 ?_
    refine lv_dup2_11 hx hb dX6_use_47 rfl rfl ?_
    refine va_iald hx hb hK hP (16 + (nx a0)) 0 (rl_Used (vp_lt (placeAt_in (faceAt_place hk_9).1))) rfl (by rw [eσ1, take_row (by decide)]; exact inv_today hI) dX6_use_48 ?_
    refine lv_iload_n hx hb dX6_use_49 rfl (lv_at hl 3 rfl) ?_
    refine lv_iadd hx hb dX6_use_50 ?_
    refine pp_iast (x := ((σ1 (100 + (nx a0)) (nx (σ1 40 0))) + b0)) hx hb hK hP (rr_D hJ) hS (16 + (nx a0)) 0 (rl_Used (vp_lt (placeAt_in (faceAt_place hk_9).1))) rfl (by rw [eσ1, take_row (by decide)]; exact inv_today hI) (rs_Used (vp_lt (placeAt_in (faceAt_place hk_9).1))) dX6_use_51 (fun H locs hP hS => ?_)
    obtain ⟨σ2, eσ2⟩ : ∃ z, z = up σ1 (100 + (nx a0)) (nx (σ1 40 0)) ((σ1 (100 + (nx a0)) (nx (σ1 40 0))) + b0) := ⟨_, rfl⟩
    rw [← eσ2] at hP
    refine W.widen (k := 4) (n := 24) (Nat.le_of_ble_eq_true rfl) (Nat.le_of_ble_eq_true rfl) ?_
    exact cx_ret (by simp only [c_useK, hk_4, c_then_z, hk_9, c_then_z, if_pos c_18]) (W.vret hx hb hr (fun t ht hW => ⟨⟨_, σ2, rfl, ⟨rfl, by subst eσ1 eσ2; rfl⟩, by rw [ht]; exact hP, va_K.moved hW.alike hK⟩, hS.F ht⟩) hS.2.2 dX6_use_52)
  · -- if_icmpge not taken
    have eK : c_useK σ a0 b0 = 2 := by simp only [c_useK, hk_4, c_then_z, hk_9, c_then_z, if_neg c_18]
    obtain ⟨sa, hstr⟩ := hT.2.2.2 ("ReplenishRules", 117, "the face has not so many that are not held") (by decide +kernel)
    exact cx_throw (own := RX6) (cls := "java/lang/IllegalStateException") (names := rr_nm) hx hb hl9 hown (by decide +kernel) rr_nm_fit (hg _ qK_X6_72) (hg _ qA_IllegalStateException) (hg _ qN_IllegalStateException) hstr (cx_words rr_at2 hg hT) hP0 hK hS (hl.1.trans hml.symm) dX6_use_21 dX6_use_24 dX6_use_25 dX6_use_27 dX6_use_30 hEx hlocks (Nat.le_of_ble_eq_true rfl) (Nat.le_of_ble_eq_true rfl) (Nat.le_of_ble_eq_true rfl) (Nat.le_of_ble_eq_true rfl) (by rw [eK]; decide) (by rw [eK]; rfl) (Nat.le_of_ble_eq_true rfl) (Nat.le_of_ble_eq_true rfl)

set_option maxHeartbeats 600000 in
set_option maxRecDepth 100000 in
theorem m_ReplenishRules_hold (l : Launch) (hl9 : l.stackTraces = false) (G : va_G) (cA : Nat → ClassId) (ad : Nat → Nat) (σ : St) (hJ : rr_inj ad) (a0 : Int32) (b0 : Int32) : cx_Met (rrA ad) l yX6_hold wX6_hold ({ frames := 8, cells := 3, slots := 18, locals := 134 }) [.ref (ad 66), .int a0, .int b0] G cA ad σ (c_holdK σ a0 b0) (fun v τ => v = none ∧ τ = c_holdS σ a0 b0) 3 18 := by
  refine cx_ofW (cc := cX6_hold) (maxL := 4) (ret := none) (by decide) ?_
  intro p e s m args below meth c s₁ B hml hEx hv
  obtain ⟨rfl, hP, hK, hT⟩ := hv
  have hx := B.exec
  have hb := B.bytes
  have hr := B.returns
  have hts := atoms_spec (ws := wX6_hold :: wG) B.pre
  have hg : ∀ w ∈ wG, w.before _ s = true := fun w h => hts w (List.mem_cons_of_mem _ h)
  have hown : s.vm.findClass RX6 = some m.cls := findClass_of_methodNamed B.named
  have hlocks := B.notSynchronized
  have hS : va_S (rrA ad) s.heap s.heap [] := va_S.rf
  have hP0 := hP
  have hl := lv_entry ([.ref (ad 66), .int a0, .int b0]) (n := 4) (Nat.le_of_ble_eq_true rfl)
  rw [lg_entry_eq]
  generalize (lg_sl ([.ref (ad 66), .int a0, .int b0]) ++ List.replicate (4 - (lg_sl ([.ref (ad 66), .int a0, .int b0])).length) Slot.unset).toArray = ls at hl ⊢
  have hl : lv_has ls 4 [(0, .ref (ad 66)), (1, .int a0), (2, .int b0)] := hl
  refine lv_aload_n hx hb dX6_hold_0 rfl (lv_at hl 0 rfl) ?_
  refine lv_iload_n hx hb dX6_hold_1 rfl (lv_at hl 1 rfl) ?_
  refine cx_callV (As := [.int a0]) (rest := []) ⟨hx, hb, hml, hown, hg⟩ (m_ReplenishRules_placeAt l hl9 G cA ad σ hJ a0) (cwV 1 hg (gV qM_X6_56 qI_X6_placeAt qS_X6_placeAt qN_X6 kX6_placeAt) rfl rfl rfl (by decide +kernel) ⟨Nat.le_of_ble_eq_true rfl, Nat.le_of_ble_eq_true rfl⟩) hK hP hT (fun _ h => h) hS (va_recv hK hP (ci := 6) (q0 := 66) rfl rl_main) rfl hl.1 rfl (lv_room (Nat.le_of_ble_eq_true rfl)) dX6_hold_2 ⟨Nat.le_of_ble_eq_true rfl, Nat.le_of_ble_eq_true rfl⟩ hEx hlocks (Nat.le_of_ble_eq_true rfl) (Nat.le_of_ble_eq_true rfl) (fun hk_2 => by simp only [c_holdK, c_then_n hk_2]) (fun hk_2 v9 τ9 H hR hP hS _ => ?_)
  obtain ⟨rfl, hτ9⟩ := hR
  rw [hτ9] at hP
  show W _ _ _ _ _ _ _ _ _ _ _ _ _ _ _ (F0 m 5 ls [.ref (ad (nx a0))])
  refine W.widen (k := 1) (n := 6) (Nat.le_of_ble_eq_true rfl) (Nat.le_of_ble_eq_true rfl) ?_
  refine lv_astore_n (lv' := [(3, .ref (ad (nx a0))), (0, .ref (ad 66)), (1, .int a0), (2, .int b0)]) hx hb dX6_hold_5 rfl hl (by decide) rfl (fun ls hl => ?_)
  refine lv_iload_n hx hb dX6_hold_6 rfl (lv_at hl 3 rfl) ?_
  refine lv_iconst (v := 0) hx hb dX6_hold_7 (by decide) ?_
  refine lv_ldc (v := 2147483647) hx hb hown (hg _ qC_X6_130) dX6_hold_8 ?_
  refine cx_callS (As := [.int b0, .int 0, .int 2147483647]) (rest := []) ⟨hx, hb, hml, hown, hg⟩ (m_ReplenishRules_checkRange l hl9 G cA ad σ hJ b0 0 2147483647) (cwS 3 hg (gS qM_X6_61 qT_X6_checkRange qN_X6 kX6_checkRange) rfl rfl rfl (by decide +kernel) ⟨Nat.le_of_ble_eq_true rfl, Nat.le_of_ble_eq_true rfl⟩) hK hP hT (fun _ h => h) hS  rfl hl.1 rfl (lv_room (Nat.le_of_ble_eq_true rfl)) dX6_hold_10 ⟨Nat.le_of_ble_eq_true rfl, Nat.le_of_ble_eq_true rfl⟩ hEx hlocks (Nat.le_of_ble_eq_true rfl) (Nat.le_of_ble_eq_true rfl) (fun hk_10 => by simp only [c_holdK, hk_2, c_then_z, c_then_n hk_10]) (fun hk_10 v9 τ9 H hR hP hS _ => ?_)
  obtain ⟨rfl, hτ9⟩ := hR
  rw [hτ9] at hP
  show W _ _ _ _ _ _ _ _ _ _ _ _ _ _ _ (F0 m 13 ls [])
  refine W.widen (k := 2) (n := 12) (Nat.le_of_ble_eq_true rfl) (Nat.le_of_ble_eq_true rfl) ?_
  refine lv_aload_n hx hb dX6_hold_13 rfl (lv_at hl 0 rfl) ?_
  refine va_get (D := G) (ci := 2) (v := .int (σ 2 (nx a0))) (C := RX2) (T := TX2) (N := 13) hx hb hg hinX2 hown hK hP (nx a0) (rl_Place (vp_lt (placeAt_in hk_2))) rfl 4 (by decide) (hg _ qF_X6_65) (fun _ h9 => h9) rfl dX6_hold_14 ?_
  refine lv_iload_n hx hb dX6_hold_17 rfl (lv_at hl 3 rfl) ?_
  refine lv_icmp_ge (tgt := 31) hx hb dX6_hold_18 (by decide) (fun c_18 => ?_) (fun c_18 => ?_)
  · -- if_icmpge taken
    refine lv_aload_n hx hb dX6_hold_31 rfl (lv_at hl 0 rfl) ?_
    refine lv_iload_n hx hb dX6_hold_32 rfl (lv_at hl 3 rfl) ?_
    refine pp_put (D := G) (ci := 2) (v := .int b0) (ty := .int) (C := RX2) (T := TX2) (N := 13) hx hb hg hinX2 tyX2 tyX2_ok nmX2 hown hK hP (rr_D hJ) hS (nx a0) (rl_Place (vp_lt (placeAt_in hk_2))) rfl 5 (by decide) (hg _ qF_X6_133) (fun _ h9 => h9) rfl (by decide +kernel) rfl rfl (Nat.le_of_ble_eq_true rfl) (rs_Place_held (vp_lt (placeAt_in hk_2))) dX6_hold_33 (fun H locs hP hS => ?_)
    obtain ⟨σ1, eσ1⟩ : ∃ z, z = up σ 3 (nx a0) b0 := ⟨_, rfl⟩
    rw [← eσ1] at hP
    refine W.widen (k := 3) (n := 18) (Nat.le_of_ble_eq_true rfl) (Nat.le_of_ble_eq_true rfl) ?_
    exact cx_ret (by simp only [c_holdK, hk_2, c_then_z, hk_10, c_then_z, if_pos c_18]) (W.vret hx hb hr (fun t ht hW => ⟨⟨_, σ1, rfl, ⟨rfl, by subst eσ1; rfl⟩, by rw [ht]; exact hP, va_K.moved hW.alike hK⟩, hS.F ht⟩) hS.2.2 dX6_hold_36)
  · -- if_icmpge not taken
    have eK : c_holdK σ a0 b0 = 2 := by simp only [c_holdK, hk_2, c_then_z, hk_10, c_then_z, if_neg c_18]
    obtain ⟨sa, hstr⟩ := hT.2.2.2 ("ReplenishRules", 131, "the place has not so many") (by decide +kernel)
    exact cx_throw (own := RX6) (cls := "java/lang/IllegalStateException") (names := rr_nm) hx hb hl9 hown (by decide +kernel) rr_nm_fit (hg _ qK_X6_72) (hg _ qA_IllegalStateException) (hg _ qN_IllegalStateException) hstr (cx_words rr_at2 hg hT) hP0 hK hS (hl.1.trans hml.symm) dX6_hold_21 dX6_hold_24 dX6_hold_25 dX6_hold_27 dX6_hold_30 hEx hlocks (Nat.le_of_ble_eq_true rfl) (Nat.le_of_ble_eq_true rfl) (Nat.le_of_ble_eq_true rfl) (Nat.le_of_ble_eq_true rfl) (by rw [eK]; decide) (by rw [eK]; rfl) (Nat.le_of_ble_eq_true rfl) (Nat.le_of_ble_eq_true rfl)

set_option maxHeartbeats 600000 in
set_option maxRecDepth 100000 in
theorem m_ReplenishRules_cases (l : Launch) (hl9 : l.stackTraces = false) (G : va_G) (cA : Nat → ClassId) (ad : Nat → Nat) (σ : St) (hJ : rr_inj ad) (a0 : Int32) (b0 : Int32) : cx_Met (rrA ad) l yX6_cases wX6_cases ({ frames := 7, cells := 2, slots := 12, locals := 113 }) [.ref (ad 66), .int a0, .int b0] G cA ad σ (c_casesK a0 b0) (fun v τ => v = none ∧ τ = c_casesS σ a0 b0) 2 12 := by
  refine cx_ofW (cc := cX6_cases) (maxL := 3) (ret := none) (by decide) ?_
  intro p e s m args below meth c s₁ B hml hEx hv
  obtain ⟨rfl, hP, hK, hT⟩ := hv
  have hx := B.exec
  have hb := B.bytes
  have hr := B.returns
  have hts := atoms_spec (ws := wX6_cases :: wG) B.pre
  have hg : ∀ w ∈ wG, w.before _ s = true := fun w h => hts w (List.mem_cons_of_mem _ h)
  have hown : s.vm.findClass RX6 = some m.cls := findClass_of_methodNamed B.named
  have hlocks := B.notSynchronized
  have hS : va_S (rrA ad) s.heap s.heap [] := va_S.rf
  have hP0 := hP
  have hl := lv_entry ([.ref (ad 66), .int a0, .int b0]) (n := 3) (Nat.le_of_ble_eq_true rfl)
  rw [lg_entry_eq]
  generalize (lg_sl ([.ref (ad 66), .int a0, .int b0]) ++ List.replicate (3 - (lg_sl ([.ref (ad 66), .int a0, .int b0])).length) Slot.unset).toArray = ls at hl ⊢
  have hl : lv_has ls 3 [(0, .ref (ad 66)), (1, .int a0), (2, .int b0)] := hl
  refine lv_iload_n hx hb dX6_cases_0 rfl (lv_at hl 1 rfl) ?_
  refine lv_iconst (v := 0) hx hb dX6_cases_1 (by decide) ?_
  refine lv_bipush (v := 7) hx hb dX6_cases_2 (by decide) ?_
  refine cx_callS (As := [.int a0, .int 0, .int 7]) (rest := []) ⟨hx, hb, hml, hown, hg⟩ (m_ReplenishRules_checkRange l hl9 G cA ad σ hJ a0 0 7) (cwS 3 hg (gS qM_X6_61 qT_X6_checkRange qN_X6 kX6_checkRange) rfl rfl rfl (by decide +kernel) ⟨Nat.le_of_ble_eq_true rfl, Nat.le_of_ble_eq_true rfl⟩) hK hP hT (fun _ h => h) hS  rfl hl.1 rfl (lv_room (Nat.le_of_ble_eq_true rfl)) dX6_cases_4 ⟨Nat.le_of_ble_eq_true rfl, Nat.le_of_ble_eq_true rfl⟩ hEx hlocks (Nat.le_of_ble_eq_true rfl) (Nat.le_of_ble_eq_true rfl) (fun hk_4 => by simp only [c_casesK, c_then_n hk_4]) (fun hk_4 v9 τ9 H hR hP hS _ => ?_)
  obtain ⟨rfl, hτ9⟩ := hR
  rw [hτ9] at hP
  show W _ _ _ _ _ _ _ _ _ _ _ _ _ _ _ (F0 m 7 ls [])
  refine W.widen (k := 1) (n := 6) (Nat.le_of_ble_eq_true rfl) (Nat.le_of_ble_eq_true rfl) ?_
  refine lv_iload_n hx hb dX6_cases_7 rfl (lv_at hl 2 rfl) ?_
  refine lv_iconst (v := 1) hx hb dX6_cases_8 (by decide) ?_
  refine lv_sipush (v := 1000) hx hb dX6_cases_9 (by decide) ?_
  refine cx_callS (As := [.int b0, .int 1, .int 1000]) (rest := []) ⟨hx, hb, hml, hown, hg⟩ (m_ReplenishRules_checkRange l hl9 G cA ad σ hJ b0 1 1000) (cwS 3 hg (gS qM_X6_61 qT_X6_checkRange qN_X6 kX6_checkRange) rfl rfl rfl (by decide +kernel) ⟨Nat.le_of_ble_eq_true rfl, Nat.le_of_ble_eq_true rfl⟩) hK hP hT (fun _ h => h) hS  rfl hl.1 rfl (lv_room (Nat.le_of_ble_eq_true rfl)) dX6_cases_12 ⟨Nat.le_of_ble_eq_true rfl, Nat.le_of_ble_eq_true rfl⟩ hEx hlocks (Nat.le_of_ble_eq_true rfl) (Nat.le_of_ble_eq_true rfl) (fun hk_12 => by simp only [c_casesK, hk_4, c_then_z, c_then_n hk_12]) (fun hk_12 v9 τ9 H hR hP hS _ => ?_)
  obtain ⟨rfl, hτ9⟩ := hR
  rw [hτ9] at hP
  show W _ _ _ _ _ _ _ _ _ _ _ _ _ _ _ (F0 m 15 ls [])
  refine W.widen (k := 2) (n := 12) (Nat.le_of_ble_eq_true rfl) (Nat.le_of_ble_eq_true rfl) ?_
  refine lv_aload_n hx hb dX6_cases_15 rfl (lv_at hl 0 rfl) ?_
  refine va_get (D := G) (ci := 6) (v := .ref (ad 69)) (C := RX6) (T := TX6) (N := 8) hx hb hg hinX6 hown hK hP 66 rl_main rfl 2 (by decide) (hg _ qF_X6_21) (fun _ h9 => h9) rfl dX6_cases_16 ?_
  refine lv_iload_n hx hb dX6_cases_19 rfl (lv_at hl 1 rfl) ?_
  refine lv_iload_n hx hb dX6_cases_20 rfl (lv_at hl 2 rfl) ?_
  refine pp_iast (x := b0) hx hb hK hP (rr_D hJ) hS 69 0 rl_casesA rfl (rg_in (b := 7) rfl hk_4) (rs_casesA) dX6_cases_21 (fun H locs hP hS => ?_)
  obtain ⟨σ1, eσ1⟩ : ∃ z, z = up σ 30 (nx a0) b0 := ⟨_, rfl⟩
  rw [← eσ1] at hP
  refine W.widen (k := 2) (n := 12) (Nat.le_of_ble_eq_true rfl) (Nat.le_of_ble_eq_true rfl) ?_
  exact cx_ret (by simp only [c_casesK, hk_4, c_then_z, hk_12, c_then_z]) (W.vret hx hb hr (fun t ht hW => ⟨⟨_, σ1, rfl, ⟨rfl, by subst eσ1; rfl⟩, by rw [ht]; exact hP, va_K.moved hW.alike hK⟩, hS.F ht⟩) hS.2.2 dX6_cases_22)

set_option maxHeartbeats 600000 in
set_option maxRecDepth 100000 in
theorem m_ReplenishRules_rule (l : Launch) (hl9 : l.stackTraces = false) (G : va_G) (cA : Nat → ClassId) (ad : Nat → Nat) (σ : St) (hJ : rr_inj ad) (a0 : Int32) (b0 : Int32) (c0 : Int32) (d0 : Int32) : cx_Met (rrA ad) l yX6_rule wX6_rule ({ frames := 7, cells := 4, slots := 24, locals := 113 }) [.ref (ad 66), .int a0, .int b0, .int c0, .int d0] G cA ad σ (c_ruleK a0 b0 c0 d0) (fun v τ => v = none ∧ τ = c_ruleS σ a0 b0 c0 d0) 4 24 := by
  refine cx_ofW (cc := cX6_rule) (maxL := 6) (ret := none) (by decide) ?_
  intro p e s m args below meth c s₁ B hml hEx hv
  obtain ⟨rfl, hP, hK, hT⟩ := hv
  have hx := B.exec
  have hb := B.bytes
  have hr := B.returns
  have hts := atoms_spec (ws := wX6_rule :: wG) B.pre
  have hg : ∀ w ∈ wG, w.before _ s = true := fun w h => hts w (List.mem_cons_of_mem _ h)
  have hown : s.vm.findClass RX6 = some m.cls := findClass_of_methodNamed B.named
  have hlocks := B.notSynchronized
  have hS : va_S (rrA ad) s.heap s.heap [] := va_S.rf
  have hP0 := hP
  have hl := lv_entry ([.ref (ad 66), .int a0, .int b0, .int c0, .int d0]) (n := 6) (Nat.le_of_ble_eq_true rfl)
  rw [lg_entry_eq]
  generalize (lg_sl ([.ref (ad 66), .int a0, .int b0, .int c0, .int d0]) ++ List.replicate (6 - (lg_sl ([.ref (ad 66), .int a0, .int b0, .int c0, .int d0])).length) Slot.unset).toArray = ls at hl ⊢
  have hl : lv_has ls 6 [(0, .ref (ad 66)), (1, .int a0), (2, .int b0), (3, .int c0), (4, .int d0)] := hl
  refine lv_iload_n hx hb dX6_rule_0 rfl (lv_at hl 1 rfl) ?_
  refine lv_iconst (v := 0) hx hb dX6_rule_1 (by decide) ?_
  refine lv_iconst (v := 3) hx hb dX6_rule_2 (by decide) ?_
  refine cx_callS (As := [.int a0, .int 0, .int 3]) (rest := []) ⟨hx, hb, hml, hown, hg⟩ (m_ReplenishRules_checkRange l hl9 G cA ad σ hJ a0 0 3) (cwS 3 hg (gS qM_X6_61 qT_X6_checkRange qN_X6 kX6_checkRange) rfl rfl rfl (by decide +kernel) ⟨Nat.le_of_ble_eq_true rfl, Nat.le_of_ble_eq_true rfl⟩) hK hP hT (fun _ h => h) hS  rfl hl.1 rfl (lv_room (Nat.le_of_ble_eq_true rfl)) dX6_rule_3 ⟨Nat.le_of_ble_eq_true rfl, Nat.le_of_ble_eq_true rfl⟩ hEx hlocks (Nat.le_of_ble_eq_true rfl) (Nat.le_of_ble_eq_true rfl) (fun hk_3 => by simp only [c_ruleK, c_then_n hk_3]) (fun hk_3 v9 τ9 H hR hP hS _ => ?_)
  obtain ⟨rfl, hτ9⟩ := hR
  rw [hτ9] at hP
  show W _ _ _ _ _ _ _ _ _ _ _ _ _ _ _ (F0 m 6 ls [])
  refine W.widen (k := 1) (n := 6) (Nat.le_of_ble_eq_true rfl) (Nat.le_of_ble_eq_true rfl) ?_
  refine lv_iload_n hx hb dX6_rule_6 rfl (lv_at hl 2 rfl) ?_
  refine lv_iconst (v := 0) hx hb dX6_rule_7 (by decide) ?_
  refine lv_iconst (v := 2) hx hb dX6_rule_8 (by decide) ?_
  refine cx_callS (As := [.int b0, .int 0, .int 2]) (rest := []) ⟨hx, hb, hml, hown, hg⟩ (m_ReplenishRules_checkRange l hl9 G cA ad σ hJ b0 0 2) (cwS 3 hg (gS qM_X6_61 qT_X6_checkRange qN_X6 kX6_checkRange) rfl rfl rfl (by decide +kernel) ⟨Nat.le_of_ble_eq_true rfl, Nat.le_of_ble_eq_true rfl⟩) hK hP hT (fun _ h => h) hS  rfl hl.1 rfl (lv_room (Nat.le_of_ble_eq_true rfl)) dX6_rule_9 ⟨Nat.le_of_ble_eq_true rfl, Nat.le_of_ble_eq_true rfl⟩ hEx hlocks (Nat.le_of_ble_eq_true rfl) (Nat.le_of_ble_eq_true rfl) (fun hk_9 => by simp only [c_ruleK, hk_3, c_then_z, c_then_n hk_9]) (fun hk_9 v9 τ9 H hR hP hS _ => ?_)
  obtain ⟨rfl, hτ9⟩ := hR
  rw [hτ9] at hP
  show W _ _ _ _ _ _ _ _ _ _ _ _ _ _ _ (F0 m 12 ls [])
  refine W.widen (k := 2) (n := 12) (Nat.le_of_ble_eq_true rfl) (Nat.le_of_ble_eq_true rfl) ?_
  refine lv_iload_n hx hb dX6_rule_12 rfl (lv_at hl 3 rfl) ?_
  refine lv_iconst (v := 1) hx hb dX6_rule_13 (by decide) ?_
  refine lv_bipush (v := 30) hx hb dX6_rule_14 (by decide) ?_
  refine cx_callS (As := [.int c0, .int 1, .int 30]) (rest := []) ⟨hx, hb, hml, hown, hg⟩ (m_ReplenishRules_checkRange l hl9 G cA ad σ hJ c0 1 30) (cwS 3 hg (gS qM_X6_61 qT_X6_checkRange qN_X6 kX6_checkRange) rfl rfl rfl (by decide +kernel) ⟨Nat.le_of_ble_eq_true rfl, Nat.le_of_ble_eq_true rfl⟩) hK hP hT (fun _ h => h) hS  rfl hl.1 rfl (lv_room (Nat.le_of_ble_eq_true rfl)) dX6_rule_16 ⟨Nat.le_of_ble_eq_true rfl, Nat.le_of_ble_eq_true rfl⟩ hEx hlocks (Nat.le_of_ble_eq_true rfl) (Nat.le_of_ble_eq_true rfl) (fun hk_16 => by simp only [c_ruleK, hk_3, c_then_z, hk_9, c_then_z, c_then_n hk_16]) (fun hk_16 v9 τ9 H hR hP hS _ => ?_)
  obtain ⟨rfl, hτ9⟩ := hR
  rw [hτ9] at hP
  show W _ _ _ _ _ _ _ _ _ _ _ _ _ _ _ (F0 m 19 ls [])
  refine W.widen (k := 3) (n := 18) (Nat.le_of_ble_eq_true rfl) (Nat.le_of_ble_eq_true rfl) ?_
  refine lv_iload hx hb dX6_rule_19 (lv_at hl 4 rfl) ?_
  refine lv_iconst (v := 0) hx hb dX6_rule_21 (by decide) ?_
  refine lv_sipush (v := 399) hx hb dX6_rule_22 (by decide) ?_
  refine cx_callS (As := [.int d0, .int 0, .int 399]) (rest := []) ⟨hx, hb, hml, hown, hg⟩ (m_ReplenishRules_checkRange l hl9 G cA ad σ hJ d0 0 399) (cwS 3 hg (gS qM_X6_61 qT_X6_checkRange qN_X6 kX6_checkRange) rfl rfl rfl (by decide +kernel) ⟨Nat.le_of_ble_eq_true rfl, Nat.le_of_ble_eq_true rfl⟩) hK hP hT (fun _ h => h) hS  rfl hl.1 rfl (lv_room (Nat.le_of_ble_eq_true rfl)) dX6_rule_25 ⟨Nat.le_of_ble_eq_true rfl, Nat.le_of_ble_eq_true rfl⟩ hEx hlocks (Nat.le_of_ble_eq_true rfl) (Nat.le_of_ble_eq_true rfl) (fun hk_25 => by simp only [c_ruleK, hk_3, c_then_z, hk_9, c_then_z, hk_16, c_then_z, c_then_n hk_25]) (fun hk_25 v9 τ9 H hR hP hS _ => ?_)
  obtain ⟨rfl, hτ9⟩ := hR
  rw [hτ9] at hP
  show W _ _ _ _ _ _ _ _ _ _ _ _ _ _ _ (F0 m 28 ls [])
  refine W.widen (k := 4) (n := 24) (Nat.le_of_ble_eq_true rfl) (Nat.le_of_ble_eq_true rfl) ?_
  refine lv_aload_n hx hb dX6_rule_28 rfl (lv_at hl 0 rfl) ?_
  refine va_get (D := G) (ci := 6) (v := .ref (ad 68)) (C := RX6) (T := TX6) (N := 8) hx hb hg hinX6 hown hK hP 66 rl_main rfl 1 (by decide) (hg _ qF_X6_17) (fun _ h9 => h9) rfl dX6_rule_29 ?_
  refine lv_iload_n hx hb dX6_rule_32 rfl (lv_at hl 1 rfl) ?_
  refine va_aldq hx hb hK hP 68 3 rl_rulesA rfl (rg_in (b := 3) rfl hk_3) dX6_rule_33 ?_
  show W _ _ _ _ _ _ _ _ _ _ _ _ _ _ _ (F0 m _ ls (.ref (ad (32 + nx a0)) :: []))
  refine lv_astore (lv' := [(5, .ref (ad (32 + nx a0))), (0, .ref (ad 66)), (1, .int a0), (2, .int b0), (3, .int c0), (4, .int d0)]) hx hb dX6_rule_34 hl (by decide) rfl (fun ls hl => ?_)
  refine lv_aload hx hb dX6_rule_36 (lv_at hl 0 rfl) ?_
  refine lv_iload_n hx hb dX6_rule_38 rfl (lv_at hl 3 rfl) ?_
  refine pp_put (D := G) (ci := 4) (v := .int b0) (ty := .int) (C := RX4) (T := TX4) (N := 3) hx hb hg hinX4 tyX4 tyX4_ok nmX4 hown hK hP (rr_D hJ) hS (32 + (nx a0)) (rl_Rule (vp_lt (rg_in (b := 3) rfl hk_3))) rfl 0 (by decide) (hg _ qF_X6_136) (fun _ h9 => h9) rfl (by decide +kernel) rfl rfl (Nat.le_of_ble_eq_true rfl) (rs_Rule_kind (vp_lt (rg_in (b := 3) rfl hk_3))) dX6_rule_39 (fun H locs hP hS => ?_)
  obtain ⟨σ1, eσ1⟩ : ∃ z, z = up σ 20 (nx a0) b0 := ⟨_, rfl⟩
  rw [← eσ1] at hP
  refine lv_aload hx hb dX6_rule_42 (lv_at hl 0 rfl) ?_
  refine lv_iload_n hx hb dX6_rule_44 rfl (lv_at hl 4 rfl) ?_
  refine pp_put (D := G) (ci := 4) (v := .int c0) (ty := .int) (C := RX4) (T := TX4) (N := 3) hx hb hg hinX4 tyX4 tyX4_ok nmX4 hown hK hP (rr_D hJ) hS (32 + (nx a0)) (rl_Rule (vp_lt (rg_in (b := 3) rfl hk_3))) rfl 1 (by decide) (hg _ qF_X6_139) (fun _ h9 => h9) rfl (by decide +kernel) rfl rfl (Nat.le_of_ble_eq_true rfl) (rs_Rule_ahead (vp_lt (rg_in (b := 3) rfl hk_3))) dX6_rule_45 (fun H locs hP hS => ?_)
  obtain ⟨σ2, eσ2⟩ : ∃ z, z = up σ1 21 (nx a0) c0 := ⟨_, rfl⟩
  rw [← eσ2] at hP
  refine lv_aload hx hb dX6_rule_48 (lv_at hl 0 rfl) ?_
  refine lv_iload hx hb dX6_rule_50 (lv_at hl 5 rfl) ?_
  refine pp_put (D := G) (ci := 4) (v := .int d0) (ty := .int) (C := RX4) (T := TX4) (N := 3) hx hb hg hinX4 tyX4 tyX4_ok nmX4 hown hK hP (rr_D hJ) hS (32 + (nx a0)) (rl_Rule (vp_lt (rg_in (b := 3) rfl hk_3))) rfl 2 (by decide) (hg _ qF_X6_142) (fun _ h9 => h9) rfl (by decide +kernel) rfl rfl (Nat.le_of_ble_eq_true rfl) (rs_Rule_until (vp_lt (rg_in (b := 3) rfl hk_3))) dX6_rule_52 (fun H locs hP hS => ?_)
  obtain ⟨σ3, eσ3⟩ : ∃ z, z = up σ2 22 (nx a0) d0 := ⟨_, rfl⟩
  rw [← eσ3] at hP
  refine W.widen (k := 4) (n := 24) (Nat.le_of_ble_eq_true rfl) (Nat.le_of_ble_eq_true rfl) ?_
  exact cx_ret (by simp only [c_ruleK, hk_3, c_then_z, hk_9, c_then_z, hk_16, c_then_z, hk_25, c_then_z]) (W.vret hx hb hr (fun t ht hW => ⟨⟨_, σ3, rfl, ⟨rfl, by subst eσ1 eσ2 eσ3; rfl⟩, by rw [ht]; exact hP, va_K.moved hW.alike hK⟩, hS.F ht⟩) hS.2.2 dX6_rule_55)

set_option maxHeartbeats 600000 in
set_option maxRecDepth 100000 in
theorem m_ReplenishRules_factor (l : Launch) (hl9 : l.stackTraces = false) (G : va_G) (cA : Nat → ClassId) (ad : Nat → Nat) (σ : St) (hJ : rr_inj ad) (a0 : Int32) (b0 : Int32) (c0 : Int32) : cx_Met (rrA ad) l yX6_factor wX6_factor ({ frames := 7, cells := 3, slots := 18, locals := 113 }) [.ref (ad 66), .int a0, .int b0, .int c0] G cA ad σ (c_factorK a0 b0 c0) (fun v τ => v = none ∧ τ = c_factorS σ a0 b0 c0) 3 18 := by
  refine cx_ofW (cc := cX6_factor) (maxL := 4) (ret := none) (by decide) ?_
  intro p e s m args below meth c s₁ B hml hEx hv
  obtain ⟨rfl, hP, hK, hT⟩ := hv
  have hx := B.exec
  have hb := B.bytes
  have hr := B.returns
  have hts := atoms_spec (ws := wX6_factor :: wG) B.pre
  have hg : ∀ w ∈ wG, w.before _ s = true := fun w h => hts w (List.mem_cons_of_mem _ h)
  have hown : s.vm.findClass RX6 = some m.cls := findClass_of_methodNamed B.named
  have hlocks := B.notSynchronized
  have hS : va_S (rrA ad) s.heap s.heap [] := va_S.rf
  have hP0 := hP
  have hl := lv_entry ([.ref (ad 66), .int a0, .int b0, .int c0]) (n := 4) (Nat.le_of_ble_eq_true rfl)
  rw [lg_entry_eq]
  generalize (lg_sl ([.ref (ad 66), .int a0, .int b0, .int c0]) ++ List.replicate (4 - (lg_sl ([.ref (ad 66), .int a0, .int b0, .int c0])).length) Slot.unset).toArray = ls at hl ⊢
  have hl : lv_has ls 4 [(0, .ref (ad 66)), (1, .int a0), (2, .int b0), (3, .int c0)] := hl
  refine lv_iload_n hx hb dX6_factor_0 rfl (lv_at hl 1 rfl) ?_
  refine lv_iconst (v := 0) hx hb dX6_factor_1 (by decide) ?_
  refine lv_bipush (v := 11) hx hb dX6_factor_2 (by decide) ?_
  refine cx_callS (As := [.int a0, .int 0, .int 11]) (rest := []) ⟨hx, hb, hml, hown, hg⟩ (m_ReplenishRules_checkRange l hl9 G cA ad σ hJ a0 0 11) (cwS 3 hg (gS qM_X6_61 qT_X6_checkRange qN_X6 kX6_checkRange) rfl rfl rfl (by decide +kernel) ⟨Nat.le_of_ble_eq_true rfl, Nat.le_of_ble_eq_true rfl⟩) hK hP hT (fun _ h => h) hS  rfl hl.1 rfl (lv_room (Nat.le_of_ble_eq_true rfl)) dX6_factor_4 ⟨Nat.le_of_ble_eq_true rfl, Nat.le_of_ble_eq_true rfl⟩ hEx hlocks (Nat.le_of_ble_eq_true rfl) (Nat.le_of_ble_eq_true rfl) (fun hk_4 => by simp only [c_factorK, c_then_n hk_4]) (fun hk_4 v9 τ9 H hR hP hS _ => ?_)
  obtain ⟨rfl, hτ9⟩ := hR
  rw [hτ9] at hP
  show W _ _ _ _ _ _ _ _ _ _ _ _ _ _ _ (F0 m 7 ls [])
  refine W.widen (k := 1) (n := 6) (Nat.le_of_ble_eq_true rfl) (Nat.le_of_ble_eq_true rfl) ?_
  refine lv_iload_n hx hb dX6_factor_7 rfl (lv_at hl 2 rfl) ?_
  refine lv_iconst (v := 0) hx hb dX6_factor_8 (by decide) ?_
  refine lv_sipush (v := 1000) hx hb dX6_factor_9 (by decide) ?_
  refine cx_callS (As := [.int b0, .int 0, .int 1000]) (rest := []) ⟨hx, hb, hml, hown, hg⟩ (m_ReplenishRules_checkRange l hl9 G cA ad σ hJ b0 0 1000) (cwS 3 hg (gS qM_X6_61 qT_X6_checkRange qN_X6 kX6_checkRange) rfl rfl rfl (by decide +kernel) ⟨Nat.le_of_ble_eq_true rfl, Nat.le_of_ble_eq_true rfl⟩) hK hP hT (fun _ h => h) hS  rfl hl.1 rfl (lv_room (Nat.le_of_ble_eq_true rfl)) dX6_factor_12 ⟨Nat.le_of_ble_eq_true rfl, Nat.le_of_ble_eq_true rfl⟩ hEx hlocks (Nat.le_of_ble_eq_true rfl) (Nat.le_of_ble_eq_true rfl) (fun hk_12 => by simp only [c_factorK, hk_4, c_then_z, c_then_n hk_12]) (fun hk_12 v9 τ9 H hR hP hS _ => ?_)
  obtain ⟨rfl, hτ9⟩ := hR
  rw [hτ9] at hP
  show W _ _ _ _ _ _ _ _ _ _ _ _ _ _ _ (F0 m 15 ls [])
  refine W.widen (k := 2) (n := 12) (Nat.le_of_ble_eq_true rfl) (Nat.le_of_ble_eq_true rfl) ?_
  refine lv_iload_n hx hb dX6_factor_15 rfl (lv_at hl 3 rfl) ?_
  refine lv_iconst (v := 1) hx hb dX6_factor_16 (by decide) ?_
  refine lv_sipush (v := 1000) hx hb dX6_factor_17 (by decide) ?_
  refine cx_callS (As := [.int c0, .int 1, .int 1000]) (rest := []) ⟨hx, hb, hml, hown, hg⟩ (m_ReplenishRules_checkRange l hl9 G cA ad σ hJ c0 1 1000) (cwS 3 hg (gS qM_X6_61 qT_X6_checkRange qN_X6 kX6_checkRange) rfl rfl rfl (by decide +kernel) ⟨Nat.le_of_ble_eq_true rfl, Nat.le_of_ble_eq_true rfl⟩) hK hP hT (fun _ h => h) hS  rfl hl.1 rfl (lv_room (Nat.le_of_ble_eq_true rfl)) dX6_factor_20 ⟨Nat.le_of_ble_eq_true rfl, Nat.le_of_ble_eq_true rfl⟩ hEx hlocks (Nat.le_of_ble_eq_true rfl) (Nat.le_of_ble_eq_true rfl) (fun hk_20 => by simp only [c_factorK, hk_4, c_then_z, hk_12, c_then_z, c_then_n hk_20]) (fun hk_20 v9 τ9 H hR hP hS _ => ?_)
  obtain ⟨rfl, hτ9⟩ := hR
  rw [hτ9] at hP
  show W _ _ _ _ _ _ _ _ _ _ _ _ _ _ _ (F0 m 23 ls [])
  refine W.widen (k := 3) (n := 18) (Nat.le_of_ble_eq_true rfl) (Nat.le_of_ble_eq_true rfl) ?_
  refine lv_aload_n hx hb dX6_factor_23 rfl (lv_at hl 0 rfl) ?_
  refine va_get (D := G) (ci := 6) (v := .ref (ad 70)) (C := RX6) (T := TX6) (N := 8) hx hb hg hinX6 hown hK hP 66 rl_main rfl 3 (by decide) (hg _ qF_X6_25) (fun _ h9 => h9) rfl dX6_factor_24 ?_
  refine lv_iload_n hx hb dX6_factor_27 rfl (lv_at hl 1 rfl) ?_
  refine lv_iload_n hx hb dX6_factor_28 rfl (lv_at hl 2 rfl) ?_
  refine pp_iast (x := b0) hx hb hK hP (rr_D hJ) hS 70 0 rl_upsA rfl (rg_in (b := 11) rfl hk_4) (rs_upsA) dX6_factor_29 (fun H locs hP hS => ?_)
  obtain ⟨σ1, eσ1⟩ : ∃ z, z = up σ 31 (nx a0) b0 := ⟨_, rfl⟩
  rw [← eσ1] at hP
  refine lv_aload_n hx hb dX6_factor_30 rfl (lv_at hl 0 rfl) ?_
  refine va_get (D := G) (ci := 6) (v := .ref (ad 71)) (C := RX6) (T := TX6) (N := 8) hx hb hg hinX6 hown hK hP 66 rl_main rfl 4 (by decide) (hg _ qF_X6_28) (fun _ h9 => h9) rfl dX6_factor_31 ?_
  refine lv_iload_n hx hb dX6_factor_34 rfl (lv_at hl 1 rfl) ?_
  refine lv_iload_n hx hb dX6_factor_35 rfl (lv_at hl 3 rfl) ?_
  refine pp_iast (x := c0) hx hb hK hP (rr_D hJ) hS 71 0 rl_downsA rfl (rg_in (b := 11) rfl hk_4) (rs_downsA) dX6_factor_36 (fun H locs hP hS => ?_)
  obtain ⟨σ2, eσ2⟩ : ∃ z, z = up σ1 32 (nx a0) c0 := ⟨_, rfl⟩
  rw [← eσ2] at hP
  refine W.widen (k := 3) (n := 18) (Nat.le_of_ble_eq_true rfl) (Nat.le_of_ble_eq_true rfl) ?_
  exact cx_ret (by simp only [c_factorK, hk_4, c_then_z, hk_12, c_then_z, hk_20, c_then_z]) (W.vret hx hb hr (fun t ht hW => ⟨⟨_, σ2, rfl, ⟨rfl, by subst eσ1 eσ2; rfl⟩, by rw [ht]; exact hP, va_K.moved hW.alike hK⟩, hS.F ht⟩) hS.2.2 dX6_factor_37)

set_option maxHeartbeats 600000 in
set_option maxRecDepth 100000 in
theorem m_ReplenishRules_wave (l : Launch) (hl9 : l.stackTraces = false) (G : va_G) (cA : Nat → ClassId) (ad : Nat → Nat) (σ : St) (hJ : rr_inj ad) (hI : Inv σ) (a0 : Int32) (b0 : Int32) (c0 : Int32) : cx_Met (rrA ad) l yX6_wave wX6_wave ({ frames := 9, cells := 5, slots := 30, locals := 156 }) [.ref (ad 66), .int a0, .int b0, .int c0] G cA ad σ (c_waveK σ a0 b0 c0) (fun v τ => v = none ∧ τ = c_waveS σ a0 b0 c0) 5 30 := by
  refine cx_ofW (cc := cX6_wave) (maxL := 5) (ret := none) (by decide) ?_
  intro p e s m args below meth c s₁ B hml hEx hv
  obtain ⟨rfl, hP, hK, hT⟩ := hv
  have hx := B.exec
  have hb := B.bytes
  have hr := B.returns
  have hts := atoms_spec (ws := wX6_wave :: wG) B.pre
  have hg : ∀ w ∈ wG, w.before _ s = true := fun w h => hts w (List.mem_cons_of_mem _ h)
  have hown : s.vm.findClass RX6 = some m.cls := findClass_of_methodNamed B.named
  have hlocks := B.notSynchronized
  have hS : va_S (rrA ad) s.heap s.heap [] := va_S.rf
  have hP0 := hP
  have hl := lv_entry ([.ref (ad 66), .int a0, .int b0, .int c0]) (n := 5) (Nat.le_of_ble_eq_true rfl)
  rw [lg_entry_eq]
  generalize (lg_sl ([.ref (ad 66), .int a0, .int b0, .int c0]) ++ List.replicate (5 - (lg_sl ([.ref (ad 66), .int a0, .int b0, .int c0])).length) Slot.unset).toArray = ls at hl ⊢
  have hl : lv_has ls 5 [(0, .ref (ad 66)), (1, .int a0), (2, .int b0), (3, .int c0)] := hl
  refine lv_iload_n hx hb dX6_wave_0 rfl (lv_at hl 2 rfl) ?_
  refine lv_iconst (v := 1) hx hb dX6_wave_1 (by decide) ?_
  refine lv_ldc (v := 100000) hx hb hown (hg _ qC_X6_60) dX6_wave_2 ?_
  refine cx_callS (As := [.int b0, .int 1, .int 100000]) (rest := []) ⟨hx, hb, hml, hown, hg⟩ (m_ReplenishRules_checkRange l hl9 G cA ad σ hJ b0 1 100000) (cwS 3 hg (gS qM_X6_61 qT_X6_checkRange qN_X6 kX6_checkRange) rfl rfl rfl (by decide +kernel) ⟨Nat.le_of_ble_eq_true rfl, Nat.le_of_ble_eq_true rfl⟩) hK hP hT (fun _ h => h) hS  rfl hl.1 rfl (lv_room (Nat.le_of_ble_eq_true rfl)) dX6_wave_4 ⟨Nat.le_of_ble_eq_true rfl, Nat.le_of_ble_eq_true rfl⟩ hEx hlocks (Nat.le_of_ble_eq_true rfl) (Nat.le_of_ble_eq_true rfl) (fun hk_4 => by simp only [c_waveK, c_then_n hk_4]) (fun hk_4 v9 τ9 H hR hP hS _ => ?_)
  obtain ⟨rfl, hτ9⟩ := hR
  rw [hτ9] at hP
  show W _ _ _ _ _ _ _ _ _ _ _ _ _ _ _ (F0 m 7 ls [])
  refine W.widen (k := 1) (n := 6) (Nat.le_of_ble_eq_true rfl) (Nat.le_of_ble_eq_true rfl) ?_
  refine lv_iload_n hx hb dX6_wave_7 rfl (lv_at hl 3 rfl) ?_
  refine lv_aload_n hx hb dX6_wave_8 rfl (lv_at hl 0 rfl) ?_
  refine va_get (D := G) (ci := 6) (v := .ref (ad 72)) (C := RX6) (T := TX6) (N := 8) hx hb hg hinX6 hown hK hP 66 rl_main rfl 5 (by decide) (hg _ qF_X6_34) (fun _ h9 => h9) rfl dX6_wave_9 ?_
  refine va_get (D := G) (ci := 0) (v := .int (σ 40 0)) (C := RX0) (T := TX0) (N := 2) hx hb hg hinX0 hown hK hP 72 rl_Calendar rfl 1 (by decide) (hg _ qF_X6_125) (fun _ h9 => h9) rfl dX6_wave_12 ?_
  refine lv_sipush (v := 399) hx hb dX6_wave_15 (by decide) ?_
  refine cx_callS (As := [.int c0, .int (σ 40 0), .int 399]) (rest := []) ⟨hx, hb, hml, hown, hg⟩ (m_ReplenishRules_checkRange l hl9 G cA ad σ hJ c0 (σ 40 0) 399) (cwS 3 hg (gS qM_X6_61 qT_X6_checkRange qN_X6 kX6_checkRange) rfl rfl rfl (by decide +kernel) ⟨Nat.le_of_ble_eq_true rfl, Nat.le_of_ble_eq_true rfl⟩) hK hP hT (fun _ h => h) hS  rfl hl.1 rfl (lv_room (Nat.le_of_ble_eq_true rfl)) dX6_wave_18 ⟨Nat.le_of_ble_eq_true rfl, Nat.le_of_ble_eq_true rfl⟩ hEx hlocks (Nat.le_of_ble_eq_true rfl) (Nat.le_of_ble_eq_true rfl) (fun hk_18 => by simp only [c_waveK, hk_4, c_then_z, c_then_n hk_18]) (fun hk_18 v9 τ9 H hR hP hS _ => ?_)
  obtain ⟨rfl, hτ9⟩ := hR
  rw [hτ9] at hP
  show W _ _ _ _ _ _ _ _ _ _ _ _ _ _ _ (F0 m 21 ls [])
  refine W.widen (k := 2) (n := 12) (Nat.le_of_ble_eq_true rfl) (Nat.le_of_ble_eq_true rfl) ?_
  refine lv_aload_n hx hb dX6_wave_21 rfl (lv_at hl 0 rfl) ?_
  refine lv_iload_n hx hb dX6_wave_22 rfl (lv_at hl 1 rfl) ?_
  refine cx_callV (As := [.int a0]) (rest := []) ⟨hx, hb, hml, hown, hg⟩ (m_ReplenishRules_faceAt l hl9 G cA ad σ hJ a0) (cwV 1 hg (gV qM_X6_110 qI_X6_faceAt qS_X6_faceAt qN_X6 kX6_faceAt) rfl rfl rfl (by decide +kernel) ⟨Nat.le_of_ble_eq_true rfl, Nat.le_of_ble_eq_true rfl⟩) hK hP hT (fun _ h => h) hS (va_recv hK hP (ci := 6) (q0 := 66) rfl rl_main) rfl hl.1 rfl (lv_room (Nat.le_of_ble_eq_true rfl)) dX6_wave_23 ⟨Nat.le_of_ble_eq_true rfl, Nat.le_of_ble_eq_true rfl⟩ hEx hlocks (Nat.le_of_ble_eq_true rfl) (Nat.le_of_ble_eq_true rfl) (fun hk_23 => by simp only [c_waveK, hk_4, c_then_z, hk_18, c_then_z, c_then_n hk_23]) (fun hk_23 v9 τ9 H hR hP hS _ => ?_)
  obtain ⟨rfl, hτ9⟩ := hR
  rw [hτ9] at hP
  show W _ _ _ _ _ _ _ _ _ _ _ _ _ _ _ (F0 m 26 ls [.ref (ad (nx a0))])
  refine W.widen (k := 4) (n := 24) (Nat.le_of_ble_eq_true rfl) (Nat.le_of_ble_eq_true rfl) ?_
  refine lv_astore (lv' := [(4, .ref (ad (nx a0))), (0, .ref (ad 66)), (1, .int a0), (2, .int b0), (3, .int c0)]) hx hb dX6_wave_26 hl (by decide) rfl (fun ls hl => ?_)
  refine lv_aload_n hx hb dX6_wave_28 rfl (lv_at hl 1 rfl) ?_
  refine va_get (D := G) (ci := 6) (v := .ref (ad 74)) (C := RX6) (T := TX6) (N := 8) hx hb hg hinX6 hown hK hP 66 rl_main rfl 6 (by decide) (hg _ qF_X6_41) (fun _ h9 => h9) rfl dX6_wave_29 ?_
  refine va_get (D := G) (ci := 5) (v := .int (σ 41 0)) (C := RX5) (T := TX5) (N := 4) hx hb hg hinX5 hown hK hP 74 rl_Waves rfl 3 (by decide) (hg _ qF_X6_145) (fun _ h9 => h9) rfl dX6_wave_32 ?_
  refine lv_bipush (v := 30) hx hb dX6_wave_35 (by decide) ?_
  refine lv_icmp_lt (tgt := 50) hx hb dX6_wave_37 (by decide) (fun c_37 => ?_) (fun c_37 => ?_)
  · -- if_icmplt taken
    refine lv_aload_n hx hb dX6_wave_50 rfl (lv_at hl 1 rfl) ?_
    refine va_get (D := G) (ci := 6) (v := .ref (ad 74)) (C := RX6) (T := TX6) (N := 8) hx hb hg hinX6 hown hK hP 66 rl_main rfl 6 (by decide) (hg _ qF_X6_41) (fun _ h9 => h9) rfl dX6_wave_51 ?_
    refine lv_aload hx hb dX6_wave_54 (lv_at hl 0 rfl) ?_
    refine va_get (D := G) (ci := 2) (v := .int (nI (nx a0))) (C := RX2) (T := TX2) (N := 13) hx hb hg hinX2 hown hK hP (nx a0) (rl_Place (vp_lt (placeAt_in (faceAt_place hk_23).1))) rfl 0 (by decide) (hg _ qF_X6_153) (fun _ h9 => h9) rfl dX6_wave_56 ?_
    refine lv_iload_n hx hb dX6_wave_59 rfl (lv_at hl 3 rfl) ?_
    refine lv_iload_n hx hb dX6_wave_60 rfl (lv_at hl 4 rfl) ?_
    refine va_callv (va_runV (As := [.int (nI (nx a0)), .int b0, .int c0]) (rest := []) ⟨hx, hb, hml, hown, hg⟩ (m_Waves_add l G cA ad σ hJ (nI (nx a0)) b0 c0 (inv_wc hI).1) (cwV 3 hg (gV qM_X6_156 qI_X5_add qS_X5_add qN_X5 kX5_add) rfl rfl rfl (by decide +kernel) ⟨Nat.le_of_ble_eq_true rfl, Nat.le_of_ble_eq_true rfl⟩) (rr_pv hK hP (va_recv hK hP (ci := 5) (q0 := 74) rfl rl_Waves)) rfl rfl hl.1 rfl (lv_room (Nat.le_of_ble_eq_true rfl)) dX6_wave_61 ⟨Nat.le_of_ble_eq_true rfl, Nat.le_of_ble_eq_true rfl⟩) hS (fun q _ h => h) (fun q h => h) (fun σ1 t H locs ht hvm eσ1 hB hz9 hk9 hS => ?_)
    have hP := hB.1
    rw [ht] at hP
    refine W.widen (k := 5) (n := 30) (Nat.le_of_ble_eq_true rfl) (Nat.le_of_ble_eq_true rfl) ?_
    exact cx_ret (by simp only [c_waveK, hk_4, c_then_z, hk_18, c_then_z, hk_23, c_then_z, if_pos c_37]) (W.vret hx hb hr (fun t ht hW => ⟨⟨_, σ1, rfl, ⟨rfl, by subst eσ1; rfl⟩, by rw [ht]; exact hP, va_K.moved hW.alike hK⟩, hS.F ht⟩) hS.2.2 dX6_wave_64)
  · -- if_icmplt not taken
    have eK : c_waveK σ a0 b0 c0 = 3 := by simp only [c_waveK, hk_4, c_then_z, hk_18, c_then_z, hk_23, c_then_z, if_neg c_37]
    obtain ⟨sa, hstr⟩ := hT.2.2.2 ("ReplenishRules", 150, "thirty waves are told") (by decide +kernel)
    exact cx_throw (own := RX6) (cls := "java/lang/UnsupportedOperationException") (names := rr_nm) hx hb hl9 hown (by decide +kernel) rr_nm_fit (hg _ qK_X6_148) (hg _ qA_UnsupportedOperationException) (hg _ qN_UnsupportedOperationException) hstr (cx_words rr_at3 hg hT) hP0 hK hS (hl.1.trans hml.symm) dX6_wave_40 dX6_wave_43 dX6_wave_44 dX6_wave_46 dX6_wave_49 hEx hlocks (Nat.le_of_ble_eq_true rfl) (Nat.le_of_ble_eq_true rfl) (Nat.le_of_ble_eq_true rfl) (Nat.le_of_ble_eq_true rfl) (by rw [eK]; decide) (by rw [eK]; rfl) (Nat.le_of_ble_eq_true rfl) (Nat.le_of_ble_eq_true rfl)

set_option maxHeartbeats 600000 in
set_option maxRecDepth 100000 in
theorem m_ReplenishRules_open (l : Launch) (hl9 : l.stackTraces = false) (G : va_G) (cA : Nat → ClassId) (ad : Nat → Nat) (σ : St) (hJ : rr_inj ad) (a0 : Int32) (b0 : Int32) : cx_Met (rrA ad) l yX6_open wX6_open ({ frames := 7, cells := 2, slots := 12, locals := 113 }) [.ref (ad 66), .int a0, .int b0] G cA ad σ (c_openK σ a0) (fun v τ => v = none ∧ τ = c_openS σ a0 b0) 2 12 := by
  refine cx_ofW (cc := cX6_open) (maxL := 3) (ret := none) (by decide) ?_
  intro p e s m args below meth c s₁ B hml hEx hv
  obtain ⟨rfl, hP, hK, hT⟩ := hv
  have hx := B.exec
  have hb := B.bytes
  have hr := B.returns
  have hts := atoms_spec (ws := wX6_open :: wG) B.pre
  have hg : ∀ w ∈ wG, w.before _ s = true := fun w h => hts w (List.mem_cons_of_mem _ h)
  have hown : s.vm.findClass RX6 = some m.cls := findClass_of_methodNamed B.named
  have hlocks := B.notSynchronized
  have hS : va_S (rrA ad) s.heap s.heap [] := va_S.rf
  have hP0 := hP
  have hl := lv_entry ([.ref (ad 66), .int a0, .int b0]) (n := 3) (Nat.le_of_ble_eq_true rfl)
  rw [lg_entry_eq]
  generalize (lg_sl ([.ref (ad 66), .int a0, .int b0]) ++ List.replicate (3 - (lg_sl ([.ref (ad 66), .int a0, .int b0])).length) Slot.unset).toArray = ls at hl ⊢
  have hl : lv_has ls 3 [(0, .ref (ad 66)), (1, .int a0), (2, .int b0)] := hl
  refine lv_iload_n hx hb dX6_open_0 rfl (lv_at hl 1 rfl) ?_
  refine lv_iconst (v := 0) hx hb dX6_open_1 (by decide) ?_
  refine lv_sipush (v := 399) hx hb dX6_open_2 (by decide) ?_
  refine cx_callS (As := [.int a0, .int 0, .int 399]) (rest := []) ⟨hx, hb, hml, hown, hg⟩ (m_ReplenishRules_checkRange l hl9 G cA ad σ hJ a0 0 399) (cwS 3 hg (gS qM_X6_61 qT_X6_checkRange qN_X6 kX6_checkRange) rfl rfl rfl (by decide +kernel) ⟨Nat.le_of_ble_eq_true rfl, Nat.le_of_ble_eq_true rfl⟩) hK hP hT (fun _ h => h) hS  rfl hl.1 rfl (lv_room (Nat.le_of_ble_eq_true rfl)) dX6_open_5 ⟨Nat.le_of_ble_eq_true rfl, Nat.le_of_ble_eq_true rfl⟩ hEx hlocks (Nat.le_of_ble_eq_true rfl) (Nat.le_of_ble_eq_true rfl) (fun hk_5 => by simp only [c_openK, c_then_n hk_5]) (fun hk_5 v9 τ9 H hR hP hS _ => ?_)
  obtain ⟨rfl, hτ9⟩ := hR
  rw [hτ9] at hP
  show W _ _ _ _ _ _ _ _ _ _ _ _ _ _ _ (F0 m 8 ls [])
  refine W.widen (k := 1) (n := 6) (Nat.le_of_ble_eq_true rfl) (Nat.le_of_ble_eq_true rfl) ?_
  refine lv_iload_n hx hb dX6_open_8 rfl (lv_at hl 1 rfl) ?_
  refine lv_aload_n hx hb dX6_open_9 rfl (lv_at hl 0 rfl) ?_
  refine va_get (D := G) (ci := 6) (v := .ref (ad 72)) (C := RX6) (T := TX6) (N := 8) hx hb hg hinX6 hown hK hP 66 rl_main rfl 5 (by decide) (hg _ qF_X6_34) (fun _ h9 => h9) rfl dX6_open_10 ?_
  refine va_get (D := G) (ci := 0) (v := .int (σ 40 0)) (C := RX0) (T := TX0) (N := 2) hx hb hg hinX0 hown hK hP 72 rl_Calendar rfl 1 (by decide) (hg _ qF_X6_125) (fun _ h9 => h9) rfl dX6_open_13 ?_
  refine lv_icmp_ge (tgt := 29) hx hb dX6_open_16 (by decide) (fun c_16 => ?_) (fun c_16 => ?_)
  · -- if_icmpge taken
    refine lv_aload_n hx hb dX6_open_29 rfl (lv_at hl 0 rfl) ?_
    refine va_get (D := G) (ci := 6) (v := .ref (ad 72)) (C := RX6) (T := TX6) (N := 8) hx hb hg hinX6 hown hK hP 66 rl_main rfl 5 (by decide) (hg _ qF_X6_34) (fun _ h9 => h9) rfl dX6_open_30 ?_
    refine va_get (D := G) (ci := 0) (v := .ref (ad 73)) (C := RX0) (T := TX0) (N := 2) hx hb hg hinX0 hown hK hP 72 rl_Calendar rfl 0 (by decide) (hg _ qF_X6_161) (fun _ h9 => h9) rfl dX6_open_33 ?_
    refine lv_iload_n hx hb dX6_open_36 rfl (lv_at hl 1 rfl) ?_
    refine lv_iload_n hx hb dX6_open_37 rfl (lv_at hl 2 rfl) ?_
    refine lv_if_ne (tgt := 45) hx hb dX6_open_38 (by decide) (fun c_38 => ?_) (fun c_38 => ?_)
    · -- ifne taken
      refine lv_iconst (v := 0) hx hb dX6_open_45 (by decide) ?_
      refine pp_zast (x := 0) hx hb hK hP (rr_D hJ) hS 73 1 rl_closedA rfl (by decide) (rg_in (b := 399) rfl hk_5) (rs_closedA) dX6_open_46 (fun H locs hP hS => ?_)
      obtain ⟨σ1, eσ1⟩ : ∃ z, z = up σ 33 (nx a0) 0 := ⟨_, rfl⟩
      rw [← eσ1] at hP
      refine W.widen (k := 2) (n := 12) (Nat.le_of_ble_eq_true rfl) (Nat.le_of_ble_eq_true rfl) ?_
      exact cx_ret (by simp only [c_openK, hk_5, c_then_z, if_pos c_16, if_neg c_38]) (W.vret hx hb hr (fun t ht hW => ⟨⟨_, σ1, rfl, ⟨rfl, by subst eσ1; simp only [c_openS, if_neg c_38]⟩, by rw [ht]; exact hP, va_K.moved hW.alike hK⟩, hS.F ht⟩) hS.2.2 dX6_open_47)
    · -- ifne not taken
      refine lv_iconst (v := 1) hx hb dX6_open_41 (by decide) ?_
      refine lv_goto (tgt := 46) hx hb dX6_open_42 (by decide) ?_
      refine pp_zast (x := 1) hx hb hK hP (rr_D hJ) hS 73 1 rl_closedA rfl (by decide) (rg_in (b := 399) rfl hk_5) (rs_closedA) dX6_open_46 (fun H locs hP hS => ?_)
      obtain ⟨σ1, eσ1⟩ : ∃ z, z = up σ 33 (nx a0) 1 := ⟨_, rfl⟩
      rw [← eσ1] at hP
      refine W.widen (k := 2) (n := 12) (Nat.le_of_ble_eq_true rfl) (Nat.le_of_ble_eq_true rfl) ?_
      exact cx_ret (by simp only [c_openK, hk_5, c_then_z, if_pos c_16, if_pos c_38]) (W.vret hx hb hr (fun t ht hW => ⟨⟨_, σ1, rfl, ⟨rfl, by subst eσ1; simp only [c_openS, if_pos c_38]⟩, by rw [ht]; exact hP, va_K.moved hW.alike hK⟩, hS.F ht⟩) hS.2.2 dX6_open_47)
  · -- if_icmpge not taken
    have eK : c_openK σ a0 = 2 := by simp only [c_openK, hk_5, c_then_z, if_neg c_16]
    obtain ⟨sa, hstr⟩ := hT.2.2.2 ("ReplenishRules", 159, "the day is before today") (by decide +kernel)
    exact cx_throw (own := RX6) (cls := "java/lang/IllegalStateException") (names := rr_nm) hx hb hl9 hown (by decide +kernel) rr_nm_fit (hg _ qK_X6_72) (hg _ qA_IllegalStateException) (hg _ qN_IllegalStateException) hstr (cx_words rr_at2 hg hT) hP0 hK hS (hl.1.trans hml.symm) dX6_open_19 dX6_open_22 dX6_open_23 dX6_open_25 dX6_open_28 hEx hlocks (Nat.le_of_ble_eq_true rfl) (Nat.le_of_ble_eq_true rfl) (Nat.le_of_ble_eq_true rfl) (Nat.le_of_ble_eq_true rfl) (by rw [eK]; decide) (by rw [eK]; rfl) (Nat.le_of_ble_eq_true rfl) (Nat.le_of_ble_eq_true rfl)

set_option maxHeartbeats 600000 in
set_option maxRecDepth 100000 in
theorem m_ReplenishRules_day (l : Launch) (hl9 : l.stackTraces = false) (G : va_G) (cA : Nat → ClassId) (ad : Nat → Nat) (σ : St) (hJ : rr_inj ad) (a0 : Int32) : cx_Met (rrA ad) l yX6_day wX6_day ({ frames := 7, cells := 1, slots := 6, locals := 113 }) [.ref (ad 66), .int a0] G cA ad σ (c_dayK σ a0) (fun v τ => v = none ∧ τ = c_dayS σ a0) 1 6 := by
  refine cx_ofW (cc := cX6_day) (maxL := 2) (ret := none) (by decide) ?_
  intro p e s m args below meth c s₁ B hml hEx hv
  obtain ⟨rfl, hP, hK, hT⟩ := hv
  have hx := B.exec
  have hb := B.bytes
  have hr := B.returns
  have hts := atoms_spec (ws := wX6_day :: wG) B.pre
  have hg : ∀ w ∈ wG, w.before _ s = true := fun w h => hts w (List.mem_cons_of_mem _ h)
  have hown : s.vm.findClass RX6 = some m.cls := findClass_of_methodNamed B.named
  have hlocks := B.notSynchronized
  have hS : va_S (rrA ad) s.heap s.heap [] := va_S.rf
  have hP0 := hP
  have hl := lv_entry ([.ref (ad 66), .int a0]) (n := 2) (Nat.le_of_ble_eq_true rfl)
  rw [lg_entry_eq]
  generalize (lg_sl ([.ref (ad 66), .int a0]) ++ List.replicate (2 - (lg_sl ([.ref (ad 66), .int a0])).length) Slot.unset).toArray = ls at hl ⊢
  have hl : lv_has ls 2 [(0, .ref (ad 66)), (1, .int a0)] := hl
  refine lv_iload_n hx hb dX6_day_0 rfl (lv_at hl 1 rfl) ?_
  refine lv_aload_n hx hb dX6_day_1 rfl (lv_at hl 0 rfl) ?_
  refine va_get (D := G) (ci := 6) (v := .ref (ad 72)) (C := RX6) (T := TX6) (N := 8) hx hb hg hinX6 hown hK hP 66 rl_main rfl 5 (by decide) (hg _ qF_X6_34) (fun _ h9 => h9) rfl dX6_day_2 ?_
  refine va_get (D := G) (ci := 0) (v := .int (σ 40 0)) (C := RX0) (T := TX0) (N := 2) hx hb hg hinX0 hown hK hP 72 rl_Calendar rfl 1 (by decide) (hg _ qF_X6_125) (fun _ h9 => h9) rfl dX6_day_5 ?_
  refine lv_sipush (v := 399) hx hb dX6_day_8 (by decide) ?_
  refine cx_callS (As := [.int a0, .int (σ 40 0), .int 399]) (rest := []) ⟨hx, hb, hml, hown, hg⟩ (m_ReplenishRules_checkRange l hl9 G cA ad σ hJ a0 (σ 40 0) 399) (cwS 3 hg (gS qM_X6_61 qT_X6_checkRange qN_X6 kX6_checkRange) rfl rfl rfl (by decide +kernel) ⟨Nat.le_of_ble_eq_true rfl, Nat.le_of_ble_eq_true rfl⟩) hK hP hT (fun _ h => h) hS  rfl hl.1 rfl (lv_room (Nat.le_of_ble_eq_true rfl)) dX6_day_11 ⟨Nat.le_of_ble_eq_true rfl, Nat.le_of_ble_eq_true rfl⟩ hEx hlocks (Nat.le_of_ble_eq_true rfl) (Nat.le_of_ble_eq_true rfl) (fun hk_11 => by simp only [c_dayK, c_then_n hk_11]) (fun hk_11 v9 τ9 H hR hP hS _ => ?_)
  obtain ⟨rfl, hτ9⟩ := hR
  rw [hτ9] at hP
  show W _ _ _ _ _ _ _ _ _ _ _ _ _ _ _ (F0 m 14 ls [])
  refine W.widen (k := 1) (n := 6) (Nat.le_of_ble_eq_true rfl) (Nat.le_of_ble_eq_true rfl) ?_
  refine lv_aload_n hx hb dX6_day_14 rfl (lv_at hl 0 rfl) ?_
  refine va_get (D := G) (ci := 6) (v := .ref (ad 72)) (C := RX6) (T := TX6) (N := 8) hx hb hg hinX6 hown hK hP 66 rl_main rfl 5 (by decide) (hg _ qF_X6_34) (fun _ h9 => h9) rfl dX6_day_15 ?_
  refine lv_iload_n hx hb dX6_day_18 rfl (lv_at hl 1 rfl) ?_
  refine pp_put (D := G) (ci := 0) (v := .int a0) (ty := .int) (C := RX0) (T := TX0) (N := 2) hx hb hg hinX0 tyX0 tyX0_ok nmX0 hown hK hP (rr_D hJ) hS 72 rl_Calendar rfl 1 (by decide) (hg _ qF_X6_125) (fun _ h9 => h9) rfl (by decide +kernel) rfl rfl (Nat.le_of_ble_eq_true rfl) (rs_Calendar_today) dX6_day_19 (fun H locs hP hS => ?_)
  obtain ⟨σ1, eσ1⟩ : ∃ z, z = up σ 40 0 a0 := ⟨_, rfl⟩
  rw [← eσ1] at hP
  refine W.widen (k := 1) (n := 6) (Nat.le_of_ble_eq_true rfl) (Nat.le_of_ble_eq_true rfl) ?_
  exact cx_ret (by simp only [c_dayK, hk_11, c_then_z]) (W.vret hx hb hr (fun t ht hW => ⟨⟨_, σ1, rfl, ⟨rfl, by subst eσ1; rfl⟩, by rw [ht]; exact hP, va_K.moved hW.alike hK⟩, hS.F ht⟩) hS.2.2 dX6_day_22)

set_option maxHeartbeats 600000 in
set_option maxRecDepth 100000 in
theorem m_ReplenishRules_mean (l : Launch) (hl9 : l.stackTraces = false) (G : va_G) (cA : Nat → ClassId) (ad : Nat → Nat) (σ : St) (hJ : rr_inj ad) (hI : Inv σ) (a0 : Int32) (b0 : Int32) : cx_Met (rrA ad) l yX6_mean wX6_mean ({ frames := 9, cells := 4, slots := 24, locals := 156 }) [.ref (ad 66), .int a0, .int b0] G cA ad σ (c_meanK σ a0 b0) (fun v τ => v = some (.int (c_meanR σ a0 b0)) ∧ τ = σ) 4 24 := by
  refine cx_ofW (cc := cX6_mean) (maxL := 5) (ret := (some .int)) (by decide) ?_
  intro p e s m args below meth c s₁ B hml hEx hv
  obtain ⟨rfl, hP, hK, hT⟩ := hv
  have hx := B.exec
  have hb := B.bytes
  have hr := B.returns
  have hts := atoms_spec (ws := wX6_mean :: wG) B.pre
  have hg : ∀ w ∈ wG, w.before _ s = true := fun w h => hts w (List.mem_cons_of_mem _ h)
  have hown : s.vm.findClass RX6 = some m.cls := findClass_of_methodNamed B.named
  have hlocks := B.notSynchronized
  have hS : va_S (rrA ad) s.heap s.heap [] := va_S.rf
  have hP0 := hP
  have hl := lv_entry ([.ref (ad 66), .int a0, .int b0]) (n := 5) (Nat.le_of_ble_eq_true rfl)
  rw [lg_entry_eq]
  generalize (lg_sl ([.ref (ad 66), .int a0, .int b0]) ++ List.replicate (5 - (lg_sl ([.ref (ad 66), .int a0, .int b0])).length) Slot.unset).toArray = ls at hl ⊢
  have hl : lv_has ls 5 [(0, .ref (ad 66)), (1, .int a0), (2, .int b0)] := hl
  refine lv_iload_n hx hb dX6_mean_0 rfl (lv_at hl 2 rfl) ?_
  refine lv_iconst (v := 0) hx hb dX6_mean_1 (by decide) ?_
  refine lv_bipush (v := 60) hx hb dX6_mean_2 (by decide) ?_
  refine cx_callS (As := [.int b0, .int 0, .int 60]) (rest := []) ⟨hx, hb, hml, hown, hg⟩ (m_ReplenishRules_checkRange l hl9 G cA ad σ hJ b0 0 60) (cwS 3 hg (gS qM_X6_61 qT_X6_checkRange qN_X6 kX6_checkRange) rfl rfl rfl (by decide +kernel) ⟨Nat.le_of_ble_eq_true rfl, Nat.le_of_ble_eq_true rfl⟩) hK hP hT (fun _ h => h) hS  rfl hl.1 rfl (lv_room (Nat.le_of_ble_eq_true rfl)) dX6_mean_4 ⟨Nat.le_of_ble_eq_true rfl, Nat.le_of_ble_eq_true rfl⟩ hEx hlocks (Nat.le_of_ble_eq_true rfl) (Nat.le_of_ble_eq_true rfl) (fun hk_4 => by simp only [c_meanK, c_then_n hk_4]) (fun hk_4 v9 τ9 H hR hP hS _ => ?_)
  obtain ⟨rfl, hτ9⟩ := hR
  rw [hτ9] at hP
  show W _ _ _ _ _ _ _ _ _ _ _ _ _ _ _ (F0 m 7 ls [])
  refine W.widen (k := 1) (n := 6) (Nat.le_of_ble_eq_true rfl) (Nat.le_of_ble_eq_true rfl) ?_
  refine lv_aload_n hx hb dX6_mean_7 rfl (lv_at hl 0 rfl) ?_
  refine lv_iload_n hx hb dX6_mean_8 rfl (lv_at hl 1 rfl) ?_
  refine cx_callV (As := [.int a0]) (rest := []) ⟨hx, hb, hml, hown, hg⟩ (m_ReplenishRules_faceAt l hl9 G cA ad σ hJ a0) (cwV 1 hg (gV qM_X6_110 qI_X6_faceAt qS_X6_faceAt qN_X6 kX6_faceAt) rfl rfl rfl (by decide +kernel) ⟨Nat.le_of_ble_eq_true rfl, Nat.le_of_ble_eq_true rfl⟩) hK hP hT (fun _ h => h) hS (va_recv hK hP (ci := 6) (q0 := 66) rfl rl_main) rfl hl.1 rfl (lv_room (Nat.le_of_ble_eq_true rfl)) dX6_mean_9 ⟨Nat.le_of_ble_eq_true rfl, Nat.le_of_ble_eq_true rfl⟩ hEx hlocks (Nat.le_of_ble_eq_true rfl) (Nat.le_of_ble_eq_true rfl) (fun hk_9 => by simp only [c_meanK, hk_4, c_then_z, c_then_n hk_9]) (fun hk_9 v9 τ9 H hR hP hS _ => ?_)
  obtain ⟨rfl, hτ9⟩ := hR
  rw [hτ9] at hP
  show W _ _ _ _ _ _ _ _ _ _ _ _ _ _ _ (F0 m 12 ls [.ref (ad (nx a0))])
  refine W.widen (k := 3) (n := 18) (Nat.le_of_ble_eq_true rfl) (Nat.le_of_ble_eq_true rfl) ?_
  refine lv_astore_n (lv' := [(3, .ref (ad (nx a0))), (0, .ref (ad 66)), (1, .int a0), (2, .int b0)]) hx hb dX6_mean_12 rfl hl (by decide) rfl (fun ls hl => ?_)
  refine lv_aload_n hx hb dX6_mean_13 rfl (lv_at hl 1 rfl) ?_
  refine va_get (D := G) (ci := 6) (v := .ref (ad 72)) (C := RX6) (T := TX6) (N := 8) hx hb hg hinX6 hown hK hP 66 rl_main rfl 5 (by decide) (hg _ qF_X6_34) (fun _ h9 => h9) rfl dX6_mean_14 ?_
  refine lv_iload_n hx hb dX6_mean_17 rfl (lv_at hl 3 rfl) ?_
  refine vp_callSi (W.runV (As := [.int b0]) (rest := []) ⟨hx, hb, hml, hown, hg⟩ (m_Calendar_openDays l G cA ad σ b0 (inv_today hI) (rg0 hk_4)) (cwV 1 hg (gV qM_X6_165 qI_X0_openDays qS_X0_openDays qN_X0 kX0_openDays) rfl rfl rfl (by decide +kernel) ⟨Nat.le_of_ble_eq_true rfl, Nat.le_of_ble_eq_true rfl⟩) (rr_pv hK hP (va_recv hK hP (ci := 0) (q0 := 72) rfl rl_Calendar)) rfl rfl hl.1 rfl (lv_room (Nat.le_of_ble_eq_true rfl)) dX6_mean_18 ⟨Nat.le_of_ble_eq_true rfl, Nat.le_of_ble_eq_true rfl⟩) (nm_e ?_)
  refine lv_istore (lv' := [(4, .int (c_openDays σ b0)), (3, .ref (ad (nx a0))), (0, .ref (ad 66)), (1, .int a0), (2, .int b0)]) hx hb dX6_mean_21 hl (by decide) rfl (fun ls hl => ?_)
  refine lv_iload hx hb dX6_mean_23 (lv_at hl 0 rfl) ?_
  refine lv_if_ne (tgt := 38) hx hb dX6_mean_25 (by decide) (fun c_25 => ?_) (fun c_25 => ?_)
  · -- ifne taken
    refine lv_aload_n hx hb dX6_mean_38 rfl (lv_at hl 2 rfl) ?_
    refine lv_aload_n hx hb dX6_mean_39 rfl (lv_at hl 1 rfl) ?_
    refine lv_iload_n hx hb dX6_mean_40 rfl (lv_at hl 4 rfl) ?_
    refine vp_callSl (W.runV (As := [.ref (ad (nx a0)), .int b0]) (rest := []) ⟨hx, hb, hml, hown, hg⟩ (m_ReplenishRules_usedOnAllDays l G cA ad σ (nx a0) (vp_lt (placeAt_in (faceAt_place hk_9).1)) b0 (inv_today hI) (rg0 hk_4)) (cwV 2 hg (gV qM_X6_174 qI_X6_usedOnAllDays qS_X6_usedOnAllDays qN_X6 kX6_usedOnAllDays) rfl rfl rfl (by decide +kernel) ⟨Nat.le_of_ble_eq_true rfl, Nat.le_of_ble_eq_true rfl⟩) (rr_pv hK hP (va_recv hK hP (ci := 6) (q0 := 66) rfl rl_main)) rfl rfl hl.1 rfl (lv_room (Nat.le_of_ble_eq_true rfl)) dX6_mean_41 ⟨Nat.le_of_ble_eq_true rfl, Nat.le_of_ble_eq_true rfl⟩) (nm_e ?_)
    refine lv_iload hx hb dX6_mean_44 (lv_at hl 0 rfl) ?_
    refine lv_i2l (v := (c_openDays σ b0).toInt64) hx hb dX6_mean_46 rfl ?_
    refine lv_ldiv hx hb dX6_mean_47 (toInt64_ne c_25) ?_
    refine lv_l2i (v := ((c_usedAll σ (nx a0) b0) / ((c_openDays σ b0).toInt64)).toInt32) hx hb dX6_mean_48 rfl ?_
    refine W.widen (k := 4) (n := 24) (Nat.le_of_ble_eq_true rfl) (Nat.le_of_ble_eq_true rfl) ?_
    exact cx_ret (by simp only [c_meanK, hk_4, c_then_z, hk_9, c_then_z, if_neg c_25]) (W.iret (v := ((c_usedAll σ (nx a0) b0) / ((c_openDays σ b0).toInt64)).toInt32) hx hb hr (fun t ht hW => ⟨⟨_, σ, rfl, ⟨rfl, rfl⟩, by rw [ht]; exact hP, va_K.moved hW.alike hK⟩, hS.F ht⟩) hS.2.2 dX6_mean_49)
  · -- ifne not taken
    have eK : c_meanK σ a0 b0 = 5 := by simp only [c_meanK, hk_4, c_then_z, hk_9, c_then_z, if_pos c_25]
    obtain ⟨sa, hstr⟩ := hT.2.2.2 ("ReplenishRules", 171, "none of the days was open") (by decide +kernel)
    exact cx_throw (own := RX6) (cls := "java/lang/ArithmeticException") (names := rr_nm) hx hb hl9 hown (by decide +kernel) rr_nm_fit (hg _ qK_X6_169) (hg _ qA_ArithmeticException) (hg _ qN_ArithmeticException) hstr (cx_words rr_at5 hg hT) hP0 hK hS (hl.1.trans hml.symm) dX6_mean_28 dX6_mean_31 dX6_mean_32 dX6_mean_34 dX6_mean_37 hEx hlocks (Nat.le_of_ble_eq_true rfl) (Nat.le_of_ble_eq_true rfl) (Nat.le_of_ble_eq_true rfl) (Nat.le_of_ble_eq_true rfl) (by rw [eK]; decide) (by rw [eK]; rfl) (Nat.le_of_ble_eq_true rfl) (Nat.le_of_ble_eq_true rfl)

set_option maxHeartbeats 600000 in
set_option maxRecDepth 100000 in
theorem m_ReplenishRules_forecast (l : Launch) (hl9 : l.stackTraces = false) (G : va_G) (cA : Nat → ClassId) (ad : Nat → Nat) (σ : St) (hJ : rr_inj ad) (hI : Inv σ) (a0 : Int32) : cx_Met (rrA ad) l yX6_forecast wX6_forecast ({ frames := 9, cells := 2, slots := 12, locals := 156 }) [.ref (ad 66), .int a0] G cA ad σ (c_faceAt σ a0) (fun v τ => v = some (.long (c_forecastOf σ (nx a0))) ∧ τ = σ) 2 12 := by
  refine cx_ofW (cc := cX6_forecast) (maxL := 2) (ret := (some .long)) (by decide) ?_
  intro p e s m args below meth c s₁ B hml hEx hv
  obtain ⟨rfl, hP, hK, hT⟩ := hv
  have hx := B.exec
  have hb := B.bytes
  have hr := B.returns
  have hts := atoms_spec (ws := wX6_forecast :: wG) B.pre
  have hg : ∀ w ∈ wG, w.before _ s = true := fun w h => hts w (List.mem_cons_of_mem _ h)
  have hown : s.vm.findClass RX6 = some m.cls := findClass_of_methodNamed B.named
  have hlocks := B.notSynchronized
  have hS : va_S (rrA ad) s.heap s.heap [] := va_S.rf
  have hP0 := hP
  have hl := lv_entry ([.ref (ad 66), .int a0]) (n := 2) (Nat.le_of_ble_eq_true rfl)
  rw [lg_entry_eq]
  generalize (lg_sl ([.ref (ad 66), .int a0]) ++ List.replicate (2 - (lg_sl ([.ref (ad 66), .int a0])).length) Slot.unset).toArray = ls at hl ⊢
  have hl : lv_has ls 2 [(0, .ref (ad 66)), (1, .int a0)] := hl
  refine lv_aload_n hx hb dX6_forecast_0 rfl (lv_at hl 0 rfl) ?_
  refine lv_aload_n hx hb dX6_forecast_1 rfl (lv_at hl 0 rfl) ?_
  refine lv_iload_n hx hb dX6_forecast_2 rfl (lv_at hl 1 rfl) ?_
  refine cx_callV (As := [.int a0]) (rest := [.ref (ad 66)]) ⟨hx, hb, hml, hown, hg⟩ (m_ReplenishRules_faceAt l hl9 G cA ad σ hJ a0) (cwV 1 hg (gV qM_X6_110 qI_X6_faceAt qS_X6_faceAt qN_X6 kX6_faceAt) rfl rfl rfl (by decide +kernel) ⟨Nat.le_of_ble_eq_true rfl, Nat.le_of_ble_eq_true rfl⟩) hK hP hT (fun _ h => h) hS (va_recv hK hP (ci := 6) (q0 := 66) rfl rl_main) rfl hl.1 rfl (lv_room (Nat.le_of_ble_eq_true rfl)) dX6_forecast_3 ⟨Nat.le_of_ble_eq_true rfl, Nat.le_of_ble_eq_true rfl⟩ hEx hlocks (Nat.le_of_ble_eq_true rfl) (Nat.le_of_ble_eq_true rfl) (fun _ => rfl) (fun hk_3 v9 τ9 H hR hP hS _ => ?_)
  obtain ⟨rfl, hτ9⟩ := hR
  rw [hτ9] at hP
  show W _ _ _ _ _ _ _ _ _ _ _ _ _ _ _ (F0 m 6 ls [.ref (ad (nx a0)), .ref (ad 66)])
  refine W.widen (k := 2) (n := 12) (Nat.le_of_ble_eq_true rfl) (Nat.le_of_ble_eq_true rfl) ?_
  refine vp_callSl (W.runV (As := [.ref (ad (nx a0))]) (rest := []) ⟨hx, hb, hml, hown, hg⟩ (m_ReplenishRules_forecastOf l G cA ad σ hI (nx a0) (vp_lt (placeAt_in (faceAt_place hk_3).1))) (cwV 1 hg (gV qM_X6_178 qI_X6_forecastOf qS_X6_forecastOf qN_X6 kX6_forecastOf) rfl rfl rfl (by decide +kernel) ⟨Nat.le_of_ble_eq_true rfl, Nat.le_of_ble_eq_true rfl⟩) (rr_pv hK hP (va_recv hK hP (ci := 6) (q0 := 66) rfl rl_main)) rfl rfl hl.1 rfl (lv_room (Nat.le_of_ble_eq_true rfl)) dX6_forecast_6 ⟨Nat.le_of_ble_eq_true rfl, Nat.le_of_ble_eq_true rfl⟩) (nm_e ?_)
  refine W.widen (k := 2) (n := 12) (Nat.le_of_ble_eq_true rfl) (Nat.le_of_ble_eq_true rfl) ?_
  exact cx_ret (hk_3) (W.lret (v := c_forecastOf σ (nx a0)) hx hb hr (fun t ht hW => ⟨⟨_, σ, rfl, ⟨rfl, rfl⟩, by rw [ht]; exact hP, va_K.moved hW.alike hK⟩, hS.F ht⟩) hS.2.2 dX6_forecast_9)

set_option maxHeartbeats 600000 in
set_option maxRecDepth 100000 in
theorem m_ReplenishRules_threshold (l : Launch) (hl9 : l.stackTraces = false) (G : va_G) (cA : Nat → ClassId) (ad : Nat → Nat) (σ : St) (hJ : rr_inj ad) (hI : Inv σ) (a0 : Int32) : cx_Met (rrA ad) l yX6_threshold wX6_threshold ({ frames := 9, cells := 2, slots := 12, locals := 156 }) [.ref (ad 66), .int a0] G cA ad σ (c_faceAt σ a0) (fun v τ => v = some (.int (c_thresholdOf σ (nx a0))) ∧ τ = σ) 2 12 := by
  refine cx_ofW (cc := cX6_threshold) (maxL := 2) (ret := (some .int)) (by decide) ?_
  intro p e s m args below meth c s₁ B hml hEx hv
  obtain ⟨rfl, hP, hK, hT⟩ := hv
  have hx := B.exec
  have hb := B.bytes
  have hr := B.returns
  have hts := atoms_spec (ws := wX6_threshold :: wG) B.pre
  have hg : ∀ w ∈ wG, w.before _ s = true := fun w h => hts w (List.mem_cons_of_mem _ h)
  have hown : s.vm.findClass RX6 = some m.cls := findClass_of_methodNamed B.named
  have hlocks := B.notSynchronized
  have hS : va_S (rrA ad) s.heap s.heap [] := va_S.rf
  have hP0 := hP
  have hl := lv_entry ([.ref (ad 66), .int a0]) (n := 2) (Nat.le_of_ble_eq_true rfl)
  rw [lg_entry_eq]
  generalize (lg_sl ([.ref (ad 66), .int a0]) ++ List.replicate (2 - (lg_sl ([.ref (ad 66), .int a0])).length) Slot.unset).toArray = ls at hl ⊢
  have hl : lv_has ls 2 [(0, .ref (ad 66)), (1, .int a0)] := hl
  refine lv_aload_n hx hb dX6_threshold_0 rfl (lv_at hl 0 rfl) ?_
  refine lv_aload_n hx hb dX6_threshold_1 rfl (lv_at hl 0 rfl) ?_
  refine lv_iload_n hx hb dX6_threshold_2 rfl (lv_at hl 1 rfl) ?_
  refine cx_callV (As := [.int a0]) (rest := [.ref (ad 66)]) ⟨hx, hb, hml, hown, hg⟩ (m_ReplenishRules_faceAt l hl9 G cA ad σ hJ a0) (cwV 1 hg (gV qM_X6_110 qI_X6_faceAt qS_X6_faceAt qN_X6 kX6_faceAt) rfl rfl rfl (by decide +kernel) ⟨Nat.le_of_ble_eq_true rfl, Nat.le_of_ble_eq_true rfl⟩) hK hP hT (fun _ h => h) hS (va_recv hK hP (ci := 6) (q0 := 66) rfl rl_main) rfl hl.1 rfl (lv_room (Nat.le_of_ble_eq_true rfl)) dX6_threshold_3 ⟨Nat.le_of_ble_eq_true rfl, Nat.le_of_ble_eq_true rfl⟩ hEx hlocks (Nat.le_of_ble_eq_true rfl) (Nat.le_of_ble_eq_true rfl) (fun _ => rfl) (fun hk_3 v9 τ9 H hR hP hS _ => ?_)
  obtain ⟨rfl, hτ9⟩ := hR
  rw [hτ9] at hP
  show W _ _ _ _ _ _ _ _ _ _ _ _ _ _ _ (F0 m 6 ls [.ref (ad (nx a0)), .ref (ad 66)])
  refine W.widen (k := 2) (n := 12) (Nat.le_of_ble_eq_true rfl) (Nat.le_of_ble_eq_true rfl) ?_
  refine vp_callSi (W.runV (As := [.ref (ad (nx a0))]) (rest := []) ⟨hx, hb, hml, hown, hg⟩ (m_ReplenishRules_thresholdOf l G cA ad σ hI (nx a0) (vp_lt (placeAt_in (faceAt_place hk_3).1))) (cwV 1 hg (gV qM_X6_182 qI_X6_thresholdOf qS_X6_thresholdOf qN_X6 kX6_thresholdOf) rfl rfl rfl (by decide +kernel) ⟨Nat.le_of_ble_eq_true rfl, Nat.le_of_ble_eq_true rfl⟩) (rr_pv hK hP (va_recv hK hP (ci := 6) (q0 := 66) rfl rl_main)) rfl rfl hl.1 rfl (lv_room (Nat.le_of_ble_eq_true rfl)) dX6_threshold_6 ⟨Nat.le_of_ble_eq_true rfl, Nat.le_of_ble_eq_true rfl⟩) (nm_e ?_)
  refine W.widen (k := 2) (n := 12) (Nat.le_of_ble_eq_true rfl) (Nat.le_of_ble_eq_true rfl) ?_
  exact cx_ret (hk_3) (W.iret (v := c_thresholdOf σ (nx a0)) hx hb hr (fun t ht hW => ⟨⟨_, σ, rfl, ⟨rfl, rfl⟩, by rw [ht]; exact hP, va_K.moved hW.alike hK⟩, hS.F ht⟩) hS.2.2 dX6_threshold_9)

set_option maxHeartbeats 600000 in
set_option maxRecDepth 100000 in
theorem m_ReplenishRules_above (l : Launch) (hl9 : l.stackTraces = false) (G : va_G) (cA : Nat → ClassId) (ad : Nat → Nat) (σ : St) (hJ : rr_inj ad) (hI : Inv σ) (a0 : Int32) : cx_Met (rrA ad) l yX6_above wX6_above ({ frames := 9, cells := 2, slots := 12, locals := 156 }) [.ref (ad 66), .int a0] G cA ad σ (c_faceAt σ a0) (fun v τ => v = some (.int (c_aboveR σ a0)) ∧ τ = σ) 2 12 := by
  refine cx_ofW (cc := cX6_above) (maxL := 3) (ret := (some .boolean)) (by decide) ?_
  intro p e s m args below meth c s₁ B hml hEx hv
  obtain ⟨rfl, hP, hK, hT⟩ := hv
  have hx := B.exec
  have hb := B.bytes
  have hr := B.returns
  have hts := atoms_spec (ws := wX6_above :: wG) B.pre
  have hg : ∀ w ∈ wG, w.before _ s = true := fun w h => hts w (List.mem_cons_of_mem _ h)
  have hown : s.vm.findClass RX6 = some m.cls := findClass_of_methodNamed B.named
  have hlocks := B.notSynchronized
  have hS : va_S (rrA ad) s.heap s.heap [] := va_S.rf
  have hP0 := hP
  have hl := lv_entry ([.ref (ad 66), .int a0]) (n := 3) (Nat.le_of_ble_eq_true rfl)
  rw [lg_entry_eq]
  generalize (lg_sl ([.ref (ad 66), .int a0]) ++ List.replicate (3 - (lg_sl ([.ref (ad 66), .int a0])).length) Slot.unset).toArray = ls at hl ⊢
  have hl : lv_has ls 3 [(0, .ref (ad 66)), (1, .int a0)] := hl
  refine lv_aload_n hx hb dX6_above_0 rfl (lv_at hl 0 rfl) ?_
  refine lv_iload_n hx hb dX6_above_1 rfl (lv_at hl 1 rfl) ?_
  refine cx_callV (As := [.int a0]) (rest := []) ⟨hx, hb, hml, hown, hg⟩ (m_ReplenishRules_faceAt l hl9 G cA ad σ hJ a0) (cwV 1 hg (gV qM_X6_110 qI_X6_faceAt qS_X6_faceAt qN_X6 kX6_faceAt) rfl rfl rfl (by decide +kernel) ⟨Nat.le_of_ble_eq_true rfl, Nat.le_of_ble_eq_true rfl⟩) hK hP hT (fun _ h => h) hS (va_recv hK hP (ci := 6) (q0 := 66) rfl rl_main) rfl hl.1 rfl (lv_room (Nat.le_of_ble_eq_true rfl)) dX6_above_2 ⟨Nat.le_of_ble_eq_true rfl, Nat.le_of_ble_eq_true rfl⟩ hEx hlocks (Nat.le_of_ble_eq_true rfl) (Nat.le_of_ble_eq_true rfl) (fun _ => rfl) (fun hk_2 v9 τ9 H hR hP hS _ => ?_)
  obtain ⟨rfl, hτ9⟩ := hR
  rw [hτ9] at hP
  show W _ _ _ _ _ _ _ _ _ _ _ _ _ _ _ (F0 m 5 ls [.ref (ad (nx a0))])
  refine W.widen (k := 2) (n := 12) (Nat.le_of_ble_eq_true rfl) (Nat.le_of_ble_eq_true rfl) ?_
  refine lv_astore_n (lv' := [(2, .ref (ad (nx a0))), (0, .ref (ad 66)), (1, .int a0)]) hx hb dX6_above_5 rfl hl (by decide) rfl (fun ls hl => ?_)
  refine lv_aload_n hx hb dX6_above_6 rfl (lv_at hl 1 rfl) ?_
  refine lv_aload_n hx hb dX6_above_7 rfl (lv_at hl 0 rfl) ?_
  refine vp_callSl (W.runV (As := [.ref (ad (nx a0))]) (rest := []) ⟨hx, hb, hml, hown, hg⟩ (m_ReplenishRules_needOf l G cA ad σ hI (nx a0) (vp_lt (placeAt_in (faceAt_place hk_2).1))) (cwV 1 hg (gV qM_X6_186 qI_X6_needOf qS_X6_needOf qN_X6 kX6_needOf) rfl rfl rfl (by decide +kernel) ⟨Nat.le_of_ble_eq_true rfl, Nat.le_of_ble_eq_true rfl⟩) (rr_pv hK hP (va_recv hK hP (ci := 6) (q0 := 66) rfl rl_main)) rfl rfl hl.1 rfl (lv_room (Nat.le_of_ble_eq_true rfl)) dX6_above_8 ⟨Nat.le_of_ble_eq_true rfl, Nat.le_of_ble_eq_true rfl⟩) (nm_e ?_)
  refine lv_aload_n hx hb dX6_above_11 rfl (lv_at hl 0 rfl) ?_
  refine va_get (D := G) (ci := 2) (v := .int (σ 0 (nx a0))) (C := RX2) (T := TX2) (N := 13) hx hb hg hinX2 hown hK hP (nx a0) (rl_Place (vp_lt (placeAt_in (faceAt_place hk_2).1))) rfl 2 (by decide) (hg _ qF_X6_79) (fun _ h9 => h9) rfl dX6_above_12 ?_
  refine lv_i2l (v := (σ 0 (nx a0)).toInt64) hx hb dX6_above_15 rfl ?_
  refine W.lcmp hx hb dX6_above_16 ?_
  refine lv_if_le (tgt := 24) hx hb dX6_above_17 (by decide) (fun c_17 => ?_) (fun c_17 => ?_)
  · -- ifle taken
    refine lv_iconst (v := 0) hx hb dX6_above_24 (by decide) ?_
    refine W.widen (k := 2) (n := 12) (Nat.le_of_ble_eq_true rfl) (Nat.le_of_ble_eq_true rfl) ?_
    exact cx_ret (by simp only [hk_2, c_then_z, if_pos c_17]) (W.zret (v := 0) (ty := .boolean) hx hb hr (by decide) (fun t ht hW => ⟨⟨_, σ, rfl, ⟨by simp only [c_aboveR, hk_2, c_then_z, if_pos c_17], rfl⟩, by rw [ht]; exact hP, va_K.moved hW.alike hK⟩, hS.F ht⟩) hS.2.2 dX6_above_25)
  · -- ifle not taken
    refine lv_iconst (v := 1) hx hb dX6_above_20 (by decide) ?_
    refine lv_goto (tgt := 25) hx hb dX6_above_21 (by decide) ?_
    refine W.widen (k := 2) (n := 12) (Nat.le_of_ble_eq_true rfl) (Nat.le_of_ble_eq_true rfl) ?_
    exact cx_ret (by simp only [hk_2, c_then_z, if_neg c_17]) (W.zret (v := 1) (ty := .boolean) hx hb hr (by decide) (fun t ht hW => ⟨⟨_, σ, rfl, ⟨by simp only [c_aboveR, hk_2, c_then_z, if_neg c_17], rfl⟩, by rw [ht]; exact hP, va_K.moved hW.alike hK⟩, hS.F ht⟩) hS.2.2 dX6_above_25)

set_option maxHeartbeats 600000 in
set_option maxRecDepth 100000 in
theorem m_ReplenishRules_run (l : Launch) (hl9 : l.stackTraces = false) (G : va_G) (cA : Nat → ClassId) (ad : Nat → Nat) (σ : St) (hJ : rr_inj ad) (hI : Inv σ) : cx_Met (rrA ad) l yX6_run wX6_run ({ frames := 6, cells := 1, slots := 6, locals := 140 }) [.ref (ad 66)] G cA ad σ (c_runK σ) (fun v τ => v = some (.int (c_runS σ 42 0)) ∧ τ = c_runS σ) 1 6 := by
  refine cx_ofW (cc := cX6_run) (maxL := 3) (ret := (some .int)) (by decide) ?_
  intro p e s m args below meth c s₁ B hml hEx hv
  obtain ⟨rfl, hP, hK, hT⟩ := hv
  have hx := B.exec
  have hb := B.bytes
  have hr := B.returns
  have hts := atoms_spec (ws := wX6_run :: wG) B.pre
  have hg : ∀ w ∈ wG, w.before _ s = true := fun w h => hts w (List.mem_cons_of_mem _ h)
  have hown : s.vm.findClass RX6 = some m.cls := findClass_of_methodNamed B.named
  have hlocks := B.notSynchronized
  have hS : va_S (rrA ad) s.heap s.heap [] := va_S.rf
  have hP0 := hP
  have hl := lv_entry ([.ref (ad 66)]) (n := 3) (Nat.le_of_ble_eq_true rfl)
  rw [lg_entry_eq]
  generalize (lg_sl ([.ref (ad 66)]) ++ List.replicate (3 - (lg_sl ([.ref (ad 66)])).length) Slot.unset).toArray = ls at hl ⊢
  have hl : lv_has ls 3 [(0, .ref (ad 66))] := hl
  refine lv_aload_n hx hb dX6_run_0 rfl (lv_at hl 0 rfl) ?_
  refine va_get (D := G) (ci := 6) (v := .ref (ad 72)) (C := RX6) (T := TX6) (N := 8) hx hb hg hinX6 hown hK hP 66 rl_main rfl 5 (by decide) (hg _ qF_X6_34) (fun _ h9 => h9) rfl dX6_run_1 ?_
  refine lv_aload_n hx hb dX6_run_4 rfl (lv_at hl 0 rfl) ?_
  refine va_get (D := G) (ci := 6) (v := .ref (ad 72)) (C := RX6) (T := TX6) (N := 8) hx hb hg hinX6 hown hK hP 66 rl_main rfl 5 (by decide) (hg _ qF_X6_34) (fun _ h9 => h9) rfl dX6_run_5 ?_
  refine va_get (D := G) (ci := 0) (v := .int (σ 40 0)) (C := RX0) (T := TX0) (N := 2) hx hb hg hinX0 hown hK hP 72 rl_Calendar rfl 1 (by decide) (hg _ qF_X6_125) (fun _ h9 => h9) rfl dX6_run_8 ?_
  refine vp_callSi (W.runV (As := [.int (σ 40 0)]) (rest := []) ⟨hx, hb, hml, hown, hg⟩ (m_Calendar_isOpen l G cA ad σ (σ 40 0) (inv_today hI)) (cwV 1 hg (gV qM_X6_189 qI_X0_isOpen qS_X0_isOpen qN_X0 kX0_isOpen) rfl rfl rfl (by decide +kernel) ⟨Nat.le_of_ble_eq_true rfl, Nat.le_of_ble_eq_true rfl⟩) (rr_pv hK hP (va_recv hK hP (ci := 0) (q0 := 72) rfl rl_Calendar)) rfl rfl hl.1 rfl (lv_room (Nat.le_of_ble_eq_true rfl)) dX6_run_11 ⟨Nat.le_of_ble_eq_true rfl, Nat.le_of_ble_eq_true rfl⟩) (nm_e ?_)
  refine lv_if_ne (tgt := 27) hx hb dX6_run_14 (by decide) (fun c_14 => ?_) (fun c_14 => ?_)
  · -- ifne taken
    refine lv_aload_n hx hb dX6_run_27 rfl (lv_at hl 0 rfl) ?_
    refine va_get (D := G) (ci := 6) (v := .ref (ad 78)) (C := RX6) (T := TX6) (N := 8) hx hb hg hinX6 hown hK hP 66 rl_main rfl 7 (by decide) (hg _ qF_X6_48) (fun _ h9 => h9) rfl dX6_run_28 ?_
    refine va_callv (va_runV (As := []) (rest := []) ⟨hx, hb, hml, hown, hg⟩ (m_Plan_clear l G cA ad σ hJ) (cwV 0 hg (gV qM_X6_194 qI_X3_clear qS_X3_clear qN_X3 kX3_clear) rfl rfl rfl (by decide +kernel) ⟨Nat.le_of_ble_eq_true rfl, Nat.le_of_ble_eq_true rfl⟩) (rr_pv hK hP (va_recv hK hP (ci := 3) (q0 := 78) rfl rl_Plan)) rfl rfl hl.1 rfl (lv_room (Nat.le_of_ble_eq_true rfl)) dX6_run_31 ⟨Nat.le_of_ble_eq_true rfl, Nat.le_of_ble_eq_true rfl⟩) hS (fun q _ h => h) (fun q h => h) (fun σ1 t H locs ht hvm eσ1 hB hz9 hk9 hS => ?_)
    have hP := hB.1
    rw [ht] at hP
    refine lv_iconst (v := 0) hx hb dX6_run_34 (by decide) ?_
    refine lv_topi (fun y_35 ey_35 => ?_)
    obtain rfl : y_35 = nI 0 := ey_35.trans (nI_0.symm)
    refine lv_istore_n (lv' := [(1, .int (nI 0)), (0, .ref (ad 66))]) hx hb dX6_run_35 rfl hl (by decide) rfl (fun ls hl => ?_)
    have hK0 : c_runK σ = 0 := by simp only [c_runK, if_neg c_14]
    have hI1 : Inv σ1 := by rw [eσ1]; exact inv_clear hI
    refine lp_rw (f := (fun k σ => c_prepare σ (nx (nI k)))) (t := 16) (nL := 3) (fun _ σ => Inv σ) (fun k => [(1, .int (nI k)), (0, .ref (ad 66))]) 16 0 σ1 (by decide) ?_ ?_ hI1 hP hS ls (lv_sub hl [0, 1] rfl)
    · intro k σ2 H locs hk hIσ2 hP hS IH ls hl
      have hl : lv_has ls 3 [(1, .int (nI k)), (0, .ref (ad 66))] := hl
      refine lv_iload_n hx hb dX6_run_36 rfl (lv_at hl 0 rfl) ?_
      refine lv_bipush (v := 16) hx hb dX6_run_37 (by decide) ?_
      refine lv_icmp_ge (tgt := 58) hx hb dX6_run_39 (by decide) (fun c_39 => ?_) (fun c_39 => ?_)
      · -- if_icmpge taken
        exact absurd c_39 (nI_ge hk (by decide))
      · -- if_icmpge not taken
        refine lv_aload_n hx hb dX6_run_42 rfl (lv_at hl 1 rfl) ?_
        refine lv_aload_n hx hb dX6_run_43 rfl (lv_at hl 1 rfl) ?_
        refine va_get (D := G) (ci := 6) (v := .ref (ad 67)) (C := RX6) (T := TX6) (N := 8) hx hb hg hinX6 hown hK hP 66 rl_main rfl 0 (by decide) (hg _ qF_X6_11) (fun _ h9 => h9) rfl dX6_run_44 ?_
        refine lv_iload_n hx hb dX6_run_47 rfl (lv_at hl 0 rfl) ?_
        refine va_aldq hx hb hK hP 67 2 rl_placesA rfl (nI_in16 hk) dX6_run_48 ?_
        show W _ _ _ _ _ _ _ _ _ _ _ _ _ _ _ (F0 m _ ls (.ref (ad (nx (nI k))) :: [.ref (ad 66)]))
        refine va_callv (va_runV (As := [.ref (ad (nx (nI k)))]) (rest := []) ⟨hx, hb, hml, hown, hg⟩ (m_ReplenishRules_prepare l G cA ad σ2 hJ hIσ2 (nx (nI k)) (vp_lt (nI_in16 hk))) (cwV 1 hg (gV qM_X6_197 qI_X6_prepare qS_X6_prepare qN_X6 kX6_prepare) rfl rfl rfl (by decide +kernel) ⟨Nat.le_of_ble_eq_true rfl, Nat.le_of_ble_eq_true rfl⟩) (rr_pv hK hP (va_recv hK hP (ci := 6) (q0 := 66) rfl rl_main)) rfl rfl hl.1 rfl (lv_room (Nat.le_of_ble_eq_true rfl)) dX6_run_49 ⟨Nat.le_of_ble_eq_true rfl, Nat.le_of_ble_eq_true rfl⟩) hS (fun q _ h => h) (fun q h => h) (fun σ3 t H locs ht hvm eσ3 hB hz9 hk9 hS => ?_)
        have hP := hB.1
        rw [ht] at hP
        have hIσ3 : Inv σ3 := by rw [eσ3]; exact inv_prepare hIσ2 (nx (nI k))
        refine lv_iinc (v := nI (k + 1)) (lv' := [(1, .int (nI (k + 1))), (0, .ref (ad 66))]) hx hb dX6_run_52 hl (k := 0) rfl (nI_1 k) (by decide) rfl (fun ls hl => ?_)
        refine lv_goto (tgt := 36) hx hb dX6_run_55 (by decide) ?_
        have eF : c_prepare σ2 (nx (nI k)) = σ3 := by subst eσ3; simp only [if_neg c_39]
        exact IH H locs ls (by rw [eF]; exact (by rw [eσ3]; exact inv_prepare hIσ2 _)) (by rw [eF]; exact hP) hS (lv_sub hl [0, 1] rfl)
    · intro H locs hI9 hP hS ls hl
      have hl : lv_has ls 3 [(1, .int (nI 16)), (0, .ref (ad 66))] := hl
      obtain ⟨σ3, eσ3⟩ : ∃ z, z = foldN ((fun k σ => c_prepare σ (nx (nI k)))) 16 0 σ1 := ⟨_, rfl⟩
      rw [← eσ3] at hP hI9
      refine lv_iload_n hx hb dX6_run_36 rfl (lv_at hl 0 rfl) ?_
      refine lv_bipush (v := 16) hx hb dX6_run_37 (by decide) ?_
      refine lv_icmp_ge (tgt := 58) hx hb dX6_run_39 (by decide) (fun c_39 => ?_) (fun c_39 => ?_)
      · -- if_icmpge taken
        refine lv_iconst (v := 0) hx hb dX6_run_58 (by decide) ?_
        refine lv_topi (fun y_59 ey_59 => ?_)
        obtain rfl : y_59 = nI 0 := ey_59.trans (nI_0.symm)
        refine lv_istore_n (lv' := [(1, .int (nI 0)), (0, .ref (ad 66))]) hx hb dX6_run_59 rfl hl (by decide) rfl (fun ls hl => ?_)
        have hR : foldN (fun _ σ => c_runF σ) 16 0 σ3 = c_runS σ := by rw [eσ3, eσ1]; unfold c_runS; rfl
        refine lp_rw (f := (fun _ σ => c_runF σ)) (t := 16) (nL := 3) (fun k σ1 => Inv σ1 ∧ foldN (fun _ σ => c_runF σ) (16 - k) k σ1 = c_runS σ) (fun k => [(1, .int (nI k)), (0, .ref (ad 66))]) 16 0 σ3 (by decide) ?_ ?_ ⟨hI9, hR⟩ hP hS ls (lv_sub hl [0, 1] rfl)
        · intro k σ4 H locs hk hIk hP hS IH ls hl
          have hl : lv_has ls 3 [(1, .int (nI k)), (0, .ref (ad 66))] := hl
          refine lv_iload_n hx hb dX6_run_60 rfl (lv_at hl 0 rfl) ?_
          refine lv_bipush (v := 16) hx hb dX6_run_61 (by decide) ?_
          refine lv_icmp_ge (tgt := 89) hx hb dX6_run_63 (by decide) (fun c_63 => ?_) (fun c_63 => ?_)
          · -- if_icmpge taken
            exact absurd c_63 (nI_ge hk (by decide))
          · -- if_icmpge not taken
            refine lv_aload_n hx hb dX6_run_66 rfl (lv_at hl 1 rfl) ?_
            refine va_csq (W.runV (As := []) (rest := []) ⟨hx, hb, hml, hown, hg⟩ (m_ReplenishRules_mostUrgentFace l G cA ad σ4) (cwV 0 hg (gV qM_X6_201 qI_X6_mostUrgentFace qS_X6_mostUrgentFace qN_X6 kX6_mostUrgentFace) rfl rfl rfl (by decide +kernel) ⟨Nat.le_of_ble_eq_true rfl, Nat.le_of_ble_eq_true rfl⟩) (rr_pv hK hP (va_recv hK hP (ci := 6) (q0 := 66) rfl rl_main)) rfl rfl hl.1 rfl (lv_room (Nat.le_of_ble_eq_true rfl)) dX6_run_67 ⟨Nat.le_of_ble_eq_true rfl, Nat.le_of_ble_eq_true rfl⟩) (nm_e ?_)
            rcases hu : c_urgent σ4 with _ | b9
            · show W _ _ _ _ _ _ _ _ _ _ _ _ _ _ _ (F0 m 70 ls (.null :: []))
              have eR : σ4 = c_runS σ := (runF_none hu (16 - k) k).symm.trans hIk.2
              refine lv_astore_nN (lv' := [(2, .null), (1, .int (nI k)), (0, .ref (ad 66))]) hx hb dX6_run_70 rfl hl (by decide) rfl (fun ls hl => ?_)
              refine lv_aload_nN hx hb dX6_run_71 rfl (lv_at hl 0 rfl) ?_
              refine lv_ifnonnullN hx hb dX6_run_72 ?_
              refine lv_goto (tgt := 89) hx hb dX6_run_75 (by decide) ?_
              refine lv_aload_n hx hb dX6_run_89 rfl (lv_at hl 2 rfl) ?_
              refine va_get (D := G) (ci := 6) (v := .ref (ad 78)) (C := RX6) (T := TX6) (N := 8) hx hb hg hinX6 hown hK hP 66 rl_main rfl 7 (by decide) (hg _ qF_X6_48) (fun _ h9 => h9) rfl dX6_run_90 ?_
              refine va_get (D := G) (ci := 3) (v := .int (σ4 42 0)) (C := RX3) (T := TX3) (N := 5) hx hb hg hinX3 hown hK hP 78 rl_Plan rfl 1 (by decide) (hg _ qF_X6_208) (fun _ h9 => h9) rfl dX6_run_93 ?_
              refine W.widen (k := 1) (n := 6) (by omega) (by omega) ?_
              exact cx_ret hK0 (W.iret (v := σ4 42 0) hx hb hr (fun t ht hW => ⟨⟨_, σ4, rfl, ⟨by rw [eR], eR⟩, by rw [ht]; exact hP, va_K.moved hW.alike hK⟩, hS.F ht⟩) hS.2.2 dX6_run_96)
            · show W _ _ _ _ _ _ _ _ _ _ _ _ _ _ _ (F0 m 70 ls (.ref (ad b9) :: []))
              have hb9 := urgent_lt hu
              refine lv_astore_n (lv' := [(2, .ref (ad b9)), (1, .int (nI k)), (0, .ref (ad 66))]) hx hb dX6_run_70 rfl hl (by decide) rfl (fun ls hl => ?_)
              refine lv_aload_n hx hb dX6_run_71 rfl (lv_at hl 0 rfl) ?_
              refine lv_ifnonnull (tgt := 78) hx hb dX6_run_72 (by decide) ?_
              refine lv_aload_n hx hb dX6_run_78 rfl (lv_at hl 2 rfl) ?_
              refine lv_aload_n hx hb dX6_run_79 rfl (lv_at hl 0 rfl) ?_
              refine va_callv (va_runV (As := [.ref (ad b9)]) (rest := []) ⟨hx, hb, hml, hown, hg⟩ (m_ReplenishRules_serve l G cA ad σ4 hJ hIk.1 b9 hb9) (cwV 1 hg (gV qM_X6_205 qI_X6_serve qS_X6_serve qN_X6 kX6_serve) rfl rfl rfl (by decide +kernel) ⟨Nat.le_of_ble_eq_true rfl, Nat.le_of_ble_eq_true rfl⟩) (rr_pv hK hP (va_recv hK hP (ci := 6) (q0 := 66) rfl rl_main)) rfl rfl hl.1 rfl (lv_room (Nat.le_of_ble_eq_true rfl)) dX6_run_80 ⟨Nat.le_of_ble_eq_true rfl, Nat.le_of_ble_eq_true rfl⟩) hS (fun q _ h => h) (fun q h => h) (fun σ5 t H locs ht hvm eσ5 hB hz9 hk9 hS => ?_)
              have hP := hB.1
              rw [ht] at hP
              have hIσ5 : Inv σ5 := by rw [eσ5]; exact inv_serve hIk.1 hb9
              refine lv_iinc (v := nI (k + 1)) (lv' := [(1, .int (nI (k + 1))), (2, .ref (ad b9)), (0, .ref (ad 66))]) hx hb dX6_run_83 hl (k := 1) rfl (nI_1 k) (by decide) rfl (fun ls hl => ?_)
              refine lv_goto (tgt := 60) hx hb dX6_run_86 (by decide) ?_
              have eF : c_runF σ4 = σ5 := by rw [eσ5]; unfold c_runF; rw [hu]
              have hq := hIk.2
              rw [show 16 - k = (16 - (k + 1)) + 1 from by omega, foldN_s] at hq
              exact IH H locs ls ⟨by rw [eF, eσ5]; exact inv_serve hIk.1 hb9, hq⟩ (by rw [eF]; exact hP) hS (lv_sub hl [0, 2] rfl)
        · intro H locs hI9 hP hS ls hl
          have hl : lv_has ls 3 [(1, .int (nI 16)), (0, .ref (ad 66))] := hl
          rw [hR] at hP
          refine lv_iload_n hx hb dX6_run_60 rfl (lv_at hl 0 rfl) ?_
          refine lv_bipush (v := 16) hx hb dX6_run_61 (by decide) ?_
          refine lv_icmp_ge (tgt := 89) hx hb dX6_run_63 (by decide) (fun c_63 => ?_) (fun c_63 => ?_)
          · -- if_icmpge taken
            refine lv_aload_n hx hb dX6_run_89 rfl (lv_at hl 1 rfl) ?_
            refine va_get (D := G) (ci := 6) (v := .ref (ad 78)) (C := RX6) (T := TX6) (N := 8) hx hb hg hinX6 hown hK hP 66 rl_main rfl 7 (by decide) (hg _ qF_X6_48) (fun _ h9 => h9) rfl dX6_run_90 ?_
            refine va_get (D := G) (ci := 3) (v := .int ((c_runS σ) 42 0)) (C := RX3) (T := TX3) (N := 5) hx hb hg hinX3 hown hK hP 78 rl_Plan rfl 1 (by decide) (hg _ qF_X6_208) (fun _ h9 => h9) rfl dX6_run_93 ?_
            refine W.widen (k := 1) (n := 6) (by omega) (by omega) ?_
            exact cx_ret hK0 (W.iret (v := (c_runS σ) 42 0) hx hb hr (fun t ht hW => ⟨⟨_, (c_runS σ), rfl, ⟨rfl, rfl⟩, by rw [ht]; exact hP, va_K.moved hW.alike hK⟩, hS.F ht⟩) hS.2.2 dX6_run_96)
          · -- if_icmpge not taken
            exact absurd (Int32.le_refl _) c_63
      · -- if_icmpge not taken
        exact absurd (Int32.le_refl _) c_39
  · -- ifne not taken
    have eK : c_runK σ = 2 := by simp only [c_runK, if_pos c_14]
    obtain ⟨sa, hstr⟩ := hT.2.2.2 ("ReplenishRules", 192, "today is closed") (by decide +kernel)
    exact cx_throw (own := RX6) (cls := "java/lang/IllegalStateException") (names := rr_nm) hx hb hl9 hown (by decide +kernel) rr_nm_fit (hg _ qK_X6_72) (hg _ qA_IllegalStateException) (hg _ qN_IllegalStateException) hstr (cx_words rr_at2 hg hT) hP0 hK hS (hl.1.trans hml.symm) dX6_run_17 dX6_run_20 dX6_run_21 dX6_run_23 dX6_run_26 hEx hlocks (Nat.le_of_ble_eq_true rfl) (Nat.le_of_ble_eq_true rfl) (Nat.le_of_ble_eq_true rfl) (Nat.le_of_ble_eq_true rfl) (by rw [eK]; decide) (by rw [eK]; rfl) (Nat.le_of_ble_eq_true rfl) (Nat.le_of_ble_eq_true rfl)

set_option maxHeartbeats 600000 in
set_option maxRecDepth 100000 in
theorem m_ReplenishRules_move (l : Launch) (hl9 : l.stackTraces = false) (G : va_G) (cA : Nat → ClassId) (ad : Nat → Nat) (σ : St) (hJ : rr_inj ad) (hI : Inv σ) (a0 : Int32) (b0 : Int32) : cx_Met (rrA ad) l yX6_move wX6_move ({ frames := 7, cells := 2, slots := 12, locals := 113 }) [.ref (ad 66), .int a0, .int b0] G cA ad σ (c_moveK σ a0 b0) (fun v τ => v = some (.int (c_mtell σ (nx a0) b0)) ∧ τ = σ) 2 12 := by
  refine cx_ofW (cc := cX6_move) (maxL := 4) (ret := (some .int)) (by decide) ?_
  intro p e s m args below meth c s₁ B hml hEx hv
  obtain ⟨rfl, hP, hK, hT⟩ := hv
  have hx := B.exec
  have hb := B.bytes
  have hr := B.returns
  have hts := atoms_spec (ws := wX6_move :: wG) B.pre
  have hg : ∀ w ∈ wG, w.before _ s = true := fun w h => hts w (List.mem_cons_of_mem _ h)
  have hown : s.vm.findClass RX6 = some m.cls := findClass_of_methodNamed B.named
  have hlocks := B.notSynchronized
  have hS : va_S (rrA ad) s.heap s.heap [] := va_S.rf
  have hP0 := hP
  have hl := lv_entry ([.ref (ad 66), .int a0, .int b0]) (n := 4) (Nat.le_of_ble_eq_true rfl)
  rw [lg_entry_eq]
  generalize (lg_sl ([.ref (ad 66), .int a0, .int b0]) ++ List.replicate (4 - (lg_sl ([.ref (ad 66), .int a0, .int b0])).length) Slot.unset).toArray = ls at hl ⊢
  have hl : lv_has ls 4 [(0, .ref (ad 66)), (1, .int a0), (2, .int b0)] := hl
  refine lv_aload_n hx hb dX6_move_0 rfl (lv_at hl 0 rfl) ?_
  refine va_get (D := G) (ci := 6) (v := .ref (ad 78)) (C := RX6) (T := TX6) (N := 8) hx hb hg hinX6 hown hK hP 66 rl_main rfl 7 (by decide) (hg _ qF_X6_48) (fun _ h9 => h9) rfl dX6_move_1 ?_
  refine lv_iload_n hx hb dX6_move_4 rfl (lv_at hl 1 rfl) ?_
  refine cx_callV (As := [.int a0]) (rest := []) ⟨hx, hb, hml, hown, hg⟩ (m_Plan_moveAt l hl9 G cA ad σ hJ hI a0) (cwV 1 hg (gV qM_X6_209 qI_X3_moveAt qS_X3_moveAt qN_X3 kX3_moveAt) rfl rfl rfl (by decide +kernel) ⟨Nat.le_of_ble_eq_true rfl, Nat.le_of_ble_eq_true rfl⟩) hK hP hT (fun _ h => h) hS (va_recv hK hP (ci := 3) (q0 := 78) rfl rl_Plan) rfl hl.1 rfl (lv_room (Nat.le_of_ble_eq_true rfl)) dX6_move_5 ⟨Nat.le_of_ble_eq_true rfl, Nat.le_of_ble_eq_true rfl⟩ hEx hlocks (Nat.le_of_ble_eq_true rfl) (Nat.le_of_ble_eq_true rfl) (fun hk_5 => by simp only [c_moveK, c_then_n hk_5]) (fun hk_5 v9 τ9 H hR hP hS _ => ?_)
  obtain ⟨rfl, hτ9⟩ := hR
  rw [hτ9] at hP
  show W _ _ _ _ _ _ _ _ _ _ _ _ _ _ _ (F0 m 8 ls [.ref (ad (36 + nx a0))])
  refine W.widen (k := 1) (n := 6) (Nat.le_of_ble_eq_true rfl) (Nat.le_of_ble_eq_true rfl) ?_
  refine lv_astore_n (lv' := [(3, .ref (ad (36 + nx a0))), (0, .ref (ad 66)), (1, .int a0), (2, .int b0)]) hx hb dX6_move_8 rfl hl (by decide) rfl (fun ls hl => ?_)
  refine lv_iload_n hx hb dX6_move_9 rfl (lv_at hl 3 rfl) ?_
  refine lv_iconst (v := 0) hx hb dX6_move_10 (by decide) ?_
  refine lv_bipush (v := 6) hx hb dX6_move_11 (by decide) ?_
  refine cx_callS (As := [.int b0, .int 0, .int 6]) (rest := []) ⟨hx, hb, hml, hown, hg⟩ (m_ReplenishRules_checkRange l hl9 G cA ad σ hJ b0 0 6) (cwS 3 hg (gS qM_X6_61 qT_X6_checkRange qN_X6 kX6_checkRange) rfl rfl rfl (by decide +kernel) ⟨Nat.le_of_ble_eq_true rfl, Nat.le_of_ble_eq_true rfl⟩) hK hP hT (fun _ h => h) hS  rfl hl.1 rfl (lv_room (Nat.le_of_ble_eq_true rfl)) dX6_move_13 ⟨Nat.le_of_ble_eq_true rfl, Nat.le_of_ble_eq_true rfl⟩ hEx hlocks (Nat.le_of_ble_eq_true rfl) (Nat.le_of_ble_eq_true rfl) (fun hk_13 => by simp only [c_moveK, hk_5, c_then_z, c_then_n hk_13]) (fun hk_13 v9 τ9 H hR hP hS _ => ?_)
  obtain ⟨rfl, hτ9⟩ := hR
  rw [hτ9] at hP
  show W _ _ _ _ _ _ _ _ _ _ _ _ _ _ _ (F0 m 16 ls [])
  refine W.widen (k := 2) (n := 12) (Nat.le_of_ble_eq_true rfl) (Nat.le_of_ble_eq_true rfl) ?_
  refine lv_aload_n hx hb dX6_move_16 rfl (lv_at hl 0 rfl) ?_
  refine lv_iload_n hx hb dX6_move_17 rfl (lv_at hl 3 rfl) ?_
  refine vp_callSi (W.runV (As := [.int b0]) (rest := []) ⟨hx, hb, hml, hown, hg⟩ (m_Move_tell l G cA ad σ (nx a0) (vp_lt (moveAt_in hI hk_5)) b0) (cwV 1 hg (gV qM_X6_213 qI_X1_tell qS_X1_tell qN_X1 kX1_tell) rfl rfl rfl (by decide +kernel) ⟨Nat.le_of_ble_eq_true rfl, Nat.le_of_ble_eq_true rfl⟩) (rr_pv hK hP (va_recv hK hP (ci := 1) (q0 := (36 + (nx a0))) rfl (rl_Move (vp_lt (moveAt_in hI hk_5))))) rfl rfl hl.1 rfl (lv_room (Nat.le_of_ble_eq_true rfl)) dX6_move_18 ⟨Nat.le_of_ble_eq_true rfl, Nat.le_of_ble_eq_true rfl⟩) (nm_e ?_)
  refine W.widen (k := 2) (n := 12) (Nat.le_of_ble_eq_true rfl) (Nat.le_of_ble_eq_true rfl) ?_
  exact cx_ret (by simp only [c_moveK, hk_5, c_then_z, hk_13, c_then_z]) (W.iret (v := c_mtell σ (nx a0) b0) hx hb hr (fun t ht hW => ⟨⟨_, σ, rfl, ⟨rfl, rfl⟩, by rw [ht]; exact hP, va_K.moved hW.alike hK⟩, hS.F ht⟩) hS.2.2 dX6_move_21)

set_option maxHeartbeats 600000 in
set_option maxRecDepth 100000 in
theorem m_ReplenishRules_done (l : Launch) (hl9 : l.stackTraces = false) (G : va_G) (cA : Nat → ClassId) (ad : Nat → Nat) (σ : St) (hJ : rr_inj ad) (hI : Inv σ) (a0 : Int32) : cx_Met (rrA ad) l yX6_done wX6_done ({ frames := 7, cells := 3, slots := 18, locals := 112 }) [.ref (ad 66), .int a0] G cA ad σ (c_doneK2 σ a0) (fun v τ => v = none ∧ τ = c_doneS σ a0) 3 18 := by
  refine cx_ofW (cc := cX6_done) (maxL := 6) (ret := none) (by decide) ?_
  intro p e s m args below meth c s₁ B hml hEx hv
  obtain ⟨rfl, hP, hK, hT⟩ := hv
  have hx := B.exec
  have hb := B.bytes
  have hr := B.returns
  have hts := atoms_spec (ws := wX6_done :: wG) B.pre
  have hg : ∀ w ∈ wG, w.before _ s = true := fun w h => hts w (List.mem_cons_of_mem _ h)
  have hown : s.vm.findClass RX6 = some m.cls := findClass_of_methodNamed B.named
  have hlocks := B.notSynchronized
  have hS : va_S (rrA ad) s.heap s.heap [] := va_S.rf
  have hP0 := hP
  have hl := lv_entry ([.ref (ad 66), .int a0]) (n := 6) (Nat.le_of_ble_eq_true rfl)
  rw [lg_entry_eq]
  generalize (lg_sl ([.ref (ad 66), .int a0]) ++ List.replicate (6 - (lg_sl ([.ref (ad 66), .int a0])).length) Slot.unset).toArray = ls at hl ⊢
  have hl : lv_has ls 6 [(0, .ref (ad 66)), (1, .int a0)] := hl
  refine lv_aload_n hx hb dX6_done_0 rfl (lv_at hl 0 rfl) ?_
  refine va_get (D := G) (ci := 6) (v := .ref (ad 78)) (C := RX6) (T := TX6) (N := 8) hx hb hg hinX6 hown hK hP 66 rl_main rfl 7 (by decide) (hg _ qF_X6_48) (fun _ h9 => h9) rfl dX6_done_1 ?_
  refine lv_iload_n hx hb dX6_done_4 rfl (lv_at hl 1 rfl) ?_
  refine cx_callV (As := [.int a0]) (rest := []) ⟨hx, hb, hml, hown, hg⟩ (m_Plan_moveAt l hl9 G cA ad σ hJ hI a0) (cwV 1 hg (gV qM_X6_209 qI_X3_moveAt qS_X3_moveAt qN_X3 kX3_moveAt) rfl rfl rfl (by decide +kernel) ⟨Nat.le_of_ble_eq_true rfl, Nat.le_of_ble_eq_true rfl⟩) hK hP hT (fun _ h => h) hS (va_recv hK hP (ci := 3) (q0 := 78) rfl rl_Plan) rfl hl.1 rfl (lv_room (Nat.le_of_ble_eq_true rfl)) dX6_done_5 ⟨Nat.le_of_ble_eq_true rfl, Nat.le_of_ble_eq_true rfl⟩ hEx hlocks (Nat.le_of_ble_eq_true rfl) (Nat.le_of_ble_eq_true rfl) (fun hk_5 => by simp only [c_doneK2, c_then_n hk_5]) (fun hk_5 v9 τ9 H hR hP hS _ => ?_)
  obtain ⟨rfl, hτ9⟩ := hR
  rw [hτ9] at hP
  show W _ _ _ _ _ _ _ _ _ _ _ _ _ _ _ (F0 m 8 ls [.ref (ad (36 + nx a0))])
  refine W.widen (k := 1) (n := 6) (Nat.le_of_ble_eq_true rfl) (Nat.le_of_ble_eq_true rfl) ?_
  refine lv_astore_n (lv' := [(2, .ref (ad (36 + nx a0))), (0, .ref (ad 66)), (1, .int a0)]) hx hb dX6_done_8 rfl hl (by decide) rfl (fun ls hl => ?_)
  refine lv_aload_n hx hb dX6_done_9 rfl (lv_at hl 1 rfl) ?_
  refine va_get (D := G) (ci := 6) (v := .ref (ad 67)) (C := RX6) (T := TX6) (N := 8) hx hb hg hinX6 hown hK hP 66 rl_main rfl 0 (by decide) (hg _ qF_X6_11) (fun _ h9 => h9) rfl dX6_done_10 ?_
  refine lv_aload_n hx hb dX6_done_13 rfl (lv_at hl 0 rfl) ?_
  refine va_get (D := G) (ci := 1) (v := .int (σ 50 (nx a0))) (C := RX1) (T := TX1) (N := 7) hx hb hg hinX1 hown hK hP (36 + (nx a0)) (rl_Move (vp_lt (moveAt_in hI hk_5))) rfl 0 (by decide) (hg _ qF_X6_218) (fun _ h9 => h9) rfl dX6_done_14 ?_
  refine va_aldq hx hb hK hP 67 2 rl_placesA rfl (inv_mv hI (vp_lt (moveAt_in hI hk_5))).1 dX6_done_17 ?_
  show W _ _ _ _ _ _ _ _ _ _ _ _ _ _ _ (F0 m _ ls (.ref (ad (nx (σ 50 (nx a0)))) :: []))
  refine lv_astore_n (lv' := [(3, .ref (ad (nx (σ 50 (nx a0))))), (2, .ref (ad (36 + nx a0))), (0, .ref (ad 66)), (1, .int a0)]) hx hb dX6_done_18 rfl hl (by decide) rfl (fun ls hl => ?_)
  refine lv_aload_n hx hb dX6_done_19 rfl (lv_at hl 2 rfl) ?_
  refine va_get (D := G) (ci := 6) (v := .ref (ad 67)) (C := RX6) (T := TX6) (N := 8) hx hb hg hinX6 hown hK hP 66 rl_main rfl 0 (by decide) (hg _ qF_X6_11) (fun _ h9 => h9) rfl dX6_done_20 ?_
  refine lv_aload_n hx hb dX6_done_23 rfl (lv_at hl 1 rfl) ?_
  refine va_get (D := G) (ci := 1) (v := .int (σ 51 (nx a0))) (C := RX1) (T := TX1) (N := 7) hx hb hg hinX1 hown hK hP (36 + (nx a0)) (rl_Move (vp_lt (moveAt_in hI hk_5))) rfl 1 (by decide) (hg _ qF_X6_221) (fun _ h9 => h9) rfl dX6_done_24 ?_
  refine va_aldq hx hb hK hP 67 2 rl_placesA rfl (inv_mv hI (vp_lt (moveAt_in hI hk_5))).2 dX6_done_27 ?_
  show W _ _ _ _ _ _ _ _ _ _ _ _ _ _ _ (F0 m _ ls (.ref (ad (nx (σ 51 (nx a0)))) :: []))
  refine lv_astore (lv' := [(4, .ref (ad (nx (σ 51 (nx a0))))), (3, .ref (ad (nx (σ 50 (nx a0))))), (2, .ref (ad (36 + nx a0))), (0, .ref (ad 66)), (1, .int a0)]) hx hb dX6_done_28 hl (by decide) rfl (fun ls hl => ?_)
  refine lv_aload hx hb dX6_done_30 (lv_at hl 0 rfl) ?_
  refine va_get (D := G) (ci := 2) (v := .int (σ 5 (nx (σ 51 (nx a0))))) (C := RX2) (T := TX2) (N := 13) hx hb hg hinX2 hown hK hP (nx (σ 51 (nx a0))) (rl_Place (vp_lt ((inv_mv hI (vp_lt (moveAt_in hI hk_5))).2))) rfl 7 (by decide) (hg _ qF_X6_91) (fun _ h9 => h9) rfl dX6_done_32 ?_
  refine lv_istore (lv' := [(5, .int (σ 5 (nx (σ 51 (nx a0))))), (4, .ref (ad (nx (σ 51 (nx a0))))), (3, .ref (ad (nx (σ 50 (nx a0))))), (2, .ref (ad (36 + nx a0))), (0, .ref (ad 66)), (1, .int a0)]) hx hb dX6_done_35 hl (by decide) rfl (fun ls hl => ?_)
  refine lv_aload_n hx hb dX6_done_37 rfl (lv_at hl 3 rfl) ?_
  refine va_get (D := G) (ci := 1) (v := .int (σ 56 (nx a0))) (C := RX1) (T := TX1) (N := 7) hx hb hg hinX1 hown hK hP (36 + (nx a0)) (rl_Move (vp_lt (moveAt_in hI hk_5))) rfl 6 (by decide) (hg _ qF_X6_224) (fun _ h9 => h9) rfl dX6_done_38 ?_
  refine lv_if_eq (tgt := 54) hx hb dX6_done_41 (by decide) (fun c_41 => ?_) (fun c_41 => ?_)
  · -- ifeq taken
    refine lv_aload_n hx hb dX6_done_54 rfl (lv_at hl 2 rfl) ?_
    refine va_get (D := G) (ci := 2) (v := .int (σ 4 (nx (σ 50 (nx a0))))) (C := RX2) (T := TX2) (N := 13) hx hb hg hinX2 hown hK hP (nx (σ 50 (nx a0))) (rl_Place (vp_lt ((inv_mv hI (vp_lt (moveAt_in hI hk_5))).1))) rfl 6 (by decide) (hg _ qF_X6_230) (fun _ h9 => h9) rfl dX6_done_55 ?_
    refine lv_iload hx hb dX6_done_58 (lv_at hl 0 rfl) ?_
    refine lv_icmp_ne (tgt := 74) hx hb dX6_done_60 (by decide) (fun c_60 => ?_) (fun c_60 => ?_)
    · -- if_icmpne taken
      have eK : c_doneK2 σ a0 = 2 := by simp only [c_doneK2, hk_5, c_then_z, if_pos c_41, if_neg c_60]
      obtain ⟨sa, hstr⟩ := hT.2.2.2 ("ReplenishRules", 234, "the reserve has not so many free pieces of the good") (by decide +kernel)
      exact cx_throw (own := RX6) (cls := "java/lang/IllegalStateException") (names := rr_nm) hx hb hl9 hown (by decide +kernel) rr_nm_fit (hg _ qK_X6_72) (hg _ qA_IllegalStateException) (hg _ qN_IllegalStateException) hstr (cx_words rr_at2 hg hT) hP0 hK hS (hl.1.trans hml.symm) dX6_done_74 dX6_done_77 dX6_done_78 dX6_done_80 dX6_done_83 hEx hlocks (Nat.le_of_ble_eq_true rfl) (Nat.le_of_ble_eq_true rfl) (Nat.le_of_ble_eq_true rfl) (Nat.le_of_ble_eq_true rfl) (by rw [eK]; decide) (by rw [eK]; rfl) (Nat.le_of_ble_eq_true rfl) (Nat.le_of_ble_eq_true rfl)
    · -- if_icmpne not taken
      refine lv_aload_n hx hb dX6_done_63 rfl (lv_at hl 2 rfl) ?_
      refine vp_callSi (W.runV (As := []) (rest := []) ⟨hx, hb, hml, hown, hg⟩ (m_Place_notHeld l G cA ad σ (nx (σ 50 (nx a0))) (vp_lt ((inv_mv hI (vp_lt (moveAt_in hI hk_5))).1))) (cwV 0 hg (gV qM_X6_113 qI_X2_notHeld qS_X2_notHeld qN_X2 kX2_notHeld) rfl rfl rfl (by decide +kernel) ⟨Nat.le_of_ble_eq_true rfl, Nat.le_of_ble_eq_true rfl⟩) (rr_pv hK hP (va_recv hK hP (ci := 2) (q0 := (nx (σ 50 (nx a0)))) rfl (rl_Place (vp_lt ((inv_mv hI (vp_lt (moveAt_in hI hk_5))).1))))) rfl rfl hl.1 rfl (lv_room (Nat.le_of_ble_eq_true rfl)) dX6_done_64 ⟨Nat.le_of_ble_eq_true rfl, Nat.le_of_ble_eq_true rfl⟩) (nm_e ?_)
      refine lv_aload_n hx hb dX6_done_67 rfl (lv_at hl 3 rfl) ?_
      refine va_get (D := G) (ci := 1) (v := .int (σ 52 (nx a0))) (C := RX1) (T := TX1) (N := 7) hx hb hg hinX1 hown hK hP (36 + (nx a0)) (rl_Move (vp_lt (moveAt_in hI hk_5))) rfl 2 (by decide) (hg _ qF_X6_233) (fun _ h9 => h9) rfl dX6_done_68 ?_
      refine lv_icmp_ge (tgt := 84) hx hb dX6_done_71 (by decide) (fun c_71 => ?_) (fun c_71 => ?_)
      · -- if_icmpge taken
        refine lv_aload hx hb dX6_done_84 (lv_at hl 1 rfl) ?_
        refine lv_iload hx hb dX6_done_86 (lv_at hl 0 rfl) ?_
        refine vp_callSi (W.runV (As := [.int (σ 5 (nx (σ 51 (nx a0))))]) (rest := []) ⟨hx, hb, hml, hown, hg⟩ (m_Place_holdsAnother l G cA ad σ (nx (σ 51 (nx a0))) (vp_lt ((inv_mv hI (vp_lt (moveAt_in hI hk_5))).2)) (σ 5 (nx (σ 51 (nx a0))))) (cwV 1 hg (gV qM_X6_85 qI_X2_holdsAnother qS_X2_holdsAnother qN_X2 kX2_holdsAnother) rfl rfl rfl (by decide +kernel) ⟨Nat.le_of_ble_eq_true rfl, Nat.le_of_ble_eq_true rfl⟩) (rr_pv hK hP (va_recv hK hP (ci := 2) (q0 := (nx (σ 51 (nx a0)))) rfl (rl_Place (vp_lt ((inv_mv hI (vp_lt (moveAt_in hI hk_5))).2))))) rfl rfl hl.1 rfl (lv_room (Nat.le_of_ble_eq_true rfl)) dX6_done_88 ⟨Nat.le_of_ble_eq_true rfl, Nat.le_of_ble_eq_true rfl⟩) (nm_e ?_)
        refine lv_if_eq (tgt := 104) hx hb dX6_done_91 (by decide) (fun c_91 => ?_) (fun c_91 => ?_)
        · -- ifeq taken
          refine lv_aload hx hb dX6_done_104 (lv_at hl 1 rfl) ?_
          refine lv_aload_n hx hb dX6_done_106 rfl (lv_at hl 3 rfl) ?_
          refine va_get (D := G) (ci := 1) (v := .int (σ 52 (nx a0))) (C := RX1) (T := TX1) (N := 7) hx hb hg hinX1 hown hK hP (36 + (nx a0)) (rl_Move (vp_lt (moveAt_in hI hk_5))) rfl 2 (by decide) (hg _ qF_X6_233) (fun _ h9 => h9) rfl dX6_done_107 ?_
          refine cx_callS (As := [.ref (ad (nx (σ 51 (nx a0)))), .int (σ 52 (nx a0))]) (rest := []) ⟨hx, hb, hml, hown, hg⟩ (m_ReplenishRules_checkSpace l hl9 G cA ad σ hJ (nx (σ 51 (nx a0))) (vp_lt ((inv_mv hI (vp_lt (moveAt_in hI hk_5))).2)) (σ 52 (nx a0))) (cwS 2 hg (gS qM_X6_102 qT_X6_checkSpace qN_X6 kX6_checkSpace) rfl rfl rfl (by decide +kernel) ⟨Nat.le_of_ble_eq_true rfl, Nat.le_of_ble_eq_true rfl⟩) hK hP hT (fun _ h => h) hS  rfl hl.1 rfl (lv_room (Nat.le_of_ble_eq_true rfl)) dX6_done_110 ⟨Nat.le_of_ble_eq_true rfl, Nat.le_of_ble_eq_true rfl⟩ hEx hlocks (Nat.le_of_ble_eq_true rfl) (Nat.le_of_ble_eq_true rfl) (fun hk_110 => by simp only [c_doneK2, hk_5, c_then_z, if_pos c_41, if_pos c_60, if_pos c_71, if_pos c_91, c_then_n hk_110]) (fun hk_110 v9 τ9 H hR hP hS _ => ?_)
          obtain ⟨rfl, hτ9⟩ := hR
          rw [hτ9] at hP
          show W _ _ _ _ _ _ _ _ _ _ _ _ _ _ _ (F0 m 113 ls [])
          refine W.widen (k := 2) (n := 12) (Nat.le_of_ble_eq_true rfl) (Nat.le_of_ble_eq_true rfl) ?_
          refine lv_aload_n hx hb dX6_done_113 rfl (lv_at hl 2 rfl) ?_
          refine lv_aload_n hx hb dX6_done_114 rfl (lv_at hl 3 rfl) ?_
          refine va_get (D := G) (ci := 1) (v := .int (σ 52 (nx a0))) (C := RX1) (T := TX1) (N := 7) hx hb hg hinX1 hown hK hP (36 + (nx a0)) (rl_Move (vp_lt (moveAt_in hI hk_5))) rfl 2 (by decide) (hg _ qF_X6_233) (fun _ h9 => h9) rfl dX6_done_115 ?_
          refine va_callv (va_runV (As := [.int (σ 52 (nx a0))]) (rest := []) ⟨hx, hb, hml, hown, hg⟩ (m_Place_takeAway l G cA ad σ hJ (nx (σ 50 (nx a0))) (vp_lt ((inv_mv hI (vp_lt (moveAt_in hI hk_5))).1)) (σ 52 (nx a0))) (cwV 1 hg (gV qM_X6_119 qI_X2_takeAway qS_X2_takeAway qN_X2 kX2_takeAway) rfl rfl rfl (by decide +kernel) ⟨Nat.le_of_ble_eq_true rfl, Nat.le_of_ble_eq_true rfl⟩) (rr_pv hK hP (va_recv hK hP (ci := 2) (q0 := (nx (σ 50 (nx a0)))) rfl (rl_Place (vp_lt ((inv_mv hI (vp_lt (moveAt_in hI hk_5))).1))))) rfl rfl hl.1 rfl (lv_room (Nat.le_of_ble_eq_true rfl)) dX6_done_118 ⟨Nat.le_of_ble_eq_true rfl, Nat.le_of_ble_eq_true rfl⟩) hS (fun q _ h => h) (fun q h => h) (fun σ1 t H locs ht hvm eσ1 hB hz9 hk9 hS => ?_)
          have hP := hB.1
          rw [ht] at hP
          refine lv_aload hx hb dX6_done_121 (lv_at hl 1 rfl) ?_
          refine lv_iload hx hb dX6_done_123 (lv_at hl 0 rfl) ?_
          refine lv_aload_n hx hb dX6_done_125 rfl (lv_at hl 3 rfl) ?_
          refine va_get (D := G) (ci := 1) (v := .int (σ1 52 (nx a0))) (C := RX1) (T := TX1) (N := 7) hx hb hg hinX1 hown hK hP (36 + (nx a0)) (rl_Move (vp_lt (moveAt_in hI hk_5))) rfl 2 (by decide) (hg _ qF_X6_233) (fun _ h9 => h9) rfl dX6_done_126 ?_
          refine va_callv (va_runV (As := [.int (σ 5 (nx (σ 51 (nx a0)))), .int (σ1 52 (nx a0))]) (rest := []) ⟨hx, hb, hml, hown, hg⟩ (m_Place_bring l G cA ad σ1 hJ (nx (σ 51 (nx a0))) (vp_lt ((inv_mv hI (vp_lt (moveAt_in hI hk_5))).2)) (σ 5 (nx (σ 51 (nx a0)))) (σ1 52 (nx a0))) (cwV 2 hg (gV qM_X6_106 qI_X2_bring qS_X2_bring qN_X2 kX2_bring) rfl rfl rfl (by decide +kernel) ⟨Nat.le_of_ble_eq_true rfl, Nat.le_of_ble_eq_true rfl⟩) (rr_pv hK hP (va_recv hK hP (ci := 2) (q0 := (nx (σ 51 (nx a0)))) rfl (rl_Place (vp_lt ((inv_mv hI (vp_lt (moveAt_in hI hk_5))).2))))) rfl rfl hl.1 rfl (lv_room (Nat.le_of_ble_eq_true rfl)) dX6_done_129 ⟨Nat.le_of_ble_eq_true rfl, Nat.le_of_ble_eq_true rfl⟩) hS (fun q _ h => h) (fun q h => h) (fun σ2 t H locs ht hvm eσ2 hB hz9 hk9 hS => ?_)
          have hP := hB.1
          rw [ht] at hP
          refine lv_aload_n hx hb dX6_done_132 rfl (lv_at hl 3 rfl) ?_
          refine lv_iconst (v := 1) hx hb dX6_done_133 (by decide) ?_
          refine pp_put (D := G) (ci := 1) (v := .int 1) (ty := .boolean) (C := RX1) (T := TX1) (N := 7) hx hb hg hinX1 tyX1 tyX1_ok nmX1 hown hK hP (rr_D hJ) hS (36 + (nx a0)) (rl_Move (vp_lt (moveAt_in hI hk_5))) rfl 6 (by decide) (hg _ qF_X6_224) (fun _ h9 => h9) rfl (by decide +kernel) rfl rfl (Nat.le_of_ble_eq_true rfl) (rs_Move_isDone (vp_lt (moveAt_in hI hk_5))) dX6_done_134 (fun H locs hP hS => ?_)
          obtain ⟨σ3, eσ3⟩ : ∃ z, z = up σ2 56 (nx a0) 1 := ⟨_, rfl⟩
          rw [← eσ3] at hP
          refine W.widen (k := 3) (n := 18) (Nat.le_of_ble_eq_true rfl) (Nat.le_of_ble_eq_true rfl) ?_
          exact cx_ret (by simp only [c_doneK2, hk_5, c_then_z, if_pos c_41, if_pos c_60, if_pos c_71, if_pos c_91, hk_110, c_then_z]) (W.vret hx hb hr (fun t ht hW => ⟨⟨_, σ3, rfl, ⟨rfl, by subst eσ1 eσ2 eσ3; rfl⟩, by rw [ht]; exact hP, va_K.moved hW.alike hK⟩, hS.F ht⟩) hS.2.2 dX6_done_137)
        · -- ifeq not taken
          have eK : c_doneK2 σ a0 = 2 := by simp only [c_doneK2, hk_5, c_then_z, if_pos c_41, if_pos c_60, if_pos c_71, if_neg c_91]
          obtain ⟨sa, hstr⟩ := hT.2.2.2 ("ReplenishRules", 236, "the face holds another good") (by decide +kernel)
          exact cx_throw (own := RX6) (cls := "java/lang/IllegalStateException") (names := rr_nm) hx hb hl9 hown (by decide +kernel) rr_nm_fit (hg _ qK_X6_72) (hg _ qA_IllegalStateException) (hg _ qN_IllegalStateException) hstr (cx_words rr_at2 hg hT) hP0 hK hS (hl.1.trans hml.symm) dX6_done_94 dX6_done_97 dX6_done_98 dX6_done_100 dX6_done_103 hEx hlocks (Nat.le_of_ble_eq_true rfl) (Nat.le_of_ble_eq_true rfl) (Nat.le_of_ble_eq_true rfl) (Nat.le_of_ble_eq_true rfl) (by rw [eK]; decide) (by rw [eK]; rfl) (Nat.le_of_ble_eq_true rfl) (Nat.le_of_ble_eq_true rfl)
      · -- if_icmpge not taken
        have eK : c_doneK2 σ a0 = 2 := by simp only [c_doneK2, hk_5, c_then_z, if_pos c_41, if_pos c_60, if_neg c_71]
        obtain ⟨sa, hstr⟩ := hT.2.2.2 ("ReplenishRules", 234, "the reserve has not so many free pieces of the good") (by decide +kernel)
        exact cx_throw (own := RX6) (cls := "java/lang/IllegalStateException") (names := rr_nm) hx hb hl9 hown (by decide +kernel) rr_nm_fit (hg _ qK_X6_72) (hg _ qA_IllegalStateException) (hg _ qN_IllegalStateException) hstr (cx_words rr_at2 hg hT) hP0 hK hS (hl.1.trans hml.symm) dX6_done_74 dX6_done_77 dX6_done_78 dX6_done_80 dX6_done_83 hEx hlocks (Nat.le_of_ble_eq_true rfl) (Nat.le_of_ble_eq_true rfl) (Nat.le_of_ble_eq_true rfl) (Nat.le_of_ble_eq_true rfl) (by rw [eK]; decide) (by rw [eK]; rfl) (Nat.le_of_ble_eq_true rfl) (Nat.le_of_ble_eq_true rfl)
  · -- ifeq not taken
    have eK : c_doneK2 σ a0 = 2 := by simp only [c_doneK2, hk_5, c_then_z, if_neg c_41]
    obtain ⟨sa, hstr⟩ := hT.2.2.2 ("ReplenishRules", 228, "the move was done") (by decide +kernel)
    exact cx_throw (own := RX6) (cls := "java/lang/IllegalStateException") (names := rr_nm) hx hb hl9 hown (by decide +kernel) rr_nm_fit (hg _ qK_X6_72) (hg _ qA_IllegalStateException) (hg _ qN_IllegalStateException) hstr (cx_words rr_at2 hg hT) hP0 hK hS (hl.1.trans hml.symm) dX6_done_44 dX6_done_47 dX6_done_48 dX6_done_50 dX6_done_53 hEx hlocks (Nat.le_of_ble_eq_true rfl) (Nat.le_of_ble_eq_true rfl) (Nat.le_of_ble_eq_true rfl) (Nat.le_of_ble_eq_true rfl) (by rw [eK]; decide) (by rw [eK]; rfl) (Nat.le_of_ble_eq_true rfl) (Nat.le_of_ble_eq_true rfl)

set_option maxHeartbeats 600000 in
set_option maxRecDepth 100000 in
theorem m_ReplenishRules_told (l : Launch) (hl9 : l.stackTraces = false) (G : va_G) (cA : Nat → ClassId) (ad : Nat → Nat) (σ : St) (hJ : rr_inj ad) (a0 : Int32) (b0 : Int32) : cx_Met (rrA ad) l yX6_told wX6_told ({ frames := 8, cells := 2, slots := 12, locals := 134 }) [.ref (ad 66), .int a0, .int b0] G cA ad σ (c_toldK a0 b0) (fun v τ => v = some (.int (c_tell σ (nx a0) b0)) ∧ τ = σ) 2 12 := by
  refine cx_ofW (cc := cX6_told) (maxL := 4) (ret := (some .int)) (by decide) ?_
  intro p e s m args below meth c s₁ B hml hEx hv
  obtain ⟨rfl, hP, hK, hT⟩ := hv
  have hx := B.exec
  have hb := B.bytes
  have hr := B.returns
  have hts := atoms_spec (ws := wX6_told :: wG) B.pre
  have hg : ∀ w ∈ wG, w.before _ s = true := fun w h => hts w (List.mem_cons_of_mem _ h)
  have hown : s.vm.findClass RX6 = some m.cls := findClass_of_methodNamed B.named
  have hlocks := B.notSynchronized
  have hS : va_S (rrA ad) s.heap s.heap [] := va_S.rf
  have hP0 := hP
  have hl := lv_entry ([.ref (ad 66), .int a0, .int b0]) (n := 4) (Nat.le_of_ble_eq_true rfl)
  rw [lg_entry_eq]
  generalize (lg_sl ([.ref (ad 66), .int a0, .int b0]) ++ List.replicate (4 - (lg_sl ([.ref (ad 66), .int a0, .int b0])).length) Slot.unset).toArray = ls at hl ⊢
  have hl : lv_has ls 4 [(0, .ref (ad 66)), (1, .int a0), (2, .int b0)] := hl
  refine lv_aload_n hx hb dX6_told_0 rfl (lv_at hl 0 rfl) ?_
  refine lv_iload_n hx hb dX6_told_1 rfl (lv_at hl 1 rfl) ?_
  refine cx_callV (As := [.int a0]) (rest := []) ⟨hx, hb, hml, hown, hg⟩ (m_ReplenishRules_placeAt l hl9 G cA ad σ hJ a0) (cwV 1 hg (gV qM_X6_56 qI_X6_placeAt qS_X6_placeAt qN_X6 kX6_placeAt) rfl rfl rfl (by decide +kernel) ⟨Nat.le_of_ble_eq_true rfl, Nat.le_of_ble_eq_true rfl⟩) hK hP hT (fun _ h => h) hS (va_recv hK hP (ci := 6) (q0 := 66) rfl rl_main) rfl hl.1 rfl (lv_room (Nat.le_of_ble_eq_true rfl)) dX6_told_2 ⟨Nat.le_of_ble_eq_true rfl, Nat.le_of_ble_eq_true rfl⟩ hEx hlocks (Nat.le_of_ble_eq_true rfl) (Nat.le_of_ble_eq_true rfl) (fun hk_2 => by simp only [c_toldK, c_then_n hk_2]) (fun hk_2 v9 τ9 H hR hP hS _ => ?_)
  obtain ⟨rfl, hτ9⟩ := hR
  rw [hτ9] at hP
  show W _ _ _ _ _ _ _ _ _ _ _ _ _ _ _ (F0 m 5 ls [.ref (ad (nx a0))])
  refine W.widen (k := 1) (n := 6) (Nat.le_of_ble_eq_true rfl) (Nat.le_of_ble_eq_true rfl) ?_
  refine lv_astore_n (lv' := [(3, .ref (ad (nx a0))), (0, .ref (ad 66)), (1, .int a0), (2, .int b0)]) hx hb dX6_told_5 rfl hl (by decide) rfl (fun ls hl => ?_)
  refine lv_iload_n hx hb dX6_told_6 rfl (lv_at hl 3 rfl) ?_
  refine lv_iconst (v := 0) hx hb dX6_told_7 (by decide) ?_
  refine lv_iconst (v := 5) hx hb dX6_told_8 (by decide) ?_
  refine cx_callS (As := [.int b0, .int 0, .int 5]) (rest := []) ⟨hx, hb, hml, hown, hg⟩ (m_ReplenishRules_checkRange l hl9 G cA ad σ hJ b0 0 5) (cwS 3 hg (gS qM_X6_61 qT_X6_checkRange qN_X6 kX6_checkRange) rfl rfl rfl (by decide +kernel) ⟨Nat.le_of_ble_eq_true rfl, Nat.le_of_ble_eq_true rfl⟩) hK hP hT (fun _ h => h) hS  rfl hl.1 rfl (lv_room (Nat.le_of_ble_eq_true rfl)) dX6_told_9 ⟨Nat.le_of_ble_eq_true rfl, Nat.le_of_ble_eq_true rfl⟩ hEx hlocks (Nat.le_of_ble_eq_true rfl) (Nat.le_of_ble_eq_true rfl) (fun hk_9 => by simp only [c_toldK, hk_2, c_then_z, c_then_n hk_9]) (fun hk_9 v9 τ9 H hR hP hS _ => ?_)
  obtain ⟨rfl, hτ9⟩ := hR
  rw [hτ9] at hP
  show W _ _ _ _ _ _ _ _ _ _ _ _ _ _ _ (F0 m 12 ls [])
  refine W.widen (k := 2) (n := 12) (Nat.le_of_ble_eq_true rfl) (Nat.le_of_ble_eq_true rfl) ?_
  refine lv_aload_n hx hb dX6_told_12 rfl (lv_at hl 0 rfl) ?_
  refine lv_iload_n hx hb dX6_told_13 rfl (lv_at hl 3 rfl) ?_
  refine vp_callSi (W.runV (As := [.int b0]) (rest := []) ⟨hx, hb, hml, hown, hg⟩ (m_Place_tell l G cA ad σ (nx a0) (vp_lt (placeAt_in hk_2)) b0) (cwV 1 hg (gV qM_X6_238 qI_X2_tell qS_X2_tell qN_X2 kX2_tell) rfl rfl rfl (by decide +kernel) ⟨Nat.le_of_ble_eq_true rfl, Nat.le_of_ble_eq_true rfl⟩) (rr_pv hK hP (va_recv hK hP (ci := 2) (q0 := (nx a0)) rfl (rl_Place (vp_lt (placeAt_in hk_2))))) rfl rfl hl.1 rfl (lv_room (Nat.le_of_ble_eq_true rfl)) dX6_told_14 ⟨Nat.le_of_ble_eq_true rfl, Nat.le_of_ble_eq_true rfl⟩) (nm_e ?_)
  refine W.widen (k := 2) (n := 12) (Nat.le_of_ble_eq_true rfl) (Nat.le_of_ble_eq_true rfl) ?_
  exact cx_ret (by simp only [c_toldK, hk_2, c_then_z, hk_9, c_then_z]) (W.iret (v := c_tell σ (nx a0) b0) hx hb hr (fun t ht hW => ⟨⟨_, σ, rfl, ⟨rfl, rfl⟩, by rw [ht]; exact hP, va_K.moved hW.alike hK⟩, hS.F ht⟩) hS.2.2 dX6_told_17)
end
