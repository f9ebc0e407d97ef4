abbrev cX0_init : ByteArray := prog_2_method_1_code
def yX0_init : MethodName := ⟨RX0, "<init>", "()V"⟩
abbrev wX0_init : Cond := .code yX0_init cX0_init 1 none
theorem kX0_init : wX0_init ∈ wG := mG 34 (by decide +kernel) rfl
theorem dX0_init_0 : decode cX0_init 0 = .ok (.aload_n 0, 1) := by decide +kernel
theorem dX0_init_1 : decode cX0_init 1 = .ok (.invokespecial 3, 3) := by decide +kernel
theorem dX0_init_4 : decode cX0_init 4 = .ok (.aload_n 0, 1) := by decide +kernel
theorem dX0_init_5 : decode cX0_init 5 = .ok (.sipush 400, 3) := by decide +kernel
theorem dX0_init_8 : decode cX0_init 8 = .ok (.newarray .boolean, 2) := by decide +kernel
theorem dX0_init_10 : decode cX0_init 10 = .ok (.putfield 9, 3) := by decide +kernel
theorem dX0_init_13 : decode cX0_init 13 = .ok (.aload_n 0, 1) := by decide +kernel
theorem dX0_init_14 : decode cX0_init 14 = .ok (.iconst 0, 1) := by decide +kernel
theorem dX0_init_15 : decode cX0_init 15 = .ok (.putfield 15, 3) := by decide +kernel
theorem dX0_init_18 : decode cX0_init 18 = .ok (.return_, 1) := by decide +kernel
abbrev cX0_isOpen : ByteArray := prog_2_method_2_code
def yX0_isOpen : MethodName := ⟨RX0, "isOpen", "(I)Z"⟩
abbrev wX0_isOpen : Cond := .code yX0_isOpen cX0_isOpen 2 (some .boolean)
theorem kX0_isOpen : wX0_isOpen ∈ wG := mG 491 (by decide +kernel) rfl
theorem dX0_isOpen_0 : decode cX0_isOpen 0 = .ok (.aload_n 0, 1) := by decide +kernel
theorem dX0_isOpen_1 : decode cX0_isOpen 1 = .ok (.getfield 9, 3) := by decide +kernel
theorem dX0_isOpen_4 : decode cX0_isOpen 4 = .ok (.iload_n 1, 1) := by decide +kernel
theorem dX0_isOpen_5 : decode cX0_isOpen 5 = .ok (.baload, 1) := by decide +kernel
theorem dX0_isOpen_6 : decode cX0_isOpen 6 = .ok (.ifCond .ne 7, 3) := by decide +kernel
theorem dX0_isOpen_9 : decode cX0_isOpen 9 = .ok (.iconst 1, 1) := by decide +kernel
theorem dX0_isOpen_10 : decode cX0_isOpen 10 = .ok (.goto 4, 3) := by decide +kernel
theorem dX0_isOpen_13 : decode cX0_isOpen 13 = .ok (.iconst 0, 1) := by decide +kernel
theorem dX0_isOpen_14 : decode cX0_isOpen 14 = .ok (.ireturn, 1) := by decide +kernel
abbrev cX0_month : ByteArray := prog_2_method_3_code
def yX0_month : MethodName := ⟨RX0, "month", "()I"⟩
abbrev wX0_month : Cond := .code yX0_month cX0_month 1 (some .int)
theorem kX0_month : wX0_month ∈ wG := mG 531 (by decide +kernel) rfl
theorem dX0_month_0 : decode cX0_month 0 = .ok (.aload_n 0, 1) := by decide +kernel
theorem dX0_month_1 : decode cX0_month 1 = .ok (.getfield 15, 3) := by decide +kernel
theorem dX0_month_4 : decode cX0_month 4 = .ok (.bipush 30, 2) := by decide +kernel
theorem dX0_month_6 : decode cX0_month 6 = .ok (.idiv, 1) := by decide +kernel
theorem dX0_month_7 : decode cX0_month 7 = .ok (.bipush 12, 2) := by decide +kernel
theorem dX0_month_9 : decode cX0_month 9 = .ok (.irem, 1) := by decide +kernel
theorem dX0_month_10 : decode cX0_month 10 = .ok (.ireturn, 1) := by decide +kernel
abbrev cX0_firstOf : ByteArray := prog_2_method_4_code
def yX0_firstOf : MethodName := ⟨RX0, "firstOf", "(I)I"⟩
abbrev wX0_firstOf : Cond := .code yX0_firstOf cX0_firstOf 2 (some .int)
theorem kX0_firstOf : wX0_firstOf ∈ wG := mG 487 (by decide +kernel) rfl
theorem dX0_firstOf_0 : decode cX0_firstOf 0 = .ok (.aload_n 0, 1) := by decide +kernel
theorem dX0_firstOf_1 : decode cX0_firstOf 1 = .ok (.getfield 15, 3) := by decide +kernel
theorem dX0_firstOf_4 : decode cX0_firstOf 4 = .ok (.iload_n 1, 1) := by decide +kernel
theorem dX0_firstOf_5 : decode cX0_firstOf 5 = .ok (.if_icmp .le 12, 3) := by decide +kernel
theorem dX0_firstOf_8 : decode cX0_firstOf 8 = .ok (.aload_n 0, 1) := by decide +kernel
theorem dX0_firstOf_9 : decode cX0_firstOf 9 = .ok (.getfield 15, 3) := by decide +kernel
theorem dX0_firstOf_12 : decode cX0_firstOf 12 = .ok (.iload_n 1, 1) := by decide +kernel
theorem dX0_firstOf_13 : decode cX0_firstOf 13 = .ok (.isub, 1) := by decide +kernel
theorem dX0_firstOf_14 : decode cX0_firstOf 14 = .ok (.goto 4, 3) := by decide +kernel
theorem dX0_firstOf_17 : decode cX0_firstOf 17 = .ok (.iconst 0, 1) := by decide +kernel
theorem dX0_firstOf_18 : decode cX0_firstOf 18 = .ok (.ireturn, 1) := by decide +kernel
abbrev cX0_openDays : ByteArray := prog_2_method_5_code
def yX0_openDays : MethodName := ⟨RX0, "openDays", "(I)I"⟩
abbrev wX0_openDays : Cond := .code yX0_openDays cX0_openDays 4 (some .int)
theorem kX0_openDays : wX0_openDays ∈ wG := mG 483 (by decide +kernel) rfl
theorem dX0_openDays_0 : decode cX0_openDays 0 = .ok (.iconst 0, 1) := by decide +kernel
theorem dX0_openDays_1 : decode cX0_openDays 1 = .ok (.istore_n 2, 1) := by decide +kernel
theorem dX0_openDays_2 : decode cX0_openDays 2 = .ok (.aload_n 0, 1) := by decide +kernel
theorem dX0_openDays_3 : decode cX0_openDays 3 = .ok (.iload_n 1, 1) := by decide +kernel
theorem dX0_openDays_4 : decode cX0_openDays 4 = .ok (.invokevirtual 19, 3) := by decide +kernel
theorem dX0_openDays_7 : decode cX0_openDays 7 = .ok (.istore_n 3, 1) := by decide +kernel
theorem dX0_openDays_8 : decode cX0_openDays 8 = .ok (.iload_n 3, 1) := by decide +kernel
theorem dX0_openDays_9 : decode cX0_openDays 9 = .ok (.aload_n 0, 1) := by decide +kernel
theorem dX0_openDays_10 : decode cX0_openDays 10 = .ok (.getfield 15, 3) := by decide +kernel
theorem dX0_openDays_13 : decode cX0_openDays 13 = .ok (.if_icmp .ge 20, 3) := by decide +kernel
theorem dX0_openDays_16 : decode cX0_openDays 16 = .ok (.aload_n 0, 1) := by decide +kernel
theorem dX0_openDays_17 : decode cX0_openDays 17 = .ok (.iload_n 3, 1) := by decide +kernel
theorem dX0_openDays_18 : decode cX0_openDays 18 = .ok (.invokevirtual 23, 3) := by decide +kernel
theorem dX0_openDays_21 : decode cX0_openDays 21 = .ok (.ifCond .eq 6, 3) := by decide +kernel
theorem dX0_openDays_24 : decode cX0_openDays 24 = .ok (.iinc 2 1, 3) := by decide +kernel
theorem dX0_openDays_27 : decode cX0_openDays 27 = .ok (.iinc 3 1, 3) := by decide +kernel
theorem dX0_openDays_30 : decode cX0_openDays 30 = .ok (.goto (-22), 3) := by decide +kernel
theorem dX0_openDays_33 : decode cX0_openDays 33 = .ok (.iload_n 2, 1) := by decide +kernel
theorem dX0_openDays_34 : decode cX0_openDays 34 = .ok (.ireturn, 1) := by decide +kernel
abbrev cX1_init : ByteArray := prog_3_method_1_code
def yX1_init : MethodName := ⟨RX1, "<init>", "()V"⟩
abbrev wX1_init : Cond := .code yX1_init cX1_init 1 none
theorem kX1_init : wX1_init ∈ wG := mG 78 (by decide +kernel) rfl
theorem dX1_init_0 : decode cX1_init 0 = .ok (.aload_n 0, 1) := by decide +kernel
theorem dX1_init_1 : decode cX1_init 1 = .ok (.invokespecial 1, 3) := by decide +kernel
theorem dX1_init_4 : decode cX1_init 4 = .ok (.aload_n 0, 1) := by decide +kernel
theorem dX1_init_5 : decode cX1_init 5 = .ok (.iconst 0, 1) := by decide +kernel
theorem dX1_init_6 : decode cX1_init 6 = .ok (.putfield 7, 3) := by decide +kernel
theorem dX1_init_9 : decode cX1_init 9 = .ok (.aload_n 0, 1) := by decide +kernel
theorem dX1_init_10 : decode cX1_init 10 = .ok (.iconst 0, 1) := by decide +kernel
theorem dX1_init_11 : decode cX1_init 11 = .ok (.putfield 13, 3) := by decide +kernel
theorem dX1_init_14 : decode cX1_init 14 = .ok (.aload_n 0, 1) := by decide +kernel
theorem dX1_init_15 : decode cX1_init 15 = .ok (.iconst 0, 1) := by decide +kernel
theorem dX1_init_16 : decode cX1_init 16 = .ok (.putfield 16, 3) := by decide +kernel
theorem dX1_init_19 : decode cX1_init 19 = .ok (.aload_n 0, 1) := by decide +kernel
theorem dX1_init_20 : decode cX1_init 20 = .ok (.iconst 0, 1) := by decide +kernel
theorem dX1_init_21 : decode cX1_init 21 = .ok (.putfield 19, 3) := by decide +kernel
theorem dX1_init_24 : decode cX1_init 24 = .ok (.aload_n 0, 1) := by decide +kernel
theorem dX1_init_25 : decode cX1_init 25 = .ok (.iconst 0, 1) := by decide +kernel
theorem dX1_init_26 : decode cX1_init 26 = .ok (.putfield 22, 3) := by decide +kernel
theorem dX1_init_29 : decode cX1_init 29 = .ok (.aload_n 0, 1) := by decide +kernel
theorem dX1_init_30 : decode cX1_init 30 = .ok (.iconst 0, 1) := by decide +kernel
theorem dX1_init_31 : decode cX1_init 31 = .ok (.putfield 25, 3) := by decide +kernel
theorem dX1_init_34 : decode cX1_init 34 = .ok (.aload_n 0, 1) := by decide +kernel
theorem dX1_init_35 : decode cX1_init 35 = .ok (.iconst 0, 1) := by decide +kernel
theorem dX1_init_36 : decode cX1_init 36 = .ok (.putfield 29, 3) := by decide +kernel
theorem dX1_init_39 : decode cX1_init 39 = .ok (.return_, 1) := by decide +kernel
abbrev cX1_tell : ByteArray := prog_3_method_2_code
def yX1_tell : MethodName := ⟨RX1, "tell", "(I)I"⟩
abbrev wX1_tell : Cond := .code yX1_tell cX1_tell 2 (some .int)
theorem kX1_tell : wX1_tell ∈ wG := mG 681 (by decide +kernel) rfl
theorem dX1_tell_0 : decode cX1_tell 0 = .ok (.iload_n 1, 1) := by decide +kernel
theorem dX1_tell_1 : decode cX1_tell 1 = .ok (.tableswitch 77 0 5 #[39, 44, 49, 54, 59, 64], 39) := by decide +kernel
theorem dX1_tell_40 : decode cX1_tell 40 = .ok (.aload_n 0, 1) := by decide +kernel
theorem dX1_tell_41 : decode cX1_tell 41 = .ok (.getfield 7, 3) := by decide +kernel
theorem dX1_tell_44 : decode cX1_tell 44 = .ok (.ireturn, 1) := by decide +kernel
theorem dX1_tell_45 : decode cX1_tell 45 = .ok (.aload_n 0, 1) := by decide +kernel
theorem dX1_tell_46 : decode cX1_tell 46 = .ok (.getfield 13, 3) := by decide +kernel
theorem dX1_tell_49 : decode cX1_tell 49 = .ok (.ireturn, 1) := by decide +kernel
theorem dX1_tell_50 : decode cX1_tell 50 = .ok (.aload_n 0, 1) := by decide +kernel
theorem dX1_tell_51 : decode cX1_tell 51 = .ok (.getfield 16, 3) := by decide +kernel
theorem dX1_tell_54 : decode cX1_tell 54 = .ok (.ireturn, 1) := by decide +kernel
theorem dX1_tell_55 : decode cX1_tell 55 = .ok (.aload_n 0, 1) := by decide +kernel
theorem dX1_tell_56 : decode cX1_tell 56 = .ok (.getfield 19, 3) := by decide +kernel
theorem dX1_tell_59 : decode cX1_tell 59 = .ok (.ireturn, 1) := by decide +kernel
theorem dX1_tell_60 : decode cX1_tell 60 = .ok (.aload_n 0, 1) := by decide +kernel
theorem dX1_tell_61 : decode cX1_tell 61 = .ok (.getfield 22, 3) := by decide +kernel
theorem dX1_tell_64 : decode cX1_tell 64 = .ok (.ireturn, 1) := by decide +kernel
theorem dX1_tell_65 : decode cX1_tell 65 = .ok (.aload_n 0, 1) := by decide +kernel
theorem dX1_tell_66 : decode cX1_tell 66 = .ok (.getfield 25, 3) := by decide +kernel
theorem dX1_tell_69 : decode cX1_tell 69 = .ok (.ifCond .eq 7, 3) := by decide +kernel
theorem dX1_tell_72 : decode cX1_tell 72 = .ok (.iconst 1, 1) := by decide +kernel
theorem dX1_tell_73 : decode cX1_tell 73 = .ok (.goto 4, 3) := by decide +kernel
theorem dX1_tell_76 : decode cX1_tell 76 = .ok (.iconst 0, 1) := by decide +kernel
theorem dX1_tell_77 : decode cX1_tell 77 = .ok (.ireturn, 1) := by decide +kernel
theorem dX1_tell_78 : decode cX1_tell 78 = .ok (.aload_n 0, 1) := by decide +kernel
theorem dX1_tell_79 : decode cX1_tell 79 = .ok (.getfield 29, 3) := by decide +kernel
theorem dX1_tell_82 : decode cX1_tell 82 = .ok (.ifCond .eq 7, 3) := by decide +kernel
theorem dX1_tell_85 : decode cX1_tell 85 = .ok (.iconst 1, 1) := by decide +kernel
theorem dX1_tell_86 : decode cX1_tell 86 = .ok (.goto 4, 3) := by decide +kernel
theorem dX1_tell_89 : decode cX1_tell 89 = .ok (.iconst 0, 1) := by decide +kernel
theorem dX1_tell_90 : decode cX1_tell 90 = .ok (.ireturn, 1) := by decide +kernel
abbrev cX2_init : ByteArray := prog_4_method_1_code
def yX2_init : MethodName := ⟨RX2, "<init>", "(I)V"⟩
abbrev wX2_init : Cond := .code yX2_init cX2_init 2 none
theorem kX2_init : wX2_init ∈ wG := mG 133 (by decide +kernel) rfl
theorem dX2_init_0 : decode cX2_init 0 = .ok (.aload_n 0, 1) := by decide +kernel
theorem dX2_init_1 : decode cX2_init 1 = .ok (.invokespecial 3, 3) := by decide +kernel
theorem dX2_init_4 : decode cX2_init 4 = .ok (.aload_n 0, 1) := by decide +kernel
theorem dX2_init_5 : decode cX2_init 5 = .ok (.sipush 400, 3) := by decide +kernel
theorem dX2_init_8 : decode cX2_init 8 = .ok (.newarray .int, 2) := by decide +kernel
theorem dX2_init_10 : decode cX2_init 10 = .ok (.putfield 9, 3) := by decide +kernel
theorem dX2_init_13 : decode cX2_init 13 = .ok (.aload_n 0, 1) := by decide +kernel
theorem dX2_init_14 : decode cX2_init 14 = .ok (.sipush 1000, 3) := by decide +kernel
theorem dX2_init_17 : decode cX2_init 17 = .ok (.putfield 15, 3) := by decide +kernel
theorem dX2_init_20 : decode cX2_init 20 = .ok (.aload_n 0, 1) := by decide +kernel
theorem dX2_init_21 : decode cX2_init 21 = .ok (.iconst 0, 1) := by decide +kernel
theorem dX2_init_22 : decode cX2_init 22 = .ok (.putfield 19, 3) := by decide +kernel
theorem dX2_init_25 : decode cX2_init 25 = .ok (.aload_n 0, 1) := by decide +kernel
theorem dX2_init_26 : decode cX2_init 26 = .ok (.iconst 0, 1) := by decide +kernel
theorem dX2_init_27 : decode cX2_init 27 = .ok (.putfield 22, 3) := by decide +kernel
theorem dX2_init_30 : decode cX2_init 30 = .ok (.aload_n 0, 1) := by decide +kernel
theorem dX2_init_31 : decode cX2_init 31 = .ok (.iconst 0, 1) := by decide +kernel
theorem dX2_init_32 : decode cX2_init 32 = .ok (.putfield 25, 3) := by decide +kernel
theorem dX2_init_35 : decode cX2_init 35 = .ok (.aload_n 0, 1) := by decide +kernel
theorem dX2_init_36 : decode cX2_init 36 = .ok (.iconst (-1), 1) := by decide +kernel
theorem dX2_init_37 : decode cX2_init 37 = .ok (.putfield 28, 3) := by decide +kernel
theorem dX2_init_40 : decode cX2_init 40 = .ok (.aload_n 0, 1) := by decide +kernel
theorem dX2_init_41 : decode cX2_init 41 = .ok (.iconst (-1), 1) := by decide +kernel
theorem dX2_init_42 : decode cX2_init 42 = .ok (.putfield 31, 3) := by decide +kernel
theorem dX2_init_45 : decode cX2_init 45 = .ok (.aload_n 0, 1) := by decide +kernel
theorem dX2_init_46 : decode cX2_init 46 = .ok (.iconst 0, 1) := by decide +kernel
theorem dX2_init_47 : decode cX2_init 47 = .ok (.putfield 34, 3) := by decide +kernel
theorem dX2_init_50 : decode cX2_init 50 = .ok (.aload_n 0, 1) := by decide +kernel
theorem dX2_init_51 : decode cX2_init 51 = .ok (.iconst 0, 1) := by decide +kernel
theorem dX2_init_52 : decode cX2_init 52 = .ok (.putfield 37, 3) := by decide +kernel
theorem dX2_init_55 : decode cX2_init 55 = .ok (.aload_n 0, 1) := by decide +kernel
theorem dX2_init_56 : decode cX2_init 56 = .ok (.iconst 0, 1) := by decide +kernel
theorem dX2_init_57 : decode cX2_init 57 = .ok (.putfield 40, 3) := by decide +kernel
theorem dX2_init_60 : decode cX2_init 60 = .ok (.aload_n 0, 1) := by decide +kernel
theorem dX2_init_61 : decode cX2_init 61 = .ok (.iconst 0, 1) := by decide +kernel
theorem dX2_init_62 : decode cX2_init 62 = .ok (.putfield 43, 3) := by decide +kernel
theorem dX2_init_65 : decode cX2_init 65 = .ok (.aload_n 0, 1) := by decide +kernel
theorem dX2_init_66 : decode cX2_init 66 = .ok (.iconst 0, 1) := by decide +kernel
theorem dX2_init_67 : decode cX2_init 67 = .ok (.putfield 46, 3) := by decide +kernel
theorem dX2_init_70 : decode cX2_init 70 = .ok (.aload_n 0, 1) := by decide +kernel
theorem dX2_init_71 : decode cX2_init 71 = .ok (.iload_n 1, 1) := by decide +kernel
theorem dX2_init_72 : decode cX2_init 72 = .ok (.putfield 49, 3) := by decide +kernel
theorem dX2_init_75 : decode cX2_init 75 = .ok (.return_, 1) := by decide +kernel
abbrev cX2_isFace : ByteArray := prog_4_method_2_code
def yX2_isFace : MethodName := ⟨RX2, "isFace", "()Z"⟩
abbrev wX2_isFace : Cond := .code yX2_isFace cX2_isFace 1 (some .boolean)
theorem kX2_isFace : wX2_isFace ∈ wG := mG 364 (by decide +kernel) rfl
theorem dX2_isFace_0 : decode cX2_isFace 0 = .ok (.aload_n 0, 1) := by decide +kernel
theorem dX2_isFace_1 : decode cX2_isFace 1 = .ok (.getfield 31, 3) := by decide +kernel
theorem dX2_isFace_4 : decode cX2_isFace 4 = .ok (.iconst (-1), 1) := by decide +kernel
theorem dX2_isFace_5 : decode cX2_isFace 5 = .ok (.if_icmp .eq 7, 3) := by decide +kernel
theorem dX2_isFace_8 : decode cX2_isFace 8 = .ok (.iconst 1, 1) := by decide +kernel
theorem dX2_isFace_9 : decode cX2_isFace 9 = .ok (.goto 4, 3) := by decide +kernel
theorem dX2_isFace_12 : decode cX2_isFace 12 = .ok (.iconst 0, 1) := by decide +kernel
theorem dX2_isFace_13 : decode cX2_isFace 13 = .ok (.ireturn, 1) := by decide +kernel
abbrev cX2_isFaceOfAnother : ByteArray := prog_4_method_3_code
def yX2_isFaceOfAnother : MethodName := ⟨RX2, "isFaceOfAnother", "(I)Z"⟩
abbrev wX2_isFaceOfAnother : Cond := .code yX2_isFaceOfAnother cX2_isFaceOfAnother 2 (some .boolean)
theorem kX2_isFaceOfAnother : wX2_isFaceOfAnother ∈ wG := mG 360 (by decide +kernel) rfl
theorem dX2_isFaceOfAnother_0 : decode cX2_isFaceOfAnother 0 = .ok (.aload_n 0, 1) := by decide +kernel
theorem dX2_isFaceOfAnother_1 : decode cX2_isFaceOfAnother 1 = .ok (.invokevirtual 52, 3) := by decide +kernel
theorem dX2_isFaceOfAnother_4 : decode cX2_isFaceOfAnother 4 = .ok (.ifCond .eq 15, 3) := by decide +kernel
theorem dX2_isFaceOfAnother_7 : decode cX2_isFaceOfAnother 7 = .ok (.aload_n 0, 1) := by decide +kernel
theorem dX2_isFaceOfAnother_8 : decode cX2_isFaceOfAnother 8 = .ok (.getfield 31, 3) := by decide +kernel
theorem dX2_isFaceOfAnother_11 : decode cX2_isFaceOfAnother 11 = .ok (.iload_n 1, 1) := by decide +kernel
theorem dX2_isFaceOfAnother_12 : decode cX2_isFaceOfAnother 12 = .ok (.if_icmp .eq 7, 3) := by decide +kernel
theorem dX2_isFaceOfAnother_15 : decode cX2_isFaceOfAnother 15 = .ok (.iconst 1, 1) := by decide +kernel
theorem dX2_isFaceOfAnother_16 : decode cX2_isFaceOfAnother 16 = .ok (.goto 4, 3) := by decide +kernel
theorem dX2_isFaceOfAnother_19 : decode cX2_isFaceOfAnother 19 = .ok (.iconst 0, 1) := by decide +kernel
theorem dX2_isFaceOfAnother_20 : decode cX2_isFaceOfAnother 20 = .ok (.ireturn, 1) := by decide +kernel
abbrev cX2_isReserveOf : ByteArray := prog_4_method_4_code
def yX2_isReserveOf : MethodName := ⟨RX2, "isReserveOf", "(I)Z"⟩
abbrev wX2_isReserveOf : Cond := .code yX2_isReserveOf cX2_isReserveOf 2 (some .boolean)
theorem kX2_isReserveOf : wX2_isReserveOf ∈ wG := mG 628 (by decide +kernel) rfl
theorem dX2_isReserveOf_0 : decode cX2_isReserveOf 0 = .ok (.aload_n 0, 1) := by decide +kernel
theorem dX2_isReserveOf_1 : decode cX2_isReserveOf 1 = .ok (.invokevirtual 52, 3) := by decide +kernel
theorem dX2_isReserveOf_4 : decode cX2_isReserveOf 4 = .ok (.ifCond .ne 15, 3) := by decide +kernel
theorem dX2_isReserveOf_7 : decode cX2_isReserveOf 7 = .ok (.aload_n 0, 1) := by decide +kernel
theorem dX2_isReserveOf_8 : decode cX2_isReserveOf 8 = .ok (.getfield 28, 3) := by decide +kernel
theorem dX2_isReserveOf_11 : decode cX2_isReserveOf 11 = .ok (.iload_n 1, 1) := by decide +kernel
theorem dX2_isReserveOf_12 : decode cX2_isReserveOf 12 = .ok (.if_icmp .ne 7, 3) := by decide +kernel
theorem dX2_isReserveOf_15 : decode cX2_isReserveOf 15 = .ok (.iconst 1, 1) := by decide +kernel
theorem dX2_isReserveOf_16 : decode cX2_isReserveOf 16 = .ok (.goto 4, 3) := by decide +kernel
theorem dX2_isReserveOf_19 : decode cX2_isReserveOf 19 = .ok (.iconst 0, 1) := by decide +kernel
theorem dX2_isReserveOf_20 : decode cX2_isReserveOf 20 = .ok (.ireturn, 1) := by decide +kernel
abbrev cX2_holdsAnother : ByteArray := prog_4_method_5_code
def yX2_holdsAnother : MethodName := ⟨RX2, "holdsAnother", "(I)Z"⟩
abbrev wX2_holdsAnother : Cond := .code yX2_holdsAnother cX2_holdsAnother 2 (some .boolean)
theorem kX2_holdsAnother : wX2_holdsAnother ∈ wG := mG 347 (by decide +kernel) rfl
theorem dX2_holdsAnother_0 : decode cX2_holdsAnother 0 = .ok (.aload_n 0, 1) := by decide +kernel
theorem dX2_holdsAnother_1 : decode cX2_holdsAnother 1 = .ok (.getfield 28, 3) := by decide +kernel
theorem dX2_holdsAnother_4 : decode cX2_holdsAnother 4 = .ok (.iconst (-1), 1) := by decide +kernel
theorem dX2_holdsAnother_5 : decode cX2_holdsAnother 5 = .ok (.if_icmp .eq 15, 3) := by decide +kernel
theorem dX2_holdsAnother_8 : decode cX2_holdsAnother 8 = .ok (.aload_n 0, 1) := by decide +kernel
theorem dX2_holdsAnother_9 : decode cX2_holdsAnother 9 = .ok (.getfield 28, 3) := by decide +kernel
theorem dX2_holdsAnother_12 : decode cX2_holdsAnother 12 = .ok (.iload_n 1, 1) := by decide +kernel
theorem dX2_holdsAnother_13 : decode cX2_holdsAnother 13 = .ok (.if_icmp .eq 7, 3) := by decide +kernel
theorem dX2_holdsAnother_16 : decode cX2_holdsAnother 16 = .ok (.iconst 1, 1) := by decide +kernel
theorem dX2_holdsAnother_17 : decode cX2_holdsAnother 17 = .ok (.goto 4, 3) := by decide +kernel
theorem dX2_holdsAnother_20 : decode cX2_holdsAnother 20 = .ok (.iconst 0, 1) := by decide +kernel
theorem dX2_holdsAnother_21 : decode cX2_holdsAnother 21 = .ok (.ireturn, 1) := by decide +kernel
abbrev cX2_space : ByteArray := prog_4_method_6_code
def yX2_space : MethodName := ⟨RX2, "space", "()I"⟩
abbrev wX2_space : Cond := .code yX2_space cX2_space 1 (some .int)
theorem kX2_space : wX2_space ∈ wG := mG 372 (by decide +kernel) rfl
theorem dX2_space_0 : decode cX2_space 0 = .ok (.aload_n 0, 1) := by decide +kernel
theorem dX2_space_1 : decode cX2_space 1 = .ok (.getfield 15, 3) := by decide +kernel
theorem dX2_space_4 : decode cX2_space 4 = .ok (.aload_n 0, 1) := by decide +kernel
theorem dX2_space_5 : decode cX2_space 5 = .ok (.getfield 22, 3) := by decide +kernel
theorem dX2_space_8 : decode cX2_space 8 = .ok (.isub, 1) := by decide +kernel
theorem dX2_space_9 : decode cX2_space 9 = .ok (.ireturn, 1) := by decide +kernel
abbrev cX2_notHeld : ByteArray := prog_4_method_7_code
def yX2_notHeld : MethodName := ⟨RX2, "notHeld", "()I"⟩
abbrev wX2_notHeld : Cond := .code yX2_notHeld cX2_notHeld 1 (some .int)
theorem kX2_notHeld : wX2_notHeld ∈ wG := mG 409 (by decide +kernel) rfl
theorem dX2_notHeld_0 : decode cX2_notHeld 0 = .ok (.aload_n 0, 1) := by decide +kernel
theorem dX2_notHeld_1 : decode cX2_notHeld 1 = .ok (.getfield 22, 3) := by decide +kernel
theorem dX2_notHeld_4 : decode cX2_notHeld 4 = .ok (.aload_n 0, 1) := by decide +kernel
theorem dX2_notHeld_5 : decode cX2_notHeld 5 = .ok (.getfield 25, 3) := by decide +kernel
theorem dX2_notHeld_8 : decode cX2_notHeld 8 = .ok (.isub, 1) := by decide +kernel
theorem dX2_notHeld_9 : decode cX2_notHeld 9 = .ok (.ireturn, 1) := by decide +kernel
abbrev cX2_free : ByteArray := prog_4_method_8_code
def yX2_free : MethodName := ⟨RX2, "free", "()I"⟩
abbrev wX2_free : Cond := .code yX2_free cX2_free 1 (some .int)
theorem kX2_free : wX2_free ∈ wG := mG 636 (by decide +kernel) rfl
theorem dX2_free_0 : decode cX2_free 0 = .ok (.aload_n 0, 1) := by decide +kernel
theorem dX2_free_1 : decode cX2_free 1 = .ok (.invokevirtual 56, 3) := by decide +kernel
theorem dX2_free_4 : decode cX2_free 4 = .ok (.aload_n 0, 1) := by decide +kernel
theorem dX2_free_5 : decode cX2_free 5 = .ok (.getfield 40, 3) := by decide +kernel
theorem dX2_free_8 : decode cX2_free 8 = .ok (.isub, 1) := by decide +kernel
theorem dX2_free_9 : decode cX2_free 9 = .ok (.ireturn, 1) := by decide +kernel
abbrev cX2_bring : ByteArray := prog_4_method_9_code
def yX2_bring : MethodName := ⟨RX2, "bring", "(II)V"⟩
abbrev wX2_bring : Cond := .code yX2_bring cX2_bring 3 none
theorem kX2_bring : wX2_bring ∈ wG := mG 392 (by decide +kernel) rfl
theorem dX2_bring_0 : decode cX2_bring 0 = .ok (.aload_n 0, 1) := by decide +kernel
theorem dX2_bring_1 : decode cX2_bring 1 = .ok (.iload_n 1, 1) := by decide +kernel
theorem dX2_bring_2 : decode cX2_bring 2 = .ok (.putfield 28, 3) := by decide +kernel
theorem dX2_bring_5 : decode cX2_bring 5 = .ok (.aload_n 0, 1) := by decide +kernel
theorem dX2_bring_6 : decode cX2_bring 6 = .ok (.dup, 1) := by decide +kernel
theorem dX2_bring_7 : decode cX2_bring 7 = .ok (.getfield 22, 3) := by decide +kernel
theorem dX2_bring_10 : decode cX2_bring 10 = .ok (.iload_n 2, 1) := by decide +kernel
theorem dX2_bring_11 : decode cX2_bring 11 = .ok (.iadd, 1) := by decide +kernel
theorem dX2_bring_12 : decode cX2_bring 12 = .ok (.putfield 22, 3) := by decide +kernel
theorem dX2_bring_15 : decode cX2_bring 15 = .ok (.return_, 1) := by decide +kernel
abbrev cX2_takeAway : ByteArray := prog_4_method_10_code
def yX2_takeAway : MethodName := ⟨RX2, "takeAway", "(I)V"⟩
abbrev wX2_takeAway : Cond := .code yX2_takeAway cX2_takeAway 2 none
theorem kX2_takeAway : wX2_takeAway ∈ wG := mG 414 (by decide +kernel) rfl
theorem dX2_takeAway_0 : decode cX2_takeAway 0 = .ok (.aload_n 0, 1) := by decide +kernel
theorem dX2_takeAway_1 : decode cX2_takeAway 1 = .ok (.dup, 1) := by decide +kernel
theorem dX2_takeAway_2 : decode cX2_takeAway 2 = .ok (.getfield 22, 3) := by decide +kernel
theorem dX2_takeAway_5 : decode cX2_takeAway 5 = .ok (.iload_n 1, 1) := by decide +kernel
theorem dX2_takeAway_6 : decode cX2_takeAway 6 = .ok (.isub, 1) := by decide +kernel
theorem dX2_takeAway_7 : decode cX2_takeAway 7 = .ok (.putfield 22, 3) := by decide +kernel
theorem dX2_takeAway_10 : decode cX2_takeAway 10 = .ok (.aload_n 0, 1) := by decide +kernel
theorem dX2_takeAway_11 : decode cX2_takeAway 11 = .ok (.getfield 22, 3) := by decide +kernel
theorem dX2_takeAway_14 : decode cX2_takeAway 14 = .ok (.ifCond .ne 8, 3) := by decide +kernel
theorem dX2_takeAway_17 : decode cX2_takeAway 17 = .ok (.aload_n 0, 1) := by decide +kernel
theorem dX2_takeAway_18 : decode cX2_takeAway 18 = .ok (.iconst (-1), 1) := by decide +kernel
theorem dX2_takeAway_19 : decode cX2_takeAway 19 = .ok (.putfield 28, 3) := by decide +kernel
theorem dX2_takeAway_22 : decode cX2_takeAway 22 = .ok (.return_, 1) := by decide +kernel
abbrev cX2_tell : ByteArray := prog_4_method_11_code
def yX2_tell : MethodName := ⟨RX2, "tell", "(I)I"⟩
abbrev wX2_tell : Cond := .code yX2_tell cX2_tell 2 (some .int)
theorem kX2_tell : wX2_tell ∈ wG := mG 702 (by decide +kernel) rfl
theorem dX2_tell_0 : decode cX2_tell 0 = .ok (.iload_n 1, 1) := by decide +kernel
theorem dX2_tell_1 : decode cX2_tell 1 = .ok (.tableswitch 68 0 4 #[35, 40, 45, 50, 63], 35) := by decide +kernel
theorem dX2_tell_36 : decode cX2_tell 36 = .ok (.aload_n 0, 1) := by decide +kernel
theorem dX2_tell_37 : decode cX2_tell 37 = .ok (.getfield 22, 3) := by decide +kernel
theorem dX2_tell_40 : decode cX2_tell 40 = .ok (.ireturn, 1) := by decide +kernel
theorem dX2_tell_41 : decode cX2_tell 41 = .ok (.aload_n 0, 1) := by decide +kernel
theorem dX2_tell_42 : decode cX2_tell 42 = .ok (.getfield 25, 3) := by decide +kernel
theorem dX2_tell_45 : decode cX2_tell 45 = .ok (.ireturn, 1) := by decide +kernel
theorem dX2_tell_46 : decode cX2_tell 46 = .ok (.aload_n 0, 1) := by decide +kernel
theorem dX2_tell_47 : decode cX2_tell 47 = .ok (.getfield 28, 3) := by decide +kernel
theorem dX2_tell_50 : decode cX2_tell 50 = .ok (.ireturn, 1) := by decide +kernel
theorem dX2_tell_51 : decode cX2_tell 51 = .ok (.aload_n 0, 1) := by decide +kernel
theorem dX2_tell_52 : decode cX2_tell 52 = .ok (.invokevirtual 52, 3) := by decide +kernel
theorem dX2_tell_55 : decode cX2_tell 55 = .ok (.ifCond .eq 7, 3) := by decide +kernel
theorem dX2_tell_58 : decode cX2_tell 58 = .ok (.iconst 1, 1) := by decide +kernel
theorem dX2_tell_59 : decode cX2_tell 59 = .ok (.goto 4, 3) := by decide +kernel
theorem dX2_tell_62 : decode cX2_tell 62 = .ok (.iconst 0, 1) := by decide +kernel
theorem dX2_tell_63 : decode cX2_tell 63 = .ok (.ireturn, 1) := by decide +kernel
theorem dX2_tell_64 : decode cX2_tell 64 = .ok (.aload_n 0, 1) := by decide +kernel
theorem dX2_tell_65 : decode cX2_tell 65 = .ok (.getfield 34, 3) := by decide +kernel
theorem dX2_tell_68 : decode cX2_tell 68 = .ok (.ireturn, 1) := by decide +kernel
theorem dX2_tell_69 : decode cX2_tell 69 = .ok (.aload_n 0, 1) := by decide +kernel
theorem dX2_tell_70 : decode cX2_tell 70 = .ok (.getfield 37, 3) := by decide +kernel
theorem dX2_tell_73 : decode cX2_tell 73 = .ok (.ireturn, 1) := by decide +kernel
abbrev cX3_init : ByteArray := prog_5_method_1_code
def yX3_init : MethodName := ⟨RX3, "<init>", "()V"⟩
abbrev wX3_init : Cond := .code yX3_init cX3_init 2 none
theorem kX3_init : wX3_init ∈ wG := mG 71 (by decide +kernel) rfl
theorem dX3_init_0 : decode cX3_init 0 = .ok (.aload_n 0, 1) := by decide +kernel
theorem dX3_init_1 : decode cX3_init 1 = .ok (.invokespecial 3, 3) := by decide +kernel
theorem dX3_init_4 : decode cX3_init 4 = .ok (.aload_n 0, 1) := by decide +kernel
theorem dX3_init_5 : decode cX3_init 5 = .ok (.bipush 30, 2) := by decide +kernel
theorem dX3_init_7 : decode cX3_init 7 = .ok (.anewarray 9, 3) := by decide +kernel
theorem dX3_init_10 : decode cX3_init 10 = .ok (.putfield 11, 3) := by decide +kernel
theorem dX3_init_13 : decode cX3_init 13 = .ok (.aload_n 0, 1) := by decide +kernel
theorem dX3_init_14 : decode cX3_init 14 = .ok (.iconst 0, 1) := by decide +kernel
theorem dX3_init_15 : decode cX3_init 15 = .ok (.putfield 17, 3) := by decide +kernel
theorem dX3_init_18 : decode cX3_init 18 = .ok (.aload_n 0, 1) := by decide +kernel
theorem dX3_init_19 : decode cX3_init 19 = .ok (.iconst (-1), 1) := by decide +kernel
theorem dX3_init_20 : decode cX3_init 20 = .ok (.putfield 21, 3) := by decide +kernel
theorem dX3_init_23 : decode cX3_init 23 = .ok (.aload_n 0, 1) := by decide +kernel
theorem dX3_init_24 : decode cX3_init 24 = .ok (.iconst (-1), 1) := by decide +kernel
theorem dX3_init_25 : decode cX3_init 25 = .ok (.putfield 24, 3) := by decide +kernel
theorem dX3_init_28 : decode cX3_init 28 = .ok (.aload_n 0, 1) := by decide +kernel
theorem dX3_init_29 : decode cX3_init 29 = .ok (.iconst 0, 1) := by decide +kernel
theorem dX3_init_30 : decode cX3_init 30 = .ok (.putfield 27, 3) := by decide +kernel
theorem dX3_init_33 : decode cX3_init 33 = .ok (.iconst 0, 1) := by decide +kernel
theorem dX3_init_34 : decode cX3_init 34 = .ok (.istore_n 1, 1) := by decide +kernel
theorem dX3_init_35 : decode cX3_init 35 = .ok (.iload_n 1, 1) := by decide +kernel
theorem dX3_init_36 : decode cX3_init 36 = .ok (.bipush 30, 2) := by decide +kernel
theorem dX3_init_38 : decode cX3_init 38 = .ok (.if_icmp .ge 22, 3) := by decide +kernel
theorem dX3_init_41 : decode cX3_init 41 = .ok (.aload_n 0, 1) := by decide +kernel
theorem dX3_init_42 : decode cX3_init 42 = .ok (.getfield 11, 3) := by decide +kernel
theorem dX3_init_45 : decode cX3_init 45 = .ok (.iload_n 1, 1) := by decide +kernel
theorem dX3_init_46 : decode cX3_init 46 = .ok (.new 9, 3) := by decide +kernel
theorem dX3_init_49 : decode cX3_init 49 = .ok (.dup, 1) := by decide +kernel
theorem dX3_init_50 : decode cX3_init 50 = .ok (.invokespecial 30, 3) := by decide +kernel
theorem dX3_init_53 : decode cX3_init 53 = .ok (.aastore, 1) := by decide +kernel
theorem dX3_init_54 : decode cX3_init 54 = .ok (.iinc 1 1, 3) := by decide +kernel
theorem dX3_init_57 : decode cX3_init 57 = .ok (.goto (-22), 3) := by decide +kernel
theorem dX3_init_60 : decode cX3_init 60 = .ok (.return_, 1) := by decide +kernel
abbrev cX3_clear : ByteArray := prog_5_method_2_code
def yX3_clear : MethodName := ⟨RX3, "clear", "()V"⟩
abbrev wX3_clear : Cond := .code yX3_clear cX3_clear 1 none
theorem kX3_clear : wX3_clear ∈ wG := mG 594 (by decide +kernel) rfl
theorem dX3_clear_0 : decode cX3_clear 0 = .ok (.aload_n 0, 1) := by decide +kernel
theorem dX3_clear_1 : decode cX3_clear 1 = .ok (.iconst 0, 1) := by decide +kernel
theorem dX3_clear_2 : decode cX3_clear 2 = .ok (.putfield 17, 3) := by decide +kernel
theorem dX3_clear_5 : decode cX3_clear 5 = .ok (.aload_n 0, 1) := by decide +kernel
theorem dX3_clear_6 : decode cX3_clear 6 = .ok (.iconst (-1), 1) := by decide +kernel
theorem dX3_clear_7 : decode cX3_clear 7 = .ok (.putfield 21, 3) := by decide +kernel
theorem dX3_clear_10 : decode cX3_clear 10 = .ok (.aload_n 0, 1) := by decide +kernel
theorem dX3_clear_11 : decode cX3_clear 11 = .ok (.iconst (-1), 1) := by decide +kernel
theorem dX3_clear_12 : decode cX3_clear 12 = .ok (.putfield 24, 3) := by decide +kernel
theorem dX3_clear_15 : decode cX3_clear 15 = .ok (.aload_n 0, 1) := by decide +kernel
theorem dX3_clear_16 : decode cX3_clear 16 = .ok (.iconst 0, 1) := by decide +kernel
theorem dX3_clear_17 : decode cX3_clear 17 = .ok (.putfield 27, 3) := by decide +kernel
theorem dX3_clear_20 : decode cX3_clear 20 = .ok (.return_, 1) := by decide +kernel
abbrev cX3_moveAt : ByteArray := prog_5_method_3_code
def yX3_moveAt : MethodName := ⟨RX3, "moveAt", "(I)LReplenishRules$Move;"⟩
abbrev wX3_moveAt : Cond := .code yX3_moveAt cX3_moveAt 2 (some (.object "ReplenishRules$Move"))
theorem kX3_moveAt : wX3_moveAt ∈ wG := mG 661 (by decide +kernel) rfl
theorem dX3_moveAt_0 : decode cX3_moveAt 0 = .ok (.iload_n 1, 1) := by decide +kernel
theorem dX3_moveAt_1 : decode cX3_moveAt 1 = .ok (.ifCond .lt 11, 3) := by decide +kernel
theorem dX3_moveAt_4 : decode cX3_moveAt 4 = .ok (.iload_n 1, 1) := by decide +kernel
theorem dX3_moveAt_5 : decode cX3_moveAt 5 = .ok (.aload_n 0, 1) := by decide +kernel
theorem dX3_moveAt_6 : decode cX3_moveAt 6 = .ok (.getfield 17, 3) := by decide +kernel
theorem dX3_moveAt_9 : decode cX3_moveAt 9 = .ok (.if_icmp .lt 13, 3) := by decide +kernel
theorem dX3_moveAt_12 : decode cX3_moveAt 12 = .ok (.new 31, 3) := by decide +kernel
theorem dX3_moveAt_15 : decode cX3_moveAt 15 = .ok (.dup, 1) := by decide +kernel
theorem dX3_moveAt_16 : decode cX3_moveAt 16 = .ok (.ldc 33, 2) := by decide +kernel
theorem dX3_moveAt_18 : decode cX3_moveAt 18 = .ok (.invokespecial 35, 3) := by decide +kernel
theorem dX3_moveAt_21 : decode cX3_moveAt 21 = .ok (.athrow, 1) := by decide +kernel
theorem dX3_moveAt_22 : decode cX3_moveAt 22 = .ok (.aload_n 0, 1) := by decide +kernel
theorem dX3_moveAt_23 : decode cX3_moveAt 23 = .ok (.getfield 11, 3) := by decide +kernel
theorem dX3_moveAt_26 : decode cX3_moveAt 26 = .ok (.iload_n 1, 1) := by decide +kernel
theorem dX3_moveAt_27 : decode cX3_moveAt 27 = .ok (.aaload, 1) := by decide +kernel
theorem dX3_moveAt_28 : decode cX3_moveAt 28 = .ok (.areturn, 1) := by decide +kernel
abbrev cX3_add : ByteArray := prog_5_method_4_code
def yX3_add : MethodName := ⟨RX3, "add", "(LReplenishRules$Place;LReplenishRules$Place;I)V"⟩
abbrev wX3_add : Cond := .code yX3_add cX3_add 5 none
theorem kX3_add : wX3_add ∈ wG := mG 644 (by decide +kernel) rfl
theorem dX3_add_0 : decode cX3_add 0 = .ok (.aload_n 0, 1) := by decide +kernel
theorem dX3_add_1 : decode cX3_add 1 = .ok (.getfield 17, 3) := by decide +kernel
theorem dX3_add_4 : decode cX3_add 4 = .ok (.bipush 30, 2) := by decide +kernel
theorem dX3_add_6 : decode cX3_add 6 = .ok (.if_icmp .lt 4, 3) := by decide +kernel
theorem dX3_add_9 : decode cX3_add 9 = .ok (.return_, 1) := by decide +kernel
theorem dX3_add_10 : decode cX3_add 10 = .ok (.aload_n 0, 1) := by decide +kernel
theorem dX3_add_11 : decode cX3_add 11 = .ok (.aload_n 1, 1) := by decide +kernel
theorem dX3_add_12 : decode cX3_add 12 = .ok (.getfield 38, 3) := by decide +kernel
theorem dX3_add_15 : decode cX3_add 15 = .ok (.invokevirtual 43, 3) := by decide +kernel
theorem dX3_add_18 : decode cX3_add 18 = .ok (.aload_n 0, 1) := by decide +kernel
theorem dX3_add_19 : decode cX3_add 19 = .ok (.getfield 11, 3) := by decide +kernel
theorem dX3_add_22 : decode cX3_add 22 = .ok (.aload_n 0, 1) := by decide +kernel
theorem dX3_add_23 : decode cX3_add 23 = .ok (.getfield 17, 3) := by decide +kernel
theorem dX3_add_26 : decode cX3_add 26 = .ok (.aaload, 1) := by decide +kernel
theorem dX3_add_27 : decode cX3_add 27 = .ok (.astore 4, 2) := by decide +kernel
theorem dX3_add_29 : decode cX3_add 29 = .ok (.aload 4, 2) := by decide +kernel
theorem dX3_add_31 : decode cX3_add 31 = .ok (.aload_n 1, 1) := by decide +kernel
theorem dX3_add_32 : decode cX3_add 32 = .ok (.getfield 47, 3) := by decide +kernel
theorem dX3_add_35 : decode cX3_add 35 = .ok (.putfield 50, 3) := by decide +kernel
theorem dX3_add_38 : decode cX3_add 38 = .ok (.aload 4, 2) := by decide +kernel
theorem dX3_add_40 : decode cX3_add 40 = .ok (.aload_n 2, 1) := by decide +kernel
theorem dX3_add_41 : decode cX3_add 41 = .ok (.getfield 47, 3) := by decide +kernel
theorem dX3_add_44 : decode cX3_add 44 = .ok (.putfield 53, 3) := by decide +kernel
theorem dX3_add_47 : decode cX3_add 47 = .ok (.aload 4, 2) := by decide +kernel
theorem dX3_add_49 : decode cX3_add 49 = .ok (.iload_n 3, 1) := by decide +kernel
theorem dX3_add_50 : decode cX3_add 50 = .ok (.putfield 56, 3) := by decide +kernel
theorem dX3_add_53 : decode cX3_add 53 = .ok (.aload 4, 2) := by decide +kernel
theorem dX3_add_55 : decode cX3_add 55 = .ok (.aload_n 2, 1) := by decide +kernel
theorem dX3_add_56 : decode cX3_add 56 = .ok (.getfield 59, 3) := by decide +kernel
theorem dX3_add_59 : decode cX3_add 59 = .ok (.putfield 62, 3) := by decide +kernel
theorem dX3_add_62 : decode cX3_add 62 = .ok (.aload 4, 2) := by decide +kernel
theorem dX3_add_64 : decode cX3_add 64 = .ok (.aload_n 0, 1) := by decide +kernel
theorem dX3_add_65 : decode cX3_add 65 = .ok (.getfield 21, 3) := by decide +kernel
theorem dX3_add_68 : decode cX3_add 68 = .ok (.putfield 63, 3) := by decide +kernel
theorem dX3_add_71 : decode cX3_add 71 = .ok (.aload 4, 2) := by decide +kernel
theorem dX3_add_73 : decode cX3_add 73 = .ok (.aload_n 1, 1) := by decide +kernel
theorem dX3_add_74 : decode cX3_add 74 = .ok (.invokevirtual 64, 3) := by decide +kernel
theorem dX3_add_77 : decode cX3_add 77 = .ok (.ifCond .ne 7, 3) := by decide +kernel
theorem dX3_add_80 : decode cX3_add 80 = .ok (.iconst 1, 1) := by decide +kernel
theorem dX3_add_81 : decode cX3_add 81 = .ok (.goto 4, 3) := by decide +kernel
theorem dX3_add_84 : decode cX3_add 84 = .ok (.iconst 0, 1) := by decide +kernel
theorem dX3_add_85 : decode cX3_add 85 = .ok (.putfield 68, 3) := by decide +kernel
theorem dX3_add_88 : decode cX3_add 88 = .ok (.aload 4, 2) := by decide +kernel
theorem dX3_add_90 : decode cX3_add 90 = .ok (.iconst 0, 1) := by decide +kernel
theorem dX3_add_91 : decode cX3_add 91 = .ok (.putfield 72, 3) := by decide +kernel
theorem dX3_add_94 : decode cX3_add 94 = .ok (.aload_n 0, 1) := by decide +kernel
theorem dX3_add_95 : decode cX3_add 95 = .ok (.dup, 1) := by decide +kernel
theorem dX3_add_96 : decode cX3_add 96 = .ok (.getfield 17, 3) := by decide +kernel
theorem dX3_add_99 : decode cX3_add 99 = .ok (.iconst 1, 1) := by decide +kernel
theorem dX3_add_100 : decode cX3_add 100 = .ok (.iadd, 1) := by decide +kernel
theorem dX3_add_101 : decode cX3_add 101 = .ok (.putfield 17, 3) := by decide +kernel
theorem dX3_add_104 : decode cX3_add 104 = .ok (.return_, 1) := by decide +kernel
abbrev cX3_joinTrip : ByteArray := prog_5_method_5_code
def yX3_joinTrip : MethodName := ⟨RX3, "joinTrip", "(I)V"⟩
abbrev wX3_joinTrip : Cond := .code yX3_joinTrip cX3_joinTrip 2 none
theorem kX3_joinTrip : wX3_joinTrip ∈ wG := mG 648 (by decide +kernel) rfl
theorem dX3_joinTrip_0 : decode cX3_joinTrip 0 = .ok (.aload_n 0, 1) := by decide +kernel
theorem dX3_joinTrip_1 : decode cX3_joinTrip 1 = .ok (.getfield 24, 3) := by decide +kernel
theorem dX3_joinTrip_4 : decode cX3_joinTrip 4 = .ok (.iload_n 1, 1) := by decide +kernel
theorem dX3_joinTrip_5 : decode cX3_joinTrip 5 = .ok (.if_icmp .ne 11, 3) := by decide +kernel
theorem dX3_joinTrip_8 : decode cX3_joinTrip 8 = .ok (.aload_n 0, 1) := by decide +kernel
theorem dX3_joinTrip_9 : decode cX3_joinTrip 9 = .ok (.getfield 27, 3) := by decide +kernel
theorem dX3_joinTrip_12 : decode cX3_joinTrip 12 = .ok (.iconst 3, 1) := by decide +kernel
theorem dX3_joinTrip_13 : decode cX3_joinTrip 13 = .ok (.if_icmp .lt 23, 3) := by decide +kernel
theorem dX3_joinTrip_16 : decode cX3_joinTrip 16 = .ok (.aload_n 0, 1) := by decide +kernel
theorem dX3_joinTrip_17 : decode cX3_joinTrip 17 = .ok (.dup, 1) := by decide +kernel
theorem dX3_joinTrip_18 : decode cX3_joinTrip 18 = .ok (.getfield 21, 3) := by decide +kernel
theorem dX3_joinTrip_21 : decode cX3_joinTrip 21 = .ok (.iconst 1, 1) := by decide +kernel
theorem dX3_joinTrip_22 : decode cX3_joinTrip 22 = .ok (.iadd, 1) := by decide +kernel
theorem dX3_joinTrip_23 : decode cX3_joinTrip 23 = .ok (.putfield 21, 3) := by decide +kernel
theorem dX3_joinTrip_26 : decode cX3_joinTrip 26 = .ok (.aload_n 0, 1) := by decide +kernel
theorem dX3_joinTrip_27 : decode cX3_joinTrip 27 = .ok (.iload_n 1, 1) := by decide +kernel
theorem dX3_joinTrip_28 : decode cX3_joinTrip 28 = .ok (.putfield 24, 3) := by decide +kernel
theorem dX3_joinTrip_31 : decode cX3_joinTrip 31 = .ok (.aload_n 0, 1) := by decide +kernel
theorem dX3_joinTrip_32 : decode cX3_joinTrip 32 = .ok (.iconst 0, 1) := by decide +kernel
theorem dX3_joinTrip_33 : decode cX3_joinTrip 33 = .ok (.putfield 27, 3) := by decide +kernel
theorem dX3_joinTrip_36 : decode cX3_joinTrip 36 = .ok (.aload_n 0, 1) := by decide +kernel
theorem dX3_joinTrip_37 : decode cX3_joinTrip 37 = .ok (.dup, 1) := by decide +kernel
theorem dX3_joinTrip_38 : decode cX3_joinTrip 38 = .ok (.getfield 27, 3) := by decide +kernel
theorem dX3_joinTrip_41 : decode cX3_joinTrip 41 = .ok (.iconst 1, 1) := by decide +kernel
theorem dX3_joinTrip_42 : decode cX3_joinTrip 42 = .ok (.iadd, 1) := by decide +kernel
theorem dX3_joinTrip_43 : decode cX3_joinTrip 43 = .ok (.putfield 27, 3) := by decide +kernel
theorem dX3_joinTrip_46 : decode cX3_joinTrip 46 = .ok (.return_, 1) := by decide +kernel
abbrev cX4_init : ByteArray := prog_6_method_1_code
def yX4_init : MethodName := ⟨RX4, "<init>", "()V"⟩
abbrev wX4_init : Cond := .code yX4_init cX4_init 1 none
theorem kX4_init : wX4_init ∈ wG := mG 194 (by decide +kernel) rfl
theorem dX4_init_0 : decode cX4_init 0 = .ok (.aload_n 0, 1) := by decide +kernel
theorem dX4_init_1 : decode cX4_init 1 = .ok (.invokespecial 3, 3) := by decide +kernel
theorem dX4_init_4 : decode cX4_init 4 = .ok (.aload_n 0, 1) := by decide +kernel
theorem dX4_init_5 : decode cX4_init 5 = .ok (.iconst 0, 1) := by decide +kernel
theorem dX4_init_6 : decode cX4_init 6 = .ok (.putfield 9, 3) := by decide +kernel
theorem dX4_init_9 : decode cX4_init 9 = .ok (.aload_n 0, 1) := by decide +kernel
theorem dX4_init_10 : decode cX4_init 10 = .ok (.iconst 1, 1) := by decide +kernel
theorem dX4_init_11 : decode cX4_init 11 = .ok (.putfield 15, 3) := by decide +kernel
theorem dX4_init_14 : decode cX4_init 14 = .ok (.aload_n 0, 1) := by decide +kernel
theorem dX4_init_15 : decode cX4_init 15 = .ok (.sipush 399, 3) := by decide +kernel
theorem dX4_init_18 : decode cX4_init 18 = .ok (.putfield 18, 3) := by decide +kernel
theorem dX4_init_21 : decode cX4_init 21 = .ok (.return_, 1) := by decide +kernel
abbrev cX4_kindOn : ByteArray := prog_6_method_2_code
def yX4_kindOn : MethodName := ⟨RX4, "kindOn", "(I)I"⟩
abbrev wX4_kindOn : Cond := .code yX4_kindOn cX4_kindOn 2 (some .int)
theorem kX4_kindOn : wX4_kindOn ∈ wG := mG 527 (by decide +kernel) rfl
theorem dX4_kindOn_0 : decode cX4_kindOn 0 = .ok (.iload_n 1, 1) := by decide +kernel
theorem dX4_kindOn_1 : decode cX4_kindOn 1 = .ok (.aload_n 0, 1) := by decide +kernel
theorem dX4_kindOn_2 : decode cX4_kindOn 2 = .ok (.getfield 18, 3) := by decide +kernel
theorem dX4_kindOn_5 : decode cX4_kindOn 5 = .ok (.if_icmp .le 7, 3) := by decide +kernel
theorem dX4_kindOn_8 : decode cX4_kindOn 8 = .ok (.iconst 0, 1) := by decide +kernel
theorem dX4_kindOn_9 : decode cX4_kindOn 9 = .ok (.goto 7, 3) := by decide +kernel
theorem dX4_kindOn_12 : decode cX4_kindOn 12 = .ok (.aload_n 0, 1) := by decide +kernel
theorem dX4_kindOn_13 : decode cX4_kindOn 13 = .ok (.getfield 9, 3) := by decide +kernel
theorem dX4_kindOn_16 : decode cX4_kindOn 16 = .ok (.ireturn, 1) := by decide +kernel
abbrev cX4_aheadOn : ByteArray := prog_6_method_3_code
def yX4_aheadOn : MethodName := ⟨RX4, "aheadOn", "(I)I"⟩
abbrev wX4_aheadOn : Cond := .code yX4_aheadOn cX4_aheadOn 2 (some .int)
theorem kX4_aheadOn : wX4_aheadOn ∈ wG := mG 535 (by decide +kernel) rfl
theorem dX4_aheadOn_0 : decode cX4_aheadOn 0 = .ok (.iload_n 1, 1) := by decide +kernel
theorem dX4_aheadOn_1 : decode cX4_aheadOn 1 = .ok (.aload_n 0, 1) := by decide +kernel
theorem dX4_aheadOn_2 : decode cX4_aheadOn 2 = .ok (.getfield 18, 3) := by decide +kernel
theorem dX4_aheadOn_5 : decode cX4_aheadOn 5 = .ok (.if_icmp .le 7, 3) := by decide +kernel
theorem dX4_aheadOn_8 : decode cX4_aheadOn 8 = .ok (.iconst 1, 1) := by decide +kernel
theorem dX4_aheadOn_9 : decode cX4_aheadOn 9 = .ok (.goto 7, 3) := by decide +kernel
theorem dX4_aheadOn_12 : decode cX4_aheadOn 12 = .ok (.aload_n 0, 1) := by decide +kernel
theorem dX4_aheadOn_13 : decode cX4_aheadOn 13 = .ok (.getfield 15, 3) := by decide +kernel
theorem dX4_aheadOn_16 : decode cX4_aheadOn 16 = .ok (.ireturn, 1) := by decide +kernel
abbrev cX5_init : ByteArray := prog_7_method_1_code
def yX5_init : MethodName := ⟨RX5, "<init>", "()V"⟩
abbrev wX5_init : Cond := .code yX5_init cX5_init 1 none
theorem kX5_init : wX5_init ∈ wG := mG 51 (by decide +kernel) rfl
theorem dX5_init_0 : decode cX5_init 0 = .ok (.aload_n 0, 1) := by decide +kernel
theorem dX5_init_1 : decode cX5_init 1 = .ok (.invokespecial 3, 3) := by decide +kernel
theorem dX5_init_4 : decode cX5_init 4 = .ok (.aload_n 0, 1) := by decide +kernel
theorem dX5_init_5 : decode cX5_init 5 = .ok (.bipush 30, 2) := by decide +kernel
theorem dX5_init_7 : decode cX5_init 7 = .ok (.newarray .int, 2) := by decide +kernel
theorem dX5_init_9 : decode cX5_init 9 = .ok (.putfield 9, 3) := by decide +kernel
theorem dX5_init_12 : decode cX5_init 12 = .ok (.aload_n 0, 1) := by decide +kernel
theorem dX5_init_13 : decode cX5_init 13 = .ok (.bipush 30, 2) := by decide +kernel
theorem dX5_init_15 : decode cX5_init 15 = .ok (.newarray .int, 2) := by decide +kernel
theorem dX5_init_17 : decode cX5_init 17 = .ok (.putfield 15, 3) := by decide +kernel
theorem dX5_init_20 : decode cX5_init 20 = .ok (.aload_n 0, 1) := by decide +kernel
theorem dX5_init_21 : decode cX5_init 21 = .ok (.bipush 30, 2) := by decide +kernel
theorem dX5_init_23 : decode cX5_init 23 = .ok (.newarray .int, 2) := by decide +kernel
theorem dX5_init_25 : decode cX5_init 25 = .ok (.putfield 18, 3) := by decide +kernel
theorem dX5_init_28 : decode cX5_init 28 = .ok (.aload_n 0, 1) := by decide +kernel
theorem dX5_init_29 : decode cX5_init 29 = .ok (.iconst 0, 1) := by decide +kernel
theorem dX5_init_30 : decode cX5_init 30 = .ok (.putfield 21, 3) := by decide +kernel
theorem dX5_init_33 : decode cX5_init 33 = .ok (.return_, 1) := by decide +kernel
abbrev cX5_add : ByteArray := prog_7_method_2_code
def yX5_add : MethodName := ⟨RX5, "add", "(III)V"⟩
abbrev wX5_add : Cond := .code yX5_add cX5_add 4 none
theorem kX5_add : wX5_add ∈ wG := mG 456 (by decide +kernel) rfl
theorem dX5_add_0 : decode cX5_add 0 = .ok (.aload_n 0, 1) := by decide +kernel
theorem dX5_add_1 : decode cX5_add 1 = .ok (.getfield 21, 3) := by decide +kernel
theorem dX5_add_4 : decode cX5_add 4 = .ok (.bipush 30, 2) := by decide +kernel
theorem dX5_add_6 : decode cX5_add 6 = .ok (.if_icmp .lt 4, 3) := by decide +kernel
theorem dX5_add_9 : decode cX5_add 9 = .ok (.return_, 1) := by decide +kernel
theorem dX5_add_10 : decode cX5_add 10 = .ok (.aload_n 0, 1) := by decide +kernel
theorem dX5_add_11 : decode cX5_add 11 = .ok (.getfield 9, 3) := by decide +kernel
theorem dX5_add_14 : decode cX5_add 14 = .ok (.aload_n 0, 1) := by decide +kernel
theorem dX5_add_15 : decode cX5_add 15 = .ok (.getfield 21, 3) := by decide +kernel
theorem dX5_add_18 : decode cX5_add 18 = .ok (.iload_n 1, 1) := by decide +kernel
theorem dX5_add_19 : decode cX5_add 19 = .ok (.iastore, 1) := by decide +kernel
theorem dX5_add_20 : decode cX5_add 20 = .ok (.aload_n 0, 1) := by decide +kernel
theorem dX5_add_21 : decode cX5_add 21 = .ok (.getfield 15, 3) := by decide +kernel
theorem dX5_add_24 : decode cX5_add 24 = .ok (.aload_n 0, 1) := by decide +kernel
theorem dX5_add_25 : decode cX5_add 25 = .ok (.getfield 21, 3) := by decide +kernel
theorem dX5_add_28 : decode cX5_add 28 = .ok (.iload_n 2, 1) := by decide +kernel
theorem dX5_add_29 : decode cX5_add 29 = .ok (.iastore, 1) := by decide +kernel
theorem dX5_add_30 : decode cX5_add 30 = .ok (.aload_n 0, 1) := by decide +kernel
theorem dX5_add_31 : decode cX5_add 31 = .ok (.getfield 18, 3) := by decide +kernel
theorem dX5_add_34 : decode cX5_add 34 = .ok (.aload_n 0, 1) := by decide +kernel
theorem dX5_add_35 : decode cX5_add 35 = .ok (.getfield 21, 3) := by decide +kernel
theorem dX5_add_38 : decode cX5_add 38 = .ok (.iload_n 3, 1) := by decide +kernel
theorem dX5_add_39 : decode cX5_add 39 = .ok (.iastore, 1) := by decide +kernel
theorem dX5_add_40 : decode cX5_add 40 = .ok (.aload_n 0, 1) := by decide +kernel
theorem dX5_add_41 : decode cX5_add 41 = .ok (.dup, 1) := by decide +kernel
theorem dX5_add_42 : decode cX5_add 42 = .ok (.getfield 21, 3) := by decide +kernel
theorem dX5_add_45 : decode cX5_add 45 = .ok (.iconst 1, 1) := by decide +kernel
theorem dX5_add_46 : decode cX5_add 46 = .ok (.iadd, 1) := by decide +kernel
theorem dX5_add_47 : decode cX5_add 47 = .ok (.putfield 21, 3) := by decide +kernel
theorem dX5_add_50 : decode cX5_add 50 = .ok (.return_, 1) := by decide +kernel
abbrev cX5_neededOf : ByteArray := prog_7_method_3_code
def yX5_neededOf : MethodName := ⟨RX5, "neededOf", "(III)J"⟩
abbrev wX5_neededOf : Cond := .code yX5_neededOf cX5_neededOf 7 (some .long)
theorem kX5_neededOf : wX5_neededOf ∈ wG := mG 569 (by decide +kernel) rfl
theorem dX5_neededOf_0 : decode cX5_neededOf 0 = .ok (.lconst 0, 1) := by decide +kernel
theorem dX5_neededOf_1 : decode cX5_neededOf 1 = .ok (.lstore 4, 2) := by decide +kernel
theorem dX5_neededOf_3 : decode cX5_neededOf 3 = .ok (.iconst 0, 1) := by decide +kernel
theorem dX5_neededOf_4 : decode cX5_neededOf 4 = .ok (.istore 6, 2) := by decide +kernel
theorem dX5_neededOf_6 : decode cX5_neededOf 6 = .ok (.iload 6, 2) := by decide +kernel
theorem dX5_neededOf_8 : decode cX5_neededOf 8 = .ok (.aload_n 0, 1) := by decide +kernel
theorem dX5_neededOf_9 : decode cX5_neededOf 9 = .ok (.getfield 21, 3) := by decide +kernel
theorem dX5_neededOf_12 : decode cX5_neededOf 12 = .ok (.if_icmp .ge 55, 3) := by decide +kernel
theorem dX5_neededOf_15 : decode cX5_neededOf 15 = .ok (.aload_n 0, 1) := by decide +kernel
theorem dX5_neededOf_16 : decode cX5_neededOf 16 = .ok (.getfield 9, 3) := by decide +kernel
theorem dX5_neededOf_19 : decode cX5_neededOf 19 = .ok (.iload 6, 2) := by decide +kernel
theorem dX5_neededOf_21 : decode cX5_neededOf 21 = .ok (.iaload, 1) := by decide +kernel
theorem dX5_neededOf_22 : decode cX5_neededOf 22 = .ok (.iload_n 1, 1) := by decide +kernel
theorem dX5_neededOf_23 : decode cX5_neededOf 23 = .ok (.if_icmp .ne 38, 3) := by decide +kernel
theorem dX5_neededOf_26 : decode cX5_neededOf 26 = .ok (.aload_n 0, 1) := by decide +kernel
theorem dX5_neededOf_27 : decode cX5_neededOf 27 = .ok (.getfield 18, 3) := by decide +kernel
theorem dX5_neededOf_30 : decode cX5_neededOf 30 = .ok (.iload 6, 2) := by decide +kernel
theorem dX5_neededOf_32 : decode cX5_neededOf 32 = .ok (.iaload, 1) := by decide +kernel
theorem dX5_neededOf_33 : decode cX5_neededOf 33 = .ok (.iload_n 2, 1) := by decide +kernel
theorem dX5_neededOf_34 : decode cX5_neededOf 34 = .ok (.if_icmp .lt 27, 3) := by decide +kernel
theorem dX5_neededOf_37 : decode cX5_neededOf 37 = .ok (.aload_n 0, 1) := by decide +kernel
theorem dX5_neededOf_38 : decode cX5_neededOf 38 = .ok (.getfield 18, 3) := by decide +kernel
theorem dX5_neededOf_41 : decode cX5_neededOf 41 = .ok (.iload 6, 2) := by decide +kernel
theorem dX5_neededOf_43 : decode cX5_neededOf 43 = .ok (.iaload, 1) := by decide +kernel
theorem dX5_neededOf_44 : decode cX5_neededOf 44 = .ok (.iload_n 3, 1) := by decide +kernel
theorem dX5_neededOf_45 : decode cX5_neededOf 45 = .ok (.if_icmp .gt 16, 3) := by decide +kernel
theorem dX5_neededOf_48 : decode cX5_neededOf 48 = .ok (.lload 4, 2) := by decide +kernel
theorem dX5_neededOf_50 : decode cX5_neededOf 50 = .ok (.aload_n 0, 1) := by decide +kernel
theorem dX5_neededOf_51 : decode cX5_neededOf 51 = .ok (.getfield 15, 3) := by decide +kernel
theorem dX5_neededOf_54 : decode cX5_neededOf 54 = .ok (.iload 6, 2) := by decide +kernel
theorem dX5_neededOf_56 : decode cX5_neededOf 56 = .ok (.iaload, 1) := by decide +kernel
theorem dX5_neededOf_57 : decode cX5_neededOf 57 = .ok (.i2l, 1) := by decide +kernel
theorem dX5_neededOf_58 : decode cX5_neededOf 58 = .ok (.ladd, 1) := by decide +kernel
theorem dX5_neededOf_59 : decode cX5_neededOf 59 = .ok (.lstore 4, 2) := by decide +kernel
theorem dX5_neededOf_61 : decode cX5_neededOf 61 = .ok (.iinc 6 1, 3) := by decide +kernel
theorem dX5_neededOf_64 : decode cX5_neededOf 64 = .ok (.goto (-58), 3) := by decide +kernel
theorem dX5_neededOf_67 : decode cX5_neededOf 67 = .ok (.lload 4, 2) := by decide +kernel
theorem dX5_neededOf_69 : decode cX5_neededOf 69 = .ok (.lreturn, 1) := by decide +kernel
