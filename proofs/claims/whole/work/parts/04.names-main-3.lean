theorem dX6_planMove_50 : decode cX6_planMove 50 = .ok (.getfield 48, 3) := by decide +kernel
theorem dX6_planMove_53 : decode cX6_planMove 53 = .ok (.aload_n 1, 1) := by decide +kernel
theorem dX6_planMove_54 : decode cX6_planMove 54 = .ok (.aload_n 2, 1) := by decide +kernel
theorem dX6_planMove_55 : decode cX6_planMove 55 = .ok (.iload_n 3, 1) := by decide +kernel
theorem dX6_planMove_56 : decode cX6_planMove 56 = .ok (.invokevirtual 333, 3) := by decide +kernel
theorem dX6_planMove_59 : decode cX6_planMove 59 = .ok (.return_, 1) := by decide +kernel
