theorem dX6_planMove_55 : decode cX6_planMove 55 = .ok (.iload_n 3, 1) := by decide +kernel
theorem dX6_planMove_56 : decode cX6_planMove 56 = .ok (.invokevirtual 334, 3) := by decide +kernel
theorem dX6_planMove_59 : decode cX6_planMove 59 = .ok (.return_, 1) := by decide +kernel
