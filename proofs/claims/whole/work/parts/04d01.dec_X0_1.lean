theorem dX0_week_25 : decode cX0_week 25 = .ok (.iconst 1, 1) := by decide +kernel
theorem dX0_week_26 : decode cX0_week 26 = .ok (.iadd, 1) := by decide +kernel
theorem dX0_week_27 : decode cX0_week 27 = .ok (.ireturn, 1) := by decide +kernel
