theorem dX2_forget_12 : decode cX2_forget 12 = .ok (.putfield 39, 3) := by decide +kernel
theorem dX2_forget_15 : decode cX2_forget 15 = .ok (.return_, 1) := by decide +kernel
