theorem dX10_giveShares_54 : decode cX10_giveShares 54 = .ok (.goto (-52), 3) := by decide +kernel
theorem dX10_giveShares_57 : decode cX10_giveShares 57 = .ok (.return_, 1) := by decide +kernel
