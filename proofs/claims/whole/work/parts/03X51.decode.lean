theorem dX5_leadsUp_39 : decode cX5_leadsUp 39 = .ok (.ireturn, 1) := by decide +kernel
