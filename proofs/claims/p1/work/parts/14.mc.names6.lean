theorem dX16_count_146 : decode cX16_count 146 = .ok (.ireturn, 1) := by decide +kernel
