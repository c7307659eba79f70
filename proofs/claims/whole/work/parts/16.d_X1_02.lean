theorem dX1_payBack_82 : decode cX1_payBack 82 = .ok (.ireturn, 1) := by decide +kernel
