theorem dX18_letter_5 : decode cX18_letter 5 = .ok (.caload, 1) := by decide +kernel
theorem dX18_letter_6 : decode cX18_letter 6 = .ok (.ireturn, 1) := by decide +kernel
