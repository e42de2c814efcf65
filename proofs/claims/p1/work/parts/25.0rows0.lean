theorem dL_law_2861 : decode cL_law 2861 = .ok (.iconst 1, 1) := by decide +kernel
theorem dL_law_2862 : decode cL_law 2862 = .ok (.ireturn, 1) := by decide +kernel
