theorem dL_law_2773 : decode cL_law 2773 = .ok (.iconst 1, 1) := by decide +kernel
theorem dL_law_2774 : decode cL_law 2774 = .ok (.ireturn, 1) := by decide +kernel
