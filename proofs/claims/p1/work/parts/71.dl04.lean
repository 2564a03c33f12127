theorem dL_law_1408 : decode cL_law 1408 = .ok (.iinc 3 6, 3) := by decide +kernel
theorem dL_law_1411 : decode cL_law 1411 = .ok (.goto (-1393), 3) := by decide +kernel
theorem dL_law_1414 : decode cL_law 1414 = .ok (.iconst 1, 1) := by decide +kernel
theorem dL_law_1415 : decode cL_law 1415 = .ok (.ireturn, 1) := by decide +kernel
