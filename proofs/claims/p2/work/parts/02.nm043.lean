theorem dL_law_529 : decode cL_law 529 = .ok (.invokevirtual 66, 3) := by decide +kernel
theorem dL_law_532 : decode cL_law 532 = .ok (.istore 6, 2) := by decide +kernel
theorem dL_law_534 : decode cL_law 534 = .ok (.goto 3, 3) := by decide +kernel
theorem dL_law_537 : decode cL_law 537 = .ok (.iinc 4 6, 3) := by decide +kernel
theorem dL_law_540 : decode cL_law 540 = .ok (.goto (-517), 3) := by decide +kernel
theorem dL_law_543 : decode cL_law 543 = .ok (.iconst 1, 1) := by decide +kernel
theorem dL_law_544 : decode cL_law 544 = .ok (.ireturn, 1) := by decide +kernel
