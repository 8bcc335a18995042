theorem md_L_law_1198 : decode mb_L_law 1198 = .ok (.ireturn, 1) := by decide +kernel
