def cs_0 : List (SCR × BD) := [((9, [(.leaf (6, 0)), (.leaf (6, 1)), (.leaf (6, 2)), (.leaf (6, 3)), (.leaf (6, 4)), (.leaf (6, 5)), (.leaf (6, 6)), (.leaf (6, 7)), (.leaf (6, 8))]), [((.branch 3 (.leaf (6, 3)) (.leaf (0, 31))), 9223372036854775808, 9223372036854775808)])]
set_option maxRecDepth 100000 in
theorem run_0 : cs_0.all runOK = true := by decide +kernel
