def lvL : List (Nat × AE) := [(3, .leaf (0, 3)), (2, .leaf (2, 215)), (1, .leaf (2, 0)), (0, .leaf (5, 0))]
def runOK (q : SCR × BD) : Bool := allOne (ax axS axC q.1 60000 q.2 0 mr_L_law 61 lvL [] hp3 273 47050)
def cs_1 : List (SCR × BD) := [((9, [(.leaf (6, 0)), (.leaf (6, 1)), (.leaf (6, 2)), (.leaf (6, 3)), (.leaf (6, 4)), (.leaf (6, 5)), (.leaf (6, 6)), (.leaf (6, 7)), (.leaf (6, 8))]), [((.branch 3 (.leaf (6, 3)) (.leaf (0, 31))), 9223372036854775809, 9223372036854775809)])]
set_option maxRecDepth 100000 in
theorem run_1 : cs_1.all runOK = true := by decide +kernel
def cs_2 : List (SCR × BD) := [((9, [(.leaf (6, 0)), (.leaf (6, 1)), (.leaf (6, 2)), (.leaf (6, 3)), (.leaf (0, 0)), (.leaf (6, 5)), (.leaf (6, 6)), (.leaf (6, 7)), (.leaf (6, 8))]), [((.branch 3 (.leaf (6, 3)) (.leaf (0, 31))), 9223372036854775810, 9223372036854775810)]),
  ((9, [(.leaf (6, 0)), (.leaf (6, 1)), (.leaf (6, 2)), (.leaf (6, 3)), (.leaf (0, 1)), (.leaf (6, 5)), (.leaf (6, 6)), (.leaf (6, 7)), (.leaf (6, 8))]), [((.branch 3 (.leaf (6, 3)) (.leaf (0, 31))), 9223372036854775810, 9223372036854775810)]),
  ((9, [(.leaf (6, 0)), (.leaf (6, 1)), (.leaf (6, 2)), (.leaf (6, 3)), (.leaf (6, 4)), (.leaf (6, 5)), (.leaf (6, 6)), (.leaf (6, 7)), (.leaf (6, 8))]), [((.leaf (6, 4)), 9223372034707292160, 9223372036854775807), ((.branch 3 (.leaf (6, 3)) (.leaf (0, 31))), 9223372036854775810, 9223372036854775810)]),
  ((9, [(.leaf (6, 0)), (.leaf (6, 1)), (.leaf (6, 2)), (.leaf (6, 3)), (.leaf (6, 4)), (.leaf (6, 5)), (.leaf (6, 6)), (.leaf (6, 7)), (.leaf (6, 8))]), [((.leaf (6, 4)), 9223372036854775810, 9223372039002259455), ((.branch 3 (.leaf (6, 3)) (.leaf (0, 31))), 9223372036854775810, 9223372036854775810)])]
set_option maxRecDepth 100000 in
theorem run_2 : cs_2.all runOK = true := by decide +kernel
def cs_3 : List (SCR × BD) := [((9, [(.leaf (6, 0)), (.leaf (6, 1)), (.leaf (6, 2)), (.leaf (6, 3)), (.leaf (0, 0)), (.leaf (6, 5)), (.leaf (6, 6)), (.leaf (6, 7)), (.leaf (6, 8))]), [((.branch 3 (.leaf (6, 3)) (.leaf (0, 31))), 9223372036854775811, 9223372036854775811)]),
  ((9, [(.leaf (6, 0)), (.leaf (6, 1)), (.leaf (6, 2)), (.leaf (6, 3)), (.leaf (0, 1)), (.leaf (6, 5)), (.leaf (6, 6)), (.leaf (6, 7)), (.leaf (6, 8))]), [((.branch 3 (.leaf (6, 3)) (.leaf (0, 31))), 9223372036854775811, 9223372036854775811)]),
  ((9, [(.leaf (6, 0)), (.leaf (6, 1)), (.leaf (6, 2)), (.leaf (6, 3)), (.leaf (6, 4)), (.leaf (6, 5)), (.leaf (6, 6)), (.leaf (6, 7)), (.leaf (6, 8))]), [((.leaf (6, 4)), 9223372034707292160, 9223372036854775807), ((.branch 3 (.leaf (6, 3)) (.leaf (0, 31))), 9223372036854775811, 9223372036854775811)]),
  ((9, [(.leaf (6, 0)), (.leaf (6, 1)), (.leaf (6, 2)), (.leaf (6, 3)), (.leaf (6, 4)), (.leaf (6, 5)), (.leaf (6, 6)), (.leaf (6, 7)), (.leaf (6, 8))]), [((.leaf (6, 4)), 9223372036854775810, 9223372039002259455), ((.branch 3 (.leaf (6, 3)) (.leaf (0, 31))), 9223372036854775811, 9223372036854775811)])]
set_option maxRecDepth 100000 in
theorem run_3 : cs_3.all runOK = true := by decide +kernel
def cs_5 : List (SCR × BD) := [((9, [(.leaf (6, 0)), (.leaf (6, 1)), (.leaf (6, 2)), (.leaf (6, 3)), (.leaf (6, 4)), (.leaf (6, 5)), (.leaf (6, 6)), (.leaf (6, 7)), (.leaf (6, 8))]), [((.leaf (6, 4)), 9223372034707292160, 9223372036854775808), ((.branch 3 (.leaf (6, 3)) (.leaf (0, 31))), 9223372036854775813, 9223372036854775813)]),
  ((9, [(.leaf (6, 0)), (.leaf (6, 1)), (.leaf (6, 2)), (.leaf (6, 3)), (.leaf (6, 4)), (.leaf (6, 5)), (.leaf (6, 6)), (.leaf (6, 7)), (.leaf (6, 8))]), [((.leaf (6, 4)), 9223372036854775859, 9223372039002259455), ((.branch 3 (.leaf (6, 3)) (.leaf (0, 31))), 9223372036854775813, 9223372036854775813)])]
set_option maxRecDepth 100000 in
theorem run_5 : cs_5.all runOK = true := by decide +kernel
def cs_6 : List (SCR × BD) := [((9, [(.leaf (6, 0)), (.leaf (6, 1)), (.leaf (6, 2)), (.leaf (6, 3)), (.leaf (6, 4)), (.leaf (6, 5)), (.leaf (6, 6)), (.leaf (6, 7)), (.leaf (6, 8))]), [((.branch 3 (.leaf (6, 3)) (.leaf (0, 31))), 9223372036854775814, 9223372036854775814)])]
set_option maxRecDepth 100000 in
theorem run_6 : cs_6.all runOK = true := by decide +kernel
def cs_7 : List (SCR × BD) := [((9, [(.leaf (6, 0)), (.leaf (6, 1)), (.leaf (6, 2)), (.leaf (6, 3)), (.leaf (6, 4)), (.leaf (6, 5)), (.leaf (6, 6)), (.leaf (6, 7)), (.leaf (6, 8))]), [((.branch 3 (.leaf (6, 3)) (.leaf (0, 31))), 9223372036854775815, 9223372036854775815)])]
set_option maxRecDepth 100000 in
theorem run_7 : cs_7.all runOK = true := by decide +kernel
def cs_8 : List (SCR × BD) := [((9, [(.leaf (6, 0)), (.leaf (6, 1)), (.leaf (6, 2)), (.leaf (6, 3)), (.leaf (6, 4)), (.leaf (6, 5)), (.leaf (6, 6)), (.leaf (6, 7)), (.leaf (6, 8))]), [((.branch 3 (.leaf (6, 3)) (.leaf (0, 31))), 9223372036854775816, 9223372036854775816)])]
set_option maxRecDepth 100000 in
theorem run_8 : cs_8.all runOK = true := by decide +kernel
def cs_9 : List (SCR × BD) := [((9, [(.leaf (6, 0)), (.leaf (6, 1)), (.leaf (6, 2)), (.leaf (6, 3)), (.leaf (6, 4)), (.leaf (6, 5)), (.leaf (6, 6)), (.leaf (6, 7)), (.leaf (6, 8))]), [((.branch 3 (.leaf (6, 3)) (.leaf (0, 31))), 9223372036854775817, 9223372036854775817)])]
set_option maxRecDepth 100000 in
theorem run_9 : cs_9.all runOK = true := by decide +kernel
def cs_10 : List (SCR × BD) := [((9, [(.leaf (6, 0)), (.leaf (6, 1)), (.leaf (6, 2)), (.leaf (6, 3)), (.leaf (6, 4)), (.leaf (6, 5)), (.leaf (6, 6)), (.leaf (6, 7)), (.leaf (6, 8))]), [((.branch 3 (.leaf (6, 3)) (.leaf (0, 31))), 9223372036854775818, 9223372036854775818)])]
set_option maxRecDepth 100000 in
theorem run_10 : cs_10.all runOK = true := by decide +kernel
def cs_12 : List (SCR × BD) := [((9, [(.leaf (6, 0)), (.leaf (6, 1)), (.leaf (6, 2)), (.leaf (6, 3)), (.leaf (6, 4)), (.leaf (6, 5)), (.leaf (6, 6)), (.leaf (6, 7)), (.leaf (6, 8))]), [((.branch 3 (.leaf (6, 3)) (.leaf (0, 31))), 9223372036854775820, 9223372036854775820)])]
set_option maxRecDepth 100000 in
theorem run_12 : cs_12.all runOK = true := by decide +kernel
def cs_13 : List (SCR × BD) := [((9, [(.leaf (6, 0)), (.leaf (6, 1)), (.leaf (6, 2)), (.leaf (6, 3)), (.leaf (6, 4)), (.leaf (6, 5)), (.leaf (6, 6)), (.leaf (6, 7)), (.leaf (6, 8))]), [((.branch 3 (.leaf (6, 3)) (.leaf (0, 31))), 9223372036854775821, 9223372036854775821)])]
set_option maxRecDepth 100000 in
theorem run_13 : cs_13.all runOK = true := by decide +kernel
def cs_14 : List (SCR × BD) := [((9, [(.leaf (6, 0)), (.leaf (6, 1)), (.leaf (6, 2)), (.leaf (6, 3)), (.leaf (6, 4)), (.leaf (6, 5)), (.leaf (6, 6)), (.leaf (6, 7)), (.leaf (6, 8))]), [((.branch 3 (.leaf (6, 3)) (.leaf (0, 31))), 9223372036854775822, 9223372036854775822)])]
set_option maxRecDepth 100000 in
theorem run_14 : cs_14.all runOK = true := by decide +kernel
def cs_15 : List (SCR × BD) := [((9, [(.leaf (6, 0)), (.leaf (6, 1)), (.leaf (6, 2)), (.leaf (6, 3)), (.leaf (0, 0)), (.leaf (6, 5)), (.leaf (6, 6)), (.leaf (6, 7)), (.leaf (6, 8))]), [((.branch 3 (.leaf (6, 3)) (.leaf (0, 31))), 9223372036854775823, 9223372036854775823)]),
  ((9, [(.leaf (6, 0)), (.leaf (6, 1)), (.leaf (6, 2)), (.leaf (6, 3)), (.leaf (0, 1)), (.leaf (6, 5)), (.leaf (6, 6)), (.leaf (6, 7)), (.leaf (6, 8))]), [((.branch 3 (.leaf (6, 3)) (.leaf (0, 31))), 9223372036854775823, 9223372036854775823)]),
  ((9, [(.leaf (6, 0)), (.leaf (6, 1)), (.leaf (6, 2)), (.leaf (6, 3)), (.leaf (6, 4)), (.leaf (6, 5)), (.leaf (6, 6)), (.leaf (6, 7)), (.leaf (6, 8))]), [((.leaf (6, 4)), 9223372034707292160, 9223372036854775807), ((.branch 3 (.leaf (6, 3)) (.leaf (0, 31))), 9223372036854775823, 9223372036854775823)]),
  ((9, [(.leaf (6, 0)), (.leaf (6, 1)), (.leaf (6, 2)), (.leaf (6, 3)), (.leaf (6, 4)), (.leaf (6, 5)), (.leaf (6, 6)), (.leaf (6, 7)), (.leaf (6, 8))]), [((.leaf (6, 4)), 9223372036854775810, 9223372039002259455), ((.branch 3 (.leaf (6, 3)) (.leaf (0, 31))), 9223372036854775823, 9223372036854775823)])]
set_option maxRecDepth 100000 in
theorem run_15 : cs_15.all runOK = true := by decide +kernel
def cs_22 : List (SCR × BD) := [((9, [(.leaf (6, 0)), (.leaf (6, 1)), (.leaf (6, 2)), (.leaf (6, 3)), (.leaf (6, 4)), (.leaf (6, 5)), (.leaf (6, 6)), (.leaf (6, 7)), (.leaf (6, 8))]), [((.branch 3 (.leaf (6, 3)) (.leaf (0, 31))), 9223372036854775830, 9223372036854775839)])]
set_option maxRecDepth 100000 in
theorem run_22 : cs_22.all runOK = true := by decide +kernel
