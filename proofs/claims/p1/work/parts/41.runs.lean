def lvL : List (Nat × AE) := [(3, .leaf (0, 3)), (2, .leaf (2, 215)), (1, .leaf (2, 0)), (0, .leaf (5, 0))]
def runOK (q : SCR × BD) : Bool := allOne (ax axS axC q.1 60000 q.2 0 mr_L_law 61 lvL [] hp3 273 54730)
def cs_1_0 : SCR × BD := ((9, [(.leaf (6, 0)), (.leaf (6, 1)), (.leaf (6, 2)), (.leaf (6, 3)), (.leaf (6, 4)), (.leaf (6, 5)), (.leaf (6, 6)), (.leaf (6, 7)), (.leaf (6, 8))]), [((.branch 3 (.leaf (6, 3)) (.leaf (0, 31))), 9223372036854775809, 9223372036854775809)])
set_option maxRecDepth 100000 in
theorem run_1_0 : runOK cs_1_0 = true := by decide +kernel
def cs_2_0 : SCR × BD := ((9, [(.leaf (6, 0)), (.leaf (6, 1)), (.leaf (6, 2)), (.leaf (6, 3)), (.leaf (0, 0)), (.leaf (6, 5)), (.leaf (6, 6)), (.leaf (6, 7)), (.leaf (6, 8))]), [((.branch 3 (.leaf (6, 3)) (.leaf (0, 31))), 9223372036854775810, 9223372036854775810)])
set_option maxRecDepth 100000 in
theorem run_2_0 : runOK cs_2_0 = true := by decide +kernel
def cs_2_1 : SCR × BD := ((9, [(.leaf (6, 0)), (.leaf (6, 1)), (.leaf (6, 2)), (.leaf (6, 3)), (.leaf (0, 1)), (.leaf (6, 5)), (.leaf (6, 6)), (.leaf (6, 7)), (.leaf (6, 8))]), [((.branch 3 (.leaf (6, 3)) (.leaf (0, 31))), 9223372036854775810, 9223372036854775810)])
set_option maxRecDepth 100000 in
theorem run_2_1 : runOK cs_2_1 = true := by decide +kernel
def cs_2_2 : SCR × BD := ((9, [(.leaf (6, 0)), (.leaf (6, 1)), (.leaf (6, 2)), (.leaf (6, 3)), (.leaf (6, 4)), (.leaf (6, 5)), (.leaf (6, 6)), (.leaf (6, 7)), (.leaf (6, 8))]), [((.leaf (6, 4)), 9223372034707292160, 9223372036854775807), ((.branch 3 (.leaf (6, 3)) (.leaf (0, 31))), 9223372036854775810, 9223372036854775810)])
set_option maxRecDepth 100000 in
theorem run_2_2 : runOK cs_2_2 = true := by decide +kernel
def cs_2_3 : SCR × BD := ((9, [(.leaf (6, 0)), (.leaf (6, 1)), (.leaf (6, 2)), (.leaf (6, 3)), (.leaf (6, 4)), (.leaf (6, 5)), (.leaf (6, 6)), (.leaf (6, 7)), (.leaf (6, 8))]), [((.leaf (6, 4)), 9223372036854775810, 9223372039002259455), ((.branch 3 (.leaf (6, 3)) (.leaf (0, 31))), 9223372036854775810, 9223372036854775810)])
set_option maxRecDepth 100000 in
theorem run_2_3 : runOK cs_2_3 = true := by decide +kernel
def cs_3_0 : SCR × BD := ((9, [(.leaf (6, 0)), (.leaf (6, 1)), (.leaf (6, 2)), (.leaf (6, 3)), (.leaf (0, 0)), (.leaf (6, 5)), (.leaf (6, 6)), (.leaf (6, 7)), (.leaf (6, 8))]), [((.branch 3 (.leaf (6, 3)) (.leaf (0, 31))), 9223372036854775811, 9223372036854775811)])
set_option maxRecDepth 100000 in
theorem run_3_0 : runOK cs_3_0 = true := by decide +kernel
def cs_3_1 : SCR × BD := ((9, [(.leaf (6, 0)), (.leaf (6, 1)), (.leaf (6, 2)), (.leaf (6, 3)), (.leaf (0, 1)), (.leaf (6, 5)), (.leaf (6, 6)), (.leaf (6, 7)), (.leaf (6, 8))]), [((.branch 3 (.leaf (6, 3)) (.leaf (0, 31))), 9223372036854775811, 9223372036854775811)])
set_option maxRecDepth 100000 in
theorem run_3_1 : runOK cs_3_1 = true := by decide +kernel
def cs_3_2 : SCR × BD := ((9, [(.leaf (6, 0)), (.leaf (6, 1)), (.leaf (6, 2)), (.leaf (6, 3)), (.leaf (6, 4)), (.leaf (6, 5)), (.leaf (6, 6)), (.leaf (6, 7)), (.leaf (6, 8))]), [((.leaf (6, 4)), 9223372034707292160, 9223372036854775807), ((.branch 3 (.leaf (6, 3)) (.leaf (0, 31))), 9223372036854775811, 9223372036854775811)])
set_option maxRecDepth 100000 in
theorem run_3_2 : runOK cs_3_2 = true := by decide +kernel
def cs_3_3 : SCR × BD := ((9, [(.leaf (6, 0)), (.leaf (6, 1)), (.leaf (6, 2)), (.leaf (6, 3)), (.leaf (6, 4)), (.leaf (6, 5)), (.leaf (6, 6)), (.leaf (6, 7)), (.leaf (6, 8))]), [((.leaf (6, 4)), 9223372036854775810, 9223372039002259455), ((.branch 3 (.leaf (6, 3)) (.leaf (0, 31))), 9223372036854775811, 9223372036854775811)])
set_option maxRecDepth 100000 in
theorem run_3_3 : runOK cs_3_3 = true := by decide +kernel
def cs_5_0 : SCR × BD := ((9, [(.leaf (6, 0)), (.leaf (6, 1)), (.leaf (6, 2)), (.leaf (6, 3)), (.leaf (6, 4)), (.leaf (6, 5)), (.leaf (6, 6)), (.leaf (6, 7)), (.leaf (6, 8))]), [((.leaf (6, 4)), 9223372034707292160, 9223372036854775808), ((.branch 3 (.leaf (6, 3)) (.leaf (0, 31))), 9223372036854775813, 9223372036854775813)])
set_option maxRecDepth 100000 in
theorem run_5_0 : runOK cs_5_0 = true := by decide +kernel
def cs_5_1 : SCR × BD := ((9, [(.leaf (6, 0)), (.leaf (6, 1)), (.leaf (6, 2)), (.leaf (6, 3)), (.leaf (6, 4)), (.leaf (6, 5)), (.leaf (6, 6)), (.leaf (6, 7)), (.leaf (6, 8))]), [((.leaf (6, 4)), 9223372036854775859, 9223372039002259455), ((.branch 3 (.leaf (6, 3)) (.leaf (0, 31))), 9223372036854775813, 9223372036854775813)])
set_option maxRecDepth 100000 in
theorem run_5_1 : runOK cs_5_1 = true := by decide +kernel
def cs_6_0 : SCR × BD := ((9, [(.leaf (6, 0)), (.leaf (6, 1)), (.leaf (6, 2)), (.leaf (6, 3)), (.leaf (6, 4)), (.leaf (6, 5)), (.leaf (6, 6)), (.leaf (6, 7)), (.leaf (6, 8))]), [((.branch 3 (.leaf (6, 3)) (.leaf (0, 31))), 9223372036854775814, 9223372036854775814)])
set_option maxRecDepth 100000 in
theorem run_6_0 : runOK cs_6_0 = true := by decide +kernel
def cs_7_0 : SCR × BD := ((9, [(.leaf (6, 0)), (.leaf (6, 1)), (.leaf (6, 2)), (.leaf (6, 3)), (.leaf (6, 4)), (.leaf (6, 5)), (.leaf (6, 6)), (.leaf (6, 7)), (.leaf (6, 8))]), [((.branch 3 (.leaf (6, 3)) (.leaf (0, 31))), 9223372036854775815, 9223372036854775815)])
set_option maxRecDepth 100000 in
theorem run_7_0 : runOK cs_7_0 = true := by decide +kernel
def cs_8_0 : SCR × BD := ((9, [(.leaf (6, 0)), (.leaf (6, 1)), (.leaf (6, 2)), (.leaf (6, 3)), (.leaf (6, 4)), (.leaf (6, 5)), (.leaf (6, 6)), (.leaf (6, 7)), (.leaf (6, 8))]), [((.branch 3 (.leaf (6, 3)) (.leaf (0, 31))), 9223372036854775816, 9223372036854775816)])
set_option maxRecDepth 100000 in
theorem run_8_0 : runOK cs_8_0 = true := by decide +kernel
def cs_9_0 : SCR × BD := ((9, [(.leaf (6, 0)), (.leaf (6, 1)), (.leaf (6, 2)), (.leaf (6, 3)), (.leaf (6, 4)), (.leaf (6, 5)), (.leaf (6, 6)), (.leaf (6, 7)), (.leaf (6, 8))]), [((.branch 3 (.leaf (6, 3)) (.leaf (0, 31))), 9223372036854775817, 9223372036854775817)])
set_option maxRecDepth 100000 in
theorem run_9_0 : runOK cs_9_0 = true := by decide +kernel
def cs_10_0 : SCR × BD := ((9, [(.leaf (6, 0)), (.leaf (6, 1)), (.leaf (6, 2)), (.leaf (6, 3)), (.leaf (6, 4)), (.leaf (6, 5)), (.leaf (6, 6)), (.leaf (6, 7)), (.leaf (6, 8))]), [((.branch 3 (.leaf (6, 3)) (.leaf (0, 31))), 9223372036854775818, 9223372036854775818)])
set_option maxRecDepth 100000 in
theorem run_10_0 : runOK cs_10_0 = true := by decide +kernel
def cs_12_0 : SCR × BD := ((9, [(.leaf (6, 0)), (.leaf (6, 1)), (.leaf (6, 2)), (.leaf (6, 3)), (.leaf (6, 4)), (.leaf (6, 5)), (.leaf (6, 6)), (.leaf (6, 7)), (.leaf (6, 8))]), [((.branch 3 (.leaf (6, 3)) (.leaf (0, 31))), 9223372036854775820, 9223372036854775820)])
set_option maxRecDepth 100000 in
theorem run_12_0 : runOK cs_12_0 = true := by decide +kernel
def cs_13_0 : SCR × BD := ((9, [(.leaf (6, 0)), (.leaf (6, 1)), (.leaf (6, 2)), (.leaf (6, 3)), (.leaf (6, 4)), (.leaf (6, 5)), (.leaf (6, 6)), (.leaf (6, 7)), (.leaf (6, 8))]), [((.branch 3 (.leaf (6, 3)) (.leaf (0, 31))), 9223372036854775821, 9223372036854775821)])
set_option maxRecDepth 100000 in
theorem run_13_0 : runOK cs_13_0 = true := by decide +kernel
def cs_14_0 : SCR × BD := ((9, [(.leaf (6, 0)), (.leaf (6, 1)), (.leaf (6, 2)), (.leaf (6, 3)), (.leaf (6, 4)), (.leaf (6, 5)), (.leaf (6, 6)), (.leaf (6, 7)), (.leaf (6, 8))]), [((.branch 3 (.leaf (6, 3)) (.leaf (0, 31))), 9223372036854775822, 9223372036854775822)])
set_option maxRecDepth 100000 in
theorem run_14_0 : runOK cs_14_0 = true := by decide +kernel
def cs_15_0 : SCR × BD := ((9, [(.leaf (6, 0)), (.leaf (6, 1)), (.leaf (6, 2)), (.leaf (6, 3)), (.leaf (0, 0)), (.leaf (6, 5)), (.leaf (6, 6)), (.leaf (6, 7)), (.leaf (6, 8))]), [((.branch 3 (.leaf (6, 3)) (.leaf (0, 31))), 9223372036854775823, 9223372036854775823)])
set_option maxRecDepth 100000 in
theorem run_15_0 : runOK cs_15_0 = true := by decide +kernel
def cs_15_1 : SCR × BD := ((9, [(.leaf (6, 0)), (.leaf (6, 1)), (.leaf (6, 2)), (.leaf (6, 3)), (.leaf (0, 1)), (.leaf (6, 5)), (.leaf (6, 6)), (.leaf (6, 7)), (.leaf (6, 8))]), [((.branch 3 (.leaf (6, 3)) (.leaf (0, 31))), 9223372036854775823, 9223372036854775823)])
set_option maxRecDepth 100000 in
theorem run_15_1 : runOK cs_15_1 = true := by decide +kernel
def cs_15_2 : SCR × BD := ((9, [(.leaf (6, 0)), (.leaf (6, 1)), (.leaf (6, 2)), (.leaf (6, 3)), (.leaf (6, 4)), (.leaf (6, 5)), (.leaf (6, 6)), (.leaf (6, 7)), (.leaf (6, 8))]), [((.leaf (6, 4)), 9223372034707292160, 9223372036854775807), ((.branch 3 (.leaf (6, 3)) (.leaf (0, 31))), 9223372036854775823, 9223372036854775823)])
set_option maxRecDepth 100000 in
theorem run_15_2 : runOK cs_15_2 = true := by decide +kernel
def cs_15_3 : SCR × BD := ((9, [(.leaf (6, 0)), (.leaf (6, 1)), (.leaf (6, 2)), (.leaf (6, 3)), (.leaf (6, 4)), (.leaf (6, 5)), (.leaf (6, 6)), (.leaf (6, 7)), (.leaf (6, 8))]), [((.leaf (6, 4)), 9223372036854775810, 9223372039002259455), ((.branch 3 (.leaf (6, 3)) (.leaf (0, 31))), 9223372036854775823, 9223372036854775823)])
set_option maxRecDepth 100000 in
theorem run_15_3 : runOK cs_15_3 = true := by decide +kernel
def cs_22_0 : SCR × BD := ((9, [(.leaf (6, 0)), (.leaf (6, 1)), (.leaf (6, 2)), (.leaf (6, 3)), (.leaf (6, 4)), (.leaf (6, 5)), (.leaf (6, 6)), (.leaf (6, 7)), (.leaf (6, 8))]), [((.branch 3 (.leaf (6, 3)) (.leaf (0, 31))), 9223372036854775830, 9223372036854775839)])
set_option maxRecDepth 100000 in
theorem run_22_0 : runOK cs_22_0 = true := by decide +kernel
