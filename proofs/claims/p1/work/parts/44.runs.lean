def cs_4_0 : SCR × BD := ((9, [(.leaf (6, 0)), (.leaf (6, 1)), (.leaf (6, 2)), (.leaf (6, 3)), (.leaf (6, 4)), (.leaf (6, 5)), (.leaf (6, 6)), (.leaf (6, 7)), (.leaf (6, 8))]), [((.leaf (6, 4)), 9223372034707292160, 9223372036854775807), ((.branch 3 (.leaf (6, 3)) (.leaf (0, 31))), 9223372036854775812, 9223372036854775812)])
set_option maxRecDepth 100000 in
theorem run_4_0 : runOK cs_4_0 = true := by decide +kernel
def cs_4_1 : SCR × BD := ((9, [(.leaf (6, 0)), (.leaf (6, 1)), (.leaf (6, 2)), (.leaf (6, 3)), (.leaf (6, 4)), (.leaf (6, 5)), (.leaf (6, 6)), (.leaf (6, 7)), (.leaf (6, 8))]), [((.leaf (6, 4)), 9223372036854775810, 9223372039002259455), ((.branch 3 (.leaf (6, 3)) (.leaf (0, 31))), 9223372036854775812, 9223372036854775812)])
set_option maxRecDepth 100000 in
theorem run_4_1 : runOK cs_4_1 = true := by decide +kernel
def cs_4_2 : SCR × BD := ((9, [(.leaf (6, 0)), (.leaf (6, 1)), (.leaf (6, 2)), (.leaf (6, 3)), (.leaf (0, 0)), (.leaf (6, 5)), (.leaf (6, 6)), (.leaf (6, 7)), (.leaf (6, 8))]), [((.leaf (6, 5)), 9223372034707292160, 9223372036854775808), ((.branch 3 (.leaf (6, 3)) (.leaf (0, 31))), 9223372036854775812, 9223372036854775812)])
set_option maxRecDepth 100000 in
theorem run_4_2 : runOK cs_4_2 = true := by decide +kernel
def cs_4_3 : SCR × BD := ((9, [(.leaf (6, 0)), (.leaf (6, 1)), (.leaf (6, 2)), (.leaf (6, 3)), (.leaf (0, 0)), (.leaf (6, 5)), (.leaf (6, 6)), (.leaf (6, 7)), (.leaf (6, 8))]), [((.leaf (6, 5)), 9223372036854775813, 9223372039002259455), ((.branch 3 (.leaf (6, 3)) (.leaf (0, 31))), 9223372036854775812, 9223372036854775812)])
set_option maxRecDepth 100000 in
theorem run_4_3 : runOK cs_4_3 = true := by decide +kernel
def cs_4_4 : SCR × BD := ((9, [(.leaf (6, 0)), (.leaf (6, 1)), (.leaf (6, 2)), (.leaf (6, 3)), (.leaf (0, 0)), (.leaf (0, 1)), (.leaf (6, 6)), (.leaf (6, 7)), (.leaf (6, 8))]), [((.branch 3 (.leaf (6, 3)) (.leaf (0, 31))), 9223372036854775812, 9223372036854775812)])
set_option maxRecDepth 100000 in
theorem run_4_4 : runOK cs_4_4 = true := by decide +kernel
def cs_4_5 : SCR × BD := ((9, [(.leaf (6, 0)), (.leaf (6, 1)), (.leaf (6, 2)), (.leaf (6, 3)), (.leaf (0, 0)), (.leaf (0, 2)), (.leaf (6, 6)), (.leaf (6, 7)), (.leaf (6, 8))]), [((.branch 3 (.leaf (6, 3)) (.leaf (0, 31))), 9223372036854775812, 9223372036854775812)])
set_option maxRecDepth 100000 in
theorem run_4_5 : runOK cs_4_5 = true := by decide +kernel
def cs_4_6 : SCR × BD := ((9, [(.leaf (6, 0)), (.leaf (6, 1)), (.leaf (6, 2)), (.leaf (6, 3)), (.leaf (0, 0)), (.leaf (0, 3)), (.leaf (6, 6)), (.leaf (6, 7)), (.leaf (6, 8))]), [((.branch 3 (.leaf (6, 3)) (.leaf (0, 31))), 9223372036854775812, 9223372036854775812)])
set_option maxRecDepth 100000 in
theorem run_4_6 : runOK cs_4_6 = true := by decide +kernel
def cs_4_7 : SCR × BD := ((9, [(.leaf (6, 0)), (.leaf (6, 1)), (.leaf (6, 2)), (.leaf (6, 3)), (.leaf (0, 0)), (.leaf (0, 4)), (.leaf (6, 6)), (.leaf (6, 7)), (.leaf (6, 8))]), [((.branch 3 (.leaf (6, 3)) (.leaf (0, 31))), 9223372036854775812, 9223372036854775812)])
set_option maxRecDepth 100000 in
theorem run_4_7 : runOK cs_4_7 = true := by decide +kernel
def cs_4_8 : SCR × BD := ((9, [(.leaf (6, 0)), (.leaf (6, 1)), (.leaf (6, 2)), (.leaf (6, 3)), (.leaf (0, 1)), (.leaf (6, 5)), (.leaf (6, 6)), (.leaf (6, 7)), (.leaf (6, 8))]), [((.leaf (6, 5)), 9223372034707292160, 9223372036854775808), ((.branch 3 (.leaf (6, 3)) (.leaf (0, 31))), 9223372036854775812, 9223372036854775812)])
set_option maxRecDepth 100000 in
theorem run_4_8 : runOK cs_4_8 = true := by decide +kernel
def cs_4_9 : SCR × BD := ((9, [(.leaf (6, 0)), (.leaf (6, 1)), (.leaf (6, 2)), (.leaf (6, 3)), (.leaf (0, 1)), (.leaf (6, 5)), (.leaf (6, 6)), (.leaf (6, 7)), (.leaf (6, 8))]), [((.leaf (6, 5)), 9223372036854775813, 9223372039002259455), ((.branch 3 (.leaf (6, 3)) (.leaf (0, 31))), 9223372036854775812, 9223372036854775812)])
set_option maxRecDepth 100000 in
theorem run_4_9 : runOK cs_4_9 = true := by decide +kernel
def cs_4_10 : SCR × BD := ((9, [(.leaf (6, 0)), (.leaf (6, 1)), (.leaf (6, 2)), (.leaf (6, 3)), (.leaf (0, 1)), (.leaf (0, 1)), (.leaf (6, 6)), (.leaf (6, 7)), (.leaf (6, 8))]), [((.branch 3 (.leaf (6, 3)) (.leaf (0, 31))), 9223372036854775812, 9223372036854775812)])
set_option maxRecDepth 100000 in
theorem run_4_10 : runOK cs_4_10 = true := by decide +kernel
def cs_4_11 : SCR × BD := ((9, [(.leaf (6, 0)), (.leaf (6, 1)), (.leaf (6, 2)), (.leaf (6, 3)), (.leaf (0, 1)), (.leaf (0, 2)), (.leaf (6, 6)), (.leaf (6, 7)), (.leaf (6, 8))]), [((.branch 3 (.leaf (6, 3)) (.leaf (0, 31))), 9223372036854775812, 9223372036854775812)])
set_option maxRecDepth 100000 in
theorem run_4_11 : runOK cs_4_11 = true := by decide +kernel
def cs_4_12 : SCR × BD := ((9, [(.leaf (6, 0)), (.leaf (6, 1)), (.leaf (6, 2)), (.leaf (6, 3)), (.leaf (0, 1)), (.leaf (0, 3)), (.leaf (6, 6)), (.leaf (6, 7)), (.leaf (6, 8))]), [((.branch 3 (.leaf (6, 3)) (.leaf (0, 31))), 9223372036854775812, 9223372036854775812)])
set_option maxRecDepth 100000 in
theorem run_4_12 : runOK cs_4_12 = true := by decide +kernel
def cs_4_13 : SCR × BD := ((9, [(.leaf (6, 0)), (.leaf (6, 1)), (.leaf (6, 2)), (.leaf (6, 3)), (.leaf (0, 1)), (.leaf (0, 4)), (.leaf (6, 6)), (.leaf (6, 7)), (.leaf (6, 8))]), [((.branch 3 (.leaf (6, 3)) (.leaf (0, 31))), 9223372036854775812, 9223372036854775812)])
set_option maxRecDepth 100000 in
theorem run_4_13 : runOK cs_4_13 = true := by decide +kernel
