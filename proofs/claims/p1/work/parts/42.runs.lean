def cs_11_0 : SCR × BD := ((9, [(.leaf (6, 0)), (.leaf (6, 1)), (.leaf (6, 2)), (.leaf (6, 3)), (.leaf (6, 4)), (.leaf (6, 5)), (.leaf (6, 6)), (.leaf (6, 7)), (.leaf (6, 8))]), [((.leaf (6, 4)), 9223372034707292160, 9223372036854775807), ((.branch 3 (.leaf (6, 3)) (.leaf (0, 31))), 9223372036854775819, 9223372036854775819)])
set_option maxRecDepth 100000 in
theorem run_11_0 : runOK cs_11_0 = true := by decide +kernel
def cs_11_1 : SCR × BD := ((9, [(.leaf (6, 0)), (.leaf (6, 1)), (.leaf (6, 2)), (.leaf (6, 3)), (.leaf (6, 4)), (.leaf (6, 5)), (.leaf (6, 6)), (.leaf (6, 7)), (.leaf (6, 8))]), [((.leaf (6, 4)), 9223372036854775810, 9223372039002259455), ((.branch 3 (.leaf (6, 3)) (.leaf (0, 31))), 9223372036854775819, 9223372036854775819)])
set_option maxRecDepth 100000 in
theorem run_11_1 : runOK cs_11_1 = true := by decide +kernel
def cs_11_2 : SCR × BD := ((9, [(.leaf (6, 0)), (.leaf (6, 1)), (.leaf (6, 2)), (.leaf (6, 3)), (.leaf (0, 0)), (.leaf (0, 0)), (.leaf (6, 6)), (.leaf (6, 7)), (.leaf (6, 8))]), [((.branch 3 (.leaf (6, 3)) (.leaf (0, 31))), 9223372036854775819, 9223372036854775819)])
set_option maxRecDepth 100000 in
theorem run_11_2 : runOK cs_11_2 = true := by decide +kernel
def cs_11_3 : SCR × BD := ((9, [(.leaf (6, 0)), (.leaf (6, 1)), (.leaf (6, 2)), (.leaf (6, 3)), (.leaf (0, 0)), (.leaf (6, 5)), (.leaf (6, 6)), (.leaf (6, 7)), (.leaf (6, 8))]), [((.leaf (6, 5)), 9223372034707292160, 9223372036854775807), ((.branch 3 (.leaf (6, 3)) (.leaf (0, 31))), 9223372036854775819, 9223372036854775819)])
set_option maxRecDepth 100000 in
theorem run_11_3 : runOK cs_11_3 = true := by decide +kernel
def cs_11_4 : SCR × BD := ((9, [(.leaf (6, 0)), (.leaf (6, 1)), (.leaf (6, 2)), (.leaf (6, 3)), (.leaf (0, 0)), (.leaf (6, 5)), (.leaf (6, 6)), (.leaf (6, 7)), (.leaf (6, 8))]), [((.leaf (6, 5)), 9223372036854775809, 9223372039002259455), ((.branch 3 (.leaf (6, 3)) (.leaf (0, 31))), 9223372036854775819, 9223372036854775819)])
set_option maxRecDepth 100000 in
theorem run_11_4 : runOK cs_11_4 = true := by decide +kernel
def cs_11_5 : SCR × BD := ((9, [(.leaf (6, 0)), (.leaf (6, 1)), (.leaf (6, 2)), (.leaf (6, 3)), (.leaf (0, 1)), (.leaf (0, 0)), (.leaf (6, 6)), (.leaf (6, 7)), (.leaf (6, 8))]), [((.branch 3 (.leaf (6, 3)) (.leaf (0, 31))), 9223372036854775819, 9223372036854775819)])
set_option maxRecDepth 100000 in
theorem run_11_5 : runOK cs_11_5 = true := by decide +kernel
def cs_11_6 : SCR × BD := ((9, [(.leaf (6, 0)), (.leaf (6, 1)), (.leaf (6, 2)), (.leaf (6, 3)), (.leaf (0, 1)), (.leaf (6, 5)), (.leaf (6, 6)), (.leaf (6, 7)), (.leaf (6, 8))]), [((.leaf (6, 5)), 9223372034707292160, 9223372036854775807), ((.branch 3 (.leaf (6, 3)) (.leaf (0, 31))), 9223372036854775819, 9223372036854775819)])
set_option maxRecDepth 100000 in
theorem run_11_6 : runOK cs_11_6 = true := by decide +kernel
def cs_11_7 : SCR × BD := ((9, [(.leaf (6, 0)), (.leaf (6, 1)), (.leaf (6, 2)), (.leaf (6, 3)), (.leaf (0, 1)), (.leaf (6, 5)), (.leaf (6, 6)), (.leaf (6, 7)), (.leaf (6, 8))]), [((.leaf (6, 5)), 9223372036854775809, 9223372039002259455), ((.branch 3 (.leaf (6, 3)) (.leaf (0, 31))), 9223372036854775819, 9223372036854775819)])
set_option maxRecDepth 100000 in
theorem run_11_7 : runOK cs_11_7 = true := by decide +kernel
def cs_16_0 : SCR × BD := ((9, [(.leaf (6, 0)), (.leaf (6, 1)), (.leaf (6, 2)), (.leaf (6, 3)), (.leaf (6, 4)), (.leaf (6, 5)), (.leaf (6, 6)), (.leaf (6, 7)), (.leaf (6, 8))]), [((.leaf (6, 4)), 9223372034707292160, 9223372036854775807), ((.branch 3 (.leaf (6, 3)) (.leaf (0, 31))), 9223372036854775824, 9223372036854775824)])
set_option maxRecDepth 100000 in
theorem run_16_0 : runOK cs_16_0 = true := by decide +kernel
def cs_16_1 : SCR × BD := ((9, [(.leaf (6, 0)), (.leaf (6, 1)), (.leaf (6, 2)), (.leaf (6, 3)), (.leaf (6, 4)), (.leaf (6, 5)), (.leaf (6, 6)), (.leaf (6, 7)), (.leaf (6, 8))]), [((.leaf (6, 4)), 9223372036854775810, 9223372039002259455), ((.branch 3 (.leaf (6, 3)) (.leaf (0, 31))), 9223372036854775824, 9223372036854775824)])
set_option maxRecDepth 100000 in
theorem run_16_1 : runOK cs_16_1 = true := by decide +kernel
def cs_16_2 : SCR × BD := ((9, [(.leaf (6, 0)), (.leaf (6, 1)), (.leaf (6, 2)), (.leaf (6, 3)), (.leaf (0, 0)), (.leaf (0, 0)), (.leaf (6, 6)), (.leaf (6, 7)), (.leaf (6, 8))]), [((.branch 3 (.leaf (6, 3)) (.leaf (0, 31))), 9223372036854775824, 9223372036854775824)])
set_option maxRecDepth 100000 in
theorem run_16_2 : runOK cs_16_2 = true := by decide +kernel
def cs_16_3 : SCR × BD := ((9, [(.leaf (6, 0)), (.leaf (6, 1)), (.leaf (6, 2)), (.leaf (6, 3)), (.leaf (0, 0)), (.leaf (0, 1)), (.leaf (6, 6)), (.leaf (6, 7)), (.leaf (6, 8))]), [((.branch 3 (.leaf (6, 3)) (.leaf (0, 31))), 9223372036854775824, 9223372036854775824)])
set_option maxRecDepth 100000 in
theorem run_16_3 : runOK cs_16_3 = true := by decide +kernel
def cs_16_4 : SCR × BD := ((9, [(.leaf (6, 0)), (.leaf (6, 1)), (.leaf (6, 2)), (.leaf (6, 3)), (.leaf (0, 0)), (.leaf (0, 2)), (.leaf (6, 6)), (.leaf (6, 7)), (.leaf (6, 8))]), [((.branch 3 (.leaf (6, 3)) (.leaf (0, 31))), 9223372036854775824, 9223372036854775824)])
set_option maxRecDepth 100000 in
theorem run_16_4 : runOK cs_16_4 = true := by decide +kernel
def cs_16_5 : SCR × BD := ((9, [(.leaf (6, 0)), (.leaf (6, 1)), (.leaf (6, 2)), (.leaf (6, 3)), (.leaf (0, 0)), (.leaf (0, 3)), (.leaf (6, 6)), (.leaf (6, 7)), (.leaf (6, 8))]), [((.branch 3 (.leaf (6, 3)) (.leaf (0, 31))), 9223372036854775824, 9223372036854775824)])
set_option maxRecDepth 100000 in
theorem run_16_5 : runOK cs_16_5 = true := by decide +kernel
def cs_16_6 : SCR × BD := ((9, [(.leaf (6, 0)), (.leaf (6, 1)), (.leaf (6, 2)), (.leaf (6, 3)), (.leaf (0, 0)), (.leaf (0, 4)), (.leaf (6, 6)), (.leaf (6, 7)), (.leaf (6, 8))]), [((.branch 3 (.leaf (6, 3)) (.leaf (0, 31))), 9223372036854775824, 9223372036854775824)])
set_option maxRecDepth 100000 in
theorem run_16_6 : runOK cs_16_6 = true := by decide +kernel
def cs_16_7 : SCR × BD := ((9, [(.leaf (6, 0)), (.leaf (6, 1)), (.leaf (6, 2)), (.leaf (6, 3)), (.leaf (0, 0)), (.leaf (0, 5)), (.leaf (6, 6)), (.leaf (6, 7)), (.leaf (6, 8))]), [((.branch 3 (.leaf (6, 3)) (.leaf (0, 31))), 9223372036854775824, 9223372036854775824)])
set_option maxRecDepth 100000 in
theorem run_16_7 : runOK cs_16_7 = true := by decide +kernel
def cs_16_8 : SCR × BD := ((9, [(.leaf (6, 0)), (.leaf (6, 1)), (.leaf (6, 2)), (.leaf (6, 3)), (.leaf (0, 0)), (.leaf (6, 5)), (.leaf (6, 6)), (.leaf (6, 7)), (.leaf (6, 8))]), [((.leaf (6, 5)), 9223372034707292160, 9223372036854775807), ((.branch 3 (.leaf (6, 3)) (.leaf (0, 31))), 9223372036854775824, 9223372036854775824)])
set_option maxRecDepth 100000 in
theorem run_16_8 : runOK cs_16_8 = true := by decide +kernel
def cs_16_9 : SCR × BD := ((9, [(.leaf (6, 0)), (.leaf (6, 1)), (.leaf (6, 2)), (.leaf (6, 3)), (.leaf (0, 0)), (.leaf (6, 5)), (.leaf (6, 6)), (.leaf (6, 7)), (.leaf (6, 8))]), [((.leaf (6, 5)), 9223372036854775814, 9223372039002259455), ((.branch 3 (.leaf (6, 3)) (.leaf (0, 31))), 9223372036854775824, 9223372036854775824)])
set_option maxRecDepth 100000 in
theorem run_16_9 : runOK cs_16_9 = true := by decide +kernel
def cs_16_10 : SCR × BD := ((9, [(.leaf (6, 0)), (.leaf (6, 1)), (.leaf (6, 2)), (.leaf (6, 3)), (.leaf (0, 1)), (.leaf (0, 0)), (.leaf (6, 6)), (.leaf (6, 7)), (.leaf (6, 8))]), [((.branch 3 (.leaf (6, 3)) (.leaf (0, 31))), 9223372036854775824, 9223372036854775824)])
set_option maxRecDepth 100000 in
theorem run_16_10 : runOK cs_16_10 = true := by decide +kernel
def cs_16_11 : SCR × BD := ((9, [(.leaf (6, 0)), (.leaf (6, 1)), (.leaf (6, 2)), (.leaf (6, 3)), (.leaf (0, 1)), (.leaf (0, 1)), (.leaf (6, 6)), (.leaf (6, 7)), (.leaf (6, 8))]), [((.branch 3 (.leaf (6, 3)) (.leaf (0, 31))), 9223372036854775824, 9223372036854775824)])
set_option maxRecDepth 100000 in
theorem run_16_11 : runOK cs_16_11 = true := by decide +kernel
def cs_16_12 : SCR × BD := ((9, [(.leaf (6, 0)), (.leaf (6, 1)), (.leaf (6, 2)), (.leaf (6, 3)), (.leaf (0, 1)), (.leaf (0, 2)), (.leaf (6, 6)), (.leaf (6, 7)), (.leaf (6, 8))]), [((.branch 3 (.leaf (6, 3)) (.leaf (0, 31))), 9223372036854775824, 9223372036854775824)])
set_option maxRecDepth 100000 in
theorem run_16_12 : runOK cs_16_12 = true := by decide +kernel
def cs_16_13 : SCR × BD := ((9, [(.leaf (6, 0)), (.leaf (6, 1)), (.leaf (6, 2)), (.leaf (6, 3)), (.leaf (0, 1)), (.leaf (0, 3)), (.leaf (6, 6)), (.leaf (6, 7)), (.leaf (6, 8))]), [((.branch 3 (.leaf (6, 3)) (.leaf (0, 31))), 9223372036854775824, 9223372036854775824)])
set_option maxRecDepth 100000 in
theorem run_16_13 : runOK cs_16_13 = true := by decide +kernel
def cs_16_14 : SCR × BD := ((9, [(.leaf (6, 0)), (.leaf (6, 1)), (.leaf (6, 2)), (.leaf (6, 3)), (.leaf (0, 1)), (.leaf (0, 4)), (.leaf (6, 6)), (.leaf (6, 7)), (.leaf (6, 8))]), [((.branch 3 (.leaf (6, 3)) (.leaf (0, 31))), 9223372036854775824, 9223372036854775824)])
set_option maxRecDepth 100000 in
theorem run_16_14 : runOK cs_16_14 = true := by decide +kernel
def cs_16_15 : SCR × BD := ((9, [(.leaf (6, 0)), (.leaf (6, 1)), (.leaf (6, 2)), (.leaf (6, 3)), (.leaf (0, 1)), (.leaf (0, 5)), (.leaf (6, 6)), (.leaf (6, 7)), (.leaf (6, 8))]), [((.branch 3 (.leaf (6, 3)) (.leaf (0, 31))), 9223372036854775824, 9223372036854775824)])
set_option maxRecDepth 100000 in
theorem run_16_15 : runOK cs_16_15 = true := by decide +kernel
def cs_16_16 : SCR × BD := ((9, [(.leaf (6, 0)), (.leaf (6, 1)), (.leaf (6, 2)), (.leaf (6, 3)), (.leaf (0, 1)), (.leaf (6, 5)), (.leaf (6, 6)), (.leaf (6, 7)), (.leaf (6, 8))]), [((.leaf (6, 5)), 9223372034707292160, 9223372036854775807), ((.branch 3 (.leaf (6, 3)) (.leaf (0, 31))), 9223372036854775824, 9223372036854775824)])
set_option maxRecDepth 100000 in
theorem run_16_16 : runOK cs_16_16 = true := by decide +kernel
def cs_16_17 : SCR × BD := ((9, [(.leaf (6, 0)), (.leaf (6, 1)), (.leaf (6, 2)), (.leaf (6, 3)), (.leaf (0, 1)), (.leaf (6, 5)), (.leaf (6, 6)), (.leaf (6, 7)), (.leaf (6, 8))]), [((.leaf (6, 5)), 9223372036854775814, 9223372039002259455), ((.branch 3 (.leaf (6, 3)) (.leaf (0, 31))), 9223372036854775824, 9223372036854775824)])
set_option maxRecDepth 100000 in
theorem run_16_17 : runOK cs_16_17 = true := by decide +kernel
def cs_18_0 : SCR × BD := ((9, [(.leaf (6, 0)), (.leaf (6, 1)), (.leaf (6, 2)), (.leaf (6, 3)), (.leaf (6, 4)), (.leaf (6, 5)), (.leaf (6, 6)), (.leaf (6, 7)), (.leaf (6, 8))]), [((.leaf (6, 4)), 9223372034707292160, 9223372036854775807), ((.branch 3 (.leaf (6, 3)) (.leaf (0, 31))), 9223372036854775826, 9223372036854775826)])
set_option maxRecDepth 100000 in
theorem run_18_0 : runOK cs_18_0 = true := by decide +kernel
def cs_18_1 : SCR × BD := ((9, [(.leaf (6, 0)), (.leaf (6, 1)), (.leaf (6, 2)), (.leaf (6, 3)), (.leaf (6, 4)), (.leaf (6, 5)), (.leaf (6, 6)), (.leaf (6, 7)), (.leaf (6, 8))]), [((.leaf (6, 4)), 9223372036854775810, 9223372039002259455), ((.branch 3 (.leaf (6, 3)) (.leaf (0, 31))), 9223372036854775826, 9223372036854775826)])
set_option maxRecDepth 100000 in
theorem run_18_1 : runOK cs_18_1 = true := by decide +kernel
def cs_18_2 : SCR × BD := ((9, [(.leaf (6, 0)), (.leaf (6, 1)), (.leaf (6, 2)), (.leaf (6, 3)), (.leaf (0, 0)), (.leaf (0, 0)), (.leaf (6, 6)), (.leaf (6, 7)), (.leaf (6, 8))]), [((.branch 3 (.leaf (6, 3)) (.leaf (0, 31))), 9223372036854775826, 9223372036854775826)])
set_option maxRecDepth 100000 in
theorem run_18_2 : runOK cs_18_2 = true := by decide +kernel
def cs_18_3 : SCR × BD := ((9, [(.leaf (6, 0)), (.leaf (6, 1)), (.leaf (6, 2)), (.leaf (6, 3)), (.leaf (0, 0)), (.leaf (0, 1)), (.leaf (6, 6)), (.leaf (6, 7)), (.leaf (6, 8))]), [((.branch 3 (.leaf (6, 3)) (.leaf (0, 31))), 9223372036854775826, 9223372036854775826)])
set_option maxRecDepth 100000 in
theorem run_18_3 : runOK cs_18_3 = true := by decide +kernel
def cs_18_4 : SCR × BD := ((9, [(.leaf (6, 0)), (.leaf (6, 1)), (.leaf (6, 2)), (.leaf (6, 3)), (.leaf (0, 0)), (.leaf (0, 2)), (.leaf (6, 6)), (.leaf (6, 7)), (.leaf (6, 8))]), [((.branch 3 (.leaf (6, 3)) (.leaf (0, 31))), 9223372036854775826, 9223372036854775826)])
set_option maxRecDepth 100000 in
theorem run_18_4 : runOK cs_18_4 = true := by decide +kernel
def cs_18_5 : SCR × BD := ((9, [(.leaf (6, 0)), (.leaf (6, 1)), (.leaf (6, 2)), (.leaf (6, 3)), (.leaf (0, 0)), (.leaf (0, 3)), (.leaf (6, 6)), (.leaf (6, 7)), (.leaf (6, 8))]), [((.branch 3 (.leaf (6, 3)) (.leaf (0, 31))), 9223372036854775826, 9223372036854775826)])
set_option maxRecDepth 100000 in
theorem run_18_5 : runOK cs_18_5 = true := by decide +kernel
def cs_18_6 : SCR × BD := ((9, [(.leaf (6, 0)), (.leaf (6, 1)), (.leaf (6, 2)), (.leaf (6, 3)), (.leaf (0, 0)), (.leaf (0, 4)), (.leaf (6, 6)), (.leaf (6, 7)), (.leaf (6, 8))]), [((.branch 3 (.leaf (6, 3)) (.leaf (0, 31))), 9223372036854775826, 9223372036854775826)])
set_option maxRecDepth 100000 in
theorem run_18_6 : runOK cs_18_6 = true := by decide +kernel
def cs_18_7 : SCR × BD := ((9, [(.leaf (6, 0)), (.leaf (6, 1)), (.leaf (6, 2)), (.leaf (6, 3)), (.leaf (0, 0)), (.leaf (0, 5)), (.leaf (6, 6)), (.leaf (6, 7)), (.leaf (6, 8))]), [((.branch 3 (.leaf (6, 3)) (.leaf (0, 31))), 9223372036854775826, 9223372036854775826)])
set_option maxRecDepth 100000 in
theorem run_18_7 : runOK cs_18_7 = true := by decide +kernel
def cs_18_8 : SCR × BD := ((9, [(.leaf (6, 0)), (.leaf (6, 1)), (.leaf (6, 2)), (.leaf (6, 3)), (.leaf (0, 0)), (.leaf (0, 6)), (.leaf (6, 6)), (.leaf (6, 7)), (.leaf (6, 8))]), [((.branch 3 (.leaf (6, 3)) (.leaf (0, 31))), 9223372036854775826, 9223372036854775826)])
set_option maxRecDepth 100000 in
theorem run_18_8 : runOK cs_18_8 = true := by decide +kernel
def cs_18_9 : SCR × BD := ((9, [(.leaf (6, 0)), (.leaf (6, 1)), (.leaf (6, 2)), (.leaf (6, 3)), (.leaf (0, 0)), (.leaf (0, 7)), (.leaf (6, 6)), (.leaf (6, 7)), (.leaf (6, 8))]), [((.branch 3 (.leaf (6, 3)) (.leaf (0, 31))), 9223372036854775826, 9223372036854775826)])
set_option maxRecDepth 100000 in
theorem run_18_9 : runOK cs_18_9 = true := by decide +kernel
def cs_18_10 : SCR × BD := ((9, [(.leaf (6, 0)), (.leaf (6, 1)), (.leaf (6, 2)), (.leaf (6, 3)), (.leaf (0, 0)), (.leaf (0, 8)), (.leaf (6, 6)), (.leaf (6, 7)), (.leaf (6, 8))]), [((.branch 3 (.leaf (6, 3)) (.leaf (0, 31))), 9223372036854775826, 9223372036854775826)])
set_option maxRecDepth 100000 in
theorem run_18_10 : runOK cs_18_10 = true := by decide +kernel
def cs_18_11 : SCR × BD := ((9, [(.leaf (6, 0)), (.leaf (6, 1)), (.leaf (6, 2)), (.leaf (6, 3)), (.leaf (0, 0)), (.leaf (0, 9)), (.leaf (6, 6)), (.leaf (6, 7)), (.leaf (6, 8))]), [((.branch 3 (.leaf (6, 3)) (.leaf (0, 31))), 9223372036854775826, 9223372036854775826)])
set_option maxRecDepth 100000 in
theorem run_18_11 : runOK cs_18_11 = true := by decide +kernel
def cs_18_12 : SCR × BD := ((9, [(.leaf (6, 0)), (.leaf (6, 1)), (.leaf (6, 2)), (.leaf (6, 3)), (.leaf (0, 0)), (.leaf (0, 10)), (.leaf (6, 6)), (.leaf (6, 7)), (.leaf (6, 8))]), [((.branch 3 (.leaf (6, 3)) (.leaf (0, 31))), 9223372036854775826, 9223372036854775826)])
set_option maxRecDepth 100000 in
theorem run_18_12 : runOK cs_18_12 = true := by decide +kernel
def cs_18_13 : SCR × BD := ((9, [(.leaf (6, 0)), (.leaf (6, 1)), (.leaf (6, 2)), (.leaf (6, 3)), (.leaf (0, 0)), (.leaf (0, 11)), (.leaf (6, 6)), (.leaf (6, 7)), (.leaf (6, 8))]), [((.branch 3 (.leaf (6, 3)) (.leaf (0, 31))), 9223372036854775826, 9223372036854775826)])
set_option maxRecDepth 100000 in
theorem run_18_13 : runOK cs_18_13 = true := by decide +kernel
def cs_18_14 : SCR × BD := ((9, [(.leaf (6, 0)), (.leaf (6, 1)), (.leaf (6, 2)), (.leaf (6, 3)), (.leaf (0, 0)), (.leaf (0, 12)), (.leaf (6, 6)), (.leaf (6, 7)), (.leaf (6, 8))]), [((.branch 3 (.leaf (6, 3)) (.leaf (0, 31))), 9223372036854775826, 9223372036854775826)])
set_option maxRecDepth 100000 in
theorem run_18_14 : runOK cs_18_14 = true := by decide +kernel
def cs_18_15 : SCR × BD := ((9, [(.leaf (6, 0)), (.leaf (6, 1)), (.leaf (6, 2)), (.leaf (6, 3)), (.leaf (0, 0)), (.leaf (0, 13)), (.leaf (6, 6)), (.leaf (6, 7)), (.leaf (6, 8))]), [((.branch 3 (.leaf (6, 3)) (.leaf (0, 31))), 9223372036854775826, 9223372036854775826)])
set_option maxRecDepth 100000 in
theorem run_18_15 : runOK cs_18_15 = true := by decide +kernel
def cs_18_16 : SCR × BD := ((9, [(.leaf (6, 0)), (.leaf (6, 1)), (.leaf (6, 2)), (.leaf (6, 3)), (.leaf (0, 0)), (.leaf (0, 14)), (.leaf (6, 6)), (.leaf (6, 7)), (.leaf (6, 8))]), [((.branch 3 (.leaf (6, 3)) (.leaf (0, 31))), 9223372036854775826, 9223372036854775826)])
set_option maxRecDepth 100000 in
theorem run_18_16 : runOK cs_18_16 = true := by decide +kernel
def cs_18_17 : SCR × BD := ((9, [(.leaf (6, 0)), (.leaf (6, 1)), (.leaf (6, 2)), (.leaf (6, 3)), (.leaf (0, 0)), (.leaf (0, 15)), (.leaf (6, 6)), (.leaf (6, 7)), (.leaf (6, 8))]), [((.branch 3 (.leaf (6, 3)) (.leaf (0, 31))), 9223372036854775826, 9223372036854775826)])
set_option maxRecDepth 100000 in
theorem run_18_17 : runOK cs_18_17 = true := by decide +kernel
def cs_18_18 : SCR × BD := ((9, [(.leaf (6, 0)), (.leaf (6, 1)), (.leaf (6, 2)), (.leaf (6, 3)), (.leaf (0, 0)), (.leaf (6, 5)), (.leaf (6, 6)), (.leaf (6, 7)), (.leaf (6, 8))]), [((.leaf (6, 5)), 9223372034707292160, 9223372036854775807), ((.branch 3 (.leaf (6, 3)) (.leaf (0, 31))), 9223372036854775826, 9223372036854775826)])
set_option maxRecDepth 100000 in
theorem run_18_18 : runOK cs_18_18 = true := by decide +kernel
def cs_18_19 : SCR × BD := ((9, [(.leaf (6, 0)), (.leaf (6, 1)), (.leaf (6, 2)), (.leaf (6, 3)), (.leaf (0, 0)), (.leaf (6, 5)), (.leaf (6, 6)), (.leaf (6, 7)), (.leaf (6, 8))]), [((.leaf (6, 5)), 9223372036854775824, 9223372039002259455), ((.branch 3 (.leaf (6, 3)) (.leaf (0, 31))), 9223372036854775826, 9223372036854775826)])
set_option maxRecDepth 100000 in
theorem run_18_19 : runOK cs_18_19 = true := by decide +kernel
def cs_18_20 : SCR × BD := ((9, [(.leaf (6, 0)), (.leaf (6, 1)), (.leaf (6, 2)), (.leaf (6, 3)), (.leaf (0, 1)), (.leaf (0, 0)), (.leaf (6, 6)), (.leaf (6, 7)), (.leaf (6, 8))]), [((.branch 3 (.leaf (6, 3)) (.leaf (0, 31))), 9223372036854775826, 9223372036854775826)])
set_option maxRecDepth 100000 in
theorem run_18_20 : runOK cs_18_20 = true := by decide +kernel
def cs_18_21 : SCR × BD := ((9, [(.leaf (6, 0)), (.leaf (6, 1)), (.leaf (6, 2)), (.leaf (6, 3)), (.leaf (0, 1)), (.leaf (0, 1)), (.leaf (6, 6)), (.leaf (6, 7)), (.leaf (6, 8))]), [((.branch 3 (.leaf (6, 3)) (.leaf (0, 31))), 9223372036854775826, 9223372036854775826)])
set_option maxRecDepth 100000 in
theorem run_18_21 : runOK cs_18_21 = true := by decide +kernel
def cs_18_22 : SCR × BD := ((9, [(.leaf (6, 0)), (.leaf (6, 1)), (.leaf (6, 2)), (.leaf (6, 3)), (.leaf (0, 1)), (.leaf (0, 2)), (.leaf (6, 6)), (.leaf (6, 7)), (.leaf (6, 8))]), [((.branch 3 (.leaf (6, 3)) (.leaf (0, 31))), 9223372036854775826, 9223372036854775826)])
set_option maxRecDepth 100000 in
theorem run_18_22 : runOK cs_18_22 = true := by decide +kernel
def cs_18_23 : SCR × BD := ((9, [(.leaf (6, 0)), (.leaf (6, 1)), (.leaf (6, 2)), (.leaf (6, 3)), (.leaf (0, 1)), (.leaf (0, 3)), (.leaf (6, 6)), (.leaf (6, 7)), (.leaf (6, 8))]), [((.branch 3 (.leaf (6, 3)) (.leaf (0, 31))), 9223372036854775826, 9223372036854775826)])
set_option maxRecDepth 100000 in
theorem run_18_23 : runOK cs_18_23 = true := by decide +kernel
def cs_18_24 : SCR × BD := ((9, [(.leaf (6, 0)), (.leaf (6, 1)), (.leaf (6, 2)), (.leaf (6, 3)), (.leaf (0, 1)), (.leaf (0, 4)), (.leaf (6, 6)), (.leaf (6, 7)), (.leaf (6, 8))]), [((.branch 3 (.leaf (6, 3)) (.leaf (0, 31))), 9223372036854775826, 9223372036854775826)])
set_option maxRecDepth 100000 in
theorem run_18_24 : runOK cs_18_24 = true := by decide +kernel
def cs_18_25 : SCR × BD := ((9, [(.leaf (6, 0)), (.leaf (6, 1)), (.leaf (6, 2)), (.leaf (6, 3)), (.leaf (0, 1)), (.leaf (0, 5)), (.leaf (6, 6)), (.leaf (6, 7)), (.leaf (6, 8))]), [((.branch 3 (.leaf (6, 3)) (.leaf (0, 31))), 9223372036854775826, 9223372036854775826)])
set_option maxRecDepth 100000 in
theorem run_18_25 : runOK cs_18_25 = true := by decide +kernel
def cs_18_26 : SCR × BD := ((9, [(.leaf (6, 0)), (.leaf (6, 1)), (.leaf (6, 2)), (.leaf (6, 3)), (.leaf (0, 1)), (.leaf (0, 6)), (.leaf (6, 6)), (.leaf (6, 7)), (.leaf (6, 8))]), [((.branch 3 (.leaf (6, 3)) (.leaf (0, 31))), 9223372036854775826, 9223372036854775826)])
set_option maxRecDepth 100000 in
theorem run_18_26 : runOK cs_18_26 = true := by decide +kernel
def cs_18_27 : SCR × BD := ((9, [(.leaf (6, 0)), (.leaf (6, 1)), (.leaf (6, 2)), (.leaf (6, 3)), (.leaf (0, 1)), (.leaf (0, 7)), (.leaf (6, 6)), (.leaf (6, 7)), (.leaf (6, 8))]), [((.branch 3 (.leaf (6, 3)) (.leaf (0, 31))), 9223372036854775826, 9223372036854775826)])
set_option maxRecDepth 100000 in
theorem run_18_27 : runOK cs_18_27 = true := by decide +kernel
def cs_18_28 : SCR × BD := ((9, [(.leaf (6, 0)), (.leaf (6, 1)), (.leaf (6, 2)), (.leaf (6, 3)), (.leaf (0, 1)), (.leaf (0, 8)), (.leaf (6, 6)), (.leaf (6, 7)), (.leaf (6, 8))]), [((.branch 3 (.leaf (6, 3)) (.leaf (0, 31))), 9223372036854775826, 9223372036854775826)])
set_option maxRecDepth 100000 in
theorem run_18_28 : runOK cs_18_28 = true := by decide +kernel
def cs_18_29 : SCR × BD := ((9, [(.leaf (6, 0)), (.leaf (6, 1)), (.leaf (6, 2)), (.leaf (6, 3)), (.leaf (0, 1)), (.leaf (0, 9)), (.leaf (6, 6)), (.leaf (6, 7)), (.leaf (6, 8))]), [((.branch 3 (.leaf (6, 3)) (.leaf (0, 31))), 9223372036854775826, 9223372036854775826)])
set_option maxRecDepth 100000 in
theorem run_18_29 : runOK cs_18_29 = true := by decide +kernel
def cs_18_30 : SCR × BD := ((9, [(.leaf (6, 0)), (.leaf (6, 1)), (.leaf (6, 2)), (.leaf (6, 3)), (.leaf (0, 1)), (.leaf (0, 10)), (.leaf (6, 6)), (.leaf (6, 7)), (.leaf (6, 8))]), [((.branch 3 (.leaf (6, 3)) (.leaf (0, 31))), 9223372036854775826, 9223372036854775826)])
set_option maxRecDepth 100000 in
theorem run_18_30 : runOK cs_18_30 = true := by decide +kernel
def cs_18_31 : SCR × BD := ((9, [(.leaf (6, 0)), (.leaf (6, 1)), (.leaf (6, 2)), (.leaf (6, 3)), (.leaf (0, 1)), (.leaf (0, 11)), (.leaf (6, 6)), (.leaf (6, 7)), (.leaf (6, 8))]), [((.branch 3 (.leaf (6, 3)) (.leaf (0, 31))), 9223372036854775826, 9223372036854775826)])
set_option maxRecDepth 100000 in
theorem run_18_31 : runOK cs_18_31 = true := by decide +kernel
def cs_18_32 : SCR × BD := ((9, [(.leaf (6, 0)), (.leaf (6, 1)), (.leaf (6, 2)), (.leaf (6, 3)), (.leaf (0, 1)), (.leaf (0, 12)), (.leaf (6, 6)), (.leaf (6, 7)), (.leaf (6, 8))]), [((.branch 3 (.leaf (6, 3)) (.leaf (0, 31))), 9223372036854775826, 9223372036854775826)])
set_option maxRecDepth 100000 in
theorem run_18_32 : runOK cs_18_32 = true := by decide +kernel
def cs_18_33 : SCR × BD := ((9, [(.leaf (6, 0)), (.leaf (6, 1)), (.leaf (6, 2)), (.leaf (6, 3)), (.leaf (0, 1)), (.leaf (0, 13)), (.leaf (6, 6)), (.leaf (6, 7)), (.leaf (6, 8))]), [((.branch 3 (.leaf (6, 3)) (.leaf (0, 31))), 9223372036854775826, 9223372036854775826)])
set_option maxRecDepth 100000 in
theorem run_18_33 : runOK cs_18_33 = true := by decide +kernel
def cs_18_34 : SCR × BD := ((9, [(.leaf (6, 0)), (.leaf (6, 1)), (.leaf (6, 2)), (.leaf (6, 3)), (.leaf (0, 1)), (.leaf (0, 14)), (.leaf (6, 6)), (.leaf (6, 7)), (.leaf (6, 8))]), [((.branch 3 (.leaf (6, 3)) (.leaf (0, 31))), 9223372036854775826, 9223372036854775826)])
set_option maxRecDepth 100000 in
theorem run_18_34 : runOK cs_18_34 = true := by decide +kernel
def cs_18_35 : SCR × BD := ((9, [(.leaf (6, 0)), (.leaf (6, 1)), (.leaf (6, 2)), (.leaf (6, 3)), (.leaf (0, 1)), (.leaf (0, 15)), (.leaf (6, 6)), (.leaf (6, 7)), (.leaf (6, 8))]), [((.branch 3 (.leaf (6, 3)) (.leaf (0, 31))), 9223372036854775826, 9223372036854775826)])
set_option maxRecDepth 100000 in
theorem run_18_35 : runOK cs_18_35 = true := by decide +kernel
def cs_18_36 : SCR × BD := ((9, [(.leaf (6, 0)), (.leaf (6, 1)), (.leaf (6, 2)), (.leaf (6, 3)), (.leaf (0, 1)), (.leaf (6, 5)), (.leaf (6, 6)), (.leaf (6, 7)), (.leaf (6, 8))]), [((.leaf (6, 5)), 9223372034707292160, 9223372036854775807), ((.branch 3 (.leaf (6, 3)) (.leaf (0, 31))), 9223372036854775826, 9223372036854775826)])
set_option maxRecDepth 100000 in
theorem run_18_36 : runOK cs_18_36 = true := by decide +kernel
def cs_18_37 : SCR × BD := ((9, [(.leaf (6, 0)), (.leaf (6, 1)), (.leaf (6, 2)), (.leaf (6, 3)), (.leaf (0, 1)), (.leaf (6, 5)), (.leaf (6, 6)), (.leaf (6, 7)), (.leaf (6, 8))]), [((.leaf (6, 5)), 9223372036854775824, 9223372039002259455), ((.branch 3 (.leaf (6, 3)) (.leaf (0, 31))), 9223372036854775826, 9223372036854775826)])
set_option maxRecDepth 100000 in
theorem run_18_37 : runOK cs_18_37 = true := by decide +kernel
def cs_19_0 : SCR × BD := ((9, [(.leaf (6, 0)), (.leaf (6, 1)), (.leaf (6, 2)), (.leaf (6, 3)), (.leaf (0, 0)), (.leaf (6, 5)), (.leaf (6, 6)), (.leaf (6, 7)), (.leaf (6, 8))]), [((.branch 3 (.leaf (6, 3)) (.leaf (0, 31))), 9223372036854775827, 9223372036854775827)])
set_option maxRecDepth 100000 in
theorem run_19_0 : runOK cs_19_0 = true := by decide +kernel
def cs_19_1 : SCR × BD := ((9, [(.leaf (6, 0)), (.leaf (6, 1)), (.leaf (6, 2)), (.leaf (6, 3)), (.leaf (0, 1)), (.leaf (6, 5)), (.leaf (6, 6)), (.leaf (6, 7)), (.leaf (6, 8))]), [((.branch 3 (.leaf (6, 3)) (.leaf (0, 31))), 9223372036854775827, 9223372036854775827)])
set_option maxRecDepth 100000 in
theorem run_19_1 : runOK cs_19_1 = true := by decide +kernel
def cs_19_2 : SCR × BD := ((9, [(.leaf (6, 0)), (.leaf (6, 1)), (.leaf (6, 2)), (.leaf (6, 3)), (.leaf (6, 4)), (.leaf (6, 5)), (.leaf (6, 6)), (.leaf (6, 7)), (.leaf (6, 8))]), [((.leaf (6, 4)), 9223372034707292160, 9223372036854775807), ((.branch 3 (.leaf (6, 3)) (.leaf (0, 31))), 9223372036854775827, 9223372036854775827)])
set_option maxRecDepth 100000 in
theorem run_19_2 : runOK cs_19_2 = true := by decide +kernel
def cs_19_3 : SCR × BD := ((9, [(.leaf (6, 0)), (.leaf (6, 1)), (.leaf (6, 2)), (.leaf (6, 3)), (.leaf (6, 4)), (.leaf (6, 5)), (.leaf (6, 6)), (.leaf (6, 7)), (.leaf (6, 8))]), [((.leaf (6, 4)), 9223372036854775810, 9223372039002259455), ((.branch 3 (.leaf (6, 3)) (.leaf (0, 31))), 9223372036854775827, 9223372036854775827)])
set_option maxRecDepth 100000 in
theorem run_19_3 : runOK cs_19_3 = true := by decide +kernel
def cs_20_0 : SCR × BD := ((9, [(.leaf (6, 0)), (.leaf (6, 1)), (.leaf (6, 2)), (.leaf (6, 3)), (.leaf (0, 0)), (.leaf (6, 5)), (.leaf (6, 6)), (.leaf (6, 7)), (.leaf (6, 8))]), [((.branch 3 (.leaf (6, 3)) (.leaf (0, 31))), 9223372036854775828, 9223372036854775828)])
set_option maxRecDepth 100000 in
theorem run_20_0 : runOK cs_20_0 = true := by decide +kernel
def cs_20_1 : SCR × BD := ((9, [(.leaf (6, 0)), (.leaf (6, 1)), (.leaf (6, 2)), (.leaf (6, 3)), (.leaf (0, 1)), (.leaf (6, 5)), (.leaf (6, 6)), (.leaf (6, 7)), (.leaf (6, 8))]), [((.branch 3 (.leaf (6, 3)) (.leaf (0, 31))), 9223372036854775828, 9223372036854775828)])
set_option maxRecDepth 100000 in
theorem run_20_1 : runOK cs_20_1 = true := by decide +kernel
def cs_20_2 : SCR × BD := ((9, [(.leaf (6, 0)), (.leaf (6, 1)), (.leaf (6, 2)), (.leaf (6, 3)), (.leaf (6, 4)), (.leaf (6, 5)), (.leaf (6, 6)), (.leaf (6, 7)), (.leaf (6, 8))]), [((.leaf (6, 4)), 9223372034707292160, 9223372036854775807), ((.branch 3 (.leaf (6, 3)) (.leaf (0, 31))), 9223372036854775828, 9223372036854775828)])
set_option maxRecDepth 100000 in
theorem run_20_2 : runOK cs_20_2 = true := by decide +kernel
def cs_20_3 : SCR × BD := ((9, [(.leaf (6, 0)), (.leaf (6, 1)), (.leaf (6, 2)), (.leaf (6, 3)), (.leaf (6, 4)), (.leaf (6, 5)), (.leaf (6, 6)), (.leaf (6, 7)), (.leaf (6, 8))]), [((.leaf (6, 4)), 9223372036854775810, 9223372039002259455), ((.branch 3 (.leaf (6, 3)) (.leaf (0, 31))), 9223372036854775828, 9223372036854775828)])
set_option maxRecDepth 100000 in
theorem run_20_3 : runOK cs_20_3 = true := by decide +kernel
def cs_21_0 : SCR × BD := ((9, [(.leaf (6, 0)), (.leaf (6, 1)), (.leaf (6, 2)), (.leaf (6, 3)), (.leaf (0, 0)), (.leaf (6, 5)), (.leaf (6, 6)), (.leaf (6, 7)), (.leaf (6, 8))]), [((.branch 3 (.leaf (6, 3)) (.leaf (0, 31))), 9223372036854775829, 9223372036854775829)])
set_option maxRecDepth 100000 in
theorem run_21_0 : runOK cs_21_0 = true := by decide +kernel
def cs_21_1 : SCR × BD := ((9, [(.leaf (6, 0)), (.leaf (6, 1)), (.leaf (6, 2)), (.leaf (6, 3)), (.leaf (0, 1)), (.leaf (6, 5)), (.leaf (6, 6)), (.leaf (6, 7)), (.leaf (6, 8))]), [((.branch 3 (.leaf (6, 3)) (.leaf (0, 31))), 9223372036854775829, 9223372036854775829)])
set_option maxRecDepth 100000 in
theorem run_21_1 : runOK cs_21_1 = true := by decide +kernel
def cs_21_2 : SCR × BD := ((9, [(.leaf (6, 0)), (.leaf (6, 1)), (.leaf (6, 2)), (.leaf (6, 3)), (.leaf (6, 4)), (.leaf (6, 5)), (.leaf (6, 6)), (.leaf (6, 7)), (.leaf (6, 8))]), [((.leaf (6, 4)), 9223372034707292160, 9223372036854775807), ((.branch 3 (.leaf (6, 3)) (.leaf (0, 31))), 9223372036854775829, 9223372036854775829)])
set_option maxRecDepth 100000 in
theorem run_21_2 : runOK cs_21_2 = true := by decide +kernel
def cs_21_3 : SCR × BD := ((9, [(.leaf (6, 0)), (.leaf (6, 1)), (.leaf (6, 2)), (.leaf (6, 3)), (.leaf (6, 4)), (.leaf (6, 5)), (.leaf (6, 6)), (.leaf (6, 7)), (.leaf (6, 8))]), [((.leaf (6, 4)), 9223372036854775810, 9223372039002259455), ((.branch 3 (.leaf (6, 3)) (.leaf (0, 31))), 9223372036854775829, 9223372036854775829)])
set_option maxRecDepth 100000 in
theorem run_21_3 : runOK cs_21_3 = true := by decide +kernel
