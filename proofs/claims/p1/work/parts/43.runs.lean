def cs_17_0 : SCR × BD := ((9, [(.leaf (6, 0)), (.leaf (6, 1)), (.leaf (6, 2)), (.leaf (6, 3)), (.leaf (6, 4)), (.leaf (6, 5)), (.leaf (6, 6)), (.leaf (6, 7)), (.leaf (6, 8))]), [((.leaf (6, 4)), 9223372034707292160, 9223372036854775807), ((.branch 3 (.leaf (6, 3)) (.leaf (0, 31))), 9223372036854775825, 9223372036854775825)])
set_option maxRecDepth 100000 in
theorem run_17_0 : runOK cs_17_0 = true := by decide +kernel
def cs_17_1 : SCR × BD := ((9, [(.leaf (6, 0)), (.leaf (6, 1)), (.leaf (6, 2)), (.leaf (6, 3)), (.leaf (6, 4)), (.leaf (6, 5)), (.leaf (6, 6)), (.leaf (6, 7)), (.leaf (6, 8))]), [((.leaf (6, 4)), 9223372036854775810, 9223372039002259455), ((.branch 3 (.leaf (6, 3)) (.leaf (0, 31))), 9223372036854775825, 9223372036854775825)])
set_option maxRecDepth 100000 in
theorem run_17_1 : runOK cs_17_1 = true := by decide +kernel
def cs_17_2 : SCR × BD := ((9, [(.leaf (6, 0)), (.leaf (6, 1)), (.leaf (6, 2)), (.leaf (6, 3)), (.leaf (0, 0)), (.leaf (6, 5)), (.leaf (6, 6)), (.leaf (6, 7)), (.leaf (6, 8))]), [((.leaf (6, 5)), 9223372034707292160, 9223372036854775808), ((.branch 3 (.leaf (6, 3)) (.leaf (0, 31))), 9223372036854775825, 9223372036854775825)])
set_option maxRecDepth 100000 in
theorem run_17_2 : runOK cs_17_2 = true := by decide +kernel
def cs_17_3 : SCR × BD := ((9, [(.leaf (6, 0)), (.leaf (6, 1)), (.leaf (6, 2)), (.leaf (6, 3)), (.leaf (0, 0)), (.leaf (6, 5)), (.leaf (6, 6)), (.leaf (6, 7)), (.leaf (6, 8))]), [((.leaf (6, 5)), 9223372036854775813, 9223372039002259455), ((.branch 3 (.leaf (6, 3)) (.leaf (0, 31))), 9223372036854775825, 9223372036854775825)])
set_option maxRecDepth 100000 in
theorem run_17_3 : runOK cs_17_3 = true := by decide +kernel
def cs_17_4 : SCR × BD := ((9, [(.leaf (6, 0)), (.leaf (6, 1)), (.leaf (6, 2)), (.leaf (6, 3)), (.leaf (0, 0)), (.leaf (0, 1)), (.leaf (6, 6)), (.leaf (0, 0)), (.leaf (6, 8))]), [((.branch 3 (.leaf (6, 3)) (.leaf (0, 31))), 9223372036854775825, 9223372036854775825)])
set_option maxRecDepth 100000 in
theorem run_17_4 : runOK cs_17_4 = true := by decide +kernel
def cs_17_5 : SCR × BD := ((9, [(.leaf (6, 0)), (.leaf (6, 1)), (.leaf (6, 2)), (.leaf (6, 3)), (.leaf (0, 0)), (.leaf (0, 1)), (.leaf (6, 6)), (.leaf (0, 1)), (.leaf (6, 8))]), [((.branch 3 (.leaf (6, 3)) (.leaf (0, 31))), 9223372036854775825, 9223372036854775825)])
set_option maxRecDepth 100000 in
theorem run_17_5 : runOK cs_17_5 = true := by decide +kernel
def cs_17_6 : SCR × BD := ((9, [(.leaf (6, 0)), (.leaf (6, 1)), (.leaf (6, 2)), (.leaf (6, 3)), (.leaf (0, 0)), (.leaf (0, 1)), (.leaf (6, 6)), (.leaf (0, 2)), (.leaf (6, 8))]), [((.branch 3 (.leaf (6, 3)) (.leaf (0, 31))), 9223372036854775825, 9223372036854775825)])
set_option maxRecDepth 100000 in
theorem run_17_6 : runOK cs_17_6 = true := by decide +kernel
def cs_17_7 : SCR × BD := ((9, [(.leaf (6, 0)), (.leaf (6, 1)), (.leaf (6, 2)), (.leaf (6, 3)), (.leaf (0, 0)), (.leaf (0, 1)), (.leaf (6, 6)), (.leaf (0, 3)), (.leaf (6, 8))]), [((.branch 3 (.leaf (6, 3)) (.leaf (0, 31))), 9223372036854775825, 9223372036854775825)])
set_option maxRecDepth 100000 in
theorem run_17_7 : runOK cs_17_7 = true := by decide +kernel
def cs_17_8 : SCR × BD := ((9, [(.leaf (6, 0)), (.leaf (6, 1)), (.leaf (6, 2)), (.leaf (6, 3)), (.leaf (0, 0)), (.leaf (0, 1)), (.leaf (6, 6)), (.leaf (0, 4)), (.leaf (6, 8))]), [((.branch 3 (.leaf (6, 3)) (.leaf (0, 31))), 9223372036854775825, 9223372036854775825)])
set_option maxRecDepth 100000 in
theorem run_17_8 : runOK cs_17_8 = true := by decide +kernel
def cs_17_9 : SCR × BD := ((9, [(.leaf (6, 0)), (.leaf (6, 1)), (.leaf (6, 2)), (.leaf (6, 3)), (.leaf (0, 0)), (.leaf (0, 1)), (.leaf (6, 6)), (.leaf (0, 5)), (.leaf (6, 8))]), [((.branch 3 (.leaf (6, 3)) (.leaf (0, 31))), 9223372036854775825, 9223372036854775825)])
set_option maxRecDepth 100000 in
theorem run_17_9 : runOK cs_17_9 = true := by decide +kernel
def cs_17_10 : SCR × BD := ((9, [(.leaf (6, 0)), (.leaf (6, 1)), (.leaf (6, 2)), (.leaf (6, 3)), (.leaf (0, 0)), (.leaf (0, 1)), (.leaf (6, 6)), (.leaf (6, 7)), (.leaf (6, 8))]), [((.leaf (6, 7)), 9223372034707292160, 9223372036854775807), ((.branch 3 (.leaf (6, 3)) (.leaf (0, 31))), 9223372036854775825, 9223372036854775825)])
set_option maxRecDepth 100000 in
theorem run_17_10 : runOK cs_17_10 = true := by decide +kernel
def cs_17_11 : SCR × BD := ((9, [(.leaf (6, 0)), (.leaf (6, 1)), (.leaf (6, 2)), (.leaf (6, 3)), (.leaf (0, 0)), (.leaf (0, 1)), (.leaf (6, 6)), (.leaf (6, 7)), (.leaf (6, 8))]), [((.leaf (6, 7)), 9223372036854775814, 9223372039002259455), ((.branch 3 (.leaf (6, 3)) (.leaf (0, 31))), 9223372036854775825, 9223372036854775825)])
set_option maxRecDepth 100000 in
theorem run_17_11 : runOK cs_17_11 = true := by decide +kernel
def cs_17_12 : SCR × BD := ((9, [(.leaf (6, 0)), (.leaf (6, 1)), (.leaf (6, 2)), (.leaf (6, 3)), (.leaf (0, 0)), (.leaf (0, 2)), (.leaf (6, 6)), (.leaf (0, 0)), (.leaf (6, 8))]), [((.branch 3 (.leaf (6, 3)) (.leaf (0, 31))), 9223372036854775825, 9223372036854775825)])
set_option maxRecDepth 100000 in
theorem run_17_12 : runOK cs_17_12 = true := by decide +kernel
def cs_17_13 : SCR × BD := ((9, [(.leaf (6, 0)), (.leaf (6, 1)), (.leaf (6, 2)), (.leaf (6, 3)), (.leaf (0, 0)), (.leaf (0, 2)), (.leaf (6, 6)), (.leaf (0, 1)), (.leaf (6, 8))]), [((.branch 3 (.leaf (6, 3)) (.leaf (0, 31))), 9223372036854775825, 9223372036854775825)])
set_option maxRecDepth 100000 in
theorem run_17_13 : runOK cs_17_13 = true := by decide +kernel
def cs_17_14 : SCR × BD := ((9, [(.leaf (6, 0)), (.leaf (6, 1)), (.leaf (6, 2)), (.leaf (6, 3)), (.leaf (0, 0)), (.leaf (0, 2)), (.leaf (6, 6)), (.leaf (0, 2)), (.leaf (6, 8))]), [((.branch 3 (.leaf (6, 3)) (.leaf (0, 31))), 9223372036854775825, 9223372036854775825)])
set_option maxRecDepth 100000 in
theorem run_17_14 : runOK cs_17_14 = true := by decide +kernel
def cs_17_15 : SCR × BD := ((9, [(.leaf (6, 0)), (.leaf (6, 1)), (.leaf (6, 2)), (.leaf (6, 3)), (.leaf (0, 0)), (.leaf (0, 2)), (.leaf (6, 6)), (.leaf (0, 3)), (.leaf (6, 8))]), [((.branch 3 (.leaf (6, 3)) (.leaf (0, 31))), 9223372036854775825, 9223372036854775825)])
set_option maxRecDepth 100000 in
theorem run_17_15 : runOK cs_17_15 = true := by decide +kernel
def cs_17_16 : SCR × BD := ((9, [(.leaf (6, 0)), (.leaf (6, 1)), (.leaf (6, 2)), (.leaf (6, 3)), (.leaf (0, 0)), (.leaf (0, 2)), (.leaf (6, 6)), (.leaf (0, 4)), (.leaf (6, 8))]), [((.branch 3 (.leaf (6, 3)) (.leaf (0, 31))), 9223372036854775825, 9223372036854775825)])
set_option maxRecDepth 100000 in
theorem run_17_16 : runOK cs_17_16 = true := by decide +kernel
def cs_17_17 : SCR × BD := ((9, [(.leaf (6, 0)), (.leaf (6, 1)), (.leaf (6, 2)), (.leaf (6, 3)), (.leaf (0, 0)), (.leaf (0, 2)), (.leaf (6, 6)), (.leaf (0, 5)), (.leaf (6, 8))]), [((.branch 3 (.leaf (6, 3)) (.leaf (0, 31))), 9223372036854775825, 9223372036854775825)])
set_option maxRecDepth 100000 in
theorem run_17_17 : runOK cs_17_17 = true := by decide +kernel
def cs_17_18 : SCR × BD := ((9, [(.leaf (6, 0)), (.leaf (6, 1)), (.leaf (6, 2)), (.leaf (6, 3)), (.leaf (0, 0)), (.leaf (0, 2)), (.leaf (6, 6)), (.leaf (6, 7)), (.leaf (6, 8))]), [((.leaf (6, 7)), 9223372034707292160, 9223372036854775807), ((.branch 3 (.leaf (6, 3)) (.leaf (0, 31))), 9223372036854775825, 9223372036854775825)])
set_option maxRecDepth 100000 in
theorem run_17_18 : runOK cs_17_18 = true := by decide +kernel
def cs_17_19 : SCR × BD := ((9, [(.leaf (6, 0)), (.leaf (6, 1)), (.leaf (6, 2)), (.leaf (6, 3)), (.leaf (0, 0)), (.leaf (0, 2)), (.leaf (6, 6)), (.leaf (6, 7)), (.leaf (6, 8))]), [((.leaf (6, 7)), 9223372036854775814, 9223372039002259455), ((.branch 3 (.leaf (6, 3)) (.leaf (0, 31))), 9223372036854775825, 9223372036854775825)])
set_option maxRecDepth 100000 in
theorem run_17_19 : runOK cs_17_19 = true := by decide +kernel
def cs_17_20 : SCR × BD := ((9, [(.leaf (6, 0)), (.leaf (6, 1)), (.leaf (6, 2)), (.leaf (6, 3)), (.leaf (0, 0)), (.leaf (0, 3)), (.leaf (6, 6)), (.leaf (0, 0)), (.leaf (6, 8))]), [((.branch 3 (.leaf (6, 3)) (.leaf (0, 31))), 9223372036854775825, 9223372036854775825)])
set_option maxRecDepth 100000 in
theorem run_17_20 : runOK cs_17_20 = true := by decide +kernel
def cs_17_21 : SCR × BD := ((9, [(.leaf (6, 0)), (.leaf (6, 1)), (.leaf (6, 2)), (.leaf (6, 3)), (.leaf (0, 0)), (.leaf (0, 3)), (.leaf (6, 6)), (.leaf (0, 1)), (.leaf (6, 8))]), [((.branch 3 (.leaf (6, 3)) (.leaf (0, 31))), 9223372036854775825, 9223372036854775825)])
set_option maxRecDepth 100000 in
theorem run_17_21 : runOK cs_17_21 = true := by decide +kernel
def cs_17_22 : SCR × BD := ((9, [(.leaf (6, 0)), (.leaf (6, 1)), (.leaf (6, 2)), (.leaf (6, 3)), (.leaf (0, 0)), (.leaf (0, 3)), (.leaf (6, 6)), (.leaf (0, 2)), (.leaf (6, 8))]), [((.branch 3 (.leaf (6, 3)) (.leaf (0, 31))), 9223372036854775825, 9223372036854775825)])
set_option maxRecDepth 100000 in
theorem run_17_22 : runOK cs_17_22 = true := by decide +kernel
def cs_17_23 : SCR × BD := ((9, [(.leaf (6, 0)), (.leaf (6, 1)), (.leaf (6, 2)), (.leaf (6, 3)), (.leaf (0, 0)), (.leaf (0, 3)), (.leaf (6, 6)), (.leaf (0, 3)), (.leaf (6, 8))]), [((.branch 3 (.leaf (6, 3)) (.leaf (0, 31))), 9223372036854775825, 9223372036854775825)])
set_option maxRecDepth 100000 in
theorem run_17_23 : runOK cs_17_23 = true := by decide +kernel
def cs_17_24 : SCR × BD := ((9, [(.leaf (6, 0)), (.leaf (6, 1)), (.leaf (6, 2)), (.leaf (6, 3)), (.leaf (0, 0)), (.leaf (0, 3)), (.leaf (6, 6)), (.leaf (0, 4)), (.leaf (6, 8))]), [((.branch 3 (.leaf (6, 3)) (.leaf (0, 31))), 9223372036854775825, 9223372036854775825)])
set_option maxRecDepth 100000 in
theorem run_17_24 : runOK cs_17_24 = true := by decide +kernel
def cs_17_25 : SCR × BD := ((9, [(.leaf (6, 0)), (.leaf (6, 1)), (.leaf (6, 2)), (.leaf (6, 3)), (.leaf (0, 0)), (.leaf (0, 3)), (.leaf (6, 6)), (.leaf (0, 5)), (.leaf (6, 8))]), [((.branch 3 (.leaf (6, 3)) (.leaf (0, 31))), 9223372036854775825, 9223372036854775825)])
set_option maxRecDepth 100000 in
theorem run_17_25 : runOK cs_17_25 = true := by decide +kernel
def cs_17_26 : SCR × BD := ((9, [(.leaf (6, 0)), (.leaf (6, 1)), (.leaf (6, 2)), (.leaf (6, 3)), (.leaf (0, 0)), (.leaf (0, 3)), (.leaf (6, 6)), (.leaf (6, 7)), (.leaf (6, 8))]), [((.leaf (6, 7)), 9223372034707292160, 9223372036854775807), ((.branch 3 (.leaf (6, 3)) (.leaf (0, 31))), 9223372036854775825, 9223372036854775825)])
set_option maxRecDepth 100000 in
theorem run_17_26 : runOK cs_17_26 = true := by decide +kernel
def cs_17_27 : SCR × BD := ((9, [(.leaf (6, 0)), (.leaf (6, 1)), (.leaf (6, 2)), (.leaf (6, 3)), (.leaf (0, 0)), (.leaf (0, 3)), (.leaf (6, 6)), (.leaf (6, 7)), (.leaf (6, 8))]), [((.leaf (6, 7)), 9223372036854775814, 9223372039002259455), ((.branch 3 (.leaf (6, 3)) (.leaf (0, 31))), 9223372036854775825, 9223372036854775825)])
set_option maxRecDepth 100000 in
theorem run_17_27 : runOK cs_17_27 = true := by decide +kernel
def cs_17_28 : SCR × BD := ((9, [(.leaf (6, 0)), (.leaf (6, 1)), (.leaf (6, 2)), (.leaf (6, 3)), (.leaf (0, 0)), (.leaf (0, 4)), (.leaf (6, 6)), (.leaf (0, 0)), (.leaf (6, 8))]), [((.branch 3 (.leaf (6, 3)) (.leaf (0, 31))), 9223372036854775825, 9223372036854775825)])
set_option maxRecDepth 100000 in
theorem run_17_28 : runOK cs_17_28 = true := by decide +kernel
def cs_17_29 : SCR × BD := ((9, [(.leaf (6, 0)), (.leaf (6, 1)), (.leaf (6, 2)), (.leaf (6, 3)), (.leaf (0, 0)), (.leaf (0, 4)), (.leaf (6, 6)), (.leaf (0, 1)), (.leaf (6, 8))]), [((.branch 3 (.leaf (6, 3)) (.leaf (0, 31))), 9223372036854775825, 9223372036854775825)])
set_option maxRecDepth 100000 in
theorem run_17_29 : runOK cs_17_29 = true := by decide +kernel
def cs_17_30 : SCR × BD := ((9, [(.leaf (6, 0)), (.leaf (6, 1)), (.leaf (6, 2)), (.leaf (6, 3)), (.leaf (0, 0)), (.leaf (0, 4)), (.leaf (6, 6)), (.leaf (0, 2)), (.leaf (6, 8))]), [((.branch 3 (.leaf (6, 3)) (.leaf (0, 31))), 9223372036854775825, 9223372036854775825)])
set_option maxRecDepth 100000 in
theorem run_17_30 : runOK cs_17_30 = true := by decide +kernel
def cs_17_31 : SCR × BD := ((9, [(.leaf (6, 0)), (.leaf (6, 1)), (.leaf (6, 2)), (.leaf (6, 3)), (.leaf (0, 0)), (.leaf (0, 4)), (.leaf (6, 6)), (.leaf (0, 3)), (.leaf (6, 8))]), [((.branch 3 (.leaf (6, 3)) (.leaf (0, 31))), 9223372036854775825, 9223372036854775825)])
set_option maxRecDepth 100000 in
theorem run_17_31 : runOK cs_17_31 = true := by decide +kernel
def cs_17_32 : SCR × BD := ((9, [(.leaf (6, 0)), (.leaf (6, 1)), (.leaf (6, 2)), (.leaf (6, 3)), (.leaf (0, 0)), (.leaf (0, 4)), (.leaf (6, 6)), (.leaf (0, 4)), (.leaf (6, 8))]), [((.branch 3 (.leaf (6, 3)) (.leaf (0, 31))), 9223372036854775825, 9223372036854775825)])
set_option maxRecDepth 100000 in
theorem run_17_32 : runOK cs_17_32 = true := by decide +kernel
def cs_17_33 : SCR × BD := ((9, [(.leaf (6, 0)), (.leaf (6, 1)), (.leaf (6, 2)), (.leaf (6, 3)), (.leaf (0, 0)), (.leaf (0, 4)), (.leaf (6, 6)), (.leaf (0, 5)), (.leaf (6, 8))]), [((.branch 3 (.leaf (6, 3)) (.leaf (0, 31))), 9223372036854775825, 9223372036854775825)])
set_option maxRecDepth 100000 in
theorem run_17_33 : runOK cs_17_33 = true := by decide +kernel
def cs_17_34 : SCR × BD := ((9, [(.leaf (6, 0)), (.leaf (6, 1)), (.leaf (6, 2)), (.leaf (6, 3)), (.leaf (0, 0)), (.leaf (0, 4)), (.leaf (6, 6)), (.leaf (6, 7)), (.leaf (6, 8))]), [((.leaf (6, 7)), 9223372034707292160, 9223372036854775807), ((.branch 3 (.leaf (6, 3)) (.leaf (0, 31))), 9223372036854775825, 9223372036854775825)])
set_option maxRecDepth 100000 in
theorem run_17_34 : runOK cs_17_34 = true := by decide +kernel
def cs_17_35 : SCR × BD := ((9, [(.leaf (6, 0)), (.leaf (6, 1)), (.leaf (6, 2)), (.leaf (6, 3)), (.leaf (0, 0)), (.leaf (0, 4)), (.leaf (6, 6)), (.leaf (6, 7)), (.leaf (6, 8))]), [((.leaf (6, 7)), 9223372036854775814, 9223372039002259455), ((.branch 3 (.leaf (6, 3)) (.leaf (0, 31))), 9223372036854775825, 9223372036854775825)])
set_option maxRecDepth 100000 in
theorem run_17_35 : runOK cs_17_35 = true := by decide +kernel
def cs_17_36 : SCR × BD := ((9, [(.leaf (6, 0)), (.leaf (6, 1)), (.leaf (6, 2)), (.leaf (6, 3)), (.leaf (0, 1)), (.leaf (6, 5)), (.leaf (6, 6)), (.leaf (6, 7)), (.leaf (6, 8))]), [((.leaf (6, 5)), 9223372034707292160, 9223372036854775808), ((.branch 3 (.leaf (6, 3)) (.leaf (0, 31))), 9223372036854775825, 9223372036854775825)])
set_option maxRecDepth 100000 in
theorem run_17_36 : runOK cs_17_36 = true := by decide +kernel
def cs_17_37 : SCR × BD := ((9, [(.leaf (6, 0)), (.leaf (6, 1)), (.leaf (6, 2)), (.leaf (6, 3)), (.leaf (0, 1)), (.leaf (6, 5)), (.leaf (6, 6)), (.leaf (6, 7)), (.leaf (6, 8))]), [((.leaf (6, 5)), 9223372036854775813, 9223372039002259455), ((.branch 3 (.leaf (6, 3)) (.leaf (0, 31))), 9223372036854775825, 9223372036854775825)])
set_option maxRecDepth 100000 in
theorem run_17_37 : runOK cs_17_37 = true := by decide +kernel
def cs_17_38 : SCR × BD := ((9, [(.leaf (6, 0)), (.leaf (6, 1)), (.leaf (6, 2)), (.leaf (6, 3)), (.leaf (0, 1)), (.leaf (0, 1)), (.leaf (6, 6)), (.leaf (0, 0)), (.leaf (6, 8))]), [((.branch 3 (.leaf (6, 3)) (.leaf (0, 31))), 9223372036854775825, 9223372036854775825)])
set_option maxRecDepth 100000 in
theorem run_17_38 : runOK cs_17_38 = true := by decide +kernel
def cs_17_39 : SCR × BD := ((9, [(.leaf (6, 0)), (.leaf (6, 1)), (.leaf (6, 2)), (.leaf (6, 3)), (.leaf (0, 1)), (.leaf (0, 1)), (.leaf (6, 6)), (.leaf (0, 1)), (.leaf (6, 8))]), [((.branch 3 (.leaf (6, 3)) (.leaf (0, 31))), 9223372036854775825, 9223372036854775825)])
set_option maxRecDepth 100000 in
theorem run_17_39 : runOK cs_17_39 = true := by decide +kernel
def cs_17_40 : SCR × BD := ((9, [(.leaf (6, 0)), (.leaf (6, 1)), (.leaf (6, 2)), (.leaf (6, 3)), (.leaf (0, 1)), (.leaf (0, 1)), (.leaf (6, 6)), (.leaf (0, 2)), (.leaf (6, 8))]), [((.branch 3 (.leaf (6, 3)) (.leaf (0, 31))), 9223372036854775825, 9223372036854775825)])
set_option maxRecDepth 100000 in
theorem run_17_40 : runOK cs_17_40 = true := by decide +kernel
def cs_17_41 : SCR × BD := ((9, [(.leaf (6, 0)), (.leaf (6, 1)), (.leaf (6, 2)), (.leaf (6, 3)), (.leaf (0, 1)), (.leaf (0, 1)), (.leaf (6, 6)), (.leaf (0, 3)), (.leaf (6, 8))]), [((.branch 3 (.leaf (6, 3)) (.leaf (0, 31))), 9223372036854775825, 9223372036854775825)])
set_option maxRecDepth 100000 in
theorem run_17_41 : runOK cs_17_41 = true := by decide +kernel
def cs_17_42 : SCR × BD := ((9, [(.leaf (6, 0)), (.leaf (6, 1)), (.leaf (6, 2)), (.leaf (6, 3)), (.leaf (0, 1)), (.leaf (0, 1)), (.leaf (6, 6)), (.leaf (0, 4)), (.leaf (6, 8))]), [((.branch 3 (.leaf (6, 3)) (.leaf (0, 31))), 9223372036854775825, 9223372036854775825)])
set_option maxRecDepth 100000 in
theorem run_17_42 : runOK cs_17_42 = true := by decide +kernel
def cs_17_43 : SCR × BD := ((9, [(.leaf (6, 0)), (.leaf (6, 1)), (.leaf (6, 2)), (.leaf (6, 3)), (.leaf (0, 1)), (.leaf (0, 1)), (.leaf (6, 6)), (.leaf (0, 5)), (.leaf (6, 8))]), [((.branch 3 (.leaf (6, 3)) (.leaf (0, 31))), 9223372036854775825, 9223372036854775825)])
set_option maxRecDepth 100000 in
theorem run_17_43 : runOK cs_17_43 = true := by decide +kernel
def cs_17_44 : SCR × BD := ((9, [(.leaf (6, 0)), (.leaf (6, 1)), (.leaf (6, 2)), (.leaf (6, 3)), (.leaf (0, 1)), (.leaf (0, 1)), (.leaf (6, 6)), (.leaf (6, 7)), (.leaf (6, 8))]), [((.leaf (6, 7)), 9223372034707292160, 9223372036854775807), ((.branch 3 (.leaf (6, 3)) (.leaf (0, 31))), 9223372036854775825, 9223372036854775825)])
set_option maxRecDepth 100000 in
theorem run_17_44 : runOK cs_17_44 = true := by decide +kernel
def cs_17_45 : SCR × BD := ((9, [(.leaf (6, 0)), (.leaf (6, 1)), (.leaf (6, 2)), (.leaf (6, 3)), (.leaf (0, 1)), (.leaf (0, 1)), (.leaf (6, 6)), (.leaf (6, 7)), (.leaf (6, 8))]), [((.leaf (6, 7)), 9223372036854775814, 9223372039002259455), ((.branch 3 (.leaf (6, 3)) (.leaf (0, 31))), 9223372036854775825, 9223372036854775825)])
set_option maxRecDepth 100000 in
theorem run_17_45 : runOK cs_17_45 = true := by decide +kernel
def cs_17_46 : SCR × BD := ((9, [(.leaf (6, 0)), (.leaf (6, 1)), (.leaf (6, 2)), (.leaf (6, 3)), (.leaf (0, 1)), (.leaf (0, 2)), (.leaf (6, 6)), (.leaf (0, 0)), (.leaf (6, 8))]), [((.branch 3 (.leaf (6, 3)) (.leaf (0, 31))), 9223372036854775825, 9223372036854775825)])
set_option maxRecDepth 100000 in
theorem run_17_46 : runOK cs_17_46 = true := by decide +kernel
def cs_17_47 : SCR × BD := ((9, [(.leaf (6, 0)), (.leaf (6, 1)), (.leaf (6, 2)), (.leaf (6, 3)), (.leaf (0, 1)), (.leaf (0, 2)), (.leaf (6, 6)), (.leaf (0, 1)), (.leaf (6, 8))]), [((.branch 3 (.leaf (6, 3)) (.leaf (0, 31))), 9223372036854775825, 9223372036854775825)])
set_option maxRecDepth 100000 in
theorem run_17_47 : runOK cs_17_47 = true := by decide +kernel
def cs_17_48 : SCR × BD := ((9, [(.leaf (6, 0)), (.leaf (6, 1)), (.leaf (6, 2)), (.leaf (6, 3)), (.leaf (0, 1)), (.leaf (0, 2)), (.leaf (6, 6)), (.leaf (0, 2)), (.leaf (6, 8))]), [((.branch 3 (.leaf (6, 3)) (.leaf (0, 31))), 9223372036854775825, 9223372036854775825)])
set_option maxRecDepth 100000 in
theorem run_17_48 : runOK cs_17_48 = true := by decide +kernel
def cs_17_49 : SCR × BD := ((9, [(.leaf (6, 0)), (.leaf (6, 1)), (.leaf (6, 2)), (.leaf (6, 3)), (.leaf (0, 1)), (.leaf (0, 2)), (.leaf (6, 6)), (.leaf (0, 3)), (.leaf (6, 8))]), [((.branch 3 (.leaf (6, 3)) (.leaf (0, 31))), 9223372036854775825, 9223372036854775825)])
set_option maxRecDepth 100000 in
theorem run_17_49 : runOK cs_17_49 = true := by decide +kernel
def cs_17_50 : SCR × BD := ((9, [(.leaf (6, 0)), (.leaf (6, 1)), (.leaf (6, 2)), (.leaf (6, 3)), (.leaf (0, 1)), (.leaf (0, 2)), (.leaf (6, 6)), (.leaf (0, 4)), (.leaf (6, 8))]), [((.branch 3 (.leaf (6, 3)) (.leaf (0, 31))), 9223372036854775825, 9223372036854775825)])
set_option maxRecDepth 100000 in
theorem run_17_50 : runOK cs_17_50 = true := by decide +kernel
def cs_17_51 : SCR × BD := ((9, [(.leaf (6, 0)), (.leaf (6, 1)), (.leaf (6, 2)), (.leaf (6, 3)), (.leaf (0, 1)), (.leaf (0, 2)), (.leaf (6, 6)), (.leaf (0, 5)), (.leaf (6, 8))]), [((.branch 3 (.leaf (6, 3)) (.leaf (0, 31))), 9223372036854775825, 9223372036854775825)])
set_option maxRecDepth 100000 in
theorem run_17_51 : runOK cs_17_51 = true := by decide +kernel
def cs_17_52 : SCR × BD := ((9, [(.leaf (6, 0)), (.leaf (6, 1)), (.leaf (6, 2)), (.leaf (6, 3)), (.leaf (0, 1)), (.leaf (0, 2)), (.leaf (6, 6)), (.leaf (6, 7)), (.leaf (6, 8))]), [((.leaf (6, 7)), 9223372034707292160, 9223372036854775807), ((.branch 3 (.leaf (6, 3)) (.leaf (0, 31))), 9223372036854775825, 9223372036854775825)])
set_option maxRecDepth 100000 in
theorem run_17_52 : runOK cs_17_52 = true := by decide +kernel
def cs_17_53 : SCR × BD := ((9, [(.leaf (6, 0)), (.leaf (6, 1)), (.leaf (6, 2)), (.leaf (6, 3)), (.leaf (0, 1)), (.leaf (0, 2)), (.leaf (6, 6)), (.leaf (6, 7)), (.leaf (6, 8))]), [((.leaf (6, 7)), 9223372036854775814, 9223372039002259455), ((.branch 3 (.leaf (6, 3)) (.leaf (0, 31))), 9223372036854775825, 9223372036854775825)])
set_option maxRecDepth 100000 in
theorem run_17_53 : runOK cs_17_53 = true := by decide +kernel
def cs_17_54 : SCR × BD := ((9, [(.leaf (6, 0)), (.leaf (6, 1)), (.leaf (6, 2)), (.leaf (6, 3)), (.leaf (0, 1)), (.leaf (0, 3)), (.leaf (6, 6)), (.leaf (0, 0)), (.leaf (6, 8))]), [((.branch 3 (.leaf (6, 3)) (.leaf (0, 31))), 9223372036854775825, 9223372036854775825)])
set_option maxRecDepth 100000 in
theorem run_17_54 : runOK cs_17_54 = true := by decide +kernel
def cs_17_55 : SCR × BD := ((9, [(.leaf (6, 0)), (.leaf (6, 1)), (.leaf (6, 2)), (.leaf (6, 3)), (.leaf (0, 1)), (.leaf (0, 3)), (.leaf (6, 6)), (.leaf (0, 1)), (.leaf (6, 8))]), [((.branch 3 (.leaf (6, 3)) (.leaf (0, 31))), 9223372036854775825, 9223372036854775825)])
set_option maxRecDepth 100000 in
theorem run_17_55 : runOK cs_17_55 = true := by decide +kernel
def cs_17_56 : SCR × BD := ((9, [(.leaf (6, 0)), (.leaf (6, 1)), (.leaf (6, 2)), (.leaf (6, 3)), (.leaf (0, 1)), (.leaf (0, 3)), (.leaf (6, 6)), (.leaf (0, 2)), (.leaf (6, 8))]), [((.branch 3 (.leaf (6, 3)) (.leaf (0, 31))), 9223372036854775825, 9223372036854775825)])
set_option maxRecDepth 100000 in
theorem run_17_56 : runOK cs_17_56 = true := by decide +kernel
def cs_17_57 : SCR × BD := ((9, [(.leaf (6, 0)), (.leaf (6, 1)), (.leaf (6, 2)), (.leaf (6, 3)), (.leaf (0, 1)), (.leaf (0, 3)), (.leaf (6, 6)), (.leaf (0, 3)), (.leaf (6, 8))]), [((.branch 3 (.leaf (6, 3)) (.leaf (0, 31))), 9223372036854775825, 9223372036854775825)])
set_option maxRecDepth 100000 in
theorem run_17_57 : runOK cs_17_57 = true := by decide +kernel
def cs_17_58 : SCR × BD := ((9, [(.leaf (6, 0)), (.leaf (6, 1)), (.leaf (6, 2)), (.leaf (6, 3)), (.leaf (0, 1)), (.leaf (0, 3)), (.leaf (6, 6)), (.leaf (0, 4)), (.leaf (6, 8))]), [((.branch 3 (.leaf (6, 3)) (.leaf (0, 31))), 9223372036854775825, 9223372036854775825)])
set_option maxRecDepth 100000 in
theorem run_17_58 : runOK cs_17_58 = true := by decide +kernel
def cs_17_59 : SCR × BD := ((9, [(.leaf (6, 0)), (.leaf (6, 1)), (.leaf (6, 2)), (.leaf (6, 3)), (.leaf (0, 1)), (.leaf (0, 3)), (.leaf (6, 6)), (.leaf (0, 5)), (.leaf (6, 8))]), [((.branch 3 (.leaf (6, 3)) (.leaf (0, 31))), 9223372036854775825, 9223372036854775825)])
set_option maxRecDepth 100000 in
theorem run_17_59 : runOK cs_17_59 = true := by decide +kernel
def cs_17_60 : SCR × BD := ((9, [(.leaf (6, 0)), (.leaf (6, 1)), (.leaf (6, 2)), (.leaf (6, 3)), (.leaf (0, 1)), (.leaf (0, 3)), (.leaf (6, 6)), (.leaf (6, 7)), (.leaf (6, 8))]), [((.leaf (6, 7)), 9223372034707292160, 9223372036854775807), ((.branch 3 (.leaf (6, 3)) (.leaf (0, 31))), 9223372036854775825, 9223372036854775825)])
set_option maxRecDepth 100000 in
theorem run_17_60 : runOK cs_17_60 = true := by decide +kernel
def cs_17_61 : SCR × BD := ((9, [(.leaf (6, 0)), (.leaf (6, 1)), (.leaf (6, 2)), (.leaf (6, 3)), (.leaf (0, 1)), (.leaf (0, 3)), (.leaf (6, 6)), (.leaf (6, 7)), (.leaf (6, 8))]), [((.leaf (6, 7)), 9223372036854775814, 9223372039002259455), ((.branch 3 (.leaf (6, 3)) (.leaf (0, 31))), 9223372036854775825, 9223372036854775825)])
set_option maxRecDepth 100000 in
theorem run_17_61 : runOK cs_17_61 = true := by decide +kernel
def cs_17_62 : SCR × BD := ((9, [(.leaf (6, 0)), (.leaf (6, 1)), (.leaf (6, 2)), (.leaf (6, 3)), (.leaf (0, 1)), (.leaf (0, 4)), (.leaf (6, 6)), (.leaf (0, 0)), (.leaf (6, 8))]), [((.branch 3 (.leaf (6, 3)) (.leaf (0, 31))), 9223372036854775825, 9223372036854775825)])
set_option maxRecDepth 100000 in
theorem run_17_62 : runOK cs_17_62 = true := by decide +kernel
def cs_17_63 : SCR × BD := ((9, [(.leaf (6, 0)), (.leaf (6, 1)), (.leaf (6, 2)), (.leaf (6, 3)), (.leaf (0, 1)), (.leaf (0, 4)), (.leaf (6, 6)), (.leaf (0, 1)), (.leaf (6, 8))]), [((.branch 3 (.leaf (6, 3)) (.leaf (0, 31))), 9223372036854775825, 9223372036854775825)])
set_option maxRecDepth 100000 in
theorem run_17_63 : runOK cs_17_63 = true := by decide +kernel
def cs_17_64 : SCR × BD := ((9, [(.leaf (6, 0)), (.leaf (6, 1)), (.leaf (6, 2)), (.leaf (6, 3)), (.leaf (0, 1)), (.leaf (0, 4)), (.leaf (6, 6)), (.leaf (0, 2)), (.leaf (6, 8))]), [((.branch 3 (.leaf (6, 3)) (.leaf (0, 31))), 9223372036854775825, 9223372036854775825)])
set_option maxRecDepth 100000 in
theorem run_17_64 : runOK cs_17_64 = true := by decide +kernel
def cs_17_65 : SCR × BD := ((9, [(.leaf (6, 0)), (.leaf (6, 1)), (.leaf (6, 2)), (.leaf (6, 3)), (.leaf (0, 1)), (.leaf (0, 4)), (.leaf (6, 6)), (.leaf (0, 3)), (.leaf (6, 8))]), [((.branch 3 (.leaf (6, 3)) (.leaf (0, 31))), 9223372036854775825, 9223372036854775825)])
set_option maxRecDepth 100000 in
theorem run_17_65 : runOK cs_17_65 = true := by decide +kernel
def cs_17_66 : SCR × BD := ((9, [(.leaf (6, 0)), (.leaf (6, 1)), (.leaf (6, 2)), (.leaf (6, 3)), (.leaf (0, 1)), (.leaf (0, 4)), (.leaf (6, 6)), (.leaf (0, 4)), (.leaf (6, 8))]), [((.branch 3 (.leaf (6, 3)) (.leaf (0, 31))), 9223372036854775825, 9223372036854775825)])
set_option maxRecDepth 100000 in
theorem run_17_66 : runOK cs_17_66 = true := by decide +kernel
def cs_17_67 : SCR × BD := ((9, [(.leaf (6, 0)), (.leaf (6, 1)), (.leaf (6, 2)), (.leaf (6, 3)), (.leaf (0, 1)), (.leaf (0, 4)), (.leaf (6, 6)), (.leaf (0, 5)), (.leaf (6, 8))]), [((.branch 3 (.leaf (6, 3)) (.leaf (0, 31))), 9223372036854775825, 9223372036854775825)])
set_option maxRecDepth 100000 in
theorem run_17_67 : runOK cs_17_67 = true := by decide +kernel
def cs_17_68 : SCR × BD := ((9, [(.leaf (6, 0)), (.leaf (6, 1)), (.leaf (6, 2)), (.leaf (6, 3)), (.leaf (0, 1)), (.leaf (0, 4)), (.leaf (6, 6)), (.leaf (6, 7)), (.leaf (6, 8))]), [((.leaf (6, 7)), 9223372034707292160, 9223372036854775807), ((.branch 3 (.leaf (6, 3)) (.leaf (0, 31))), 9223372036854775825, 9223372036854775825)])
set_option maxRecDepth 100000 in
theorem run_17_68 : runOK cs_17_68 = true := by decide +kernel
def cs_17_69 : SCR × BD := ((9, [(.leaf (6, 0)), (.leaf (6, 1)), (.leaf (6, 2)), (.leaf (6, 3)), (.leaf (0, 1)), (.leaf (0, 4)), (.leaf (6, 6)), (.leaf (6, 7)), (.leaf (6, 8))]), [((.leaf (6, 7)), 9223372036854775814, 9223372039002259455), ((.branch 3 (.leaf (6, 3)) (.leaf (0, 31))), 9223372036854775825, 9223372036854775825)])
set_option maxRecDepth 100000 in
theorem run_17_69 : runOK cs_17_69 = true := by decide +kernel
