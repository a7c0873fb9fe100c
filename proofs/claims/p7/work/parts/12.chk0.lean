set_option maxRecDepth 100000 in
theorem k_L_law_0 : ft_chkL 0 ft_c0_0 = true := by decide +kernel
set_option maxRecDepth 100000 in
theorem k_L_law_1 : ft_chkL 0 ft_c0_1 = true := by decide +kernel
set_option maxRecDepth 100000 in
theorem k_L_law_2 : ft_chkL 0 ft_c0_2 = true := by decide +kernel
set_option maxRecDepth 100000 in
theorem k_L_law_3 : ft_chkL 0 ft_c0_3 = true := by decide +kernel
set_option maxRecDepth 100000 in
theorem k_L_law_4 : ft_chkL 0 ft_c0_4 = true := by decide +kernel
set_option maxRecDepth 100000 in
theorem k_L_law_5 : ft_chkL 0 ft_c0_5 = true := by decide +kernel
set_option maxRecDepth 100000 in
theorem k_L_law_6 : ft_chkL 0 ft_c0_6 = true := by decide +kernel
set_option maxRecDepth 100000 in
theorem k_L_law_7 : ft_chkL 0 ft_c0_7 = true := by decide +kernel
set_option maxRecDepth 100000 in
theorem k_L_law_8 : ft_chkL 0 ft_c0_8 = true := by decide +kernel
set_option maxRecDepth 100000 in
theorem k_L_law_9 : ft_chkL 0 ft_c0_9 = true := by decide +kernel
set_option maxRecDepth 100000 in
theorem k_L_law_10 : ft_chkL 0 ft_c0_10 = true := by decide +kernel
set_option maxRecDepth 100000 in
theorem k_L_law_11 : ft_chkL 0 ft_c0_11 = true := by decide +kernel
set_option maxRecDepth 100000 in
theorem k_L_law_12 : ft_chkL 0 ft_c0_12 = true := by decide +kernel
theorem k_L_law : ft_chk 0 = true := ft_chk_app k_L_law_0 (ft_chk_app k_L_law_1 (ft_chk_app k_L_law_2 (ft_chk_app k_L_law_3 (ft_chk_app k_L_law_4 (ft_chk_app k_L_law_5 (ft_chk_app k_L_law_6 (ft_chk_app k_L_law_7 (ft_chk_app k_L_law_8 (ft_chk_app k_L_law_9 (ft_chk_app k_L_law_10 (ft_chk_app k_L_law_11 (k_L_law_12))))))))))))
set_option maxRecDepth 100000 in
theorem k_F_init : ft_chk 1 = true := by decide +kernel
set_option maxRecDepth 100000 in
theorem k_Math_floorMod : ft_chk 2 = true := by decide +kernel
set_option maxRecDepth 100000 in
theorem k_Li_init : ft_chk 3 = true := by decide +kernel
set_option maxRecDepth 100000 in
theorem k_Pa_init : ft_chk 4 = true := by decide +kernel
set_option maxRecDepth 100000 in
theorem k_En_init : ft_chk 5 = true := by decide +kernel
set_option maxRecDepth 100000 in
theorem k_Re_init : ft_chk 6 = true := by decide +kernel
set_option maxRecDepth 100000 in
theorem k_Fl_init : ft_chk 7 = true := by decide +kernel
set_option maxRecDepth 100000 in
theorem k_Da_init : ft_chk 8 = true := by decide +kernel
set_option maxRecDepth 100000 in
theorem k_Math_max : ft_chk 9 = true := by decide +kernel
set_option maxRecDepth 100000 in
theorem k_Ag_init : ft_chk 10 = true := by decide +kernel
set_option maxRecDepth 100000 in
theorem k_Co_init : ft_chk 11 = true := by decide +kernel
set_option maxRecDepth 100000 in
theorem k_Ch_init : ft_chk 12 = true := by decide +kernel
set_option maxRecDepth 100000 in
theorem k_Fe_init : ft_chk 13 = true := by decide +kernel
set_option maxRecDepth 100000 in
theorem k_En_restart : ft_chk 14 = true := by decide +kernel
set_option maxRecDepth 100000 in
theorem k_En_enter : ft_chk 15 = true := by decide +kernel
set_option maxRecDepth 100000 in
theorem k_Ag_restart : ft_chk 16 = true := by decide +kernel
set_option maxRecDepth 100000 in
theorem k_Fe_restart : ft_chk 17 = true := by decide +kernel
set_option maxRecDepth 100000 in
theorem k_F_isFeature : ft_chk 18 = true := by decide +kernel
set_option maxRecDepth 100000 in
theorem k_Ch_add : ft_chk 19 = true := by decide +kernel
set_option maxRecDepth 100000 in
theorem k_Re_restart : ft_chk 20 = true := by decide +kernel
set_option maxRecDepth 100000 in
theorem k_Arrays_fill : ft_chk 21 = true := by decide +kernel
set_option maxRecDepth 100000 in
theorem k_Fl_restart : ft_chk 22 = true := by decide +kernel
set_option maxRecDepth 100000 in
theorem k_Da_clear : ft_chk 23 = true := by decide +kernel
set_option maxRecDepth 100000 in
theorem k_F_open : ft_chk 24 = true := by decide +kernel
set_option maxRecDepth 100000 in
theorem k_En_send_0 : ft_chkL 25 ft_c25_0 = true := by decide +kernel
set_option maxRecDepth 100000 in
theorem k_En_send_1 : ft_chkL 25 ft_c25_1 = true := by decide +kernel
set_option maxRecDepth 100000 in
theorem k_En_send_2 : ft_chkL 25 ft_c25_2 = true := by decide +kernel
theorem k_En_send : ft_chk 25 = true := ft_chk_app k_En_send_0 (ft_chk_app k_En_send_1 (k_En_send_2))
set_option maxRecDepth 100000 in
theorem k_Pa_begin : ft_chk 26 = true := by decide +kernel
set_option maxRecDepth 100000 in
theorem k_Pa_appendNumber : ft_chk 27 = true := by decide +kernel
set_option maxRecDepth 100000 in
theorem k_Pa_hasAck : ft_chk 28 = true := by decide +kernel
set_option maxRecDepth 100000 in
theorem k_Pa_append : ft_chk 29 = true := by decide +kernel
set_option maxRecDepth 100000 in
theorem k_Co_moveTo : ft_chk 30 = true := by decide +kernel
set_option maxRecDepth 100000 in
theorem k_Ag_writeChanges : ft_chk 31 = true := by decide +kernel
set_option maxRecDepth 100000 in
theorem k_Ch_item : ft_chk 32 = true := by decide +kernel
set_option maxRecDepth 100000 in
theorem k_Ag_valueOf : ft_chk 33 = true := by decide +kernel
set_option maxRecDepth 100000 in
theorem k_Ag_find : ft_chk 34 = true := by decide +kernel
set_option maxRecDepth 100000 in
theorem k_Re_writeVector_0 : ft_chkL 35 ft_c35_0 = true := by decide +kernel
set_option maxRecDepth 100000 in
theorem k_Re_writeVector_1 : ft_chkL 35 ft_c35_1 = true := by decide +kernel
theorem k_Re_writeVector : ft_chk 35 = true := ft_chk_app k_Re_writeVector_0 (k_Re_writeVector_1)
set_option maxRecDepth 100000 in
theorem k_Math_min : ft_chk 36 = true := by decide +kernel
set_option maxRecDepth 100000 in
theorem k_Re_markBehind : ft_chk 37 = true := by decide +kernel
set_option maxRecDepth 100000 in
theorem k_Pa_optionsAt : ft_chk 38 = true := by decide +kernel
set_option maxRecDepth 100000 in
theorem k_Pa_has : ft_chk 39 = true := by decide +kernel
set_option maxRecDepth 100000 in
theorem k_Pa_hasData : ft_chk 40 = true := by decide +kernel
set_option maxRecDepth 100000 in
theorem k_Da_moveFirstTo : ft_chk 41 = true := by decide +kernel
