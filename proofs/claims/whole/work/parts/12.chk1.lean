set_option maxRecDepth 100000 in
theorem k_En_send_1 : ft_chkL 26 ft_c26_1 = true := by decide +kernel
set_option maxRecDepth 100000 in
theorem k_En_send_2 : ft_chkL 26 ft_c26_2 = true := by decide +kernel
theorem k_En_send : ft_chk 26 = true := ft_chk_app k_En_send_0 (ft_chk_app k_En_send_1 (k_En_send_2))
set_option maxRecDepth 100000 in
theorem k_Pa_begin : ft_chk 27 = true := by decide +kernel
set_option maxRecDepth 100000 in
theorem k_Pa_appendNumber : ft_chk 28 = true := by decide +kernel
set_option maxRecDepth 100000 in
theorem k_Pa_hasAck : ft_chk 29 = true := by decide +kernel
set_option maxRecDepth 100000 in
theorem k_Pa_append : ft_chk 30 = true := by decide +kernel
set_option maxRecDepth 100000 in
theorem k_Co_moveTo : ft_chk 31 = true := by decide +kernel
set_option maxRecDepth 100000 in
theorem k_Ag_writeChanges : ft_chk 32 = true := by decide +kernel
set_option maxRecDepth 100000 in
theorem k_Ch_item : ft_chk 33 = true := by decide +kernel
set_option maxRecDepth 100000 in
theorem k_Ag_valueOf : ft_chk 34 = true := by decide +kernel
set_option maxRecDepth 100000 in
theorem k_Ag_find : ft_chk 35 = true := by decide +kernel
set_option maxRecDepth 100000 in
theorem k_Re_writeVector_0 : ft_chkL 36 ft_c36_0 = true := by decide +kernel
set_option maxRecDepth 100000 in
theorem k_Re_writeVector_1 : ft_chkL 36 ft_c36_1 = true := by decide +kernel
theorem k_Re_writeVector : ft_chk 36 = true := ft_chk_app k_Re_writeVector_0 (k_Re_writeVector_1)
set_option maxRecDepth 100000 in
theorem k_Math_min : ft_chk 37 = true := by decide +kernel
set_option maxRecDepth 100000 in
theorem k_Re_markBehind : ft_chk 38 = true := by decide +kernel
set_option maxRecDepth 100000 in
theorem k_Pa_optionsAt : ft_chk 39 = true := by decide +kernel
set_option maxRecDepth 100000 in
theorem k_Pa_has : ft_chk 40 = true := by decide +kernel
set_option maxRecDepth 100000 in
theorem k_Pa_hasData : ft_chk 41 = true := by decide +kernel
set_option maxRecDepth 100000 in
theorem k_Da_moveFirstTo : ft_chk 42 = true := by decide +kernel
set_option maxRecDepth 100000 in
theorem k_Da_row : ft_chk 43 = true := by decide +kernel
set_option maxRecDepth 100000 in
theorem k_Re_noteOwn : ft_chk 44 = true := by decide +kernel
set_option maxRecDepth 100000 in
theorem k_Fl_note : ft_chk 45 = true := by decide +kernel
set_option maxRecDepth 100000 in
theorem k_Pa_makeCheckRight : ft_chk 46 = true := by decide +kernel
set_option maxRecDepth 100000 in
theorem k_Pa_check_0 : ft_chkL 47 ft_c47_0 = true := by decide +kernel
set_option maxRecDepth 100000 in
theorem k_Pa_check_1 : ft_chkL 47 ft_c47_1 = true := by decide +kernel
theorem k_Pa_check : ft_chk 47 = true := ft_chk_app k_Pa_check_0 (k_Pa_check_1)
set_option maxRecDepth 100000 in
theorem k_Li_post : ft_chk 48 = true := by decide +kernel
set_option maxRecDepth 100000 in
theorem k_F_listen : ft_chk 49 = true := by decide +kernel
set_option maxRecDepth 100000 in
theorem k_F_close : ft_chk 50 = true := by decide +kernel
set_option maxRecDepth 100000 in
theorem k_F_isEnd : ft_chk 51 = true := by decide +kernel
set_option maxRecDepth 100000 in
theorem k_En_leave : ft_chk 52 = true := by decide +kernel
set_option maxRecDepth 100000 in
theorem k_En_abort : ft_chk 53 = true := by decide +kernel
set_option maxRecDepth 100000 in
theorem k_F_give_0 : ft_chkL 54 ft_c54_0 = true := by decide +kernel
set_option maxRecDepth 100000 in
theorem k_F_give_1 : ft_chkL 54 ft_c54_1 = true := by decide +kernel
theorem k_F_give : ft_chk 54 = true := ft_chk_app k_F_give_0 (k_F_give_1)
set_option maxRecDepth 100000 in
theorem k_Da_waiting : ft_chk 55 = true := by decide +kernel
set_option maxRecDepth 100000 in
theorem k_Da_begin : ft_chk 56 = true := by decide +kernel
set_option maxRecDepth 100000 in
theorem k_Da_append : ft_chk 57 = true := by decide +kernel
