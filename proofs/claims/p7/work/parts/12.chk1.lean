set_option maxRecDepth 100000 in
theorem k_Da_row : ft_chk 42 = true := by decide +kernel
set_option maxRecDepth 100000 in
theorem k_Re_noteOwn : ft_chk 43 = true := by decide +kernel
set_option maxRecDepth 100000 in
theorem k_Fl_note : ft_chk 44 = true := by decide +kernel
set_option maxRecDepth 100000 in
theorem k_Pa_makeCheckRight : ft_chk 45 = true := by decide +kernel
set_option maxRecDepth 100000 in
theorem k_Pa_check_0 : ft_chkL 46 ft_c46_0 = true := by decide +kernel
set_option maxRecDepth 100000 in
theorem k_Pa_check_1 : ft_chkL 46 ft_c46_1 = true := by decide +kernel
theorem k_Pa_check : ft_chk 46 = true := ft_chk_app k_Pa_check_0 (k_Pa_check_1)
set_option maxRecDepth 100000 in
theorem k_Li_post : ft_chk 47 = true := by decide +kernel
set_option maxRecDepth 100000 in
theorem k_F_listen : ft_chk 48 = true := by decide +kernel
set_option maxRecDepth 100000 in
theorem k_F_close : ft_chk 49 = true := by decide +kernel
set_option maxRecDepth 100000 in
theorem k_F_isEnd : ft_chk 50 = true := by decide +kernel
set_option maxRecDepth 100000 in
theorem k_En_leave : ft_chk 51 = true := by decide +kernel
set_option maxRecDepth 100000 in
theorem k_En_abort : ft_chk 52 = true := by decide +kernel
set_option maxRecDepth 100000 in
theorem k_F_give_0 : ft_chkL 53 ft_c53_0 = true := by decide +kernel
set_option maxRecDepth 100000 in
theorem k_F_give_1 : ft_chkL 53 ft_c53_1 = true := by decide +kernel
theorem k_F_give : ft_chk 53 = true := ft_chk_app k_F_give_0 (k_F_give_1)
set_option maxRecDepth 100000 in
theorem k_Da_waiting : ft_chk 54 = true := by decide +kernel
set_option maxRecDepth 100000 in
theorem k_Da_begin : ft_chk 55 = true := by decide +kernel
set_option maxRecDepth 100000 in
theorem k_Da_append : ft_chk 56 = true := by decide +kernel
set_option maxRecDepth 100000 in
theorem k_F_want_0 : ft_chkL 57 ft_c57_0 = true := by decide +kernel
set_option maxRecDepth 100000 in
theorem k_F_want_1 : ft_chkL 57 ft_c57_1 = true := by decide +kernel
theorem k_F_want : ft_chk 57 = true := ft_chk_app k_F_want_0 (k_F_want_1)
set_option maxRecDepth 100000 in
theorem k_Ch_unpack : ft_chk 58 = true := by decide +kernel
set_option maxRecDepth 100000 in
theorem k_Ch_isRightFor_0 : ft_chkL 59 ft_c59_0 = true := by decide +kernel
set_option maxRecDepth 100000 in
theorem k_Ch_isRightFor_1 : ft_chkL 59 ft_c59_1 = true := by decide +kernel
theorem k_Ch_isRightFor : ft_chk 59 = true := ft_chk_app k_Ch_isRightFor_0 (k_Ch_isRightFor_1)
set_option maxRecDepth 100000 in
theorem k_Ag_wish : ft_chk 60 = true := by decide +kernel
set_option maxRecDepth 100000 in
theorem k_Ch_copy : ft_chk 61 = true := by decide +kernel
set_option maxRecDepth 100000 in
theorem k_Ag_changing : ft_chk 62 = true := by decide +kernel
set_option maxRecDepth 100000 in
theorem k_F_tick_0 : ft_chkL 63 ft_c63_0 = true := by decide +kernel
set_option maxRecDepth 100000 in
theorem k_F_tick_1 : ft_chkL 63 ft_c63_1 = true := by decide +kernel
theorem k_F_tick : ft_chk 63 = true := ft_chk_app k_F_tick_0 (k_F_tick_1)
set_option maxRecDepth 100000 in
theorem k_Li_takeIfDue : ft_chk 64 = true := by decide +kernel
set_option maxRecDepth 100000 in
theorem k_Li_has : ft_chk 65 = true := by decide +kernel
set_option maxRecDepth 100000 in
theorem k_Li_take : ft_chk 66 = true := by decide +kernel
set_option maxRecDepth 100000 in
theorem k_En_come : ft_chk 67 = true := by decide +kernel
set_option maxRecDepth 100000 in
theorem k_Pa_isAsTold_0 : ft_chkL 68 ft_c68_0 = true := by decide +kernel
set_option maxRecDepth 100000 in
theorem k_Pa_isAsTold_1 : ft_chkL 68 ft_c68_1 = true := by decide +kernel
theorem k_Pa_isAsTold : ft_chk 68 = true := ft_chk_app k_Pa_isAsTold_0 (k_Pa_isAsTold_1)
set_option maxRecDepth 100000 in
theorem k_Pa_optionsEnd : ft_chk 69 = true := by decide +kernel
set_option maxRecDepth 100000 in
theorem k_En_reject : ft_chk 70 = true := by decide +kernel
set_option maxRecDepth 100000 in
theorem k_Pa_kind : ft_chk 71 = true := by decide +kernel
set_option maxRecDepth 100000 in
theorem k_En_comeListening : ft_chk 72 = true := by decide +kernel
set_option maxRecDepth 100000 in
theorem k_Pa_numberAt : ft_chk 73 = true := by decide +kernel
set_option maxRecDepth 100000 in
theorem k_Re_meet : ft_chk 74 = true := by decide +kernel
set_option maxRecDepth 100000 in
theorem k_Ag_hear_0 : ft_chkL 75 ft_c75_0 = true := by decide +kernel
set_option maxRecDepth 100000 in
theorem k_Ag_hear_1 : ft_chkL 75 ft_c75_1 = true := by decide +kernel
theorem k_Ag_hear : ft_chk 75 = true := ft_chk_app k_Ag_hear_0 (k_Ag_hear_1)
set_option maxRecDepth 100000 in
theorem k_Pa_byteAt : ft_chk 76 = true := by decide +kernel
set_option maxRecDepth 100000 in
theorem k_Ag_isRight : ft_chk 77 = true := by decide +kernel
set_option maxRecDepth 100000 in
theorem k_Ag_hearChange_0 : ft_chkL 78 ft_c78_0 = true := by decide +kernel
set_option maxRecDepth 100000 in
theorem k_Ag_hearChange_1 : ft_chkL 78 ft_c78_1 = true := by decide +kernel
theorem k_Ag_hearChange : ft_chk 78 = true := ft_chk_app k_Ag_hearChange_0 (k_Ag_hearChange_1)
set_option maxRecDepth 100000 in
theorem k_Co_addEmpty : ft_chk 79 = true := by decide +kernel
set_option maxRecDepth 100000 in
theorem k_Fe_hears : ft_chk 80 = true := by decide +kernel
set_option maxRecDepth 100000 in
theorem k_F_isAfter : ft_chk 81 = true := by decide +kernel
set_option maxRecDepth 100000 in
theorem k_Ch_read : ft_chk 82 = true := by decide +kernel
set_option maxRecDepth 100000 in
theorem k_Co_add : ft_chk 83 = true := by decide +kernel
set_option maxRecDepth 100000 in
theorem k_Ag_reconciled : ft_chk 84 = true := by decide +kernel
set_option maxRecDepth 100000 in
theorem k_Ch_firstThatIsIn : ft_chk 85 = true := by decide +kernel
