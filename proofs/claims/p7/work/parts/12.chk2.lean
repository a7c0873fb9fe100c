set_option maxRecDepth 100000 in
theorem k_Ch_firstThatIsIn : ft_chk 86 = true := by decide +kernel
set_option maxRecDepth 100000 in
theorem k_Ag_hearConfirm_0 : ft_chkL 87 ft_c87_0 = true := by decide +kernel
set_option maxRecDepth 100000 in
theorem k_Ag_hearConfirm_1 : ft_chkL 87 ft_c87_1 = true := by decide +kernel
theorem k_Ag_hearConfirm : ft_chk 87 = true := ft_chk_app k_Ag_hearConfirm_0 (k_Ag_hearConfirm_1)
set_option maxRecDepth 100000 in
theorem k_En_comeRequesting_0 : ft_chkL 88 ft_c88_0 = true := by decide +kernel
set_option maxRecDepth 100000 in
theorem k_En_comeRequesting_1 : ft_chkL 88 ft_c88_1 = true := by decide +kernel
theorem k_En_comeRequesting : ft_chk 88 = true := ft_chk_app k_En_comeRequesting_0 (k_En_comeRequesting_1)
set_option maxRecDepth 100000 in
theorem k_En_ackFits : ft_chk 89 = true := by decide +kernel
set_option maxRecDepth 100000 in
theorem k_En_comeLive_0 : ft_chkL 90 ft_c90_0 = true := by decide +kernel
set_option maxRecDepth 100000 in
theorem k_En_comeLive_1 : ft_chkL 90 ft_c90_1 = true := by decide +kernel
set_option maxRecDepth 100000 in
theorem k_En_comeLive_2 : ft_chkL 90 ft_c90_2 = true := by decide +kernel
theorem k_En_comeLive : ft_chk 90 = true := ft_chk_app k_En_comeLive_0 (ft_chk_app k_En_comeLive_1 (k_En_comeLive_2))
set_option maxRecDepth 100000 in
theorem k_Re_fits : ft_chk 91 = true := by decide +kernel
set_option maxRecDepth 100000 in
theorem k_En_sync : ft_chk 92 = true := by decide +kernel
set_option maxRecDepth 100000 in
theorem k_Re_has : ft_chk 93 = true := by decide +kernel
set_option maxRecDepth 100000 in
theorem k_Re_add : ft_chk 94 = true := by decide +kernel
set_option maxRecDepth 100000 in
theorem k_En_tell_0 : ft_chkL 95 ft_c95_0 = true := by decide +kernel
set_option maxRecDepth 100000 in
theorem k_En_tell_1 : ft_chkL 95 ft_c95_1 = true := by decide +kernel
theorem k_En_tell : ft_chk 95 = true := ft_chk_app k_En_tell_0 (k_En_tell_1)
set_option maxRecDepth 100000 in
theorem k_En_tellRow : ft_chk 96 = true := by decide +kernel
set_option maxRecDepth 100000 in
theorem k_Re_ownIsTold : ft_chk 97 = true := by decide +kernel
set_option maxRecDepth 100000 in
theorem k_Fl_isTold_0 : ft_chkL 98 ft_c98_0 = true := by decide +kernel
set_option maxRecDepth 100000 in
theorem k_Fl_isTold_1 : ft_chkL 98 ft_c98_1 = true := by decide +kernel
theorem k_Fl_isTold : ft_chk 98 = true := ft_chk_app k_Fl_isTold_0 (k_Fl_isTold_1)
set_option maxRecDepth 100000 in
theorem k_Math_min2 : ft_chk 99 = true := by decide +kernel
set_option maxRecDepth 100000 in
theorem k_Fl_findLost_0 : ft_chkL 100 ft_c100_0 = true := by decide +kernel
set_option maxRecDepth 100000 in
theorem k_Fl_findLost_1 : ft_chkL 100 ft_c100_1 = true := by decide +kernel
theorem k_Fl_findLost : ft_chk 100 = true := ft_chk_app k_Fl_findLost_0 (k_Fl_findLost_1)
set_option maxRecDepth 100000 in
theorem k_En_deliver : ft_chk 101 = true := by decide +kernel
set_option maxRecDepth 100000 in
theorem k_En_answer : ft_chk 102 = true := by decide +kernel
set_option maxRecDepth 100000 in
theorem k_En_pass : ft_chk 103 = true := by decide +kernel
set_option maxRecDepth 100000 in
theorem k_En_passState_0 : ft_chkL 104 ft_c104_0 = true := by decide +kernel
set_option maxRecDepth 100000 in
theorem k_En_passState_1 : ft_chkL 104 ft_c104_1 = true := by decide +kernel
theorem k_En_passState : ft_chk 104 = true := ft_chk_app k_En_passState_0 (k_En_passState_1)
set_option maxRecDepth 100000 in
theorem k_En_sayAgain : ft_chk 105 = true := by decide +kernel
set_option maxRecDepth 100000 in
theorem k_Fl_loseIfTooLong_0 : ft_chkL 106 ft_c106_0 = true := by decide +kernel
set_option maxRecDepth 100000 in
theorem k_Fl_loseIfTooLong_1 : ft_chkL 106 ft_c106_1 = true := by decide +kernel
theorem k_Fl_loseIfTooLong : ft_chk 106 = true := ft_chk_app k_Fl_loseIfTooLong_0 (k_Fl_loseIfTooLong_1)
set_option maxRecDepth 100000 in
theorem k_En_sendDatagrams_0 : ft_chkL 107 ft_c107_0 = true := by decide +kernel
set_option maxRecDepth 100000 in
theorem k_En_sendDatagrams_1 : ft_chkL 107 ft_c107_1 = true := by decide +kernel
theorem k_En_sendDatagrams : ft_chk 107 = true := ft_chk_app k_En_sendDatagrams_0 (k_En_sendDatagrams_1)
set_option maxRecDepth 100000 in
theorem k_En_mustSpeak : ft_chk 108 = true := by decide +kernel
set_option maxRecDepth 100000 in
theorem k_Ag_isChangeDue : ft_chk 109 = true := by decide +kernel
set_option maxRecDepth 100000 in
theorem k_F_lose : ft_chk 110 = true := by decide +kernel
set_option maxRecDepth 100000 in
theorem k_F_hold : ft_chk 111 = true := by decide +kernel
set_option maxRecDepth 100000 in
theorem k_F_repeat : ft_chk 112 = true := by decide +kernel
set_option maxRecDepth 100000 in
theorem k_Pa_fill : ft_chk 113 = true := by decide +kernel
set_option maxRecDepth 100000 in
theorem k_F_alter : ft_chk 114 = true := by decide +kernel
set_option maxRecDepth 100000 in
theorem k_F_feed : ft_chk 115 = true := by decide +kernel
set_option maxRecDepth 100000 in
theorem k_F_feedOne : ft_chk 116 = true := by decide +kernel
set_option maxRecDepth 100000 in
theorem k_F_put : ft_chk 117 = true := by decide +kernel
set_option maxRecDepth 100000 in
theorem k_F_way : ft_chk 118 = true := by decide +kernel
set_option maxRecDepth 100000 in
theorem k_F_packet : ft_chk 119 = true := by decide +kernel
set_option maxRecDepth 100000 in
theorem k_F_octet : ft_chk 120 = true := by decide +kernel
set_option maxRecDepth 100000 in
theorem k_F_state : ft_chk 121 = true := by decide +kernel
set_option maxRecDepth 100000 in
theorem k_F_number : ft_chk 122 = true := by decide +kernel
set_option maxRecDepth 100000 in
theorem k_F_feature : ft_chk 123 = true := by decide +kernel
set_option maxRecDepth 100000 in
theorem k_F_count_0 : ft_chkL 124 ft_c124_0 = true := by decide +kernel
set_option maxRecDepth 100000 in
theorem k_F_count_1 : ft_chkL 124 ft_c124_1 = true := by decide +kernel
theorem k_F_count : ft_chk 124 = true := ft_chk_app k_F_count_0 (k_F_count_1)
