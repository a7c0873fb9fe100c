set_option maxRecDepth 100000 in
theorem k_Ag_hearConfirm_0 : ft_chkL 86 ft_c86_0 = true := by decide +kernel
set_option maxRecDepth 100000 in
theorem k_Ag_hearConfirm_1 : ft_chkL 86 ft_c86_1 = true := by decide +kernel
theorem k_Ag_hearConfirm : ft_chk 86 = true := ft_chk_app k_Ag_hearConfirm_0 (k_Ag_hearConfirm_1)
set_option maxRecDepth 100000 in
theorem k_En_comeRequesting_0 : ft_chkL 87 ft_c87_0 = true := by decide +kernel
set_option maxRecDepth 100000 in
theorem k_En_comeRequesting_1 : ft_chkL 87 ft_c87_1 = true := by decide +kernel
theorem k_En_comeRequesting : ft_chk 87 = true := ft_chk_app k_En_comeRequesting_0 (k_En_comeRequesting_1)
set_option maxRecDepth 100000 in
theorem k_En_ackFits : ft_chk 88 = true := by decide +kernel
set_option maxRecDepth 100000 in
theorem k_En_comeLive_0 : ft_chkL 89 ft_c89_0 = true := by decide +kernel
set_option maxRecDepth 100000 in
theorem k_En_comeLive_1 : ft_chkL 89 ft_c89_1 = true := by decide +kernel
set_option maxRecDepth 100000 in
theorem k_En_comeLive_2 : ft_chkL 89 ft_c89_2 = true := by decide +kernel
theorem k_En_comeLive : ft_chk 89 = true := ft_chk_app k_En_comeLive_0 (ft_chk_app k_En_comeLive_1 (k_En_comeLive_2))
set_option maxRecDepth 100000 in
theorem k_Re_fits : ft_chk 90 = true := by decide +kernel
set_option maxRecDepth 100000 in
theorem k_En_sync : ft_chk 91 = true := by decide +kernel
set_option maxRecDepth 100000 in
theorem k_Re_has : ft_chk 92 = true := by decide +kernel
set_option maxRecDepth 100000 in
theorem k_Re_add : ft_chk 93 = true := by decide +kernel
set_option maxRecDepth 100000 in
theorem k_En_tell_0 : ft_chkL 94 ft_c94_0 = true := by decide +kernel
set_option maxRecDepth 100000 in
theorem k_En_tell_1 : ft_chkL 94 ft_c94_1 = true := by decide +kernel
theorem k_En_tell : ft_chk 94 = true := ft_chk_app k_En_tell_0 (k_En_tell_1)
set_option maxRecDepth 100000 in
theorem k_En_tellRow : ft_chk 95 = true := by decide +kernel
set_option maxRecDepth 100000 in
theorem k_Re_ownIsTold : ft_chk 96 = true := by decide +kernel
set_option maxRecDepth 100000 in
theorem k_Fl_isTold_0 : ft_chkL 97 ft_c97_0 = true := by decide +kernel
set_option maxRecDepth 100000 in
theorem k_Fl_isTold_1 : ft_chkL 97 ft_c97_1 = true := by decide +kernel
theorem k_Fl_isTold : ft_chk 97 = true := ft_chk_app k_Fl_isTold_0 (k_Fl_isTold_1)
set_option maxRecDepth 100000 in
theorem k_Math_min2 : ft_chk 98 = true := by decide +kernel
set_option maxRecDepth 100000 in
theorem k_Fl_findLost_0 : ft_chkL 99 ft_c99_0 = true := by decide +kernel
set_option maxRecDepth 100000 in
theorem k_Fl_findLost_1 : ft_chkL 99 ft_c99_1 = true := by decide +kernel
theorem k_Fl_findLost : ft_chk 99 = true := ft_chk_app k_Fl_findLost_0 (k_Fl_findLost_1)
set_option maxRecDepth 100000 in
theorem k_En_deliver : ft_chk 100 = true := by decide +kernel
set_option maxRecDepth 100000 in
theorem k_En_answer : ft_chk 101 = true := by decide +kernel
set_option maxRecDepth 100000 in
theorem k_En_pass : ft_chk 102 = true := by decide +kernel
set_option maxRecDepth 100000 in
theorem k_En_passState_0 : ft_chkL 103 ft_c103_0 = true := by decide +kernel
set_option maxRecDepth 100000 in
theorem k_En_passState_1 : ft_chkL 103 ft_c103_1 = true := by decide +kernel
theorem k_En_passState : ft_chk 103 = true := ft_chk_app k_En_passState_0 (k_En_passState_1)
set_option maxRecDepth 100000 in
theorem k_En_sayAgain : ft_chk 104 = true := by decide +kernel
set_option maxRecDepth 100000 in
theorem k_Fl_loseIfTooLong_0 : ft_chkL 105 ft_c105_0 = true := by decide +kernel
set_option maxRecDepth 100000 in
theorem k_Fl_loseIfTooLong_1 : ft_chkL 105 ft_c105_1 = true := by decide +kernel
theorem k_Fl_loseIfTooLong : ft_chk 105 = true := ft_chk_app k_Fl_loseIfTooLong_0 (k_Fl_loseIfTooLong_1)
set_option maxRecDepth 100000 in
theorem k_En_sendDatagrams_0 : ft_chkL 106 ft_c106_0 = true := by decide +kernel
set_option maxRecDepth 100000 in
theorem k_En_sendDatagrams_1 : ft_chkL 106 ft_c106_1 = true := by decide +kernel
theorem k_En_sendDatagrams : ft_chk 106 = true := ft_chk_app k_En_sendDatagrams_0 (k_En_sendDatagrams_1)
set_option maxRecDepth 100000 in
theorem k_En_mustSpeak : ft_chk 107 = true := by decide +kernel
set_option maxRecDepth 100000 in
theorem k_Ag_isChangeDue : ft_chk 108 = true := by decide +kernel
set_option maxRecDepth 100000 in
theorem k_F_lose : ft_chk 109 = true := by decide +kernel
set_option maxRecDepth 100000 in
theorem k_F_hold : ft_chk 110 = true := by decide +kernel
set_option maxRecDepth 100000 in
theorem k_F_repeat : ft_chk 111 = true := by decide +kernel
set_option maxRecDepth 100000 in
theorem k_Pa_fill : ft_chk 112 = true := by decide +kernel
set_option maxRecDepth 100000 in
theorem k_F_alter : ft_chk 113 = true := by decide +kernel
set_option maxRecDepth 100000 in
theorem k_F_feed : ft_chk 114 = true := by decide +kernel
set_option maxRecDepth 100000 in
theorem k_F_feedOne : ft_chk 115 = true := by decide +kernel
set_option maxRecDepth 100000 in
theorem k_F_put : ft_chk 116 = true := by decide +kernel
set_option maxRecDepth 100000 in
theorem k_F_way : ft_chk 117 = true := by decide +kernel
set_option maxRecDepth 100000 in
theorem k_F_packet : ft_chk 118 = true := by decide +kernel
set_option maxRecDepth 100000 in
theorem k_F_octet : ft_chk 119 = true := by decide +kernel
set_option maxRecDepth 100000 in
theorem k_F_state : ft_chk 120 = true := by decide +kernel
set_option maxRecDepth 100000 in
theorem k_F_number : ft_chk 121 = true := by decide +kernel
set_option maxRecDepth 100000 in
theorem k_F_feature : ft_chk 122 = true := by decide +kernel
set_option maxRecDepth 100000 in
theorem k_F_count_0 : ft_chkL 123 ft_c123_0 = true := by decide +kernel
set_option maxRecDepth 100000 in
theorem k_F_count_1 : ft_chkL 123 ft_c123_1 = true := by decide +kernel
theorem k_F_count : ft_chk 123 = true := ft_chk_app k_F_count_0 (k_F_count_1)
set_option maxRecDepth 100000 in
theorem k_F_got : ft_chk 124 = true := by decide +kernel
