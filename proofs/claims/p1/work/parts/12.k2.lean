set_option maxRecDepth 100000 in
theorem k_Fl_restart : ft_chk 22 = true := by decide +kernel
set_option maxRecDepth 100000 in
theorem k_Da_clear : ft_chk 23 = true := by decide +kernel
set_option maxRecDepth 100000 in
theorem k_F_open : ft_chk 24 = true := by decide +kernel
set_option maxRecDepth 100000 in
theorem k_En_send_0 : ft_chkL 25 ft_c25_0 = true := by decide +kernel
set_option maxRecDepth 100000 in
theorem k_En_send_1 : ft_chkL 25 ft_c25_1 = true := by decide +kernel
set_option maxRecDepth 100000 in
theorem k_En_send_2 : ft_chkL 25 ft_c25_2 = true := by decide +kernel
theorem k_En_send : ft_chk 25 = true := ft_chk_app k_En_send_0 (ft_chk_app k_En_send_1 (k_En_send_2))
set_option maxRecDepth 100000 in
theorem k_Pa_begin : ft_chk 26 = true := by decide +kernel
set_option maxRecDepth 100000 in
theorem k_Pa_appendNumber : ft_chk 27 = true := by decide +kernel
set_option maxRecDepth 100000 in
theorem k_Pa_hasAck : ft_chk 28 = true := by decide +kernel
set_option maxRecDepth 100000 in
theorem k_Co_moveTo : ft_chk 30 = true := by decide +kernel
set_option maxRecDepth 100000 in
theorem k_Ag_writeChanges : ft_chk 31 = true := by decide +kernel
set_option maxRecDepth 100000 in
theorem k_Ch_item : ft_chk 32 = true := by decide +kernel
set_option maxRecDepth 100000 in
theorem k_Ag_find : ft_chk 34 = true := by decide +kernel
set_option maxRecDepth 100000 in
theorem k_Pa_optionsAt : ft_chk 38 = true := by decide +kernel
set_option maxRecDepth 100000 in
theorem k_Pa_hasData : ft_chk 40 = true := by decide +kernel
set_option maxRecDepth 100000 in
theorem k_Re_noteOwn : ft_chk 43 = true := by decide +kernel
set_option maxRecDepth 100000 in
theorem k_Fl_note : ft_chk 44 = true := by decide +kernel
set_option maxRecDepth 100000 in
theorem k_Pa_makeCheckRight : ft_chk 45 = true := by decide +kernel
set_option maxRecDepth 100000 in
theorem k_Pa_check_0 : ft_chkL 46 ft_c46_0 = true := by decide +kernel
set_option maxRecDepth 100000 in
theorem k_Pa_check_1 : ft_chkL 46 ft_c46_1 = true := by decide +kernel
theorem k_Pa_check : ft_chk 46 = true := ft_chk_app k_Pa_check_0 (k_Pa_check_1)
set_option maxRecDepth 100000 in
theorem k_Li_post : ft_chk 47 = true := by decide +kernel
set_option maxRecDepth 100000 in
theorem k_F_listen : ft_chk 48 = true := by decide +kernel
set_option maxRecDepth 100000 in
theorem k_F_close : ft_chk 49 = true := by decide +kernel
set_option maxRecDepth 100000 in
theorem k_F_isEnd : ft_chk 50 = true := by decide +kernel
set_option maxRecDepth 100000 in
theorem k_En_leave : ft_chk 51 = true := by decide +kernel
set_option maxRecDepth 100000 in
theorem k_F_give_0 : ft_chkL 53 ft_c53_0 = true := by decide +kernel
set_option maxRecDepth 100000 in
theorem k_F_give_1 : ft_chkL 53 ft_c53_1 = true := by decide +kernel
theorem k_F_give : ft_chk 53 = true := ft_chk_app k_F_give_0 (k_F_give_1)
set_option maxRecDepth 100000 in
theorem k_Da_waiting : ft_chk 54 = true := by decide +kernel
set_option maxRecDepth 100000 in
theorem k_F_want_0 : ft_chkL 57 ft_c57_0 = true := by decide +kernel
set_option maxRecDepth 100000 in
theorem k_F_want_1 : ft_chkL 57 ft_c57_1 = true := by decide +kernel
theorem k_F_want : ft_chk 57 = true := ft_chk_app k_F_want_0 (k_F_want_1)
set_option maxRecDepth 100000 in
theorem k_Ch_unpack : ft_chk 58 = true := by decide +kernel
set_option maxRecDepth 100000 in
theorem k_Ch_isRightFor_0 : ft_chkL 59 ft_c59_0 = true := by decide +kernel
set_option maxRecDepth 100000 in
theorem k_Ch_isRightFor_1 : ft_chkL 59 ft_c59_1 = true := by decide +kernel
theorem k_Ch_isRightFor : ft_chk 59 = true := ft_chk_app k_Ch_isRightFor_0 (k_Ch_isRightFor_1)
set_option maxRecDepth 100000 in
theorem k_Ag_changing : ft_chk 62 = true := by decide +kernel
set_option maxRecDepth 100000 in
theorem k_F_tick_0 : ft_chkL 63 ft_c63_0 = true := by decide +kernel
set_option maxRecDepth 100000 in
theorem k_F_tick_1 : ft_chkL 63 ft_c63_1 = true := by decide +kernel
theorem k_F_tick : ft_chk 63 = true := ft_chk_app k_F_tick_0 (k_F_tick_1)
set_option maxRecDepth 100000 in
theorem k_Li_has : ft_chk 65 = true := by decide +kernel
set_option maxRecDepth 100000 in
theorem k_F_isAfter : ft_chk 81 = true := by decide +kernel
set_option maxRecDepth 100000 in
theorem k_Math_min2 : ft_chk 98 = true := by decide +kernel
set_option maxRecDepth 100000 in
theorem k_En_pass : ft_chk 102 = true := by decide +kernel
set_option maxRecDepth 100000 in
theorem k_En_passState_0 : ft_chkL 103 ft_c103_0 = true := by decide +kernel
set_option maxRecDepth 100000 in
theorem k_En_passState_1 : ft_chkL 103 ft_c103_1 = true := by decide +kernel
theorem k_En_passState : ft_chk 103 = true := ft_chk_app k_En_passState_0 (k_En_passState_1)
set_option maxRecDepth 100000 in
theorem k_F_lose : ft_chk 109 = true := by decide +kernel
set_option maxRecDepth 100000 in
theorem k_F_hold : ft_chk 110 = true := by decide +kernel
set_option maxRecDepth 100000 in
theorem k_F_repeat : ft_chk 111 = true := by decide +kernel
set_option maxRecDepth 100000 in
theorem k_Pa_fill : ft_chk 112 = true := by decide +kernel
set_option maxRecDepth 100000 in
theorem k_F_alter : ft_chk 113 = true := by decide +kernel
set_option maxRecDepth 100000 in
theorem k_F_feed : ft_chk 114 = true := by decide +kernel
set_option maxRecDepth 100000 in
theorem k_F_feedOne : ft_chk 115 = true := by decide +kernel
set_option maxRecDepth 100000 in
theorem k_F_put : ft_chk 116 = true := by decide +kernel
set_option maxRecDepth 100000 in
theorem k_F_way : ft_chk 117 = true := by decide +kernel
set_option maxRecDepth 100000 in
theorem k_F_packet : ft_chk 118 = true := by decide +kernel
set_option maxRecDepth 100000 in
theorem k_F_octet : ft_chk 119 = true := by decide +kernel
set_option maxRecDepth 100000 in
theorem k_F_state : ft_chk 120 = true := by decide +kernel
set_option maxRecDepth 100000 in
theorem k_F_number : ft_chk 121 = true := by decide +kernel
set_option maxRecDepth 100000 in
theorem k_F_feature : ft_chk 122 = true := by decide +kernel
set_option maxRecDepth 100000 in
theorem k_F_count_0 : ft_chkL 123 ft_c123_0 = true := by decide +kernel
set_option maxRecDepth 100000 in
theorem k_F_count_1 : ft_chkL 123 ft_c123_1 = true := by decide +kernel
theorem k_F_count : ft_chk 123 = true := ft_chk_app k_F_count_0 (k_F_count_1)
set_option maxRecDepth 100000 in
theorem k_F_got : ft_chk 124 = true := by decide +kernel
set_option maxRecDepth 100000 in
theorem k_F_seen : ft_chk 127 = true := by decide +kernel
set_option maxRecDepth 100000 in
theorem k_F_sent : ft_chk 128 = true := by decide +kernel
set_option maxRecDepth 100000 in
theorem k_L_cell : ft_chk 129 = true := by decide +kernel
set_option maxRecDepth 100000 in
theorem k_M_init_0 : ft_chkL 130 ft_c130_0 = true := by decide +kernel
set_option maxRecDepth 100000 in
theorem k_M_init_1 : ft_chkL 130 ft_c130_1 = true := by decide +kernel
set_option maxRecDepth 100000 in
theorem k_M_init_2 : ft_chkL 130 ft_c130_2 = true := by decide +kernel
set_option maxRecDepth 100000 in
theorem k_M_init_3 : ft_chkL 130 ft_c130_3 = true := by decide +kernel
set_option maxRecDepth 100000 in
theorem k_M_init_4 : ft_chkL 130 ft_c130_4 = true := by decide +kernel
theorem k_M_init : ft_chk 130 = true := ft_chk_app k_M_init_0 (ft_chk_app k_M_init_1 (ft_chk_app k_M_init_2 (ft_chk_app k_M_init_3 (k_M_init_4))))
set_option maxRecDepth 100000 in
theorem k_M_around : ft_chk 131 = true := by decide +kernel
set_option maxRecDepth 100000 in
theorem k_M_atFirst_0 : ft_chkL 132 ft_c132_0 = true := by decide +kernel
set_option maxRecDepth 100000 in
theorem k_M_atFirst_1 : ft_chkL 132 ft_c132_1 = true := by decide +kernel
set_option maxRecDepth 100000 in
theorem k_M_atFirst_2 : ft_chkL 132 ft_c132_2 = true := by decide +kernel
set_option maxRecDepth 100000 in
theorem k_M_atFirst_3 : ft_chkL 132 ft_c132_3 = true := by decide +kernel
theorem k_M_atFirst : ft_chk 132 = true := ft_chk_app k_M_atFirst_0 (ft_chk_app k_M_atFirst_1 (ft_chk_app k_M_atFirst_2 (k_M_atFirst_3)))
set_option maxRecDepth 100000 in
theorem k_M_feat : ft_chk 133 = true := by decide +kernel
set_option maxRecDepth 100000 in
theorem k_M_open : ft_chk 134 = true := by decide +kernel
set_option maxRecDepth 100000 in
theorem k_M_become : ft_chk 135 = true := by decide +kernel
set_option maxRecDepth 100000 in
theorem k_M_sendPlain : ft_chk 136 = true := by decide +kernel
set_option maxRecDepth 100000 in
theorem k_M_send_0 : ft_chkL 137 ft_c137_0 = true := by decide +kernel
set_option maxRecDepth 100000 in
theorem k_M_send_1 : ft_chkL 137 ft_c137_1 = true := by decide +kernel
set_option maxRecDepth 100000 in
theorem k_M_send_2 : ft_chkL 137 ft_c137_2 = true := by decide +kernel
set_option maxRecDepth 100000 in
theorem k_M_send_3 : ft_chkL 137 ft_c137_3 = true := by decide +kernel
set_option maxRecDepth 100000 in
theorem k_M_send_4 : ft_chkL 137 ft_c137_4 = true := by decide +kernel
theorem k_M_send : ft_chk 137 = true := ft_chk_app k_M_send_0 (ft_chk_app k_M_send_1 (ft_chk_app k_M_send_2 (ft_chk_app k_M_send_3 (k_M_send_4))))
set_option maxRecDepth 100000 in
theorem k_M_pipe : ft_chk 138 = true := by decide +kernel
set_option maxRecDepth 100000 in
theorem k_M_isOwn : ft_chk 139 = true := by decide +kernel
set_option maxRecDepth 100000 in
theorem k_M_in : ft_chk 140 = true := by decide +kernel
set_option maxRecDepth 100000 in
theorem k_M_before : ft_chk 141 = true := by decide +kernel
set_option maxRecDepth 100000 in
theorem k_M_after : ft_chk 142 = true := by decide +kernel
set_option maxRecDepth 100000 in
theorem k_M_at : ft_chk 143 = true := by decide +kernel
set_option maxRecDepth 100000 in
theorem k_M_byteOf : ft_chk 144 = true := by decide +kernel
set_option maxRecDepth 100000 in
theorem k_M_six : ft_chk 145 = true := by decide +kernel
set_option maxRecDepth 100000 in
theorem k_M_hasAck : ft_chk 146 = true := by decide +kernel
set_option maxRecDepth 100000 in
theorem k_M_putConfirms_0 : ft_chkL 147 ft_c147_0 = true := by decide +kernel
set_option maxRecDepth 100000 in
theorem k_M_putConfirms_1 : ft_chkL 147 ft_c147_1 = true := by decide +kernel
theorem k_M_putConfirms : ft_chk 147 = true := ft_chk_app k_M_putConfirms_0 (k_M_putConfirms_1)
set_option maxRecDepth 100000 in
theorem k_M_putChanges_0 : ft_chkL 149 ft_c149_0 = true := by decide +kernel
set_option maxRecDepth 100000 in
theorem k_M_putChanges_1 : ft_chkL 149 ft_c149_1 = true := by decide +kernel
theorem k_M_putChanges : ft_chk 149 = true := ft_chk_app k_M_putChanges_0 (k_M_putChanges_1)
set_option maxRecDepth 100000 in
theorem k_M_checkOf : ft_chk 153 = true := by decide +kernel
set_option maxRecDepth 100000 in
theorem k_M_listen : ft_chk 154 = true := by decide +kernel
set_option maxRecDepth 100000 in
theorem k_M_close : ft_chk 155 = true := by decide +kernel
set_option maxRecDepth 100000 in
theorem k_M_isEnd : ft_chk 156 = true := by decide +kernel
set_option maxRecDepth 100000 in
theorem k_M_give_0 : ft_chkL 158 ft_c158_0 = true := by decide +kernel
set_option maxRecDepth 100000 in
theorem k_M_give_1 : ft_chkL 158 ft_c158_1 = true := by decide +kernel
theorem k_M_give : ft_chk 158 = true := ft_chk_app k_M_give_0 (k_M_give_1)
set_option maxRecDepth 100000 in
theorem k_M_want_0 : ft_chkL 159 ft_c159_0 = true := by decide +kernel
set_option maxRecDepth 100000 in
theorem k_M_want_1 : ft_chkL 159 ft_c159_1 = true := by decide +kernel
theorem k_M_want : ft_chk 159 = true := ft_chk_app k_M_want_0 (k_M_want_1)
set_option maxRecDepth 100000 in
theorem k_M_isList : ft_chk 160 = true := by decide +kernel
set_option maxRecDepth 100000 in
theorem k_M_mayBe : ft_chk 161 = true := by decide +kernel
set_option maxRecDepth 100000 in
theorem k_M_changes : ft_chk 162 = true := by decide +kernel
set_option maxRecDepth 100000 in
theorem k_M_tick : ft_chk 163 = true := by decide +kernel
set_option maxRecDepth 100000 in
theorem k_M_one_0 : ft_chkL 164 ft_c164_0 = true := by decide +kernel
set_option maxRecDepth 100000 in
theorem k_M_one_1 : ft_chkL 164 ft_c164_1 = true := by decide +kernel
theorem k_M_one : ft_chk 164 = true := ft_chk_app k_M_one_0 (k_M_one_1)
set_option maxRecDepth 100000 in
theorem k_M_turn_0 : ft_chkL 188 ft_c188_0 = true := by decide +kernel
set_option maxRecDepth 100000 in
theorem k_M_turn_1 : ft_chkL 188 ft_c188_1 = true := by decide +kernel
theorem k_M_turn : ft_chk 188 = true := ft_chk_app k_M_turn_0 (k_M_turn_1)
set_option maxRecDepth 100000 in
theorem k_M_timers_0 : ft_chkL 189 ft_c189_0 = true := by decide +kernel
set_option maxRecDepth 100000 in
theorem k_M_timers_1 : ft_chkL 189 ft_c189_1 = true := by decide +kernel
set_option maxRecDepth 100000 in
theorem k_M_timers_2 : ft_chkL 189 ft_c189_2 = true := by decide +kernel
theorem k_M_timers : ft_chk 189 = true := ft_chk_app k_M_timers_0 (ft_chk_app k_M_timers_1 (k_M_timers_2))
set_option maxRecDepth 100000 in
theorem k_M_lose : ft_chk 194 = true := by decide +kernel
set_option maxRecDepth 100000 in
theorem k_M_isThere : ft_chk 195 = true := by decide +kernel
set_option maxRecDepth 100000 in
theorem k_M_hold : ft_chk 196 = true := by decide +kernel
set_option maxRecDepth 100000 in
theorem k_M_repeat_0 : ft_chkL 197 ft_c197_0 = true := by decide +kernel
set_option maxRecDepth 100000 in
theorem k_M_repeat_1 : ft_chkL 197 ft_c197_1 = true := by decide +kernel
theorem k_M_repeat : ft_chk 197 = true := ft_chk_app k_M_repeat_0 (k_M_repeat_1)
set_option maxRecDepth 100000 in
theorem k_M_alter : ft_chk 198 = true := by decide +kernel
set_option maxRecDepth 100000 in
theorem k_M_feed_0 : ft_chkL 199 ft_c199_0 = true := by decide +kernel
set_option maxRecDepth 100000 in
theorem k_M_feed_1 : ft_chkL 199 ft_c199_1 = true := by decide +kernel
theorem k_M_feed : ft_chk 199 = true := ft_chk_app k_M_feed_0 (k_M_feed_1)
set_option maxRecDepth 100000 in
theorem k_M_put_0 : ft_chkL 200 ft_c200_0 = true := by decide +kernel
set_option maxRecDepth 100000 in
theorem k_M_put_1 : ft_chkL 200 ft_c200_1 = true := by decide +kernel
theorem k_M_put : ft_chk 200 = true := ft_chk_app k_M_put_0 (k_M_put_1)
set_option maxRecDepth 100000 in
theorem k_M_way : ft_chk 201 = true := by decide +kernel
set_option maxRecDepth 100000 in
theorem k_M_packet : ft_chk 202 = true := by decide +kernel
set_option maxRecDepth 100000 in
theorem k_M_octet : ft_chk 203 = true := by decide +kernel
set_option maxRecDepth 100000 in
theorem k_M_state : ft_chk 204 = true := by decide +kernel
set_option maxRecDepth 100000 in
theorem k_M_number : ft_chk 205 = true := by decide +kernel
set_option maxRecDepth 100000 in
theorem k_M_feature_0 : ft_chkL 206 ft_c206_0 = true := by decide +kernel
set_option maxRecDepth 100000 in
theorem k_M_feature_1 : ft_chkL 206 ft_c206_1 = true := by decide +kernel
theorem k_M_feature : ft_chk 206 = true := ft_chk_app k_M_feature_0 (k_M_feature_1)
set_option maxRecDepth 100000 in
theorem k_M_count_0 : ft_chkL 207 ft_c207_0 = true := by decide +kernel
set_option maxRecDepth 100000 in
theorem k_M_count_1 : ft_chkL 207 ft_c207_1 = true := by decide +kernel
theorem k_M_count : ft_chk 207 = true := ft_chk_app k_M_count_0 (k_M_count_1)
set_option maxRecDepth 100000 in
theorem k_M_got : ft_chk 208 = true := by decide +kernel
set_option maxRecDepth 100000 in
theorem k_M_seen : ft_chk 209 = true := by decide +kernel
set_option maxRecDepth 100000 in
theorem k_M_sent : ft_chk 210 = true := by decide +kernel
