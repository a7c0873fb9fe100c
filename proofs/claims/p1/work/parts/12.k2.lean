set_option maxRecDepth 100000 in
theorem k_Arrays_fill2 : ft_chk 22 = true := by decide +kernel
set_option maxRecDepth 100000 in
theorem k_Fl_restart : ft_chk 23 = true := by decide +kernel
set_option maxRecDepth 100000 in
theorem k_Da_clear : ft_chk 24 = true := by decide +kernel
set_option maxRecDepth 100000 in
theorem k_F_open : ft_chk 25 = true := by decide +kernel
set_option maxRecDepth 100000 in
theorem k_En_send_0 : ft_chkL 26 ft_c26_0 = true := by decide +kernel
set_option maxRecDepth 100000 in
theorem k_En_send_1 : ft_chkL 26 ft_c26_1 = true := by decide +kernel
set_option maxRecDepth 100000 in
theorem k_En_send_2 : ft_chkL 26 ft_c26_2 = true := by decide +kernel
theorem k_En_send : ft_chk 26 = true := ft_chk_app k_En_send_0 (ft_chk_app k_En_send_1 (k_En_send_2))
set_option maxRecDepth 100000 in
theorem k_Pa_begin : ft_chk 27 = true := by decide +kernel
set_option maxRecDepth 100000 in
theorem k_Pa_appendNumber : ft_chk 28 = true := by decide +kernel
set_option maxRecDepth 100000 in
theorem k_Pa_hasAck : ft_chk 29 = true := by decide +kernel
set_option maxRecDepth 100000 in
theorem k_Co_moveTo : ft_chk 31 = true := by decide +kernel
set_option maxRecDepth 100000 in
theorem k_Ag_writeChanges : ft_chk 32 = true := by decide +kernel
set_option maxRecDepth 100000 in
theorem k_Ch_item : ft_chk 33 = true := by decide +kernel
set_option maxRecDepth 100000 in
theorem k_Ag_find : ft_chk 35 = true := by decide +kernel
set_option maxRecDepth 100000 in
theorem k_Pa_optionsAt : ft_chk 39 = true := by decide +kernel
set_option maxRecDepth 100000 in
theorem k_Pa_hasData : ft_chk 41 = true := by decide +kernel
set_option maxRecDepth 100000 in
theorem k_Re_noteOwn : ft_chk 44 = true := by decide +kernel
set_option maxRecDepth 100000 in
theorem k_Fl_note : ft_chk 45 = true := by decide +kernel
set_option maxRecDepth 100000 in
theorem k_Pa_makeCheckRight : ft_chk 46 = true := by decide +kernel
set_option maxRecDepth 100000 in
theorem k_Pa_check_0 : ft_chkL 47 ft_c47_0 = true := by decide +kernel
set_option maxRecDepth 100000 in
theorem k_Pa_check_1 : ft_chkL 47 ft_c47_1 = true := by decide +kernel
theorem k_Pa_check : ft_chk 47 = true := ft_chk_app k_Pa_check_0 (k_Pa_check_1)
set_option maxRecDepth 100000 in
theorem k_Li_post : ft_chk 48 = true := by decide +kernel
set_option maxRecDepth 100000 in
theorem k_F_listen : ft_chk 49 = true := by decide +kernel
set_option maxRecDepth 100000 in
theorem k_F_close : ft_chk 50 = true := by decide +kernel
set_option maxRecDepth 100000 in
theorem k_F_isEnd : ft_chk 51 = true := by decide +kernel
set_option maxRecDepth 100000 in
theorem k_En_leave : ft_chk 52 = true := by decide +kernel
set_option maxRecDepth 100000 in
theorem k_F_give_0 : ft_chkL 54 ft_c54_0 = true := by decide +kernel
set_option maxRecDepth 100000 in
theorem k_F_give_1 : ft_chkL 54 ft_c54_1 = true := by decide +kernel
theorem k_F_give : ft_chk 54 = true := ft_chk_app k_F_give_0 (k_F_give_1)
set_option maxRecDepth 100000 in
theorem k_Da_waiting : ft_chk 55 = true := by decide +kernel
set_option maxRecDepth 100000 in
theorem k_F_want_0 : ft_chkL 58 ft_c58_0 = true := by decide +kernel
set_option maxRecDepth 100000 in
theorem k_F_want_1 : ft_chkL 58 ft_c58_1 = true := by decide +kernel
theorem k_F_want : ft_chk 58 = true := ft_chk_app k_F_want_0 (k_F_want_1)
set_option maxRecDepth 100000 in
theorem k_Ch_unpack : ft_chk 59 = true := by decide +kernel
set_option maxRecDepth 100000 in
theorem k_Ch_isRightFor_0 : ft_chkL 60 ft_c60_0 = true := by decide +kernel
set_option maxRecDepth 100000 in
theorem k_Ch_isRightFor_1 : ft_chkL 60 ft_c60_1 = true := by decide +kernel
theorem k_Ch_isRightFor : ft_chk 60 = true := ft_chk_app k_Ch_isRightFor_0 (k_Ch_isRightFor_1)
set_option maxRecDepth 100000 in
theorem k_Ag_changing : ft_chk 63 = true := by decide +kernel
set_option maxRecDepth 100000 in
theorem k_F_tick_0 : ft_chkL 64 ft_c64_0 = true := by decide +kernel
set_option maxRecDepth 100000 in
theorem k_F_tick_1 : ft_chkL 64 ft_c64_1 = true := by decide +kernel
theorem k_F_tick : ft_chk 64 = true := ft_chk_app k_F_tick_0 (k_F_tick_1)
set_option maxRecDepth 100000 in
theorem k_Li_has : ft_chk 66 = true := by decide +kernel
set_option maxRecDepth 100000 in
theorem k_F_isAfter : ft_chk 82 = true := by decide +kernel
set_option maxRecDepth 100000 in
theorem k_Math_min2 : ft_chk 99 = true := by decide +kernel
set_option maxRecDepth 100000 in
theorem k_En_pass : ft_chk 103 = true := by decide +kernel
set_option maxRecDepth 100000 in
theorem k_En_passState_0 : ft_chkL 104 ft_c104_0 = true := by decide +kernel
set_option maxRecDepth 100000 in
theorem k_En_passState_1 : ft_chkL 104 ft_c104_1 = true := by decide +kernel
theorem k_En_passState : ft_chk 104 = true := ft_chk_app k_En_passState_0 (k_En_passState_1)
set_option maxRecDepth 100000 in
theorem k_F_lose : ft_chk 110 = true := by decide +kernel
set_option maxRecDepth 100000 in
theorem k_F_hold : ft_chk 111 = true := by decide +kernel
set_option maxRecDepth 100000 in
theorem k_F_repeat : ft_chk 112 = true := by decide +kernel
set_option maxRecDepth 100000 in
theorem k_Pa_fill : ft_chk 113 = true := by decide +kernel
set_option maxRecDepth 100000 in
theorem k_F_alter : ft_chk 114 = true := by decide +kernel
set_option maxRecDepth 100000 in
theorem k_F_feed : ft_chk 115 = true := by decide +kernel
set_option maxRecDepth 100000 in
theorem k_F_feedOne : ft_chk 116 = true := by decide +kernel
set_option maxRecDepth 100000 in
theorem k_F_put : ft_chk 117 = true := by decide +kernel
set_option maxRecDepth 100000 in
theorem k_F_way : ft_chk 118 = true := by decide +kernel
set_option maxRecDepth 100000 in
theorem k_F_packet : ft_chk 119 = true := by decide +kernel
set_option maxRecDepth 100000 in
theorem k_F_octet : ft_chk 120 = true := by decide +kernel
set_option maxRecDepth 100000 in
theorem k_F_state : ft_chk 121 = true := by decide +kernel
set_option maxRecDepth 100000 in
theorem k_F_number : ft_chk 122 = true := by decide +kernel
set_option maxRecDepth 100000 in
theorem k_F_feature : ft_chk 123 = true := by decide +kernel
set_option maxRecDepth 100000 in
theorem k_F_count_0 : ft_chkL 124 ft_c124_0 = true := by decide +kernel
set_option maxRecDepth 100000 in
theorem k_F_count_1 : ft_chkL 124 ft_c124_1 = true := by decide +kernel
theorem k_F_count : ft_chk 124 = true := ft_chk_app k_F_count_0 (k_F_count_1)
set_option maxRecDepth 100000 in
theorem k_F_got : ft_chk 125 = true := by decide +kernel
set_option maxRecDepth 100000 in
theorem k_F_seen : ft_chk 128 = true := by decide +kernel
set_option maxRecDepth 100000 in
theorem k_F_sent : ft_chk 129 = true := by decide +kernel
set_option maxRecDepth 100000 in
theorem k_L_cell : ft_chk 130 = true := by decide +kernel
set_option maxRecDepth 100000 in
theorem k_M_init_0 : ft_chkL 131 ft_c131_0 = true := by decide +kernel
set_option maxRecDepth 100000 in
theorem k_M_init_1 : ft_chkL 131 ft_c131_1 = true := by decide +kernel
set_option maxRecDepth 100000 in
theorem k_M_init_2 : ft_chkL 131 ft_c131_2 = true := by decide +kernel
set_option maxRecDepth 100000 in
theorem k_M_init_3 : ft_chkL 131 ft_c131_3 = true := by decide +kernel
set_option maxRecDepth 100000 in
theorem k_M_init_4 : ft_chkL 131 ft_c131_4 = true := by decide +kernel
theorem k_M_init : ft_chk 131 = true := ft_chk_app k_M_init_0 (ft_chk_app k_M_init_1 (ft_chk_app k_M_init_2 (ft_chk_app k_M_init_3 (k_M_init_4))))
set_option maxRecDepth 100000 in
theorem k_M_around : ft_chk 132 = true := by decide +kernel
set_option maxRecDepth 100000 in
theorem k_M_atFirst_0 : ft_chkL 133 ft_c133_0 = true := by decide +kernel
set_option maxRecDepth 100000 in
theorem k_M_atFirst_1 : ft_chkL 133 ft_c133_1 = true := by decide +kernel
set_option maxRecDepth 100000 in
theorem k_M_atFirst_2 : ft_chkL 133 ft_c133_2 = true := by decide +kernel
set_option maxRecDepth 100000 in
theorem k_M_atFirst_3 : ft_chkL 133 ft_c133_3 = true := by decide +kernel
theorem k_M_atFirst : ft_chk 133 = true := ft_chk_app k_M_atFirst_0 (ft_chk_app k_M_atFirst_1 (ft_chk_app k_M_atFirst_2 (k_M_atFirst_3)))
set_option maxRecDepth 100000 in
theorem k_M_feat : ft_chk 134 = true := by decide +kernel
set_option maxRecDepth 100000 in
theorem k_M_open : ft_chk 135 = true := by decide +kernel
set_option maxRecDepth 100000 in
theorem k_M_become : ft_chk 136 = true := by decide +kernel
set_option maxRecDepth 100000 in
theorem k_M_sendPlain : ft_chk 137 = true := by decide +kernel
set_option maxRecDepth 100000 in
theorem k_M_send_0 : ft_chkL 138 ft_c138_0 = true := by decide +kernel
set_option maxRecDepth 100000 in
theorem k_M_send_1 : ft_chkL 138 ft_c138_1 = true := by decide +kernel
set_option maxRecDepth 100000 in
theorem k_M_send_2 : ft_chkL 138 ft_c138_2 = true := by decide +kernel
set_option maxRecDepth 100000 in
theorem k_M_send_3 : ft_chkL 138 ft_c138_3 = true := by decide +kernel
set_option maxRecDepth 100000 in
theorem k_M_send_4 : ft_chkL 138 ft_c138_4 = true := by decide +kernel
theorem k_M_send : ft_chk 138 = true := ft_chk_app k_M_send_0 (ft_chk_app k_M_send_1 (ft_chk_app k_M_send_2 (ft_chk_app k_M_send_3 (k_M_send_4))))
set_option maxRecDepth 100000 in
theorem k_M_pipe : ft_chk 139 = true := by decide +kernel
set_option maxRecDepth 100000 in
theorem k_M_isOwn : ft_chk 140 = true := by decide +kernel
set_option maxRecDepth 100000 in
theorem k_M_in : ft_chk 141 = true := by decide +kernel
set_option maxRecDepth 100000 in
theorem k_M_before : ft_chk 142 = true := by decide +kernel
set_option maxRecDepth 100000 in
theorem k_M_after : ft_chk 143 = true := by decide +kernel
set_option maxRecDepth 100000 in
theorem k_M_at : ft_chk 144 = true := by decide +kernel
set_option maxRecDepth 100000 in
theorem k_M_byteOf : ft_chk 145 = true := by decide +kernel
set_option maxRecDepth 100000 in
theorem k_M_six : ft_chk 146 = true := by decide +kernel
set_option maxRecDepth 100000 in
theorem k_M_hasAck : ft_chk 147 = true := by decide +kernel
set_option maxRecDepth 100000 in
theorem k_M_putConfirms_0 : ft_chkL 148 ft_c148_0 = true := by decide +kernel
set_option maxRecDepth 100000 in
theorem k_M_putConfirms_1 : ft_chkL 148 ft_c148_1 = true := by decide +kernel
theorem k_M_putConfirms : ft_chk 148 = true := ft_chk_app k_M_putConfirms_0 (k_M_putConfirms_1)
set_option maxRecDepth 100000 in
theorem k_M_putChanges_0 : ft_chkL 150 ft_c150_0 = true := by decide +kernel
set_option maxRecDepth 100000 in
theorem k_M_putChanges_1 : ft_chkL 150 ft_c150_1 = true := by decide +kernel
theorem k_M_putChanges : ft_chk 150 = true := ft_chk_app k_M_putChanges_0 (k_M_putChanges_1)
set_option maxRecDepth 100000 in
theorem k_M_checkOf : ft_chk 154 = true := by decide +kernel
set_option maxRecDepth 100000 in
theorem k_M_listen : ft_chk 155 = true := by decide +kernel
set_option maxRecDepth 100000 in
theorem k_M_close : ft_chk 156 = true := by decide +kernel
set_option maxRecDepth 100000 in
theorem k_M_isEnd : ft_chk 157 = true := by decide +kernel
set_option maxRecDepth 100000 in
theorem k_M_give_0 : ft_chkL 159 ft_c159_0 = true := by decide +kernel
set_option maxRecDepth 100000 in
theorem k_M_give_1 : ft_chkL 159 ft_c159_1 = true := by decide +kernel
theorem k_M_give : ft_chk 159 = true := ft_chk_app k_M_give_0 (k_M_give_1)
set_option maxRecDepth 100000 in
theorem k_M_want_0 : ft_chkL 160 ft_c160_0 = true := by decide +kernel
set_option maxRecDepth 100000 in
theorem k_M_want_1 : ft_chkL 160 ft_c160_1 = true := by decide +kernel
theorem k_M_want : ft_chk 160 = true := ft_chk_app k_M_want_0 (k_M_want_1)
set_option maxRecDepth 100000 in
theorem k_M_isList : ft_chk 161 = true := by decide +kernel
set_option maxRecDepth 100000 in
theorem k_M_mayBe : ft_chk 162 = true := by decide +kernel
set_option maxRecDepth 100000 in
theorem k_M_changes : ft_chk 163 = true := by decide +kernel
set_option maxRecDepth 100000 in
theorem k_M_tick : ft_chk 164 = true := by decide +kernel
set_option maxRecDepth 100000 in
theorem k_M_one_0 : ft_chkL 165 ft_c165_0 = true := by decide +kernel
set_option maxRecDepth 100000 in
theorem k_M_one_1 : ft_chkL 165 ft_c165_1 = true := by decide +kernel
theorem k_M_one : ft_chk 165 = true := ft_chk_app k_M_one_0 (k_M_one_1)
set_option maxRecDepth 100000 in
theorem k_M_turn_0 : ft_chkL 189 ft_c189_0 = true := by decide +kernel
set_option maxRecDepth 100000 in
theorem k_M_turn_1 : ft_chkL 189 ft_c189_1 = true := by decide +kernel
theorem k_M_turn : ft_chk 189 = true := ft_chk_app k_M_turn_0 (k_M_turn_1)
set_option maxRecDepth 100000 in
theorem k_M_timers_0 : ft_chkL 190 ft_c190_0 = true := by decide +kernel
set_option maxRecDepth 100000 in
theorem k_M_timers_1 : ft_chkL 190 ft_c190_1 = true := by decide +kernel
set_option maxRecDepth 100000 in
theorem k_M_timers_2 : ft_chkL 190 ft_c190_2 = true := by decide +kernel
theorem k_M_timers : ft_chk 190 = true := ft_chk_app k_M_timers_0 (ft_chk_app k_M_timers_1 (k_M_timers_2))
set_option maxRecDepth 100000 in
theorem k_M_lose : ft_chk 195 = true := by decide +kernel
set_option maxRecDepth 100000 in
theorem k_M_isThere : ft_chk 196 = true := by decide +kernel
set_option maxRecDepth 100000 in
theorem k_M_hold : ft_chk 197 = true := by decide +kernel
set_option maxRecDepth 100000 in
theorem k_M_repeat_0 : ft_chkL 198 ft_c198_0 = true := by decide +kernel
set_option maxRecDepth 100000 in
theorem k_M_repeat_1 : ft_chkL 198 ft_c198_1 = true := by decide +kernel
theorem k_M_repeat : ft_chk 198 = true := ft_chk_app k_M_repeat_0 (k_M_repeat_1)
set_option maxRecDepth 100000 in
theorem k_M_alter : ft_chk 199 = true := by decide +kernel
set_option maxRecDepth 100000 in
theorem k_M_feed_0 : ft_chkL 200 ft_c200_0 = true := by decide +kernel
set_option maxRecDepth 100000 in
theorem k_M_feed_1 : ft_chkL 200 ft_c200_1 = true := by decide +kernel
theorem k_M_feed : ft_chk 200 = true := ft_chk_app k_M_feed_0 (k_M_feed_1)
set_option maxRecDepth 100000 in
theorem k_M_put_0 : ft_chkL 201 ft_c201_0 = true := by decide +kernel
set_option maxRecDepth 100000 in
theorem k_M_put_1 : ft_chkL 201 ft_c201_1 = true := by decide +kernel
theorem k_M_put : ft_chk 201 = true := ft_chk_app k_M_put_0 (k_M_put_1)
set_option maxRecDepth 100000 in
theorem k_M_way : ft_chk 202 = true := by decide +kernel
set_option maxRecDepth 100000 in
theorem k_M_packet : ft_chk 203 = true := by decide +kernel
set_option maxRecDepth 100000 in
theorem k_M_octet : ft_chk 204 = true := by decide +kernel
set_option maxRecDepth 100000 in
theorem k_M_state : ft_chk 205 = true := by decide +kernel
set_option maxRecDepth 100000 in
theorem k_M_number : ft_chk 206 = true := by decide +kernel
set_option maxRecDepth 100000 in
theorem k_M_feature_0 : ft_chkL 207 ft_c207_0 = true := by decide +kernel
set_option maxRecDepth 100000 in
theorem k_M_feature_1 : ft_chkL 207 ft_c207_1 = true := by decide +kernel
theorem k_M_feature : ft_chk 207 = true := ft_chk_app k_M_feature_0 (k_M_feature_1)
set_option maxRecDepth 100000 in
theorem k_M_count_0 : ft_chkL 208 ft_c208_0 = true := by decide +kernel
set_option maxRecDepth 100000 in
theorem k_M_count_1 : ft_chkL 208 ft_c208_1 = true := by decide +kernel
theorem k_M_count : ft_chk 208 = true := ft_chk_app k_M_count_0 (k_M_count_1)
set_option maxRecDepth 100000 in
theorem k_M_got : ft_chk 209 = true := by decide +kernel
set_option maxRecDepth 100000 in
theorem k_M_seen : ft_chk 210 = true := by decide +kernel
set_option maxRecDepth 100000 in
theorem k_M_sent : ft_chk 211 = true := by decide +kernel
