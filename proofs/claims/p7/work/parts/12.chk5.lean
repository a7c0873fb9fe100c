set_option maxRecDepth 100000 in
theorem k_M_deliver_0 : ft_chkL 187 ft_c187_0 = true := by decide +kernel
set_option maxRecDepth 100000 in
theorem k_M_deliver_1 : ft_chkL 187 ft_c187_1 = true := by decide +kernel
theorem k_M_deliver : ft_chk 187 = true := ft_chk_app k_M_deliver_0 (k_M_deliver_1)
set_option maxRecDepth 100000 in
theorem k_M_turn_0 : ft_chkL 188 ft_c188_0 = true := by decide +kernel
set_option maxRecDepth 100000 in
theorem k_M_turn_1 : ft_chkL 188 ft_c188_1 = true := by decide +kernel
theorem k_M_turn : ft_chk 188 = true := ft_chk_app k_M_turn_0 (k_M_turn_1)
set_option maxRecDepth 100000 in
theorem k_M_timers_0 : ft_chkL 189 ft_c189_0 = true := by decide +kernel
set_option maxRecDepth 100000 in
theorem k_M_timers_1 : ft_chkL 189 ft_c189_1 = true := by decide +kernel
set_option maxRecDepth 100000 in
theorem k_M_timers_2 : ft_chkL 189 ft_c189_2 = true := by decide +kernel
theorem k_M_timers : ft_chk 189 = true := ft_chk_app k_M_timers_0 (ft_chk_app k_M_timers_1 (k_M_timers_2))
set_option maxRecDepth 100000 in
theorem k_M_repeatOr : ft_chk 190 = true := by decide +kernel
set_option maxRecDepth 100000 in
theorem k_M_tooLong_0 : ft_chkL 191 ft_c191_0 = true := by decide +kernel
set_option maxRecDepth 100000 in
theorem k_M_tooLong_1 : ft_chkL 191 ft_c191_1 = true := by decide +kernel
set_option maxRecDepth 100000 in
theorem k_M_tooLong_2 : ft_chkL 191 ft_c191_2 = true := by decide +kernel
theorem k_M_tooLong : ft_chk 191 = true := ft_chk_app k_M_tooLong_0 (ft_chk_app k_M_tooLong_1 (k_M_tooLong_2))
set_option maxRecDepth 100000 in
theorem k_M_ackDue : ft_chk 192 = true := by decide +kernel
set_option maxRecDepth 100000 in
theorem k_M_wantsOptions : ft_chk 193 = true := by decide +kernel
set_option maxRecDepth 100000 in
theorem k_M_lose : ft_chk 194 = true := by decide +kernel
set_option maxRecDepth 100000 in
theorem k_M_isThere : ft_chk 195 = true := by decide +kernel
set_option maxRecDepth 100000 in
theorem k_M_hold : ft_chk 196 = true := by decide +kernel
set_option maxRecDepth 100000 in
theorem k_M_repeat_0 : ft_chkL 197 ft_c197_0 = true := by decide +kernel
set_option maxRecDepth 100000 in
theorem k_M_repeat_1 : ft_chkL 197 ft_c197_1 = true := by decide +kernel
theorem k_M_repeat : ft_chk 197 = true := ft_chk_app k_M_repeat_0 (k_M_repeat_1)
set_option maxRecDepth 100000 in
theorem k_M_alter : ft_chk 198 = true := by decide +kernel
set_option maxRecDepth 100000 in
theorem k_M_feed_0 : ft_chkL 199 ft_c199_0 = true := by decide +kernel
set_option maxRecDepth 100000 in
theorem k_M_feed_1 : ft_chkL 199 ft_c199_1 = true := by decide +kernel
theorem k_M_feed : ft_chk 199 = true := ft_chk_app k_M_feed_0 (k_M_feed_1)
set_option maxRecDepth 100000 in
theorem k_M_put_0 : ft_chkL 200 ft_c200_0 = true := by decide +kernel
set_option maxRecDepth 100000 in
theorem k_M_put_1 : ft_chkL 200 ft_c200_1 = true := by decide +kernel
theorem k_M_put : ft_chk 200 = true := ft_chk_app k_M_put_0 (k_M_put_1)
set_option maxRecDepth 100000 in
theorem k_M_way : ft_chk 201 = true := by decide +kernel
set_option maxRecDepth 100000 in
theorem k_M_packet : ft_chk 202 = true := by decide +kernel
set_option maxRecDepth 100000 in
theorem k_M_octet : ft_chk 203 = true := by decide +kernel
set_option maxRecDepth 100000 in
theorem k_M_state : ft_chk 204 = true := by decide +kernel
set_option maxRecDepth 100000 in
theorem k_M_number : ft_chk 205 = true := by decide +kernel
set_option maxRecDepth 100000 in
theorem k_M_feature_0 : ft_chkL 206 ft_c206_0 = true := by decide +kernel
set_option maxRecDepth 100000 in
theorem k_M_feature_1 : ft_chkL 206 ft_c206_1 = true := by decide +kernel
theorem k_M_feature : ft_chk 206 = true := ft_chk_app k_M_feature_0 (k_M_feature_1)
set_option maxRecDepth 100000 in
theorem k_M_count_0 : ft_chkL 207 ft_c207_0 = true := by decide +kernel
set_option maxRecDepth 100000 in
theorem k_M_count_1 : ft_chkL 207 ft_c207_1 = true := by decide +kernel
theorem k_M_count : ft_chk 207 = true := ft_chk_app k_M_count_0 (k_M_count_1)
set_option maxRecDepth 100000 in
theorem k_M_got : ft_chk 208 = true := by decide +kernel
set_option maxRecDepth 100000 in
theorem k_M_seen : ft_chk 209 = true := by decide +kernel
set_option maxRecDepth 100000 in
theorem k_M_sent : ft_chk 210 = true := by decide +kernel
