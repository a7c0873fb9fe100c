set_option maxRecDepth 100000 in
theorem k_M_fitsAck : ft_chk 181 = true := by decide +kernel
set_option maxRecDepth 100000 in
theorem k_M_running_0 : ft_chkL 182 ft_c182_0 = true := by decide +kernel
set_option maxRecDepth 100000 in
theorem k_M_running_1 : ft_chkL 182 ft_c182_1 = true := by decide +kernel
set_option maxRecDepth 100000 in
theorem k_M_running_2 : ft_chkL 182 ft_c182_2 = true := by decide +kernel
set_option maxRecDepth 100000 in
theorem k_M_running_3 : ft_chkL 182 ft_c182_3 = true := by decide +kernel
set_option maxRecDepth 100000 in
theorem k_M_running_4 : ft_chkL 182 ft_c182_4 = true := by decide +kernel
theorem k_M_running : ft_chk 182 = true := ft_chk_app k_M_running_0 (ft_chk_app k_M_running_1 (ft_chk_app k_M_running_2 (ft_chk_app k_M_running_3 (k_M_running_4))))
set_option maxRecDepth 100000 in
theorem k_M_fitsNumber : ft_chk 183 = true := by decide +kernel
set_option maxRecDepth 100000 in
theorem k_M_sync : ft_chk 184 = true := by decide +kernel
set_option maxRecDepth 100000 in
theorem k_M_hearAck_0 : ft_chkL 185 ft_c185_0 = true := by decide +kernel
set_option maxRecDepth 100000 in
theorem k_M_hearAck_1 : ft_chkL 185 ft_c185_1 = true := by decide +kernel
set_option maxRecDepth 100000 in
theorem k_M_hearAck_2 : ft_chkL 185 ft_c185_2 = true := by decide +kernel
theorem k_M_hearAck : ft_chk 185 = true := ft_chk_app k_M_hearAck_0 (ft_chk_app k_M_hearAck_1 (k_M_hearAck_2))
set_option maxRecDepth 100000 in
theorem k_M_isGot_0 : ft_chkL 186 ft_c186_0 = true := by decide +kernel
set_option maxRecDepth 100000 in
theorem k_M_isGot_1 : ft_chkL 186 ft_c186_1 = true := by decide +kernel
set_option maxRecDepth 100000 in
theorem k_M_isGot_2 : ft_chkL 186 ft_c186_2 = true := by decide +kernel
theorem k_M_isGot : ft_chk 186 = true := ft_chk_app k_M_isGot_0 (ft_chk_app k_M_isGot_1 (k_M_isGot_2))
set_option maxRecDepth 100000 in
theorem k_M_missing_0 : ft_chkL 187 ft_c187_0 = true := by decide +kernel
set_option maxRecDepth 100000 in
theorem k_M_missing_1 : ft_chkL 187 ft_c187_1 = true := by decide +kernel
set_option maxRecDepth 100000 in
theorem k_M_missing_2 : ft_chkL 187 ft_c187_2 = true := by decide +kernel
theorem k_M_missing : ft_chk 187 = true := ft_chk_app k_M_missing_0 (ft_chk_app k_M_missing_1 (k_M_missing_2))
set_option maxRecDepth 100000 in
theorem k_M_deliver_0 : ft_chkL 188 ft_c188_0 = true := by decide +kernel
set_option maxRecDepth 100000 in
theorem k_M_deliver_1 : ft_chkL 188 ft_c188_1 = true := by decide +kernel
theorem k_M_deliver : ft_chk 188 = true := ft_chk_app k_M_deliver_0 (k_M_deliver_1)
set_option maxRecDepth 100000 in
theorem k_M_turn_0 : ft_chkL 189 ft_c189_0 = true := by decide +kernel
set_option maxRecDepth 100000 in
theorem k_M_turn_1 : ft_chkL 189 ft_c189_1 = true := by decide +kernel
theorem k_M_turn : ft_chk 189 = true := ft_chk_app k_M_turn_0 (k_M_turn_1)
set_option maxRecDepth 100000 in
theorem k_M_timers_0 : ft_chkL 190 ft_c190_0 = true := by decide +kernel
set_option maxRecDepth 100000 in
theorem k_M_timers_1 : ft_chkL 190 ft_c190_1 = true := by decide +kernel
set_option maxRecDepth 100000 in
theorem k_M_timers_2 : ft_chkL 190 ft_c190_2 = true := by decide +kernel
theorem k_M_timers : ft_chk 190 = true := ft_chk_app k_M_timers_0 (ft_chk_app k_M_timers_1 (k_M_timers_2))
set_option maxRecDepth 100000 in
theorem k_M_repeatOr : ft_chk 191 = true := by decide +kernel
set_option maxRecDepth 100000 in
theorem k_M_tooLong_0 : ft_chkL 192 ft_c192_0 = true := by decide +kernel
set_option maxRecDepth 100000 in
theorem k_M_tooLong_1 : ft_chkL 192 ft_c192_1 = true := by decide +kernel
set_option maxRecDepth 100000 in
theorem k_M_tooLong_2 : ft_chkL 192 ft_c192_2 = true := by decide +kernel
theorem k_M_tooLong : ft_chk 192 = true := ft_chk_app k_M_tooLong_0 (ft_chk_app k_M_tooLong_1 (k_M_tooLong_2))
set_option maxRecDepth 100000 in
theorem k_M_ackDue : ft_chk 193 = true := by decide +kernel
set_option maxRecDepth 100000 in
theorem k_M_wantsOptions : ft_chk 194 = true := by decide +kernel
set_option maxRecDepth 100000 in
theorem k_M_lose : ft_chk 195 = true := by decide +kernel
set_option maxRecDepth 100000 in
theorem k_M_isThere : ft_chk 196 = true := by decide +kernel
