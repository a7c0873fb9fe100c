set_option maxRecDepth 100000 in
theorem k_M_hold : ft_chk 197 = true := by decide +kernel
set_option maxRecDepth 100000 in
theorem k_M_repeat_0 : ft_chkL 198 ft_c198_0 = true := by decide +kernel
set_option maxRecDepth 100000 in
theorem k_M_repeat_1 : ft_chkL 198 ft_c198_1 = true := by decide +kernel
theorem k_M_repeat : ft_chk 198 = true := ft_chk_app k_M_repeat_0 (k_M_repeat_1)
set_option maxRecDepth 100000 in
theorem k_M_alter : ft_chk 199 = true := by decide +kernel
set_option maxRecDepth 100000 in
theorem k_M_feed_0 : ft_chkL 200 ft_c200_0 = true := by decide +kernel
set_option maxRecDepth 100000 in
theorem k_M_feed_1 : ft_chkL 200 ft_c200_1 = true := by decide +kernel
theorem k_M_feed : ft_chk 200 = true := ft_chk_app k_M_feed_0 (k_M_feed_1)
set_option maxRecDepth 100000 in
theorem k_M_put_0 : ft_chkL 201 ft_c201_0 = true := by decide +kernel
set_option maxRecDepth 100000 in
theorem k_M_put_1 : ft_chkL 201 ft_c201_1 = true := by decide +kernel
theorem k_M_put : ft_chk 201 = true := ft_chk_app k_M_put_0 (k_M_put_1)
set_option maxRecDepth 100000 in
theorem k_M_way : ft_chk 202 = true := by decide +kernel
set_option maxRecDepth 100000 in
theorem k_M_packet : ft_chk 203 = true := by decide +kernel
set_option maxRecDepth 100000 in
theorem k_M_octet : ft_chk 204 = true := by decide +kernel
set_option maxRecDepth 100000 in
theorem k_M_state : ft_chk 205 = true := by decide +kernel
set_option maxRecDepth 100000 in
theorem k_M_number : ft_chk 206 = true := by decide +kernel
set_option maxRecDepth 100000 in
theorem k_M_feature_0 : ft_chkL 207 ft_c207_0 = true := by decide +kernel
set_option maxRecDepth 100000 in
theorem k_M_feature_1 : ft_chkL 207 ft_c207_1 = true := by decide +kernel
theorem k_M_feature : ft_chk 207 = true := ft_chk_app k_M_feature_0 (k_M_feature_1)
set_option maxRecDepth 100000 in
theorem k_M_count_0 : ft_chkL 208 ft_c208_0 = true := by decide +kernel
set_option maxRecDepth 100000 in
theorem k_M_count_1 : ft_chkL 208 ft_c208_1 = true := by decide +kernel
theorem k_M_count : ft_chk 208 = true := ft_chk_app k_M_count_0 (k_M_count_1)
set_option maxRecDepth 100000 in
theorem k_M_got : ft_chk 209 = true := by decide +kernel
set_option maxRecDepth 100000 in
theorem k_M_seen : ft_chk 210 = true := by decide +kernel
set_option maxRecDepth 100000 in
theorem k_M_sent : ft_chk 211 = true := by decide +kernel
