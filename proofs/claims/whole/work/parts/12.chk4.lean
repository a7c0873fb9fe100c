theorem k_En_sendDatagrams : ft_chk 107 = true := ft_chk_app k_En_sendDatagrams_0 (k_En_sendDatagrams_1)
set_option maxRecDepth 100000 in
theorem k_En_mustSpeak : ft_chk 108 = true := by decide +kernel
set_option maxRecDepth 100000 in
theorem k_Ag_isChangeDue : ft_chk 109 = true := by decide +kernel
set_option maxRecDepth 100000 in
theorem k_F_lose : ft_chk 110 = true := by decide +kernel
set_option maxRecDepth 100000 in
theorem k_F_hold : ft_chk 111 = true := by decide +kernel
set_option maxRecDepth 100000 in
theorem k_F_repeat : ft_chk 112 = true := by decide +kernel
set_option maxRecDepth 100000 in
theorem k_Pa_fill : ft_chk 113 = true := by decide +kernel
set_option maxRecDepth 100000 in
theorem k_F_alter : ft_chk 114 = true := by decide +kernel
set_option maxRecDepth 100000 in
theorem k_F_feed : ft_chk 115 = true := by decide +kernel
set_option maxRecDepth 100000 in
theorem k_F_feedOne : ft_chk 116 = true := by decide +kernel
set_option maxRecDepth 100000 in
theorem k_F_put : ft_chk 117 = true := by decide +kernel
set_option maxRecDepth 100000 in
theorem k_F_way : ft_chk 118 = true := by decide +kernel
set_option maxRecDepth 100000 in
theorem k_F_packet : ft_chk 119 = true := by decide +kernel
set_option maxRecDepth 100000 in
theorem k_F_octet : ft_chk 120 = true := by decide +kernel
set_option maxRecDepth 100000 in
theorem k_F_state : ft_chk 121 = true := by decide +kernel
set_option maxRecDepth 100000 in
theorem k_F_number : ft_chk 122 = true := by decide +kernel
set_option maxRecDepth 100000 in
theorem k_F_feature : ft_chk 123 = true := by decide +kernel
set_option maxRecDepth 100000 in
theorem k_F_count_0 : ft_chkL 124 ft_c124_0 = true := by decide +kernel
set_option maxRecDepth 100000 in
theorem k_F_count_1 : ft_chkL 124 ft_c124_1 = true := by decide +kernel
theorem k_F_count : ft_chk 124 = true := ft_chk_app k_F_count_0 (k_F_count_1)
set_option maxRecDepth 100000 in
theorem k_F_got : ft_chk 125 = true := by decide +kernel
set_option maxRecDepth 100000 in
theorem k_Da_sizeOf : ft_chk 126 = true := by decide +kernel
set_option maxRecDepth 100000 in
theorem k_Da_byteOf : ft_chk 127 = true := by decide +kernel
set_option maxRecDepth 100000 in
theorem k_F_seen : ft_chk 128 = true := by decide +kernel
set_option maxRecDepth 100000 in
theorem k_F_sent : ft_chk 129 = true := by decide +kernel
set_option maxRecDepth 100000 in
theorem k_L_cell : ft_chk 130 = true := by decide +kernel
set_option maxRecDepth 100000 in
theorem k_M_init_0 : ft_chkL 131 ft_c131_0 = true := by decide +kernel
set_option maxRecDepth 100000 in
theorem k_M_init_1 : ft_chkL 131 ft_c131_1 = true := by decide +kernel
set_option maxRecDepth 100000 in
theorem k_M_init_2 : ft_chkL 131 ft_c131_2 = true := by decide +kernel
set_option maxRecDepth 100000 in
theorem k_M_init_3 : ft_chkL 131 ft_c131_3 = true := by decide +kernel
set_option maxRecDepth 100000 in
theorem k_M_init_4 : ft_chkL 131 ft_c131_4 = true := by decide +kernel
theorem k_M_init : ft_chk 131 = true := ft_chk_app k_M_init_0 (ft_chk_app k_M_init_1 (ft_chk_app k_M_init_2 (ft_chk_app k_M_init_3 (k_M_init_4))))
set_option maxRecDepth 100000 in
theorem k_M_around : ft_chk 132 = true := by decide +kernel
set_option maxRecDepth 100000 in
theorem k_M_atFirst_0 : ft_chkL 133 ft_c133_0 = true := by decide +kernel
set_option maxRecDepth 100000 in
theorem k_M_atFirst_1 : ft_chkL 133 ft_c133_1 = true := by decide +kernel
set_option maxRecDepth 100000 in
theorem k_M_atFirst_2 : ft_chkL 133 ft_c133_2 = true := by decide +kernel
set_option maxRecDepth 100000 in
theorem k_M_atFirst_3 : ft_chkL 133 ft_c133_3 = true := by decide +kernel
theorem k_M_atFirst : ft_chk 133 = true := ft_chk_app k_M_atFirst_0 (ft_chk_app k_M_atFirst_1 (ft_chk_app k_M_atFirst_2 (k_M_atFirst_3)))
set_option maxRecDepth 100000 in
theorem k_M_feat : ft_chk 134 = true := by decide +kernel
set_option maxRecDepth 100000 in
theorem k_M_open : ft_chk 135 = true := by decide +kernel
