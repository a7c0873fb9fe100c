set_option maxRecDepth 100000 in
theorem k_Da_sizeOf : ft_chk 125 = true := by decide +kernel
set_option maxRecDepth 100000 in
theorem k_Da_byteOf : ft_chk 126 = true := by decide +kernel
set_option maxRecDepth 100000 in
theorem k_F_seen : ft_chk 127 = true := by decide +kernel
set_option maxRecDepth 100000 in
theorem k_F_sent : ft_chk 128 = true := by decide +kernel
set_option maxRecDepth 100000 in
theorem k_L_cell : ft_chk 129 = true := by decide +kernel
set_option maxRecDepth 100000 in
theorem k_M_init_0 : ft_chkL 130 ft_c130_0 = true := by decide +kernel
set_option maxRecDepth 100000 in
theorem k_M_init_1 : ft_chkL 130 ft_c130_1 = true := by decide +kernel
set_option maxRecDepth 100000 in
theorem k_M_init_2 : ft_chkL 130 ft_c130_2 = true := by decide +kernel
set_option maxRecDepth 100000 in
theorem k_M_init_3 : ft_chkL 130 ft_c130_3 = true := by decide +kernel
set_option maxRecDepth 100000 in
theorem k_M_init_4 : ft_chkL 130 ft_c130_4 = true := by decide +kernel
theorem k_M_init : ft_chk 130 = true := ft_chk_app k_M_init_0 (ft_chk_app k_M_init_1 (ft_chk_app k_M_init_2 (ft_chk_app k_M_init_3 (k_M_init_4))))
set_option maxRecDepth 100000 in
theorem k_M_around : ft_chk 131 = true := by decide +kernel
set_option maxRecDepth 100000 in
theorem k_M_atFirst_0 : ft_chkL 132 ft_c132_0 = true := by decide +kernel
set_option maxRecDepth 100000 in
theorem k_M_atFirst_1 : ft_chkL 132 ft_c132_1 = true := by decide +kernel
set_option maxRecDepth 100000 in
theorem k_M_atFirst_2 : ft_chkL 132 ft_c132_2 = true := by decide +kernel
set_option maxRecDepth 100000 in
theorem k_M_atFirst_3 : ft_chkL 132 ft_c132_3 = true := by decide +kernel
theorem k_M_atFirst : ft_chk 132 = true := ft_chk_app k_M_atFirst_0 (ft_chk_app k_M_atFirst_1 (ft_chk_app k_M_atFirst_2 (k_M_atFirst_3)))
set_option maxRecDepth 100000 in
theorem k_M_feat : ft_chk 133 = true := by decide +kernel
set_option maxRecDepth 100000 in
theorem k_M_open : ft_chk 134 = true := by decide +kernel
set_option maxRecDepth 100000 in
theorem k_M_become : ft_chk 135 = true := by decide +kernel
set_option maxRecDepth 100000 in
theorem k_M_sendPlain : ft_chk 136 = true := by decide +kernel
set_option maxRecDepth 100000 in
theorem k_M_send_0 : ft_chkL 137 ft_c137_0 = true := by decide +kernel
set_option maxRecDepth 100000 in
theorem k_M_send_1 : ft_chkL 137 ft_c137_1 = true := by decide +kernel
set_option maxRecDepth 100000 in
theorem k_M_send_2 : ft_chkL 137 ft_c137_2 = true := by decide +kernel
set_option maxRecDepth 100000 in
theorem k_M_send_3 : ft_chkL 137 ft_c137_3 = true := by decide +kernel
set_option maxRecDepth 100000 in
theorem k_M_send_4 : ft_chkL 137 ft_c137_4 = true := by decide +kernel
theorem k_M_send : ft_chk 137 = true := ft_chk_app k_M_send_0 (ft_chk_app k_M_send_1 (ft_chk_app k_M_send_2 (ft_chk_app k_M_send_3 (k_M_send_4))))
set_option maxRecDepth 100000 in
theorem k_M_pipe : ft_chk 138 = true := by decide +kernel
set_option maxRecDepth 100000 in
theorem k_M_isOwn : ft_chk 139 = true := by decide +kernel
set_option maxRecDepth 100000 in
theorem k_M_in : ft_chk 140 = true := by decide +kernel
set_option maxRecDepth 100000 in
theorem k_M_before : ft_chk 141 = true := by decide +kernel
set_option maxRecDepth 100000 in
theorem k_M_after : ft_chk 142 = true := by decide +kernel
set_option maxRecDepth 100000 in
theorem k_M_at : ft_chk 143 = true := by decide +kernel
set_option maxRecDepth 100000 in
theorem k_M_byteOf : ft_chk 144 = true := by decide +kernel
set_option maxRecDepth 100000 in
theorem k_M_six : ft_chk 145 = true := by decide +kernel
set_option maxRecDepth 100000 in
theorem k_M_hasAck : ft_chk 146 = true := by decide +kernel
set_option maxRecDepth 100000 in
theorem k_M_putConfirms_0 : ft_chkL 147 ft_c147_0 = true := by decide +kernel
set_option maxRecDepth 100000 in
theorem k_M_putConfirms_1 : ft_chkL 147 ft_c147_1 = true := by decide +kernel
theorem k_M_putConfirms : ft_chk 147 = true := ft_chk_app k_M_putConfirms_0 (k_M_putConfirms_1)
set_option maxRecDepth 100000 in
theorem k_M_fits : ft_chk 148 = true := by decide +kernel
set_option maxRecDepth 100000 in
theorem k_M_putChanges_0 : ft_chkL 149 ft_c149_0 = true := by decide +kernel
set_option maxRecDepth 100000 in
theorem k_M_putChanges_1 : ft_chkL 149 ft_c149_1 = true := by decide +kernel
theorem k_M_putChanges : ft_chk 149 = true := ft_chk_app k_M_putChanges_0 (k_M_putChanges_1)
set_option maxRecDepth 100000 in
theorem k_M_putRow_0 : ft_chkL 150 ft_c150_0 = true := by decide +kernel
set_option maxRecDepth 100000 in
theorem k_M_putRow_1 : ft_chkL 150 ft_c150_1 = true := by decide +kernel
theorem k_M_putRow : ft_chk 150 = true := ft_chk_app k_M_putRow_0 (k_M_putRow_1)
set_option maxRecDepth 100000 in
theorem k_M_inRow : ft_chk 151 = true := by decide +kernel
set_option maxRecDepth 100000 in
theorem k_M_shift_0 : ft_chkL 152 ft_c152_0 = true := by decide +kernel
set_option maxRecDepth 100000 in
theorem k_M_shift_1 : ft_chkL 152 ft_c152_1 = true := by decide +kernel
theorem k_M_shift : ft_chk 152 = true := ft_chk_app k_M_shift_0 (k_M_shift_1)
set_option maxRecDepth 100000 in
theorem k_M_checkOf : ft_chk 153 = true := by decide +kernel
set_option maxRecDepth 100000 in
theorem k_M_listen : ft_chk 154 = true := by decide +kernel
set_option maxRecDepth 100000 in
theorem k_M_close : ft_chk 155 = true := by decide +kernel
set_option maxRecDepth 100000 in
theorem k_M_isEnd : ft_chk 156 = true := by decide +kernel
set_option maxRecDepth 100000 in
theorem k_M_reset : ft_chk 157 = true := by decide +kernel
set_option maxRecDepth 100000 in
theorem k_M_give_0 : ft_chkL 158 ft_c158_0 = true := by decide +kernel
set_option maxRecDepth 100000 in
theorem k_M_give_1 : ft_chkL 158 ft_c158_1 = true := by decide +kernel
theorem k_M_give : ft_chk 158 = true := ft_chk_app k_M_give_0 (k_M_give_1)
set_option maxRecDepth 100000 in
theorem k_M_want_0 : ft_chkL 159 ft_c159_0 = true := by decide +kernel
set_option maxRecDepth 100000 in
theorem k_M_want_1 : ft_chkL 159 ft_c159_1 = true := by decide +kernel
