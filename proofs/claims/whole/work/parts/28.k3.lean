set_option maxRecDepth 100000 in
theorem z_M_init : ft_zok 131 := ⟨⟨973, rfl⟩, ⟨84, by decide +kernel⟩, by decide +kernel, by decide +kernel⟩
set_option maxRecDepth 100000 in
theorem z_M_atFirst : ft_zok 133 := ⟨⟨982, rfl⟩, ⟨84, by decide +kernel⟩, by decide +kernel, by decide +kernel⟩
set_option maxRecDepth 100000 in
theorem z_M_open : ft_zok 135 := ⟨⟨1186, rfl⟩, ⟨84, by decide +kernel⟩, by decide +kernel, by decide +kernel⟩
set_option maxRecDepth 100000 in
theorem z_M_become : ft_zok 136 := ⟨⟨1190, rfl⟩, ⟨84, by decide +kernel⟩, by decide +kernel, by decide +kernel⟩
set_option maxRecDepth 100000 in
theorem z_M_sendPlain : ft_zok 137 := ⟨⟨1194, rfl⟩, ⟨84, by decide +kernel⟩, by decide +kernel, by decide +kernel⟩
set_option maxRecDepth 100000 in
theorem z_M_send : ft_zok 138 := ⟨⟨1198, rfl⟩, ⟨84, by decide +kernel⟩, by decide +kernel, by decide +kernel⟩
set_option maxRecDepth 100000 in
theorem z_M_six : ft_zok 146 := ⟨⟨1228, rfl⟩, ⟨84, by decide +kernel⟩, by decide +kernel, by decide +kernel⟩
set_option maxRecDepth 100000 in
theorem z_M_putConfirms : ft_zok 148 := ⟨⟨1235, rfl⟩, ⟨84, by decide +kernel⟩, by decide +kernel, by decide +kernel⟩
set_option maxRecDepth 100000 in
theorem z_M_fits : ft_zok 149 := ⟨⟨1239, rfl⟩, ⟨84, by decide +kernel⟩, by decide +kernel, by decide +kernel⟩
set_option maxRecDepth 100000 in
theorem z_M_putChanges : ft_zok 150 := ⟨⟨1243, rfl⟩, ⟨84, by decide +kernel⟩, by decide +kernel, by decide +kernel⟩
set_option maxRecDepth 100000 in
theorem z_M_putRow : ft_zok 151 := ⟨⟨1247, rfl⟩, ⟨84, by decide +kernel⟩, by decide +kernel, by decide +kernel⟩
set_option maxRecDepth 100000 in
theorem z_M_inRow : ft_zok 152 := ⟨⟨1251, rfl⟩, ⟨84, by decide +kernel⟩, by decide +kernel, by decide +kernel⟩
set_option maxRecDepth 100000 in
theorem z_M_shift : ft_zok 153 := ⟨⟨1256, rfl⟩, ⟨84, by decide +kernel⟩, by decide +kernel, by decide +kernel⟩
set_option maxRecDepth 100000 in
theorem z_M_listen : ft_zok 155 := ⟨⟨1264, rfl⟩, ⟨84, by decide +kernel⟩, by decide +kernel, by decide +kernel⟩
set_option maxRecDepth 100000 in
theorem z_M_close : ft_zok 156 := ⟨⟨1268, rfl⟩, ⟨84, by decide +kernel⟩, by decide +kernel, by decide +kernel⟩
set_option maxRecDepth 100000 in
theorem z_M_reset : ft_zok 158 := ⟨⟨1276, rfl⟩, ⟨84, by decide +kernel⟩, by decide +kernel, by decide +kernel⟩
set_option maxRecDepth 100000 in
theorem z_M_give : ft_zok 159 := ⟨⟨1280, rfl⟩, ⟨84, by decide +kernel⟩, by decide +kernel, by decide +kernel⟩
set_option maxRecDepth 100000 in
theorem z_M_want : ft_zok 160 := ⟨⟨1286, rfl⟩, ⟨84, by decide +kernel⟩, by decide +kernel, by decide +kernel⟩
set_option maxRecDepth 100000 in
theorem z_M_isList : ft_zok 161 := ⟨⟨1292, rfl⟩, ⟨84, by decide +kernel⟩, by decide +kernel, by decide +kernel⟩
set_option maxRecDepth 100000 in
theorem z_M_tick : ft_zok 164 := ⟨⟨1305, rfl⟩, ⟨84, by decide +kernel⟩, by decide +kernel, by decide +kernel⟩
set_option maxRecDepth 100000 in
theorem z_M_one : ft_zok 165 := ⟨⟨1310, rfl⟩, ⟨84, by decide +kernel⟩, by decide +kernel, by decide +kernel⟩
set_option maxRecDepth 100000 in
theorem z_M_drop : ft_zok 166 := ⟨⟨1314, rfl⟩, ⟨84, by decide +kernel⟩, by decide +kernel, by decide +kernel⟩
set_option maxRecDepth 100000 in
theorem z_M_take : ft_zok 167 := ⟨⟨1318, rfl⟩, ⟨84, by decide +kernel⟩, by decide +kernel, by decide +kernel⟩
set_option maxRecDepth 100000 in
theorem z_M_sixAt : ft_zok 170 := ⟨⟨1330, rfl⟩, ⟨84, by decide +kernel⟩, by decide +kernel, by decide +kernel⟩
set_option maxRecDepth 100000 in
theorem z_M_meet : ft_zok 171 := ⟨⟨1334, rfl⟩, ⟨84, by decide +kernel⟩, by decide +kernel, by decide +kernel⟩
set_option maxRecDepth 100000 in
theorem z_M_hear : ft_zok 172 := ⟨⟨1338, rfl⟩, ⟨84, by decide +kernel⟩, by decide +kernel, by decide +kernel⟩
set_option maxRecDepth 100000 in
theorem z_M_heard : ft_zok 173 := ⟨⟨1342, rfl⟩, ⟨84, by decide +kernel⟩, by decide +kernel, by decide +kernel⟩
set_option maxRecDepth 100000 in
theorem z_M_isGood : ft_zok 174 := ⟨⟨1346, rfl⟩, ⟨84, by decide +kernel⟩, by decide +kernel, by decide +kernel⟩
set_option maxRecDepth 100000 in
theorem z_M_hearFeature : ft_zok 175 := ⟨⟨1353, rfl⟩, ⟨84, by decide +kernel⟩, by decide +kernel, by decide +kernel⟩
set_option maxRecDepth 100000 in
theorem z_M_confirm : ft_zok 176 := ⟨⟨1357, rfl⟩, ⟨84, by decide +kernel⟩, by decide +kernel, by decide +kernel⟩
set_option maxRecDepth 100000 in
theorem z_M_reconciled : ft_zok 177 := ⟨⟨1361, rfl⟩, ⟨84, by decide +kernel⟩, by decide +kernel, by decide +kernel⟩
set_option maxRecDepth 100000 in
theorem z_M_asking : ft_zok 180 := ⟨⟨1373, rfl⟩, ⟨84, by decide +kernel⟩, by decide +kernel, by decide +kernel⟩
set_option maxRecDepth 100000 in
theorem z_M_fitsAck : ft_zok 181 := ⟨⟨1377, rfl⟩, ⟨84, by decide +kernel⟩, by decide +kernel, by decide +kernel⟩
set_option maxRecDepth 100000 in
theorem z_M_running : ft_zok 182 := ⟨⟨1381, rfl⟩, ⟨84, by decide +kernel⟩, by decide +kernel, by decide +kernel⟩
set_option maxRecDepth 100000 in
theorem z_M_fitsNumber : ft_zok 183 := ⟨⟨1385, rfl⟩, ⟨84, by decide +kernel⟩, by decide +kernel, by decide +kernel⟩
set_option maxRecDepth 100000 in
theorem z_M_sync : ft_zok 184 := ⟨⟨1389, rfl⟩, ⟨84, by decide +kernel⟩, by decide +kernel, by decide +kernel⟩
set_option maxRecDepth 100000 in
theorem z_M_hearAck : ft_zok 185 := ⟨⟨1393, rfl⟩, ⟨84, by decide +kernel⟩, by decide +kernel, by decide +kernel⟩
set_option maxRecDepth 100000 in
theorem z_M_isGot : ft_zok 186 := ⟨⟨1397, rfl⟩, ⟨84, by decide +kernel⟩, by decide +kernel, by decide +kernel⟩
set_option maxRecDepth 100000 in
theorem z_M_missing : ft_zok 187 := ⟨⟨1401, rfl⟩, ⟨84, by decide +kernel⟩, by decide +kernel, by decide +kernel⟩
set_option maxRecDepth 100000 in
theorem z_M_deliver : ft_zok 188 := ⟨⟨1405, rfl⟩, ⟨84, by decide +kernel⟩, by decide +kernel, by decide +kernel⟩
set_option maxRecDepth 100000 in
theorem z_M_turn : ft_zok 189 := ⟨⟨1409, rfl⟩, ⟨84, by decide +kernel⟩, by decide +kernel, by decide +kernel⟩
set_option maxRecDepth 100000 in
theorem z_M_timers : ft_zok 190 := ⟨⟨1413, rfl⟩, ⟨84, by decide +kernel⟩, by decide +kernel, by decide +kernel⟩
set_option maxRecDepth 100000 in
theorem z_M_repeatOr : ft_zok 191 := ⟨⟨1417, rfl⟩, ⟨84, by decide +kernel⟩, by decide +kernel, by decide +kernel⟩
set_option maxRecDepth 100000 in
theorem z_M_tooLong : ft_zok 192 := ⟨⟨1421, rfl⟩, ⟨84, by decide +kernel⟩, by decide +kernel, by decide +kernel⟩
set_option maxRecDepth 100000 in
theorem z_M_ackDue : ft_zok 193 := ⟨⟨1425, rfl⟩, ⟨84, by decide +kernel⟩, by decide +kernel, by decide +kernel⟩
set_option maxRecDepth 100000 in
theorem z_M_wantsOptions : ft_zok 194 := ⟨⟨1429, rfl⟩, ⟨84, by decide +kernel⟩, by decide +kernel, by decide +kernel⟩
set_option maxRecDepth 100000 in
theorem z_M_lose : ft_zok 195 := ⟨⟨1433, rfl⟩, ⟨84, by decide +kernel⟩, by decide +kernel, by decide +kernel⟩
set_option maxRecDepth 100000 in
theorem z_M_hold : ft_zok 197 := ⟨⟨1441, rfl⟩, ⟨84, by decide +kernel⟩, by decide +kernel, by decide +kernel⟩
set_option maxRecDepth 100000 in
theorem z_M_repeat : ft_zok 198 := ⟨⟨1445, rfl⟩, ⟨84, by decide +kernel⟩, by decide +kernel, by decide +kernel⟩
set_option maxRecDepth 100000 in
theorem z_M_alter : ft_zok 199 := ⟨⟨1449, rfl⟩, ⟨84, by decide +kernel⟩, by decide +kernel, by decide +kernel⟩
set_option maxRecDepth 100000 in
theorem z_M_feed : ft_zok 200 := ⟨⟨1453, rfl⟩, ⟨84, by decide +kernel⟩, by decide +kernel, by decide +kernel⟩
set_option maxRecDepth 100000 in
theorem z_M_put : ft_zok 201 := ⟨⟨1457, rfl⟩, ⟨84, by decide +kernel⟩, by decide +kernel, by decide +kernel⟩
set_option maxRecDepth 100000 in
theorem z_M_way : ft_zok 202 := ⟨⟨1461, rfl⟩, ⟨84, by decide +kernel⟩, by decide +kernel, by decide +kernel⟩
set_option maxRecDepth 100000 in
theorem z_M_packet : ft_zok 203 := ⟨⟨1465, rfl⟩, ⟨84, by decide +kernel⟩, by decide +kernel, by decide +kernel⟩
set_option maxRecDepth 100000 in
theorem z_M_octet : ft_zok 204 := ⟨⟨1469, rfl⟩, ⟨84, by decide +kernel⟩, by decide +kernel, by decide +kernel⟩
set_option maxRecDepth 100000 in
theorem z_M_state : ft_zok 205 := ⟨⟨1473, rfl⟩, ⟨84, by decide +kernel⟩, by decide +kernel, by decide +kernel⟩
set_option maxRecDepth 100000 in
theorem z_M_number : ft_zok 206 := ⟨⟨1477, rfl⟩, ⟨84, by decide +kernel⟩, by decide +kernel, by decide +kernel⟩
set_option maxRecDepth 100000 in
theorem z_M_feature : ft_zok 207 := ⟨⟨1484, rfl⟩, ⟨84, by decide +kernel⟩, by decide +kernel, by decide +kernel⟩
set_option maxRecDepth 100000 in
theorem z_M_count : ft_zok 208 := ⟨⟨1488, rfl⟩, ⟨84, by decide +kernel⟩, by decide +kernel, by decide +kernel⟩
set_option maxRecDepth 100000 in
theorem z_M_got : ft_zok 209 := ⟨⟨1492, rfl⟩, ⟨84, by decide +kernel⟩, by decide +kernel, by decide +kernel⟩
set_option maxRecDepth 100000 in
theorem z_M_seen : ft_zok 210 := ⟨⟨1496, rfl⟩, ⟨84, by decide +kernel⟩, by decide +kernel, by decide +kernel⟩
set_option maxRecDepth 100000 in
theorem z_M_sent : ft_zok 211 := ⟨⟨1500, rfl⟩, ⟨84, by decide +kernel⟩, by decide +kernel, by decide +kernel⟩
set_option maxRecDepth 100000 in
theorem k_M_init_0 : ft_chkL 131 ft_c131_0 = true := by decide +kernel
set_option maxRecDepth 100000 in
theorem k_M_init_1 : ft_chkL 131 ft_c131_1 = true := by decide +kernel
set_option maxRecDepth 100000 in
theorem k_M_init_2 : ft_chkL 131 ft_c131_2 = true := by decide +kernel
set_option maxRecDepth 100000 in
theorem k_M_init_3 : ft_chkL 131 ft_c131_3 = true := by decide +kernel
set_option maxRecDepth 100000 in
theorem k_M_init_4 : ft_chkL 131 ft_c131_4 = true := by decide +kernel
theorem k_M_init : ft_chk 131 = true := ft_chk_app k_M_init_0 (ft_chk_app k_M_init_1 (ft_chk_app k_M_init_2 (ft_chk_app k_M_init_3 (k_M_init_4))))
set_option maxRecDepth 100000 in
theorem k_M_atFirst_0 : ft_chkL 133 ft_c133_0 = true := by decide +kernel
set_option maxRecDepth 100000 in
theorem k_M_atFirst_1 : ft_chkL 133 ft_c133_1 = true := by decide +kernel
set_option maxRecDepth 100000 in
theorem k_M_atFirst_2 : ft_chkL 133 ft_c133_2 = true := by decide +kernel
set_option maxRecDepth 100000 in
theorem k_M_atFirst_3 : ft_chkL 133 ft_c133_3 = true := by decide +kernel
theorem k_M_atFirst : ft_chk 133 = true := ft_chk_app k_M_atFirst_0 (ft_chk_app k_M_atFirst_1 (ft_chk_app k_M_atFirst_2 (k_M_atFirst_3)))
set_option maxRecDepth 100000 in
theorem k_M_open : ft_chk 135 = true := by decide +kernel
set_option maxRecDepth 100000 in
theorem k_M_sendPlain : ft_chk 137 = true := by decide +kernel
set_option maxRecDepth 100000 in
theorem k_M_send_0 : ft_chkL 138 ft_c138_0 = true := by decide +kernel
set_option maxRecDepth 100000 in
theorem k_M_send_1 : ft_chkL 138 ft_c138_1 = true := by decide +kernel
set_option maxRecDepth 100000 in
theorem k_M_send_2 : ft_chkL 138 ft_c138_2 = true := by decide +kernel
set_option maxRecDepth 100000 in
theorem k_M_send_3 : ft_chkL 138 ft_c138_3 = true := by decide +kernel
set_option maxRecDepth 100000 in
theorem k_M_send_4 : ft_chkL 138 ft_c138_4 = true := by decide +kernel
theorem k_M_send : ft_chk 138 = true := ft_chk_app k_M_send_0 (ft_chk_app k_M_send_1 (ft_chk_app k_M_send_2 (ft_chk_app k_M_send_3 (k_M_send_4))))
set_option maxRecDepth 100000 in
theorem k_M_putConfirms_0 : ft_chkL 148 ft_c148_0 = true := by decide +kernel
set_option maxRecDepth 100000 in
theorem k_M_putConfirms_1 : ft_chkL 148 ft_c148_1 = true := by decide +kernel
theorem k_M_putConfirms : ft_chk 148 = true := ft_chk_app k_M_putConfirms_0 (k_M_putConfirms_1)
set_option maxRecDepth 100000 in
theorem k_M_putChanges_0 : ft_chkL 150 ft_c150_0 = true := by decide +kernel
set_option maxRecDepth 100000 in
theorem k_M_putChanges_1 : ft_chkL 150 ft_c150_1 = true := by decide +kernel
theorem k_M_putChanges : ft_chk 150 = true := ft_chk_app k_M_putChanges_0 (k_M_putChanges_1)
set_option maxRecDepth 100000 in
theorem k_M_putRow_0 : ft_chkL 151 ft_c151_0 = true := by decide +kernel
set_option maxRecDepth 100000 in
theorem k_M_putRow_1 : ft_chkL 151 ft_c151_1 = true := by decide +kernel
theorem k_M_putRow : ft_chk 151 = true := ft_chk_app k_M_putRow_0 (k_M_putRow_1)
set_option maxRecDepth 100000 in
theorem k_M_shift_0 : ft_chkL 153 ft_c153_0 = true := by decide +kernel
set_option maxRecDepth 100000 in
theorem k_M_shift_1 : ft_chkL 153 ft_c153_1 = true := by decide +kernel
theorem k_M_shift : ft_chk 153 = true := ft_chk_app k_M_shift_0 (k_M_shift_1)
set_option maxRecDepth 100000 in
theorem k_M_listen : ft_chk 155 = true := by decide +kernel
set_option maxRecDepth 100000 in
theorem k_M_close : ft_chk 156 = true := by decide +kernel
set_option maxRecDepth 100000 in
theorem k_M_reset : ft_chk 158 = true := by decide +kernel
set_option maxRecDepth 100000 in
theorem k_M_give_0 : ft_chkL 159 ft_c159_0 = true := by decide +kernel
set_option maxRecDepth 100000 in
theorem k_M_give_1 : ft_chkL 159 ft_c159_1 = true := by decide +kernel
theorem k_M_give : ft_chk 159 = true := ft_chk_app k_M_give_0 (k_M_give_1)
set_option maxRecDepth 100000 in
theorem k_M_want_0 : ft_chkL 160 ft_c160_0 = true := by decide +kernel
set_option maxRecDepth 100000 in
theorem k_M_want_1 : ft_chkL 160 ft_c160_1 = true := by decide +kernel
theorem k_M_want : ft_chk 160 = true := ft_chk_app k_M_want_0 (k_M_want_1)
set_option maxRecDepth 100000 in
theorem k_M_tick : ft_chk 164 = true := by decide +kernel
set_option maxRecDepth 100000 in
theorem k_M_one_0 : ft_chkL 165 ft_c165_0 = true := by decide +kernel
set_option maxRecDepth 100000 in
theorem k_M_one_1 : ft_chkL 165 ft_c165_1 = true := by decide +kernel
theorem k_M_one : ft_chk 165 = true := ft_chk_app k_M_one_0 (k_M_one_1)
set_option maxRecDepth 100000 in
theorem k_M_drop_0 : ft_chkL 166 ft_c166_0 = true := by decide +kernel
set_option maxRecDepth 100000 in
theorem k_M_drop_1 : ft_chkL 166 ft_c166_1 = true := by decide +kernel
theorem k_M_drop : ft_chk 166 = true := ft_chk_app k_M_drop_0 (k_M_drop_1)
set_option maxRecDepth 100000 in
theorem k_M_take_0 : ft_chkL 167 ft_c167_0 = true := by decide +kernel
set_option maxRecDepth 100000 in
theorem k_M_take_1 : ft_chkL 167 ft_c167_1 = true := by decide +kernel
theorem k_M_take : ft_chk 167 = true := ft_chk_app k_M_take_0 (k_M_take_1)
set_option maxRecDepth 100000 in
theorem k_M_hear : ft_chk 172 = true := by decide +kernel
set_option maxRecDepth 100000 in
theorem k_M_heard_0 : ft_chkL 173 ft_c173_0 = true := by decide +kernel
set_option maxRecDepth 100000 in
theorem k_M_heard_1 : ft_chkL 173 ft_c173_1 = true := by decide +kernel
theorem k_M_heard : ft_chk 173 = true := ft_chk_app k_M_heard_0 (k_M_heard_1)
set_option maxRecDepth 100000 in
theorem k_M_isGood_0 : ft_chkL 174 ft_c174_0 = true := by decide +kernel
set_option maxRecDepth 100000 in
theorem k_M_isGood_1 : ft_chkL 174 ft_c174_1 = true := by decide +kernel
theorem k_M_isGood : ft_chk 174 = true := ft_chk_app k_M_isGood_0 (k_M_isGood_1)
set_option maxRecDepth 100000 in
theorem k_M_hearFeature_0 : ft_chkL 175 ft_c175_0 = true := by decide +kernel
set_option maxRecDepth 100000 in
theorem k_M_hearFeature_1 : ft_chkL 175 ft_c175_1 = true := by decide +kernel
set_option maxRecDepth 100000 in
theorem k_M_hearFeature_2 : ft_chkL 175 ft_c175_2 = true := by decide +kernel
set_option maxRecDepth 100000 in
theorem k_M_hearFeature_3 : ft_chkL 175 ft_c175_3 = true := by decide +kernel
theorem k_M_hearFeature : ft_chk 175 = true := ft_chk_app k_M_hearFeature_0 (ft_chk_app k_M_hearFeature_1 (ft_chk_app k_M_hearFeature_2 (k_M_hearFeature_3)))
set_option maxRecDepth 100000 in
theorem k_M_confirm_0 : ft_chkL 176 ft_c176_0 = true := by decide +kernel
set_option maxRecDepth 100000 in
theorem k_M_confirm_1 : ft_chkL 176 ft_c176_1 = true := by decide +kernel
theorem k_M_confirm : ft_chk 176 = true := ft_chk_app k_M_confirm_0 (k_M_confirm_1)
set_option maxRecDepth 100000 in
theorem k_M_asking : ft_chk 180 = true := by decide +kernel
set_option maxRecDepth 100000 in
theorem k_M_running_0 : ft_chkL 182 ft_c182_0 = true := by decide +kernel
set_option maxRecDepth 100000 in
theorem k_M_running_1 : ft_chkL 182 ft_c182_1 = true := by decide +kernel
set_option maxRecDepth 100000 in
theorem k_M_running_2 : ft_chkL 182 ft_c182_2 = true := by decide +kernel
set_option maxRecDepth 100000 in
theorem k_M_running_3 : ft_chkL 182 ft_c182_3 = true := by decide +kernel
set_option maxRecDepth 100000 in
theorem k_M_running_4 : ft_chkL 182 ft_c182_4 = true := by decide +kernel
theorem k_M_running : ft_chk 182 = true := ft_chk_app k_M_running_0 (ft_chk_app k_M_running_1 (ft_chk_app k_M_running_2 (ft_chk_app k_M_running_3 (k_M_running_4))))
set_option maxRecDepth 100000 in
theorem k_M_sync : ft_chk 184 = true := by decide +kernel
set_option maxRecDepth 100000 in
theorem k_M_hearAck_0 : ft_chkL 185 ft_c185_0 = true := by decide +kernel
set_option maxRecDepth 100000 in
theorem k_M_hearAck_1 : ft_chkL 185 ft_c185_1 = true := by decide +kernel
set_option maxRecDepth 100000 in
theorem k_M_hearAck_2 : ft_chkL 185 ft_c185_2 = true := by decide +kernel
theorem k_M_hearAck : ft_chk 185 = true := ft_chk_app k_M_hearAck_0 (ft_chk_app k_M_hearAck_1 (k_M_hearAck_2))
set_option maxRecDepth 100000 in
theorem k_M_deliver_0 : ft_chkL 188 ft_c188_0 = true := by decide +kernel
set_option maxRecDepth 100000 in
theorem k_M_deliver_1 : ft_chkL 188 ft_c188_1 = true := by decide +kernel
theorem k_M_deliver : ft_chk 188 = true := ft_chk_app k_M_deliver_0 (k_M_deliver_1)
set_option maxRecDepth 100000 in
theorem k_M_turn_0 : ft_chkL 189 ft_c189_0 = true := by decide +kernel
set_option maxRecDepth 100000 in
theorem k_M_turn_1 : ft_chkL 189 ft_c189_1 = true := by decide +kernel
theorem k_M_turn : ft_chk 189 = true := ft_chk_app k_M_turn_0 (k_M_turn_1)
set_option maxRecDepth 100000 in
theorem k_M_timers_0 : ft_chkL 190 ft_c190_0 = true := by decide +kernel
set_option maxRecDepth 100000 in
theorem k_M_timers_1 : ft_chkL 190 ft_c190_1 = true := by decide +kernel
set_option maxRecDepth 100000 in
theorem k_M_timers_2 : ft_chkL 190 ft_c190_2 = true := by decide +kernel
theorem k_M_timers : ft_chk 190 = true := ft_chk_app k_M_timers_0 (ft_chk_app k_M_timers_1 (k_M_timers_2))
set_option maxRecDepth 100000 in
theorem k_M_repeatOr : ft_chk 191 = true := by decide +kernel
set_option maxRecDepth 100000 in
theorem k_M_lose : ft_chk 195 = true := by decide +kernel
set_option maxRecDepth 100000 in
theorem k_M_hold : ft_chk 197 = true := by decide +kernel
set_option maxRecDepth 100000 in
theorem k_M_repeat_0 : ft_chkL 198 ft_c198_0 = true := by decide +kernel
set_option maxRecDepth 100000 in
theorem k_M_repeat_1 : ft_chkL 198 ft_c198_1 = true := by decide +kernel
theorem k_M_repeat : ft_chk 198 = true := ft_chk_app k_M_repeat_0 (k_M_repeat_1)
set_option maxRecDepth 100000 in
theorem k_M_alter : ft_chk 199 = true := by decide +kernel
set_option maxRecDepth 100000 in
theorem k_M_feed_0 : ft_chkL 200 ft_c200_0 = true := by decide +kernel
set_option maxRecDepth 100000 in
theorem k_M_feed_1 : ft_chkL 200 ft_c200_1 = true := by decide +kernel
theorem k_M_feed : ft_chk 200 = true := ft_chk_app k_M_feed_0 (k_M_feed_1)
set_option maxRecDepth 100000 in
theorem k_M_put_0 : ft_chkL 201 ft_c201_0 = true := by decide +kernel
set_option maxRecDepth 100000 in
theorem k_M_put_1 : ft_chkL 201 ft_c201_1 = true := by decide +kernel
theorem k_M_put : ft_chk 201 = true := ft_chk_app k_M_put_0 (k_M_put_1)
set_option maxRecDepth 100000 in
theorem k_M_feature_0 : ft_chkL 207 ft_c207_0 = true := by decide +kernel
set_option maxRecDepth 100000 in
theorem k_M_feature_1 : ft_chkL 207 ft_c207_1 = true := by decide +kernel
theorem k_M_feature : ft_chk 207 = true := ft_chk_app k_M_feature_0 (k_M_feature_1)
set_option maxRecDepth 100000 in
theorem k_M_got : ft_chk 209 = true := by decide +kernel
