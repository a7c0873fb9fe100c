set_option maxRecDepth 100000 in
theorem z_F_init : ft_zok 1 := ⟨⟨90, rfl⟩, ⟨71, by decide +kernel⟩, by decide +kernel, by decide +kernel⟩
set_option maxRecDepth 100000 in
theorem z_Math_floorMod : ft_zok 2 := ⟨⟨100, rfl⟩, ⟨73, by decide +kernel⟩, by decide +kernel, by decide +kernel⟩
set_option maxRecDepth 100000 in
theorem z_Li_init : ft_zok 3 := ⟨⟨103, rfl⟩, ⟨72, by decide +kernel⟩, by decide +kernel, by decide +kernel⟩
set_option maxRecDepth 100000 in
theorem z_Pa_init : ft_zok 4 := ⟨⟨110, rfl⟩, ⟨74, by decide +kernel⟩, by decide +kernel, by decide +kernel⟩
set_option maxRecDepth 100000 in
theorem z_En_init : ft_zok 5 := ⟨⟨164, rfl⟩, ⟨75, by decide +kernel⟩, by decide +kernel, by decide +kernel⟩
set_option maxRecDepth 100000 in
theorem z_Re_init : ft_zok 6 := ⟨⟨170, rfl⟩, ⟨76, by decide +kernel⟩, by decide +kernel, by decide +kernel⟩
set_option maxRecDepth 100000 in
theorem z_Fl_init : ft_zok 7 := ⟨⟨202, rfl⟩, ⟨77, by decide +kernel⟩, by decide +kernel, by decide +kernel⟩
set_option maxRecDepth 100000 in
theorem z_Da_init : ft_zok 8 := ⟨⟨242, rfl⟩, ⟨78, by decide +kernel⟩, by decide +kernel, by decide +kernel⟩
set_option maxRecDepth 100000 in
theorem z_Math_max : ft_zok 9 := ⟨⟨246, rfl⟩, ⟨73, by decide +kernel⟩, by decide +kernel, by decide +kernel⟩
set_option maxRecDepth 100000 in
theorem z_Ag_init : ft_zok 10 := ⟨⟨268, rfl⟩, ⟨79, by decide +kernel⟩, by decide +kernel, by decide +kernel⟩
set_option maxRecDepth 100000 in
theorem z_Co_init : ft_zok 11 := ⟨⟨276, rfl⟩, ⟨80, by decide +kernel⟩, by decide +kernel, by decide +kernel⟩
set_option maxRecDepth 100000 in
theorem z_Ch_init : ft_zok 12 := ⟨⟨292, rfl⟩, ⟨81, by decide +kernel⟩, by decide +kernel, by decide +kernel⟩
set_option maxRecDepth 100000 in
theorem z_Fe_init : ft_zok 13 := ⟨⟨308, rfl⟩, ⟨82, by decide +kernel⟩, by decide +kernel, by decide +kernel⟩
set_option maxRecDepth 100000 in
theorem z_En_restart : ft_zok 14 := ⟨⟨364, rfl⟩, ⟨75, by decide +kernel⟩, by decide +kernel, by decide +kernel⟩
set_option maxRecDepth 100000 in
theorem z_En_enter : ft_zok 15 := ⟨⟨368, rfl⟩, ⟨75, by decide +kernel⟩, by decide +kernel, by decide +kernel⟩
set_option maxRecDepth 100000 in
theorem z_Ag_restart : ft_zok 16 := ⟨⟨372, rfl⟩, ⟨79, by decide +kernel⟩, by decide +kernel, by decide +kernel⟩
set_option maxRecDepth 100000 in
theorem z_Fe_restart : ft_zok 17 := ⟨⟨376, rfl⟩, ⟨82, by decide +kernel⟩, by decide +kernel, by decide +kernel⟩
set_option maxRecDepth 100000 in
theorem z_F_isFeature : ft_zok 18 := ⟨⟨379, rfl⟩, ⟨71, by decide +kernel⟩, by decide +kernel, by decide +kernel⟩
set_option maxRecDepth 100000 in
theorem z_Ch_add : ft_zok 19 := ⟨⟨385, rfl⟩, ⟨81, by decide +kernel⟩, by decide +kernel, by decide +kernel⟩
set_option maxRecDepth 100000 in
theorem z_Re_restart : ft_zok 20 := ⟨⟨389, rfl⟩, ⟨76, by decide +kernel⟩, by decide +kernel, by decide +kernel⟩
set_option maxRecDepth 100000 in
theorem z_Arrays_fill : ft_zok 21 := ⟨⟨392, rfl⟩, ⟨83, by decide +kernel⟩, by decide +kernel, by decide +kernel⟩
set_option maxRecDepth 100000 in
theorem z_Arrays_fill2 : ft_zok 22 := ⟨⟨396, rfl⟩, ⟨83, by decide +kernel⟩, by decide +kernel, by decide +kernel⟩
set_option maxRecDepth 100000 in
theorem z_Fl_restart : ft_zok 23 := ⟨⟨400, rfl⟩, ⟨77, by decide +kernel⟩, by decide +kernel, by decide +kernel⟩
set_option maxRecDepth 100000 in
theorem z_Da_clear : ft_zok 24 := ⟨⟨406, rfl⟩, ⟨78, by decide +kernel⟩, by decide +kernel, by decide +kernel⟩
set_option maxRecDepth 100000 in
theorem z_F_open : ft_zok 25 := ⟨⟨489, rfl⟩, ⟨71, by decide +kernel⟩, by decide +kernel, by decide +kernel⟩
set_option maxRecDepth 100000 in
theorem z_En_send : ft_zok 26 := ⟨⟨494, rfl⟩, ⟨75, by decide +kernel⟩, by decide +kernel, by decide +kernel⟩
set_option maxRecDepth 100000 in
theorem z_Pa_begin : ft_zok 27 := ⟨⟨498, rfl⟩, ⟨74, by decide +kernel⟩, by decide +kernel, by decide +kernel⟩
set_option maxRecDepth 100000 in
theorem z_Pa_appendNumber : ft_zok 28 := ⟨⟨502, rfl⟩, ⟨74, by decide +kernel⟩, by decide +kernel, by decide +kernel⟩
set_option maxRecDepth 100000 in
theorem z_Pa_hasAck : ft_zok 29 := ⟨⟨506, rfl⟩, ⟨74, by decide +kernel⟩, by decide +kernel, by decide +kernel⟩
set_option maxRecDepth 100000 in
theorem z_Co_moveTo : ft_zok 31 := ⟨⟨514, rfl⟩, ⟨80, by decide +kernel⟩, by decide +kernel, by decide +kernel⟩
set_option maxRecDepth 100000 in
theorem z_Ag_writeChanges : ft_zok 32 := ⟨⟨519, rfl⟩, ⟨79, by decide +kernel⟩, by decide +kernel, by decide +kernel⟩
set_option maxRecDepth 100000 in
theorem z_Ch_item : ft_zok 33 := ⟨⟨524, rfl⟩, ⟨81, by decide +kernel⟩, by decide +kernel, by decide +kernel⟩
set_option maxRecDepth 100000 in
theorem z_Ag_find : ft_zok 35 := ⟨⟨532, rfl⟩, ⟨79, by decide +kernel⟩, by decide +kernel, by decide +kernel⟩
set_option maxRecDepth 100000 in
theorem z_Pa_optionsAt : ft_zok 39 := ⟨⟨551, rfl⟩, ⟨74, by decide +kernel⟩, by decide +kernel, by decide +kernel⟩
set_option maxRecDepth 100000 in
theorem z_Pa_hasData : ft_zok 41 := ⟨⟨560, rfl⟩, ⟨74, by decide +kernel⟩, by decide +kernel, by decide +kernel⟩
set_option maxRecDepth 100000 in
theorem z_Re_noteOwn : ft_zok 44 := ⟨⟨574, rfl⟩, ⟨76, by decide +kernel⟩, by decide +kernel, by decide +kernel⟩
set_option maxRecDepth 100000 in
theorem z_Fl_note : ft_zok 45 := ⟨⟨578, rfl⟩, ⟨77, by decide +kernel⟩, by decide +kernel, by decide +kernel⟩
set_option maxRecDepth 100000 in
theorem z_Pa_makeCheckRight : ft_zok 46 := ⟨⟨584, rfl⟩, ⟨74, by decide +kernel⟩, by decide +kernel, by decide +kernel⟩
set_option maxRecDepth 100000 in
theorem z_Pa_check : ft_zok 47 := ⟨⟨588, rfl⟩, ⟨74, by decide +kernel⟩, by decide +kernel, by decide +kernel⟩
set_option maxRecDepth 100000 in
theorem z_Li_post : ft_zok 48 := ⟨⟨593, rfl⟩, ⟨72, by decide +kernel⟩, by decide +kernel, by decide +kernel⟩
set_option maxRecDepth 100000 in
theorem z_F_listen : ft_zok 49 := ⟨⟨597, rfl⟩, ⟨71, by decide +kernel⟩, by decide +kernel, by decide +kernel⟩
set_option maxRecDepth 100000 in
theorem z_F_close : ft_zok 50 := ⟨⟨601, rfl⟩, ⟨71, by decide +kernel⟩, by decide +kernel, by decide +kernel⟩
set_option maxRecDepth 100000 in
theorem z_F_isEnd : ft_zok 51 := ⟨⟨604, rfl⟩, ⟨71, by decide +kernel⟩, by decide +kernel, by decide +kernel⟩
set_option maxRecDepth 100000 in
theorem z_En_leave : ft_zok 52 := ⟨⟨608, rfl⟩, ⟨75, by decide +kernel⟩, by decide +kernel, by decide +kernel⟩
set_option maxRecDepth 100000 in
theorem z_F_give : ft_zok 54 := ⟨⟨617, rfl⟩, ⟨71, by decide +kernel⟩, by decide +kernel, by decide +kernel⟩
set_option maxRecDepth 100000 in
theorem z_Da_waiting : ft_zok 55 := ⟨⟨621, rfl⟩, ⟨78, by decide +kernel⟩, by decide +kernel, by decide +kernel⟩
set_option maxRecDepth 100000 in
theorem z_F_want : ft_zok 58 := ⟨⟨633, rfl⟩, ⟨71, by decide +kernel⟩, by decide +kernel, by decide +kernel⟩
set_option maxRecDepth 100000 in
theorem z_Ch_unpack : ft_zok 59 := ⟨⟨638, rfl⟩, ⟨81, by decide +kernel⟩, by decide +kernel, by decide +kernel⟩
set_option maxRecDepth 100000 in
theorem z_Ch_isRightFor : ft_zok 60 := ⟨⟨643, rfl⟩, ⟨81, by decide +kernel⟩, by decide +kernel, by decide +kernel⟩
set_option maxRecDepth 100000 in
theorem z_Ag_changing : ft_zok 63 := ⟨⟨661, rfl⟩, ⟨79, by decide +kernel⟩, by decide +kernel, by decide +kernel⟩
set_option maxRecDepth 100000 in
theorem z_F_tick : ft_zok 64 := ⟨⟨665, rfl⟩, ⟨71, by decide +kernel⟩, by decide +kernel, by decide +kernel⟩
set_option maxRecDepth 100000 in
theorem z_Li_has : ft_zok 66 := ⟨⟨673, rfl⟩, ⟨72, by decide +kernel⟩, by decide +kernel, by decide +kernel⟩
set_option maxRecDepth 100000 in
theorem z_F_isAfter : ft_zok 82 := ⟨⟨741, rfl⟩, ⟨71, by decide +kernel⟩, by decide +kernel, by decide +kernel⟩
set_option maxRecDepth 100000 in
theorem z_En_pass : ft_zok 103 := ⟨⟨842, rfl⟩, ⟨75, by decide +kernel⟩, by decide +kernel, by decide +kernel⟩
set_option maxRecDepth 100000 in
theorem z_En_passState : ft_zok 104 := ⟨⟨846, rfl⟩, ⟨75, by decide +kernel⟩, by decide +kernel, by decide +kernel⟩
set_option maxRecDepth 100000 in
theorem z_F_lose : ft_zok 110 := ⟨⟨871, rfl⟩, ⟨71, by decide +kernel⟩, by decide +kernel, by decide +kernel⟩
set_option maxRecDepth 100000 in
theorem z_F_hold : ft_zok 111 := ⟨⟨877, rfl⟩, ⟨71, by decide +kernel⟩, by decide +kernel, by decide +kernel⟩
set_option maxRecDepth 100000 in
theorem z_F_repeat : ft_zok 112 := ⟨⟨881, rfl⟩, ⟨71, by decide +kernel⟩, by decide +kernel, by decide +kernel⟩
set_option maxRecDepth 100000 in
theorem z_Pa_fill : ft_zok 113 := ⟨⟨885, rfl⟩, ⟨74, by decide +kernel⟩, by decide +kernel, by decide +kernel⟩
set_option maxRecDepth 100000 in
theorem z_F_alter : ft_zok 114 := ⟨⟨895, rfl⟩, ⟨71, by decide +kernel⟩, by decide +kernel, by decide +kernel⟩
set_option maxRecDepth 100000 in
theorem z_F_feed : ft_zok 115 := ⟨⟨900, rfl⟩, ⟨71, by decide +kernel⟩, by decide +kernel, by decide +kernel⟩
set_option maxRecDepth 100000 in
theorem z_F_feedOne : ft_zok 116 := ⟨⟨904, rfl⟩, ⟨71, by decide +kernel⟩, by decide +kernel, by decide +kernel⟩
set_option maxRecDepth 100000 in
theorem z_F_put : ft_zok 117 := ⟨⟨908, rfl⟩, ⟨71, by decide +kernel⟩, by decide +kernel, by decide +kernel⟩
set_option maxRecDepth 100000 in
theorem z_F_way : ft_zok 118 := ⟨⟨913, rfl⟩, ⟨71, by decide +kernel⟩, by decide +kernel, by decide +kernel⟩
set_option maxRecDepth 100000 in
theorem z_F_packet : ft_zok 119 := ⟨⟨917, rfl⟩, ⟨71, by decide +kernel⟩, by decide +kernel, by decide +kernel⟩
set_option maxRecDepth 100000 in
theorem z_F_octet : ft_zok 120 := ⟨⟨921, rfl⟩, ⟨71, by decide +kernel⟩, by decide +kernel, by decide +kernel⟩
set_option maxRecDepth 100000 in
theorem z_F_state : ft_zok 121 := ⟨⟨925, rfl⟩, ⟨71, by decide +kernel⟩, by decide +kernel, by decide +kernel⟩
set_option maxRecDepth 100000 in
theorem z_F_number : ft_zok 122 := ⟨⟨929, rfl⟩, ⟨71, by decide +kernel⟩, by decide +kernel, by decide +kernel⟩
set_option maxRecDepth 100000 in
theorem z_F_feature : ft_zok 123 := ⟨⟨935, rfl⟩, ⟨71, by decide +kernel⟩, by decide +kernel, by decide +kernel⟩
set_option maxRecDepth 100000 in
theorem z_F_count : ft_zok 124 := ⟨⟨941, rfl⟩, ⟨71, by decide +kernel⟩, by decide +kernel, by decide +kernel⟩
set_option maxRecDepth 100000 in
theorem z_F_got : ft_zok 125 := ⟨⟨945, rfl⟩, ⟨71, by decide +kernel⟩, by decide +kernel, by decide +kernel⟩
set_option maxRecDepth 100000 in
theorem z_F_seen : ft_zok 128 := ⟨⟨957, rfl⟩, ⟨71, by decide +kernel⟩, by decide +kernel, by decide +kernel⟩
set_option maxRecDepth 100000 in
theorem z_F_sent : ft_zok 129 := ⟨⟨963, rfl⟩, ⟨71, by decide +kernel⟩, by decide +kernel, by decide +kernel⟩
set_option maxRecDepth 100000 in
theorem z_L_cell : ft_zok 130 := ⟨⟨968, rfl⟩, ⟨70, by decide +kernel⟩, by decide +kernel, by decide +kernel⟩
set_option maxRecDepth 100000 in
theorem z_M_init : ft_zok 131 := ⟨⟨973, rfl⟩, ⟨84, by decide +kernel⟩, by decide +kernel, by decide +kernel⟩
set_option maxRecDepth 100000 in
theorem z_M_atFirst : ft_zok 133 := ⟨⟨982, rfl⟩, ⟨84, by decide +kernel⟩, by decide +kernel, by decide +kernel⟩
set_option maxRecDepth 100000 in
theorem z_M_open : ft_zok 135 := ⟨⟨1186, rfl⟩, ⟨84, by decide +kernel⟩, by decide +kernel, by decide +kernel⟩
set_option maxRecDepth 100000 in
theorem z_M_become : ft_zok 136 := ⟨⟨1190, rfl⟩, ⟨84, by decide +kernel⟩, by decide +kernel, by decide +kernel⟩
set_option maxRecDepth 100000 in
theorem z_M_sendPlain : ft_zok 137 := ⟨⟨1194, rfl⟩, ⟨84, by decide +kernel⟩, by decide +kernel, by decide +kernel⟩
set_option maxRecDepth 100000 in
theorem z_M_send : ft_zok 138 := ⟨⟨1198, rfl⟩, ⟨84, by decide +kernel⟩, by decide +kernel, by decide +kernel⟩
set_option maxRecDepth 100000 in
theorem z_M_six : ft_zok 146 := ⟨⟨1228, rfl⟩, ⟨84, by decide +kernel⟩, by decide +kernel, by decide +kernel⟩
set_option maxRecDepth 100000 in
theorem z_M_putConfirms : ft_zok 148 := ⟨⟨1235, rfl⟩, ⟨84, by decide +kernel⟩, by decide +kernel, by decide +kernel⟩
set_option maxRecDepth 100000 in
theorem z_M_putChanges : ft_zok 150 := ⟨⟨1243, rfl⟩, ⟨84, by decide +kernel⟩, by decide +kernel, by decide +kernel⟩
set_option maxRecDepth 100000 in
theorem z_M_listen : ft_zok 155 := ⟨⟨1264, rfl⟩, ⟨84, by decide +kernel⟩, by decide +kernel, by decide +kernel⟩
set_option maxRecDepth 100000 in
theorem z_M_close : ft_zok 156 := ⟨⟨1268, rfl⟩, ⟨84, by decide +kernel⟩, by decide +kernel, by decide +kernel⟩
set_option maxRecDepth 100000 in
theorem z_M_give : ft_zok 159 := ⟨⟨1280, rfl⟩, ⟨84, by decide +kernel⟩, by decide +kernel, by decide +kernel⟩
set_option maxRecDepth 100000 in
theorem z_M_want : ft_zok 160 := ⟨⟨1286, rfl⟩, ⟨84, by decide +kernel⟩, by decide +kernel, by decide +kernel⟩
set_option maxRecDepth 100000 in
theorem z_M_isList : ft_zok 161 := ⟨⟨1292, rfl⟩, ⟨84, by decide +kernel⟩, by decide +kernel, by decide +kernel⟩
set_option maxRecDepth 100000 in
theorem z_M_tick : ft_zok 164 := ⟨⟨1305, rfl⟩, ⟨84, by decide +kernel⟩, by decide +kernel, by decide +kernel⟩
set_option maxRecDepth 100000 in
theorem z_M_one : ft_zok 165 := ⟨⟨1310, rfl⟩, ⟨84, by decide +kernel⟩, by decide +kernel, by decide +kernel⟩
set_option maxRecDepth 100000 in
theorem z_M_turn : ft_zok 189 := ⟨⟨1409, rfl⟩, ⟨84, by decide +kernel⟩, by decide +kernel, by decide +kernel⟩
set_option maxRecDepth 100000 in
theorem z_M_timers : ft_zok 190 := ⟨⟨1413, rfl⟩, ⟨84, by decide +kernel⟩, by decide +kernel, by decide +kernel⟩
set_option maxRecDepth 100000 in
theorem z_M_lose : ft_zok 195 := ⟨⟨1433, rfl⟩, ⟨84, by decide +kernel⟩, by decide +kernel, by decide +kernel⟩
set_option maxRecDepth 100000 in
theorem z_M_hold : ft_zok 197 := ⟨⟨1441, rfl⟩, ⟨84, by decide +kernel⟩, by decide +kernel, by decide +kernel⟩
set_option maxRecDepth 100000 in
theorem z_M_repeat : ft_zok 198 := ⟨⟨1445, rfl⟩, ⟨84, by decide +kernel⟩, by decide +kernel, by decide +kernel⟩
set_option maxRecDepth 100000 in
theorem z_M_alter : ft_zok 199 := ⟨⟨1449, rfl⟩, ⟨84, by decide +kernel⟩, by decide +kernel, by decide +kernel⟩
set_option maxRecDepth 100000 in
theorem z_M_feed : ft_zok 200 := ⟨⟨1453, rfl⟩, ⟨84, by decide +kernel⟩, by decide +kernel, by decide +kernel⟩
set_option maxRecDepth 100000 in
theorem z_M_put : ft_zok 201 := ⟨⟨1457, rfl⟩, ⟨84, by decide +kernel⟩, by decide +kernel, by decide +kernel⟩
set_option maxRecDepth 100000 in
theorem z_M_way : ft_zok 202 := ⟨⟨1461, rfl⟩, ⟨84, by decide +kernel⟩, by decide +kernel, by decide +kernel⟩
set_option maxRecDepth 100000 in
theorem z_M_packet : ft_zok 203 := ⟨⟨1465, rfl⟩, ⟨84, by decide +kernel⟩, by decide +kernel, by decide +kernel⟩
set_option maxRecDepth 100000 in
theorem z_M_octet : ft_zok 204 := ⟨⟨1469, rfl⟩, ⟨84, by decide +kernel⟩, by decide +kernel, by decide +kernel⟩
set_option maxRecDepth 100000 in
theorem z_M_state : ft_zok 205 := ⟨⟨1473, rfl⟩, ⟨84, by decide +kernel⟩, by decide +kernel, by decide +kernel⟩
set_option maxRecDepth 100000 in
theorem z_M_number : ft_zok 206 := ⟨⟨1477, rfl⟩, ⟨84, by decide +kernel⟩, by decide +kernel, by decide +kernel⟩
set_option maxRecDepth 100000 in
theorem z_M_feature : ft_zok 207 := ⟨⟨1484, rfl⟩, ⟨84, by decide +kernel⟩, by decide +kernel, by decide +kernel⟩
set_option maxRecDepth 100000 in
theorem z_M_count : ft_zok 208 := ⟨⟨1488, rfl⟩, ⟨84, by decide +kernel⟩, by decide +kernel, by decide +kernel⟩
set_option maxRecDepth 100000 in
theorem z_M_got : ft_zok 209 := ⟨⟨1492, rfl⟩, ⟨84, by decide +kernel⟩, by decide +kernel, by decide +kernel⟩
set_option maxRecDepth 100000 in
theorem z_M_seen : ft_zok 210 := ⟨⟨1496, rfl⟩, ⟨84, by decide +kernel⟩, by decide +kernel, by decide +kernel⟩
set_option maxRecDepth 100000 in
theorem z_M_sent : ft_zok 211 := ⟨⟨1500, rfl⟩, ⟨84, by decide +kernel⟩, by decide +kernel, by decide +kernel⟩
set_option maxRecDepth 100000 in
theorem k_L_law_0 : ft_chkL 0 ft_c0_0 = true := by decide +kernel
set_option maxRecDepth 100000 in
theorem k_L_law_1 : ft_chkL 0 ft_c0_1 = true := by decide +kernel
set_option maxRecDepth 100000 in
theorem k_L_law_2 : ft_chkL 0 ft_c0_2 = true := by decide +kernel
set_option maxRecDepth 100000 in
theorem k_L_law_3 : ft_chkL 0 ft_c0_3 = true := by decide +kernel
set_option maxRecDepth 100000 in
theorem k_L_law_4 : ft_chkL 0 ft_c0_4 = true := by decide +kernel
set_option maxRecDepth 100000 in
theorem k_L_law_5 : ft_chkL 0 ft_c0_5 = true := by decide +kernel
set_option maxRecDepth 100000 in
theorem k_L_law_6 : ft_chkL 0 ft_c0_6 = true := by decide +kernel
set_option maxRecDepth 100000 in
theorem k_L_law_7 : ft_chkL 0 ft_c0_7 = true := by decide +kernel
set_option maxRecDepth 100000 in
theorem k_L_law_8 : ft_chkL 0 ft_c0_8 = true := by decide +kernel
set_option maxRecDepth 100000 in
theorem k_L_law_9 : ft_chkL 0 ft_c0_9 = true := by decide +kernel
set_option maxRecDepth 100000 in
theorem k_L_law_10 : ft_chkL 0 ft_c0_10 = true := by decide +kernel
set_option maxRecDepth 100000 in
theorem k_L_law_11 : ft_chkL 0 ft_c0_11 = true := by decide +kernel
set_option maxRecDepth 100000 in
theorem k_L_law_12 : ft_chkL 0 ft_c0_12 = true := by decide +kernel
theorem k_L_law : ft_chk 0 = true := ft_chk_app k_L_law_0 (ft_chk_app k_L_law_1 (ft_chk_app k_L_law_2 (ft_chk_app k_L_law_3 (ft_chk_app k_L_law_4 (ft_chk_app k_L_law_5 (ft_chk_app k_L_law_6 (ft_chk_app k_L_law_7 (ft_chk_app k_L_law_8 (ft_chk_app k_L_law_9 (ft_chk_app k_L_law_10 (ft_chk_app k_L_law_11 (k_L_law_12))))))))))))
set_option maxRecDepth 100000 in
theorem k_F_init : ft_chk 1 = true := by decide +kernel
set_option maxRecDepth 100000 in
theorem k_Math_floorMod : ft_chk 2 = true := by decide +kernel
set_option maxRecDepth 100000 in
theorem k_Li_init : ft_chk 3 = true := by decide +kernel
set_option maxRecDepth 100000 in
theorem k_Pa_init : ft_chk 4 = true := by decide +kernel
set_option maxRecDepth 100000 in
theorem k_En_init : ft_chk 5 = true := by decide +kernel
set_option maxRecDepth 100000 in
theorem k_Re_init : ft_chk 6 = true := by decide +kernel
set_option maxRecDepth 100000 in
theorem k_Fl_init : ft_chk 7 = true := by decide +kernel
set_option maxRecDepth 100000 in
theorem k_Da_init : ft_chk 8 = true := by decide +kernel
set_option maxRecDepth 100000 in
theorem k_Math_max : ft_chk 9 = true := by decide +kernel
set_option maxRecDepth 100000 in
theorem k_Ag_init : ft_chk 10 = true := by decide +kernel
set_option maxRecDepth 100000 in
theorem k_Co_init : ft_chk 11 = true := by decide +kernel
set_option maxRecDepth 100000 in
theorem k_Ch_init : ft_chk 12 = true := by decide +kernel
set_option maxRecDepth 100000 in
theorem k_Fe_init : ft_chk 13 = true := by decide +kernel
set_option maxRecDepth 100000 in
theorem k_En_restart : ft_chk 14 = true := by decide +kernel
set_option maxRecDepth 100000 in
theorem k_En_enter : ft_chk 15 = true := by decide +kernel
set_option maxRecDepth 100000 in
theorem k_Ag_restart : ft_chk 16 = true := by decide +kernel
set_option maxRecDepth 100000 in
theorem k_Fe_restart : ft_chk 17 = true := by decide +kernel
set_option maxRecDepth 100000 in
theorem k_F_isFeature : ft_chk 18 = true := by decide +kernel
set_option maxRecDepth 100000 in
theorem k_Ch_add : ft_chk 19 = true := by decide +kernel
set_option maxRecDepth 100000 in
theorem k_Re_restart : ft_chk 20 = true := by decide +kernel
set_option maxRecDepth 100000 in
theorem k_Arrays_fill : ft_chk 21 = true := by decide +kernel
set_option maxRecDepth 100000 in
theorem k_Arrays_fill2 : ft_chk 22 = true := by decide +kernel
set_option maxRecDepth 100000 in
theorem k_Fl_restart : ft_chk 23 = true := by decide +kernel
set_option maxRecDepth 100000 in
theorem k_Da_clear : ft_chk 24 = true := by decide +kernel
set_option maxRecDepth 100000 in
theorem k_F_open : ft_chk 25 = true := by decide +kernel
set_option maxRecDepth 100000 in
theorem k_En_send_0 : ft_chkL 26 ft_c26_0 = true := by decide +kernel
set_option maxRecDepth 100000 in
theorem k_En_send_1 : ft_chkL 26 ft_c26_1 = true := by decide +kernel
set_option maxRecDepth 100000 in
theorem k_En_send_2 : ft_chkL 26 ft_c26_2 = true := by decide +kernel
theorem k_En_send : ft_chk 26 = true := ft_chk_app k_En_send_0 (ft_chk_app k_En_send_1 (k_En_send_2))
set_option maxRecDepth 100000 in
theorem k_Pa_begin : ft_chk 27 = true := by decide +kernel
set_option maxRecDepth 100000 in
theorem k_Pa_appendNumber : ft_chk 28 = true := by decide +kernel
set_option maxRecDepth 100000 in
theorem k_Pa_hasAck : ft_chk 29 = true := by decide +kernel
set_option maxRecDepth 100000 in
theorem k_Co_moveTo : ft_chk 31 = true := by decide +kernel
set_option maxRecDepth 100000 in
theorem k_Ag_writeChanges : ft_chk 32 = true := by decide +kernel
set_option maxRecDepth 100000 in
theorem k_Ch_item : ft_chk 33 = true := by decide +kernel
set_option maxRecDepth 100000 in
theorem k_Ag_find : ft_chk 35 = true := by decide +kernel
set_option maxRecDepth 100000 in
theorem k_Pa_optionsAt : ft_chk 39 = true := by decide +kernel
set_option maxRecDepth 100000 in
theorem k_Pa_hasData : ft_chk 41 = true := by decide +kernel
set_option maxRecDepth 100000 in
theorem k_Re_noteOwn : ft_chk 44 = true := by decide +kernel
set_option maxRecDepth 100000 in
theorem k_Fl_note : ft_chk 45 = true := by decide +kernel
set_option maxRecDepth 100000 in
theorem k_Pa_makeCheckRight : ft_chk 46 = true := by decide +kernel
set_option maxRecDepth 100000 in
theorem k_Pa_check_0 : ft_chkL 47 ft_c47_0 = true := by decide +kernel
set_option maxRecDepth 100000 in
theorem k_Pa_check_1 : ft_chkL 47 ft_c47_1 = true := by decide +kernel
theorem k_Pa_check : ft_chk 47 = true := ft_chk_app k_Pa_check_0 (k_Pa_check_1)
set_option maxRecDepth 100000 in
theorem k_Li_post : ft_chk 48 = true := by decide +kernel
set_option maxRecDepth 100000 in
theorem k_F_listen : ft_chk 49 = true := by decide +kernel
set_option maxRecDepth 100000 in
theorem k_F_close : ft_chk 50 = true := by decide +kernel
set_option maxRecDepth 100000 in
theorem k_F_isEnd : ft_chk 51 = true := by decide +kernel
set_option maxRecDepth 100000 in
theorem k_En_leave : ft_chk 52 = true := by decide +kernel
set_option maxRecDepth 100000 in
theorem k_F_give_0 : ft_chkL 54 ft_c54_0 = true := by decide +kernel
set_option maxRecDepth 100000 in
theorem k_F_give_1 : ft_chkL 54 ft_c54_1 = true := by decide +kernel
theorem k_F_give : ft_chk 54 = true := ft_chk_app k_F_give_0 (k_F_give_1)
set_option maxRecDepth 100000 in
theorem k_Da_waiting : ft_chk 55 = true := by decide +kernel
set_option maxRecDepth 100000 in
theorem k_F_want_0 : ft_chkL 58 ft_c58_0 = true := by decide +kernel
set_option maxRecDepth 100000 in
theorem k_F_want_1 : ft_chkL 58 ft_c58_1 = true := by decide +kernel
theorem k_F_want : ft_chk 58 = true := ft_chk_app k_F_want_0 (k_F_want_1)
set_option maxRecDepth 100000 in
theorem k_Ch_unpack : ft_chk 59 = true := by decide +kernel
set_option maxRecDepth 100000 in
theorem k_Ch_isRightFor_0 : ft_chkL 60 ft_c60_0 = true := by decide +kernel
set_option maxRecDepth 100000 in
theorem k_Ch_isRightFor_1 : ft_chkL 60 ft_c60_1 = true := by decide +kernel
theorem k_Ch_isRightFor : ft_chk 60 = true := ft_chk_app k_Ch_isRightFor_0 (k_Ch_isRightFor_1)
set_option maxRecDepth 100000 in
theorem k_Ag_changing : ft_chk 63 = true := by decide +kernel
set_option maxRecDepth 100000 in
theorem k_F_tick_0 : ft_chkL 64 ft_c64_0 = true := by decide +kernel
set_option maxRecDepth 100000 in
theorem k_F_tick_1 : ft_chkL 64 ft_c64_1 = true := by decide +kernel
theorem k_F_tick : ft_chk 64 = true := ft_chk_app k_F_tick_0 (k_F_tick_1)
set_option maxRecDepth 100000 in
theorem k_Li_has : ft_chk 66 = true := by decide +kernel
set_option maxRecDepth 100000 in
theorem k_F_isAfter : ft_chk 82 = true := by decide +kernel
set_option maxRecDepth 100000 in
theorem k_En_pass : ft_chk 103 = true := by decide +kernel
set_option maxRecDepth 100000 in
theorem k_En_passState_0 : ft_chkL 104 ft_c104_0 = true := by decide +kernel
set_option maxRecDepth 100000 in
theorem k_En_passState_1 : ft_chkL 104 ft_c104_1 = true := by decide +kernel
theorem k_En_passState : ft_chk 104 = true := ft_chk_app k_En_passState_0 (k_En_passState_1)
set_option maxRecDepth 100000 in
theorem k_F_lose : ft_chk 110 = true := by decide +kernel
set_option maxRecDepth 100000 in
theorem k_F_hold : ft_chk 111 = true := by decide +kernel
set_option maxRecDepth 100000 in
theorem k_F_repeat : ft_chk 112 = true := by decide +kernel
set_option maxRecDepth 100000 in
theorem k_Pa_fill : ft_chk 113 = true := by decide +kernel
set_option maxRecDepth 100000 in
theorem k_F_alter : ft_chk 114 = true := by decide +kernel
set_option maxRecDepth 100000 in
theorem k_F_feed : ft_chk 115 = true := by decide +kernel
set_option maxRecDepth 100000 in
theorem k_F_feedOne : ft_chk 116 = true := by decide +kernel
set_option maxRecDepth 100000 in
theorem k_F_put : ft_chk 117 = true := by decide +kernel
set_option maxRecDepth 100000 in
theorem k_F_way : ft_chk 118 = true := by decide +kernel
set_option maxRecDepth 100000 in
theorem k_F_packet : ft_chk 119 = true := by decide +kernel
set_option maxRecDepth 100000 in
theorem k_F_octet : ft_chk 120 = true := by decide +kernel
set_option maxRecDepth 100000 in
theorem k_F_state : ft_chk 121 = true := by decide +kernel
set_option maxRecDepth 100000 in
theorem k_F_number : ft_chk 122 = true := by decide +kernel
set_option maxRecDepth 100000 in
theorem k_F_feature : ft_chk 123 = true := by decide +kernel
set_option maxRecDepth 100000 in
theorem k_F_count_0 : ft_chkL 124 ft_c124_0 = true := by decide +kernel
set_option maxRecDepth 100000 in
theorem k_F_count_1 : ft_chkL 124 ft_c124_1 = true := by decide +kernel
theorem k_F_count : ft_chk 124 = true := ft_chk_app k_F_count_0 (k_F_count_1)
set_option maxRecDepth 100000 in
theorem k_F_got : ft_chk 125 = true := by decide +kernel
set_option maxRecDepth 100000 in
theorem k_F_seen : ft_chk 128 = true := by decide +kernel
set_option maxRecDepth 100000 in
theorem k_F_sent : ft_chk 129 = true := by decide +kernel
set_option maxRecDepth 100000 in
theorem k_L_cell : ft_chk 130 = true := by decide +kernel
set_option maxRecDepth 100000 in
theorem k_M_init_0 : ft_chkL 131 ft_c131_0 = true := by decide +kernel
set_option maxRecDepth 100000 in
theorem k_M_init_1 : ft_chkL 131 ft_c131_1 = true := by decide +kernel
set_option maxRecDepth 100000 in
theorem k_M_init_2 : ft_chkL 131 ft_c131_2 = true := by decide +kernel
set_option maxRecDepth 100000 in
theorem k_M_init_3 : ft_chkL 131 ft_c131_3 = true := by decide +kernel
set_option maxRecDepth 100000 in
theorem k_M_init_4 : ft_chkL 131 ft_c131_4 = true := by decide +kernel
theorem k_M_init : ft_chk 131 = true := ft_chk_app k_M_init_0 (ft_chk_app k_M_init_1 (ft_chk_app k_M_init_2 (ft_chk_app k_M_init_3 (k_M_init_4))))
set_option maxRecDepth 100000 in
theorem k_M_atFirst_0 : ft_chkL 133 ft_c133_0 = true := by decide +kernel
set_option maxRecDepth 100000 in
theorem k_M_atFirst_1 : ft_chkL 133 ft_c133_1 = true := by decide +kernel
set_option maxRecDepth 100000 in
theorem k_M_atFirst_2 : ft_chkL 133 ft_c133_2 = true := by decide +kernel
set_option maxRecDepth 100000 in
theorem k_M_atFirst_3 : ft_chkL 133 ft_c133_3 = true := by decide +kernel
theorem k_M_atFirst : ft_chk 133 = true := ft_chk_app k_M_atFirst_0 (ft_chk_app k_M_atFirst_1 (ft_chk_app k_M_atFirst_2 (k_M_atFirst_3)))
set_option maxRecDepth 100000 in
theorem k_M_open : ft_chk 135 = true := by decide +kernel
set_option maxRecDepth 100000 in
theorem k_M_sendPlain : ft_chk 137 = true := by decide +kernel
set_option maxRecDepth 100000 in
theorem k_M_send_0 : ft_chkL 138 ft_c138_0 = true := by decide +kernel
set_option maxRecDepth 100000 in
theorem k_M_send_1 : ft_chkL 138 ft_c138_1 = true := by decide +kernel
set_option maxRecDepth 100000 in
theorem k_M_send_2 : ft_chkL 138 ft_c138_2 = true := by decide +kernel
set_option maxRecDepth 100000 in
theorem k_M_send_3 : ft_chkL 138 ft_c138_3 = true := by decide +kernel
set_option maxRecDepth 100000 in
theorem k_M_send_4 : ft_chkL 138 ft_c138_4 = true := by decide +kernel
theorem k_M_send : ft_chk 138 = true := ft_chk_app k_M_send_0 (ft_chk_app k_M_send_1 (ft_chk_app k_M_send_2 (ft_chk_app k_M_send_3 (k_M_send_4))))
set_option maxRecDepth 100000 in
theorem k_M_putConfirms_0 : ft_chkL 148 ft_c148_0 = true := by decide +kernel
set_option maxRecDepth 100000 in
theorem k_M_putConfirms_1 : ft_chkL 148 ft_c148_1 = true := by decide +kernel
theorem k_M_putConfirms : ft_chk 148 = true := ft_chk_app k_M_putConfirms_0 (k_M_putConfirms_1)
set_option maxRecDepth 100000 in
theorem k_M_putChanges_0 : ft_chkL 150 ft_c150_0 = true := by decide +kernel
set_option maxRecDepth 100000 in
theorem k_M_putChanges_1 : ft_chkL 150 ft_c150_1 = true := by decide +kernel
theorem k_M_putChanges : ft_chk 150 = true := ft_chk_app k_M_putChanges_0 (k_M_putChanges_1)
set_option maxRecDepth 100000 in
theorem k_M_listen : ft_chk 155 = true := by decide +kernel
set_option maxRecDepth 100000 in
theorem k_M_close : ft_chk 156 = true := by decide +kernel
set_option maxRecDepth 100000 in
theorem k_M_give_0 : ft_chkL 159 ft_c159_0 = true := by decide +kernel
set_option maxRecDepth 100000 in
theorem k_M_give_1 : ft_chkL 159 ft_c159_1 = true := by decide +kernel
theorem k_M_give : ft_chk 159 = true := ft_chk_app k_M_give_0 (k_M_give_1)
set_option maxRecDepth 100000 in
theorem k_M_want_0 : ft_chkL 160 ft_c160_0 = true := by decide +kernel
set_option maxRecDepth 100000 in
theorem k_M_want_1 : ft_chkL 160 ft_c160_1 = true := by decide +kernel
theorem k_M_want : ft_chk 160 = true := ft_chk_app k_M_want_0 (k_M_want_1)
set_option maxRecDepth 100000 in
theorem k_M_tick : ft_chk 164 = true := by decide +kernel
set_option maxRecDepth 100000 in
theorem k_M_one_0 : ft_chkL 165 ft_c165_0 = true := by decide +kernel
set_option maxRecDepth 100000 in
theorem k_M_one_1 : ft_chkL 165 ft_c165_1 = true := by decide +kernel
theorem k_M_one : ft_chk 165 = true := ft_chk_app k_M_one_0 (k_M_one_1)
set_option maxRecDepth 100000 in
theorem k_M_turn_0 : ft_chkL 189 ft_c189_0 = true := by decide +kernel
set_option maxRecDepth 100000 in
theorem k_M_turn_1 : ft_chkL 189 ft_c189_1 = true := by decide +kernel
theorem k_M_turn : ft_chk 189 = true := ft_chk_app k_M_turn_0 (k_M_turn_1)
set_option maxRecDepth 100000 in
theorem k_M_timers_0 : ft_chkL 190 ft_c190_0 = true := by decide +kernel
set_option maxRecDepth 100000 in
theorem k_M_timers_1 : ft_chkL 190 ft_c190_1 = true := by decide +kernel
set_option maxRecDepth 100000 in
theorem k_M_timers_2 : ft_chkL 190 ft_c190_2 = true := by decide +kernel
theorem k_M_timers : ft_chk 190 = true := ft_chk_app k_M_timers_0 (ft_chk_app k_M_timers_1 (k_M_timers_2))
set_option maxRecDepth 100000 in
theorem k_M_lose : ft_chk 195 = true := by decide +kernel
set_option maxRecDepth 100000 in
theorem k_M_hold : ft_chk 197 = true := by decide +kernel
set_option maxRecDepth 100000 in
theorem k_M_repeat_0 : ft_chkL 198 ft_c198_0 = true := by decide +kernel
set_option maxRecDepth 100000 in
theorem k_M_repeat_1 : ft_chkL 198 ft_c198_1 = true := by decide +kernel
theorem k_M_repeat : ft_chk 198 = true := ft_chk_app k_M_repeat_0 (k_M_repeat_1)
set_option maxRecDepth 100000 in
theorem k_M_alter : ft_chk 199 = true := by decide +kernel
set_option maxRecDepth 100000 in
theorem k_M_feed_0 : ft_chkL 200 ft_c200_0 = true := by decide +kernel
set_option maxRecDepth 100000 in
theorem k_M_feed_1 : ft_chkL 200 ft_c200_1 = true := by decide +kernel
theorem k_M_feed : ft_chk 200 = true := ft_chk_app k_M_feed_0 (k_M_feed_1)
set_option maxRecDepth 100000 in
theorem k_M_put_0 : ft_chkL 201 ft_c201_0 = true := by decide +kernel
set_option maxRecDepth 100000 in
theorem k_M_put_1 : ft_chkL 201 ft_c201_1 = true := by decide +kernel
theorem k_M_put : ft_chk 201 = true := ft_chk_app k_M_put_0 (k_M_put_1)
set_option maxRecDepth 100000 in
theorem k_M_feature_0 : ft_chkL 207 ft_c207_0 = true := by decide +kernel
set_option maxRecDepth 100000 in
theorem k_M_feature_1 : ft_chkL 207 ft_c207_1 = true := by decide +kernel
theorem k_M_feature : ft_chk 207 = true := ft_chk_app k_M_feature_0 (k_M_feature_1)
set_option maxRecDepth 100000 in
theorem k_M_got : ft_chk 209 = true := by decide +kernel
set_option maxRecDepth 100000 in
theorem z_Math_min2 : ft_zok 99 := ⟨⟨819, rfl⟩, ⟨73, by decide +kernel⟩, by decide +kernel, by decide +kernel⟩
set_option maxRecDepth 100000 in
theorem k_Math_min2 : ft_chk 99 = true := by decide +kernel
