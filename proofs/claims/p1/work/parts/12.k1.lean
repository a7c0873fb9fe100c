set_option maxRecDepth 100000 in
theorem z_F_init : ft_zok 1 := ⟨⟨90, rfl⟩, ⟨71, by decide +kernel⟩, by decide +kernel, by decide +kernel⟩
set_option maxRecDepth 100000 in
theorem z_Math_floorMod : ft_zok 2 := ⟨⟨100, rfl⟩, ⟨73, by decide +kernel⟩, by decide +kernel, by decide +kernel⟩
set_option maxRecDepth 100000 in
theorem z_Li_init : ft_zok 3 := ⟨⟨103, rfl⟩, ⟨72, by decide +kernel⟩, by decide +kernel, by decide +kernel⟩
set_option maxRecDepth 100000 in
theorem z_Pa_init : ft_zok 4 := ⟨⟨110, rfl⟩, ⟨74, by decide +kernel⟩, by decide +kernel, by decide +kernel⟩
set_option maxRecDepth 100000 in
theorem z_En_init : ft_zok 5 := ⟨⟨164, rfl⟩, ⟨75, by decide +kernel⟩, by decide +kernel, by decide +kernel⟩
set_option maxRecDepth 100000 in
theorem z_Re_init : ft_zok 6 := ⟨⟨170, rfl⟩, ⟨76, by decide +kernel⟩, by decide +kernel, by decide +kernel⟩
set_option maxRecDepth 100000 in
theorem z_Fl_init : ft_zok 7 := ⟨⟨202, rfl⟩, ⟨77, by decide +kernel⟩, by decide +kernel, by decide +kernel⟩
set_option maxRecDepth 100000 in
theorem z_Da_init : ft_zok 8 := ⟨⟨242, rfl⟩, ⟨78, by decide +kernel⟩, by decide +kernel, by decide +kernel⟩
set_option maxRecDepth 100000 in
theorem z_Math_max : ft_zok 9 := ⟨⟨246, rfl⟩, ⟨73, by decide +kernel⟩, by decide +kernel, by decide +kernel⟩
set_option maxRecDepth 100000 in
theorem z_Ag_init : ft_zok 10 := ⟨⟨268, rfl⟩, ⟨79, by decide +kernel⟩, by decide +kernel, by decide +kernel⟩
set_option maxRecDepth 100000 in
theorem z_Co_init : ft_zok 11 := ⟨⟨276, rfl⟩, ⟨80, by decide +kernel⟩, by decide +kernel, by decide +kernel⟩
set_option maxRecDepth 100000 in
theorem z_Ch_init : ft_zok 12 := ⟨⟨292, rfl⟩, ⟨81, by decide +kernel⟩, by decide +kernel, by decide +kernel⟩
set_option maxRecDepth 100000 in
theorem z_Fe_init : ft_zok 13 := ⟨⟨308, rfl⟩, ⟨82, by decide +kernel⟩, by decide +kernel, by decide +kernel⟩
set_option maxRecDepth 100000 in
theorem z_En_restart : ft_zok 14 := ⟨⟨364, rfl⟩, ⟨75, by decide +kernel⟩, by decide +kernel, by decide +kernel⟩
set_option maxRecDepth 100000 in
theorem z_En_enter : ft_zok 15 := ⟨⟨368, rfl⟩, ⟨75, by decide +kernel⟩, by decide +kernel, by decide +kernel⟩
set_option maxRecDepth 100000 in
theorem z_Ag_restart : ft_zok 16 := ⟨⟨372, rfl⟩, ⟨79, by decide +kernel⟩, by decide +kernel, by decide +kernel⟩
set_option maxRecDepth 100000 in
theorem z_Fe_restart : ft_zok 17 := ⟨⟨376, rfl⟩, ⟨82, by decide +kernel⟩, by decide +kernel, by decide +kernel⟩
set_option maxRecDepth 100000 in
theorem z_F_isFeature : ft_zok 18 := ⟨⟨379, rfl⟩, ⟨71, by decide +kernel⟩, by decide +kernel, by decide +kernel⟩
set_option maxRecDepth 100000 in
theorem z_Ch_add : ft_zok 19 := ⟨⟨385, rfl⟩, ⟨81, by decide +kernel⟩, by decide +kernel, by decide +kernel⟩
set_option maxRecDepth 100000 in
theorem z_Re_restart : ft_zok 20 := ⟨⟨389, rfl⟩, ⟨76, by decide +kernel⟩, by decide +kernel, by decide +kernel⟩
set_option maxRecDepth 100000 in
theorem z_Arrays_fill : ft_zok 21 := ⟨⟨392, rfl⟩, ⟨83, by decide +kernel⟩, by decide +kernel, by decide +kernel⟩
set_option maxRecDepth 100000 in
theorem z_Fl_restart : ft_zok 22 := ⟨⟨396, rfl⟩, ⟨77, by decide +kernel⟩, by decide +kernel, by decide +kernel⟩
set_option maxRecDepth 100000 in
theorem z_Da_clear : ft_zok 23 := ⟨⟨402, rfl⟩, ⟨78, by decide +kernel⟩, by decide +kernel, by decide +kernel⟩
set_option maxRecDepth 100000 in
theorem z_F_open : ft_zok 24 := ⟨⟨485, rfl⟩, ⟨71, by decide +kernel⟩, by decide +kernel, by decide +kernel⟩
set_option maxRecDepth 100000 in
theorem z_En_send : ft_zok 25 := ⟨⟨490, rfl⟩, ⟨75, by decide +kernel⟩, by decide +kernel, by decide +kernel⟩
set_option maxRecDepth 100000 in
theorem z_Pa_begin : ft_zok 26 := ⟨⟨494, rfl⟩, ⟨74, by decide +kernel⟩, by decide +kernel, by decide +kernel⟩
set_option maxRecDepth 100000 in
theorem z_Pa_appendNumber : ft_zok 27 := ⟨⟨498, rfl⟩, ⟨74, by decide +kernel⟩, by decide +kernel, by decide +kernel⟩
set_option maxRecDepth 100000 in
theorem z_Pa_hasAck : ft_zok 28 := ⟨⟨502, rfl⟩, ⟨74, by decide +kernel⟩, by decide +kernel, by decide +kernel⟩
set_option maxRecDepth 100000 in
theorem z_Co_moveTo : ft_zok 30 := ⟨⟨510, rfl⟩, ⟨80, by decide +kernel⟩, by decide +kernel, by decide +kernel⟩
set_option maxRecDepth 100000 in
theorem z_Ag_writeChanges : ft_zok 31 := ⟨⟨515, rfl⟩, ⟨79, by decide +kernel⟩, by decide +kernel, by decide +kernel⟩
set_option maxRecDepth 100000 in
theorem z_Ch_item : ft_zok 32 := ⟨⟨520, rfl⟩, ⟨81, by decide +kernel⟩, by decide +kernel, by decide +kernel⟩
set_option maxRecDepth 100000 in
theorem z_Ag_find : ft_zok 34 := ⟨⟨528, rfl⟩, ⟨79, by decide +kernel⟩, by decide +kernel, by decide +kernel⟩
set_option maxRecDepth 100000 in
theorem z_Pa_optionsAt : ft_zok 38 := ⟨⟨547, rfl⟩, ⟨74, by decide +kernel⟩, by decide +kernel, by decide +kernel⟩
set_option maxRecDepth 100000 in
theorem z_Pa_hasData : ft_zok 40 := ⟨⟨556, rfl⟩, ⟨74, by decide +kernel⟩, by decide +kernel, by decide +kernel⟩
set_option maxRecDepth 100000 in
theorem z_Re_noteOwn : ft_zok 43 := ⟨⟨570, rfl⟩, ⟨76, by decide +kernel⟩, by decide +kernel, by decide +kernel⟩
set_option maxRecDepth 100000 in
theorem z_Fl_note : ft_zok 44 := ⟨⟨576, rfl⟩, ⟨77, by decide +kernel⟩, by decide +kernel, by decide +kernel⟩
set_option maxRecDepth 100000 in
theorem z_Pa_makeCheckRight : ft_zok 45 := ⟨⟨582, rfl⟩, ⟨74, by decide +kernel⟩, by decide +kernel, by decide +kernel⟩
set_option maxRecDepth 100000 in
theorem z_Pa_check : ft_zok 46 := ⟨⟨586, rfl⟩, ⟨74, by decide +kernel⟩, by decide +kernel, by decide +kernel⟩
set_option maxRecDepth 100000 in
theorem z_Li_post : ft_zok 47 := ⟨⟨591, rfl⟩, ⟨72, by decide +kernel⟩, by decide +kernel, by decide +kernel⟩
set_option maxRecDepth 100000 in
theorem z_F_listen : ft_zok 48 := ⟨⟨595, rfl⟩, ⟨71, by decide +kernel⟩, by decide +kernel, by decide +kernel⟩
set_option maxRecDepth 100000 in
theorem z_F_close : ft_zok 49 := ⟨⟨599, rfl⟩, ⟨71, by decide +kernel⟩, by decide +kernel, by decide +kernel⟩
set_option maxRecDepth 100000 in
theorem z_F_isEnd : ft_zok 50 := ⟨⟨602, rfl⟩, ⟨71, by decide +kernel⟩, by decide +kernel, by decide +kernel⟩
set_option maxRecDepth 100000 in
theorem z_En_leave : ft_zok 51 := ⟨⟨606, rfl⟩, ⟨75, by decide +kernel⟩, by decide +kernel, by decide +kernel⟩
set_option maxRecDepth 100000 in
theorem z_F_give : ft_zok 53 := ⟨⟨615, rfl⟩, ⟨71, by decide +kernel⟩, by decide +kernel, by decide +kernel⟩
set_option maxRecDepth 100000 in
theorem z_Da_waiting : ft_zok 54 := ⟨⟨619, rfl⟩, ⟨78, by decide +kernel⟩, by decide +kernel, by decide +kernel⟩
set_option maxRecDepth 100000 in
theorem z_F_want : ft_zok 57 := ⟨⟨631, rfl⟩, ⟨71, by decide +kernel⟩, by decide +kernel, by decide +kernel⟩
set_option maxRecDepth 100000 in
theorem z_Ch_unpack : ft_zok 58 := ⟨⟨636, rfl⟩, ⟨81, by decide +kernel⟩, by decide +kernel, by decide +kernel⟩
set_option maxRecDepth 100000 in
theorem z_Ch_isRightFor : ft_zok 59 := ⟨⟨641, rfl⟩, ⟨81, by decide +kernel⟩, by decide +kernel, by decide +kernel⟩
set_option maxRecDepth 100000 in
theorem z_Ag_changing : ft_zok 62 := ⟨⟨659, rfl⟩, ⟨79, by decide +kernel⟩, by decide +kernel, by decide +kernel⟩
set_option maxRecDepth 100000 in
theorem z_F_tick : ft_zok 63 := ⟨⟨663, rfl⟩, ⟨71, by decide +kernel⟩, by decide +kernel, by decide +kernel⟩
set_option maxRecDepth 100000 in
theorem z_Li_has : ft_zok 65 := ⟨⟨671, rfl⟩, ⟨72, by decide +kernel⟩, by decide +kernel, by decide +kernel⟩
set_option maxRecDepth 100000 in
theorem z_F_isAfter : ft_zok 81 := ⟨⟨739, rfl⟩, ⟨71, by decide +kernel⟩, by decide +kernel, by decide +kernel⟩
set_option maxRecDepth 100000 in
theorem z_Math_min2 : ft_zok 98 := ⟨⟨818, rfl⟩, ⟨73, by decide +kernel⟩, by decide +kernel, by decide +kernel⟩
set_option maxRecDepth 100000 in
theorem z_En_pass : ft_zok 102 := ⟨⟨841, rfl⟩, ⟨75, by decide +kernel⟩, by decide +kernel, by decide +kernel⟩
set_option maxRecDepth 100000 in
theorem z_En_passState : ft_zok 103 := ⟨⟨845, rfl⟩, ⟨75, by decide +kernel⟩, by decide +kernel, by decide +kernel⟩
set_option maxRecDepth 100000 in
theorem z_F_lose : ft_zok 109 := ⟨⟨870, rfl⟩, ⟨71, by decide +kernel⟩, by decide +kernel, by decide +kernel⟩
set_option maxRecDepth 100000 in
theorem z_F_hold : ft_zok 110 := ⟨⟨876, rfl⟩, ⟨71, by decide +kernel⟩, by decide +kernel, by decide +kernel⟩
set_option maxRecDepth 100000 in
theorem z_F_repeat : ft_zok 111 := ⟨⟨880, rfl⟩, ⟨71, by decide +kernel⟩, by decide +kernel, by decide +kernel⟩
set_option maxRecDepth 100000 in
theorem z_Pa_fill : ft_zok 112 := ⟨⟨884, rfl⟩, ⟨74, by decide +kernel⟩, by decide +kernel, by decide +kernel⟩
set_option maxRecDepth 100000 in
theorem z_F_alter : ft_zok 113 := ⟨⟨894, rfl⟩, ⟨71, by decide +kernel⟩, by decide +kernel, by decide +kernel⟩
set_option maxRecDepth 100000 in
theorem z_F_feed : ft_zok 114 := ⟨⟨899, rfl⟩, ⟨71, by decide +kernel⟩, by decide +kernel, by decide +kernel⟩
set_option maxRecDepth 100000 in
theorem z_F_feedOne : ft_zok 115 := ⟨⟨903, rfl⟩, ⟨71, by decide +kernel⟩, by decide +kernel, by decide +kernel⟩
set_option maxRecDepth 100000 in
theorem z_F_put : ft_zok 116 := ⟨⟨907, rfl⟩, ⟨71, by decide +kernel⟩, by decide +kernel, by decide +kernel⟩
set_option maxRecDepth 100000 in
theorem z_F_way : ft_zok 117 := ⟨⟨912, rfl⟩, ⟨71, by decide +kernel⟩, by decide +kernel, by decide +kernel⟩
set_option maxRecDepth 100000 in
theorem z_F_packet : ft_zok 118 := ⟨⟨916, rfl⟩, ⟨71, by decide +kernel⟩, by decide +kernel, by decide +kernel⟩
set_option maxRecDepth 100000 in
theorem z_F_octet : ft_zok 119 := ⟨⟨920, rfl⟩, ⟨71, by decide +kernel⟩, by decide +kernel, by decide +kernel⟩
set_option maxRecDepth 100000 in
theorem z_F_state : ft_zok 120 := ⟨⟨924, rfl⟩, ⟨71, by decide +kernel⟩, by decide +kernel, by decide +kernel⟩
set_option maxRecDepth 100000 in
theorem z_F_number : ft_zok 121 := ⟨⟨928, rfl⟩, ⟨71, by decide +kernel⟩, by decide +kernel, by decide +kernel⟩
set_option maxRecDepth 100000 in
theorem z_F_feature : ft_zok 122 := ⟨⟨934, rfl⟩, ⟨71, by decide +kernel⟩, by decide +kernel, by decide +kernel⟩
set_option maxRecDepth 100000 in
theorem z_F_count : ft_zok 123 := ⟨⟨940, rfl⟩, ⟨71, by decide +kernel⟩, by decide +kernel, by decide +kernel⟩
set_option maxRecDepth 100000 in
theorem z_F_got : ft_zok 124 := ⟨⟨944, rfl⟩, ⟨71, by decide +kernel⟩, by decide +kernel, by decide +kernel⟩
set_option maxRecDepth 100000 in
theorem z_F_seen : ft_zok 127 := ⟨⟨956, rfl⟩, ⟨71, by decide +kernel⟩, by decide +kernel, by decide +kernel⟩
set_option maxRecDepth 100000 in
theorem z_F_sent : ft_zok 128 := ⟨⟨962, rfl⟩, ⟨71, by decide +kernel⟩, by decide +kernel, by decide +kernel⟩
set_option maxRecDepth 100000 in
theorem z_L_cell : ft_zok 129 := ⟨⟨967, rfl⟩, ⟨70, by decide +kernel⟩, by decide +kernel, by decide +kernel⟩
set_option maxRecDepth 100000 in
theorem z_M_init : ft_zok 130 := ⟨⟨972, rfl⟩, ⟨84, by decide +kernel⟩, by decide +kernel, by decide +kernel⟩
set_option maxRecDepth 100000 in
theorem z_M_around : ft_zok 131 := ⟨⟨976, rfl⟩, ⟨84, by decide +kernel⟩, by decide +kernel, by decide +kernel⟩
set_option maxRecDepth 100000 in
theorem z_M_atFirst : ft_zok 132 := ⟨⟨981, rfl⟩, ⟨84, by decide +kernel⟩, by decide +kernel, by decide +kernel⟩
set_option maxRecDepth 100000 in
theorem z_M_feat : ft_zok 133 := ⟨⟨984, rfl⟩, ⟨84, by decide +kernel⟩, by decide +kernel, by decide +kernel⟩
set_option maxRecDepth 100000 in
theorem z_M_open : ft_zok 134 := ⟨⟨1185, rfl⟩, ⟨84, by decide +kernel⟩, by decide +kernel, by decide +kernel⟩
set_option maxRecDepth 100000 in
theorem z_M_become : ft_zok 135 := ⟨⟨1189, rfl⟩, ⟨84, by decide +kernel⟩, by decide +kernel, by decide +kernel⟩
set_option maxRecDepth 100000 in
theorem z_M_sendPlain : ft_zok 136 := ⟨⟨1193, rfl⟩, ⟨84, by decide +kernel⟩, by decide +kernel, by decide +kernel⟩
set_option maxRecDepth 100000 in
theorem z_M_send : ft_zok 137 := ⟨⟨1197, rfl⟩, ⟨84, by decide +kernel⟩, by decide +kernel, by decide +kernel⟩
set_option maxRecDepth 100000 in
theorem z_M_pipe : ft_zok 138 := ⟨⟨1201, rfl⟩, ⟨84, by decide +kernel⟩, by decide +kernel, by decide +kernel⟩
set_option maxRecDepth 100000 in
theorem z_M_isOwn : ft_zok 139 := ⟨⟨1205, rfl⟩, ⟨84, by decide +kernel⟩, by decide +kernel, by decide +kernel⟩
set_option maxRecDepth 100000 in
theorem z_M_in : ft_zok 140 := ⟨⟨1209, rfl⟩, ⟨84, by decide +kernel⟩, by decide +kernel, by decide +kernel⟩
set_option maxRecDepth 100000 in
theorem z_M_before : ft_zok 141 := ⟨⟨1212, rfl⟩, ⟨84, by decide +kernel⟩, by decide +kernel, by decide +kernel⟩
set_option maxRecDepth 100000 in
theorem z_M_after : ft_zok 142 := ⟨⟨1215, rfl⟩, ⟨84, by decide +kernel⟩, by decide +kernel, by decide +kernel⟩
set_option maxRecDepth 100000 in
theorem z_M_at : ft_zok 143 := ⟨⟨1219, rfl⟩, ⟨84, by decide +kernel⟩, by decide +kernel, by decide +kernel⟩
set_option maxRecDepth 100000 in
theorem z_M_byteOf : ft_zok 144 := ⟨⟨1223, rfl⟩, ⟨84, by decide +kernel⟩, by decide +kernel, by decide +kernel⟩
set_option maxRecDepth 100000 in
theorem z_M_six : ft_zok 145 := ⟨⟨1227, rfl⟩, ⟨84, by decide +kernel⟩, by decide +kernel, by decide +kernel⟩
set_option maxRecDepth 100000 in
theorem z_M_hasAck : ft_zok 146 := ⟨⟨1230, rfl⟩, ⟨84, by decide +kernel⟩, by decide +kernel, by decide +kernel⟩
set_option maxRecDepth 100000 in
theorem z_M_putConfirms : ft_zok 147 := ⟨⟨1234, rfl⟩, ⟨84, by decide +kernel⟩, by decide +kernel, by decide +kernel⟩
set_option maxRecDepth 100000 in
theorem z_M_putChanges : ft_zok 149 := ⟨⟨1242, rfl⟩, ⟨84, by decide +kernel⟩, by decide +kernel, by decide +kernel⟩
set_option maxRecDepth 100000 in
theorem z_M_checkOf : ft_zok 153 := ⟨⟨1258, rfl⟩, ⟨84, by decide +kernel⟩, by decide +kernel, by decide +kernel⟩
set_option maxRecDepth 100000 in
theorem z_M_listen : ft_zok 154 := ⟨⟨1263, rfl⟩, ⟨84, by decide +kernel⟩, by decide +kernel, by decide +kernel⟩
set_option maxRecDepth 100000 in
theorem z_M_close : ft_zok 155 := ⟨⟨1267, rfl⟩, ⟨84, by decide +kernel⟩, by decide +kernel, by decide +kernel⟩
set_option maxRecDepth 100000 in
theorem z_M_isEnd : ft_zok 156 := ⟨⟨1270, rfl⟩, ⟨84, by decide +kernel⟩, by decide +kernel, by decide +kernel⟩
set_option maxRecDepth 100000 in
theorem z_M_give : ft_zok 158 := ⟨⟨1279, rfl⟩, ⟨84, by decide +kernel⟩, by decide +kernel, by decide +kernel⟩
set_option maxRecDepth 100000 in
theorem z_M_want : ft_zok 159 := ⟨⟨1285, rfl⟩, ⟨84, by decide +kernel⟩, by decide +kernel, by decide +kernel⟩
set_option maxRecDepth 100000 in
theorem z_M_isList : ft_zok 160 := ⟨⟨1291, rfl⟩, ⟨84, by decide +kernel⟩, by decide +kernel, by decide +kernel⟩
set_option maxRecDepth 100000 in
theorem z_M_mayBe : ft_zok 161 := ⟨⟨1294, rfl⟩, ⟨84, by decide +kernel⟩, by decide +kernel, by decide +kernel⟩
set_option maxRecDepth 100000 in
theorem z_M_changes : ft_zok 162 := ⟨⟨1300, rfl⟩, ⟨84, by decide +kernel⟩, by decide +kernel, by decide +kernel⟩
set_option maxRecDepth 100000 in
theorem z_M_tick : ft_zok 163 := ⟨⟨1304, rfl⟩, ⟨84, by decide +kernel⟩, by decide +kernel, by decide +kernel⟩
set_option maxRecDepth 100000 in
theorem z_M_one : ft_zok 164 := ⟨⟨1309, rfl⟩, ⟨84, by decide +kernel⟩, by decide +kernel, by decide +kernel⟩
set_option maxRecDepth 100000 in
theorem z_M_turn : ft_zok 188 := ⟨⟨1408, rfl⟩, ⟨84, by decide +kernel⟩, by decide +kernel, by decide +kernel⟩
set_option maxRecDepth 100000 in
theorem z_M_timers : ft_zok 189 := ⟨⟨1412, rfl⟩, ⟨84, by decide +kernel⟩, by decide +kernel, by decide +kernel⟩
set_option maxRecDepth 100000 in
theorem z_M_lose : ft_zok 194 := ⟨⟨1432, rfl⟩, ⟨84, by decide +kernel⟩, by decide +kernel, by decide +kernel⟩
set_option maxRecDepth 100000 in
theorem z_M_isThere : ft_zok 195 := ⟨⟨1436, rfl⟩, ⟨84, by decide +kernel⟩, by decide +kernel, by decide +kernel⟩
set_option maxRecDepth 100000 in
theorem z_M_hold : ft_zok 196 := ⟨⟨1440, rfl⟩, ⟨84, by decide +kernel⟩, by decide +kernel, by decide +kernel⟩
set_option maxRecDepth 100000 in
theorem z_M_repeat : ft_zok 197 := ⟨⟨1444, rfl⟩, ⟨84, by decide +kernel⟩, by decide +kernel, by decide +kernel⟩
set_option maxRecDepth 100000 in
theorem z_M_alter : ft_zok 198 := ⟨⟨1448, rfl⟩, ⟨84, by decide +kernel⟩, by decide +kernel, by decide +kernel⟩
set_option maxRecDepth 100000 in
theorem z_M_feed : ft_zok 199 := ⟨⟨1452, rfl⟩, ⟨84, by decide +kernel⟩, by decide +kernel, by decide +kernel⟩
set_option maxRecDepth 100000 in
theorem z_M_put : ft_zok 200 := ⟨⟨1456, rfl⟩, ⟨84, by decide +kernel⟩, by decide +kernel, by decide +kernel⟩
set_option maxRecDepth 100000 in
theorem z_M_way : ft_zok 201 := ⟨⟨1460, rfl⟩, ⟨84, by decide +kernel⟩, by decide +kernel, by decide +kernel⟩
set_option maxRecDepth 100000 in
theorem z_M_packet : ft_zok 202 := ⟨⟨1464, rfl⟩, ⟨84, by decide +kernel⟩, by decide +kernel, by decide +kernel⟩
set_option maxRecDepth 100000 in
theorem z_M_octet : ft_zok 203 := ⟨⟨1468, rfl⟩, ⟨84, by decide +kernel⟩, by decide +kernel, by decide +kernel⟩
set_option maxRecDepth 100000 in
theorem z_M_state : ft_zok 204 := ⟨⟨1472, rfl⟩, ⟨84, by decide +kernel⟩, by decide +kernel, by decide +kernel⟩
set_option maxRecDepth 100000 in
theorem z_M_number : ft_zok 205 := ⟨⟨1476, rfl⟩, ⟨84, by decide +kernel⟩, by decide +kernel, by decide +kernel⟩
set_option maxRecDepth 100000 in
theorem z_M_feature : ft_zok 206 := ⟨⟨1483, rfl⟩, ⟨84, by decide +kernel⟩, by decide +kernel, by decide +kernel⟩
set_option maxRecDepth 100000 in
theorem z_M_count : ft_zok 207 := ⟨⟨1487, rfl⟩, ⟨84, by decide +kernel⟩, by decide +kernel, by decide +kernel⟩
set_option maxRecDepth 100000 in
theorem z_M_got : ft_zok 208 := ⟨⟨1491, rfl⟩, ⟨84, by decide +kernel⟩, by decide +kernel, by decide +kernel⟩
set_option maxRecDepth 100000 in
theorem z_M_seen : ft_zok 209 := ⟨⟨1495, rfl⟩, ⟨84, by decide +kernel⟩, by decide +kernel, by decide +kernel⟩
set_option maxRecDepth 100000 in
theorem z_M_sent : ft_zok 210 := ⟨⟨1499, rfl⟩, ⟨84, by decide +kernel⟩, by decide +kernel, by decide +kernel⟩
set_option maxRecDepth 100000 in
theorem k_L_law_0 : ft_chkL 0 ft_c0_0 = true := by decide +kernel
set_option maxRecDepth 100000 in
theorem k_L_law_1 : ft_chkL 0 ft_c0_1 = true := by decide +kernel
set_option maxRecDepth 100000 in
theorem k_L_law_2 : ft_chkL 0 ft_c0_2 = true := by decide +kernel
set_option maxRecDepth 100000 in
theorem k_L_law_3 : ft_chkL 0 ft_c0_3 = true := by decide +kernel
set_option maxRecDepth 100000 in
theorem k_L_law_4 : ft_chkL 0 ft_c0_4 = true := by decide +kernel
set_option maxRecDepth 100000 in
theorem k_L_law_5 : ft_chkL 0 ft_c0_5 = true := by decide +kernel
set_option maxRecDepth 100000 in
theorem k_L_law_6 : ft_chkL 0 ft_c0_6 = true := by decide +kernel
set_option maxRecDepth 100000 in
theorem k_L_law_7 : ft_chkL 0 ft_c0_7 = true := by decide +kernel
set_option maxRecDepth 100000 in
theorem k_L_law_8 : ft_chkL 0 ft_c0_8 = true := by decide +kernel
set_option maxRecDepth 100000 in
theorem k_L_law_9 : ft_chkL 0 ft_c0_9 = true := by decide +kernel
set_option maxRecDepth 100000 in
theorem k_L_law_10 : ft_chkL 0 ft_c0_10 = true := by decide +kernel
set_option maxRecDepth 100000 in
theorem k_L_law_11 : ft_chkL 0 ft_c0_11 = true := by decide +kernel
set_option maxRecDepth 100000 in
theorem k_L_law_12 : ft_chkL 0 ft_c0_12 = true := by decide +kernel
theorem k_L_law : ft_chk 0 = true := ft_chk_app k_L_law_0 (ft_chk_app k_L_law_1 (ft_chk_app k_L_law_2 (ft_chk_app k_L_law_3 (ft_chk_app k_L_law_4 (ft_chk_app k_L_law_5 (ft_chk_app k_L_law_6 (ft_chk_app k_L_law_7 (ft_chk_app k_L_law_8 (ft_chk_app k_L_law_9 (ft_chk_app k_L_law_10 (ft_chk_app k_L_law_11 (k_L_law_12))))))))))))
set_option maxRecDepth 100000 in
theorem k_F_init : ft_chk 1 = true := by decide +kernel
set_option maxRecDepth 100000 in
theorem k_Math_floorMod : ft_chk 2 = true := by decide +kernel
set_option maxRecDepth 100000 in
theorem k_Li_init : ft_chk 3 = true := by decide +kernel
set_option maxRecDepth 100000 in
theorem k_Pa_init : ft_chk 4 = true := by decide +kernel
set_option maxRecDepth 100000 in
theorem k_En_init : ft_chk 5 = true := by decide +kernel
set_option maxRecDepth 100000 in
theorem k_Re_init : ft_chk 6 = true := by decide +kernel
set_option maxRecDepth 100000 in
theorem k_Fl_init : ft_chk 7 = true := by decide +kernel
set_option maxRecDepth 100000 in
theorem k_Da_init : ft_chk 8 = true := by decide +kernel
set_option maxRecDepth 100000 in
theorem k_Math_max : ft_chk 9 = true := by decide +kernel
set_option maxRecDepth 100000 in
theorem k_Ag_init : ft_chk 10 = true := by decide +kernel
set_option maxRecDepth 100000 in
theorem k_Co_init : ft_chk 11 = true := by decide +kernel
set_option maxRecDepth 100000 in
theorem k_Ch_init : ft_chk 12 = true := by decide +kernel
set_option maxRecDepth 100000 in
theorem k_Fe_init : ft_chk 13 = true := by decide +kernel
set_option maxRecDepth 100000 in
theorem k_En_restart : ft_chk 14 = true := by decide +kernel
set_option maxRecDepth 100000 in
theorem k_En_enter : ft_chk 15 = true := by decide +kernel
set_option maxRecDepth 100000 in
theorem k_Ag_restart : ft_chk 16 = true := by decide +kernel
set_option maxRecDepth 100000 in
theorem k_Fe_restart : ft_chk 17 = true := by decide +kernel
set_option maxRecDepth 100000 in
theorem k_F_isFeature : ft_chk 18 = true := by decide +kernel
set_option maxRecDepth 100000 in
theorem k_Ch_add : ft_chk 19 = true := by decide +kernel
set_option maxRecDepth 100000 in
theorem k_Re_restart : ft_chk 20 = true := by decide +kernel
set_option maxRecDepth 100000 in
theorem k_Arrays_fill : ft_chk 21 = true := by decide +kernel
