set_option maxRecDepth 100000 in
theorem z_F_init : ft_zok 1 := ⟨⟨90, rfl⟩, ⟨71, by decide +kernel⟩, by decide +kernel, by decide +kernel⟩
set_option maxRecDepth 100000 in
theorem z_Math_floorMod : ft_zok 2 := ⟨⟨100, rfl⟩, ⟨73, by decide +kernel⟩, by decide +kernel, by decide +kernel⟩
set_option maxRecDepth 100000 in
theorem z_Li_init : ft_zok 3 := ⟨⟨103, rfl⟩, ⟨72, by decide +kernel⟩, by decide +kernel, by decide +kernel⟩
set_option maxRecDepth 100000 in
theorem z_Pa_init : ft_zok 4 := ⟨⟨110, rfl⟩, ⟨74, by decide +kernel⟩, by decide +kernel, by decide +kernel⟩
set_option maxRecDepth 100000 in
theorem z_En_init : ft_zok 5 := ⟨⟨164, rfl⟩, ⟨75, by decide +kernel⟩, by decide +kernel, by decide +kernel⟩
set_option maxRecDepth 100000 in
theorem z_Re_init : ft_zok 6 := ⟨⟨170, rfl⟩, ⟨76, by decide +kernel⟩, by decide +kernel, by decide +kernel⟩
set_option maxRecDepth 100000 in
theorem z_Fl_init : ft_zok 7 := ⟨⟨202, rfl⟩, ⟨77, by decide +kernel⟩, by decide +kernel, by decide +kernel⟩
set_option maxRecDepth 100000 in
theorem z_Da_init : ft_zok 8 := ⟨⟨242, rfl⟩, ⟨78, by decide +kernel⟩, by decide +kernel, by decide +kernel⟩
set_option maxRecDepth 100000 in
theorem z_Math_max : ft_zok 9 := ⟨⟨246, rfl⟩, ⟨73, by decide +kernel⟩, by decide +kernel, by decide +kernel⟩
set_option maxRecDepth 100000 in
theorem z_Ag_init : ft_zok 10 := ⟨⟨268, rfl⟩, ⟨79, by decide +kernel⟩, by decide +kernel, by decide +kernel⟩
set_option maxRecDepth 100000 in
theorem z_Co_init : ft_zok 11 := ⟨⟨276, rfl⟩, ⟨80, by decide +kernel⟩, by decide +kernel, by decide +kernel⟩
set_option maxRecDepth 100000 in
theorem z_Ch_init : ft_zok 12 := ⟨⟨292, rfl⟩, ⟨81, by decide +kernel⟩, by decide +kernel, by decide +kernel⟩
set_option maxRecDepth 100000 in
theorem z_Fe_init : ft_zok 13 := ⟨⟨308, rfl⟩, ⟨82, by decide +kernel⟩, by decide +kernel, by decide +kernel⟩
set_option maxRecDepth 100000 in
theorem z_En_restart : ft_zok 14 := ⟨⟨364, rfl⟩, ⟨75, by decide +kernel⟩, by decide +kernel, by decide +kernel⟩
set_option maxRecDepth 100000 in
theorem z_En_enter : ft_zok 15 := ⟨⟨368, rfl⟩, ⟨75, by decide +kernel⟩, by decide +kernel, by decide +kernel⟩
set_option maxRecDepth 100000 in
theorem z_Ag_restart : ft_zok 16 := ⟨⟨372, rfl⟩, ⟨79, by decide +kernel⟩, by decide +kernel, by decide +kernel⟩
set_option maxRecDepth 100000 in
theorem z_Fe_restart : ft_zok 17 := ⟨⟨376, rfl⟩, ⟨82, by decide +kernel⟩, by decide +kernel, by decide +kernel⟩
set_option maxRecDepth 100000 in
theorem z_F_isFeature : ft_zok 18 := ⟨⟨379, rfl⟩, ⟨71, by decide +kernel⟩, by decide +kernel, by decide +kernel⟩
set_option maxRecDepth 100000 in
theorem z_Ch_add : ft_zok 19 := ⟨⟨385, rfl⟩, ⟨81, by decide +kernel⟩, by decide +kernel, by decide +kernel⟩
set_option maxRecDepth 100000 in
theorem z_Re_restart : ft_zok 20 := ⟨⟨389, rfl⟩, ⟨76, by decide +kernel⟩, by decide +kernel, by decide +kernel⟩
set_option maxRecDepth 100000 in
theorem z_Arrays_fill : ft_zok 21 := ⟨⟨392, rfl⟩, ⟨83, by decide +kernel⟩, by decide +kernel, by decide +kernel⟩
set_option maxRecDepth 100000 in
theorem z_Arrays_fill2 : ft_zok 22 := ⟨⟨396, rfl⟩, ⟨83, by decide +kernel⟩, by decide +kernel, by decide +kernel⟩
set_option maxRecDepth 100000 in
theorem z_Fl_restart : ft_zok 23 := ⟨⟨400, rfl⟩, ⟨77, by decide +kernel⟩, by decide +kernel, by decide +kernel⟩
set_option maxRecDepth 100000 in
theorem z_Da_clear : ft_zok 24 := ⟨⟨406, rfl⟩, ⟨78, by decide +kernel⟩, by decide +kernel, by decide +kernel⟩
set_option maxRecDepth 100000 in
theorem z_F_open : ft_zok 25 := ⟨⟨489, rfl⟩, ⟨71, by decide +kernel⟩, by decide +kernel, by decide +kernel⟩
set_option maxRecDepth 100000 in
theorem z_En_send : ft_zok 26 := ⟨⟨494, rfl⟩, ⟨75, by decide +kernel⟩, by decide +kernel, by decide +kernel⟩
set_option maxRecDepth 100000 in
theorem z_Pa_begin : ft_zok 27 := ⟨⟨498, rfl⟩, ⟨74, by decide +kernel⟩, by decide +kernel, by decide +kernel⟩
set_option maxRecDepth 100000 in
theorem z_Pa_appendNumber : ft_zok 28 := ⟨⟨502, rfl⟩, ⟨74, by decide +kernel⟩, by decide +kernel, by decide +kernel⟩
set_option maxRecDepth 100000 in
theorem z_Pa_hasAck : ft_zok 29 := ⟨⟨506, rfl⟩, ⟨74, by decide +kernel⟩, by decide +kernel, by decide +kernel⟩
set_option maxRecDepth 100000 in
theorem z_Co_moveTo : ft_zok 31 := ⟨⟨514, rfl⟩, ⟨80, by decide +kernel⟩, by decide +kernel, by decide +kernel⟩
set_option maxRecDepth 100000 in
theorem z_Ag_writeChanges : ft_zok 32 := ⟨⟨519, rfl⟩, ⟨79, by decide +kernel⟩, by decide +kernel, by decide +kernel⟩
set_option maxRecDepth 100000 in
theorem z_Ch_item : ft_zok 33 := ⟨⟨524, rfl⟩, ⟨81, by decide +kernel⟩, by decide +kernel, by decide +kernel⟩
set_option maxRecDepth 100000 in
theorem z_Ag_find : ft_zok 35 := ⟨⟨532, rfl⟩, ⟨79, by decide +kernel⟩, by decide +kernel, by decide +kernel⟩
set_option maxRecDepth 100000 in
theorem z_Pa_optionsAt : ft_zok 39 := ⟨⟨551, rfl⟩, ⟨74, by decide +kernel⟩, by decide +kernel, by decide +kernel⟩
set_option maxRecDepth 100000 in
theorem z_Pa_hasData : ft_zok 41 := ⟨⟨560, rfl⟩, ⟨74, by decide +kernel⟩, by decide +kernel, by decide +kernel⟩
set_option maxRecDepth 100000 in
theorem z_Re_noteOwn : ft_zok 44 := ⟨⟨574, rfl⟩, ⟨76, by decide +kernel⟩, by decide +kernel, by decide +kernel⟩
set_option maxRecDepth 100000 in
theorem z_Fl_note : ft_zok 45 := ⟨⟨578, rfl⟩, ⟨77, by decide +kernel⟩, by decide +kernel, by decide +kernel⟩
set_option maxRecDepth 100000 in
theorem z_Pa_makeCheckRight : ft_zok 46 := ⟨⟨584, rfl⟩, ⟨74, by decide +kernel⟩, by decide +kernel, by decide +kernel⟩
set_option maxRecDepth 100000 in
theorem z_Pa_check : ft_zok 47 := ⟨⟨588, rfl⟩, ⟨74, by decide +kernel⟩, by decide +kernel, by decide +kernel⟩
set_option maxRecDepth 100000 in
theorem z_Li_post : ft_zok 48 := ⟨⟨593, rfl⟩, ⟨72, by decide +kernel⟩, by decide +kernel, by decide +kernel⟩
set_option maxRecDepth 100000 in
theorem z_F_listen : ft_zok 49 := ⟨⟨597, rfl⟩, ⟨71, by decide +kernel⟩, by decide +kernel, by decide +kernel⟩
set_option maxRecDepth 100000 in
theorem z_F_close : ft_zok 50 := ⟨⟨601, rfl⟩, ⟨71, by decide +kernel⟩, by decide +kernel, by decide +kernel⟩
set_option maxRecDepth 100000 in
theorem z_F_isEnd : ft_zok 51 := ⟨⟨604, rfl⟩, ⟨71, by decide +kernel⟩, by decide +kernel, by decide +kernel⟩
set_option maxRecDepth 100000 in
theorem z_En_leave : ft_zok 52 := ⟨⟨608, rfl⟩, ⟨75, by decide +kernel⟩, by decide +kernel, by decide +kernel⟩
set_option maxRecDepth 100000 in
theorem z_F_give : ft_zok 54 := ⟨⟨617, rfl⟩, ⟨71, by decide +kernel⟩, by decide +kernel, by decide +kernel⟩
set_option maxRecDepth 100000 in
theorem z_Da_waiting : ft_zok 55 := ⟨⟨621, rfl⟩, ⟨78, by decide +kernel⟩, by decide +kernel, by decide +kernel⟩
set_option maxRecDepth 100000 in
theorem z_F_want : ft_zok 58 := ⟨⟨633, rfl⟩, ⟨71, by decide +kernel⟩, by decide +kernel, by decide +kernel⟩
set_option maxRecDepth 100000 in
theorem z_Ch_unpack : ft_zok 59 := ⟨⟨638, rfl⟩, ⟨81, by decide +kernel⟩, by decide +kernel, by decide +kernel⟩
set_option maxRecDepth 100000 in
theorem z_Ch_isRightFor : ft_zok 60 := ⟨⟨643, rfl⟩, ⟨81, by decide +kernel⟩, by decide +kernel, by decide +kernel⟩
set_option maxRecDepth 100000 in
theorem z_Ag_changing : ft_zok 63 := ⟨⟨661, rfl⟩, ⟨79, by decide +kernel⟩, by decide +kernel, by decide +kernel⟩
set_option maxRecDepth 100000 in
theorem z_F_tick : ft_zok 64 := ⟨⟨665, rfl⟩, ⟨71, by decide +kernel⟩, by decide +kernel, by decide +kernel⟩
set_option maxRecDepth 100000 in
theorem z_Li_has : ft_zok 66 := ⟨⟨673, rfl⟩, ⟨72, by decide +kernel⟩, by decide +kernel, by decide +kernel⟩
set_option maxRecDepth 100000 in
theorem z_F_isAfter : ft_zok 82 := ⟨⟨741, rfl⟩, ⟨71, by decide +kernel⟩, by decide +kernel, by decide +kernel⟩
set_option maxRecDepth 100000 in
theorem z_Math_min2 : ft_zok 99 := ⟨⟨819, rfl⟩, ⟨73, by decide +kernel⟩, by decide +kernel, by decide +kernel⟩
set_option maxRecDepth 100000 in
theorem z_En_pass : ft_zok 103 := ⟨⟨842, rfl⟩, ⟨75, by decide +kernel⟩, by decide +kernel, by decide +kernel⟩
set_option maxRecDepth 100000 in
theorem z_En_passState : ft_zok 104 := ⟨⟨846, rfl⟩, ⟨75, by decide +kernel⟩, by decide +kernel, by decide +kernel⟩
set_option maxRecDepth 100000 in
theorem z_F_lose : ft_zok 110 := ⟨⟨871, rfl⟩, ⟨71, by decide +kernel⟩, by decide +kernel, by decide +kernel⟩
set_option maxRecDepth 100000 in
theorem z_F_hold : ft_zok 111 := ⟨⟨877, rfl⟩, ⟨71, by decide +kernel⟩, by decide +kernel, by decide +kernel⟩
set_option maxRecDepth 100000 in
theorem z_F_repeat : ft_zok 112 := ⟨⟨881, rfl⟩, ⟨71, by decide +kernel⟩, by decide +kernel, by decide +kernel⟩
set_option maxRecDepth 100000 in
theorem z_Pa_fill : ft_zok 113 := ⟨⟨885, rfl⟩, ⟨74, by decide +kernel⟩, by decide +kernel, by decide +kernel⟩
set_option maxRecDepth 100000 in
theorem z_F_alter : ft_zok 114 := ⟨⟨895, rfl⟩, ⟨71, by decide +kernel⟩, by decide +kernel, by decide +kernel⟩
set_option maxRecDepth 100000 in
theorem z_F_feed : ft_zok 115 := ⟨⟨900, rfl⟩, ⟨71, by decide +kernel⟩, by decide +kernel, by decide +kernel⟩
set_option maxRecDepth 100000 in
theorem z_F_feedOne : ft_zok 116 := ⟨⟨904, rfl⟩, ⟨71, by decide +kernel⟩, by decide +kernel, by decide +kernel⟩
set_option maxRecDepth 100000 in
theorem z_F_put : ft_zok 117 := ⟨⟨908, rfl⟩, ⟨71, by decide +kernel⟩, by decide +kernel, by decide +kernel⟩
set_option maxRecDepth 100000 in
theorem z_F_way : ft_zok 118 := ⟨⟨913, rfl⟩, ⟨71, by decide +kernel⟩, by decide +kernel, by decide +kernel⟩
set_option maxRecDepth 100000 in
theorem z_F_packet : ft_zok 119 := ⟨⟨917, rfl⟩, ⟨71, by decide +kernel⟩, by decide +kernel, by decide +kernel⟩
set_option maxRecDepth 100000 in
theorem z_F_octet : ft_zok 120 := ⟨⟨921, rfl⟩, ⟨71, by decide +kernel⟩, by decide +kernel, by decide +kernel⟩
set_option maxRecDepth 100000 in
theorem z_F_state : ft_zok 121 := ⟨⟨925, rfl⟩, ⟨71, by decide +kernel⟩, by decide +kernel, by decide +kernel⟩
set_option maxRecDepth 100000 in
theorem z_F_number : ft_zok 122 := ⟨⟨929, rfl⟩, ⟨71, by decide +kernel⟩, by decide +kernel, by decide +kernel⟩
set_option maxRecDepth 100000 in
theorem z_F_feature : ft_zok 123 := ⟨⟨935, rfl⟩, ⟨71, by decide +kernel⟩, by decide +kernel, by decide +kernel⟩
set_option maxRecDepth 100000 in
theorem z_F_count : ft_zok 124 := ⟨⟨941, rfl⟩, ⟨71, by decide +kernel⟩, by decide +kernel, by decide +kernel⟩
set_option maxRecDepth 100000 in
theorem z_F_got : ft_zok 125 := ⟨⟨945, rfl⟩, ⟨71, by decide +kernel⟩, by decide +kernel, by decide +kernel⟩
set_option maxRecDepth 100000 in
theorem z_F_seen : ft_zok 128 := ⟨⟨957, rfl⟩, ⟨71, by decide +kernel⟩, by decide +kernel, by decide +kernel⟩
set_option maxRecDepth 100000 in
theorem z_F_sent : ft_zok 129 := ⟨⟨963, rfl⟩, ⟨71, by decide +kernel⟩, by decide +kernel, by decide +kernel⟩
set_option maxRecDepth 100000 in
theorem z_L_cell : ft_zok 130 := ⟨⟨968, rfl⟩, ⟨70, by decide +kernel⟩, by decide +kernel, by decide +kernel⟩
set_option maxRecDepth 100000 in
theorem z_M_init : ft_zok 131 := ⟨⟨973, rfl⟩, ⟨84, by decide +kernel⟩, by decide +kernel, by decide +kernel⟩
set_option maxRecDepth 100000 in
theorem z_M_around : ft_zok 132 := ⟨⟨977, rfl⟩, ⟨84, by decide +kernel⟩, by decide +kernel, by decide +kernel⟩
set_option maxRecDepth 100000 in
theorem z_M_atFirst : ft_zok 133 := ⟨⟨982, rfl⟩, ⟨84, by decide +kernel⟩, by decide +kernel, by decide +kernel⟩
set_option maxRecDepth 100000 in
theorem z_M_feat : ft_zok 134 := ⟨⟨985, rfl⟩, ⟨84, by decide +kernel⟩, by decide +kernel, by decide +kernel⟩
set_option maxRecDepth 100000 in
theorem z_M_open : ft_zok 135 := ⟨⟨1186, rfl⟩, ⟨84, by decide +kernel⟩, by decide +kernel, by decide +kernel⟩
set_option maxRecDepth 100000 in
theorem z_M_become : ft_zok 136 := ⟨⟨1190, rfl⟩, ⟨84, by decide +kernel⟩, by decide +kernel, by decide +kernel⟩
set_option maxRecDepth 100000 in
theorem z_M_sendPlain : ft_zok 137 := ⟨⟨1194, rfl⟩, ⟨84, by decide +kernel⟩, by decide +kernel, by decide +kernel⟩
set_option maxRecDepth 100000 in
theorem z_M_send : ft_zok 138 := ⟨⟨1198, rfl⟩, ⟨84, by decide +kernel⟩, by decide +kernel, by decide +kernel⟩
set_option maxRecDepth 100000 in
theorem z_M_pipe : ft_zok 139 := ⟨⟨1202, rfl⟩, ⟨84, by decide +kernel⟩, by decide +kernel, by decide +kernel⟩
set_option maxRecDepth 100000 in
theorem z_M_isOwn : ft_zok 140 := ⟨⟨1206, rfl⟩, ⟨84, by decide +kernel⟩, by decide +kernel, by decide +kernel⟩
set_option maxRecDepth 100000 in
theorem z_M_in : ft_zok 141 := ⟨⟨1210, rfl⟩, ⟨84, by decide +kernel⟩, by decide +kernel, by decide +kernel⟩
set_option maxRecDepth 100000 in
theorem z_M_before : ft_zok 142 := ⟨⟨1213, rfl⟩, ⟨84, by decide +kernel⟩, by decide +kernel, by decide +kernel⟩
set_option maxRecDepth 100000 in
theorem z_M_after : ft_zok 143 := ⟨⟨1216, rfl⟩, ⟨84, by decide +kernel⟩, by decide +kernel, by decide +kernel⟩
set_option maxRecDepth 100000 in
theorem z_M_at : ft_zok 144 := ⟨⟨1220, rfl⟩, ⟨84, by decide +kernel⟩, by decide +kernel, by decide +kernel⟩
set_option maxRecDepth 100000 in
theorem z_M_byteOf : ft_zok 145 := ⟨⟨1224, rfl⟩, ⟨84, by decide +kernel⟩, by decide +kernel, by decide +kernel⟩
set_option maxRecDepth 100000 in
theorem z_M_six : ft_zok 146 := ⟨⟨1228, rfl⟩, ⟨84, by decide +kernel⟩, by decide +kernel, by decide +kernel⟩
set_option maxRecDepth 100000 in
theorem z_M_hasAck : ft_zok 147 := ⟨⟨1231, rfl⟩, ⟨84, by decide +kernel⟩, by decide +kernel, by decide +kernel⟩
set_option maxRecDepth 100000 in
theorem z_M_putConfirms : ft_zok 148 := ⟨⟨1235, rfl⟩, ⟨84, by decide +kernel⟩, by decide +kernel, by decide +kernel⟩
set_option maxRecDepth 100000 in
theorem z_M_putChanges : ft_zok 150 := ⟨⟨1243, rfl⟩, ⟨84, by decide +kernel⟩, by decide +kernel, by decide +kernel⟩
set_option maxRecDepth 100000 in
theorem z_M_checkOf : ft_zok 154 := ⟨⟨1259, rfl⟩, ⟨84, by decide +kernel⟩, by decide +kernel, by decide +kernel⟩
set_option maxRecDepth 100000 in
theorem z_M_listen : ft_zok 155 := ⟨⟨1264, rfl⟩, ⟨84, by decide +kernel⟩, by decide +kernel, by decide +kernel⟩
set_option maxRecDepth 100000 in
theorem z_M_close : ft_zok 156 := ⟨⟨1268, rfl⟩, ⟨84, by decide +kernel⟩, by decide +kernel, by decide +kernel⟩
set_option maxRecDepth 100000 in
theorem z_M_isEnd : ft_zok 157 := ⟨⟨1271, rfl⟩, ⟨84, by decide +kernel⟩, by decide +kernel, by decide +kernel⟩
set_option maxRecDepth 100000 in
theorem z_M_give : ft_zok 159 := ⟨⟨1280, rfl⟩, ⟨84, by decide +kernel⟩, by decide +kernel, by decide +kernel⟩
set_option maxRecDepth 100000 in
theorem z_M_want : ft_zok 160 := ⟨⟨1286, rfl⟩, ⟨84, by decide +kernel⟩, by decide +kernel, by decide +kernel⟩
set_option maxRecDepth 100000 in
theorem z_M_isList : ft_zok 161 := ⟨⟨1292, rfl⟩, ⟨84, by decide +kernel⟩, by decide +kernel, by decide +kernel⟩
set_option maxRecDepth 100000 in
theorem z_M_mayBe : ft_zok 162 := ⟨⟨1295, rfl⟩, ⟨84, by decide +kernel⟩, by decide +kernel, by decide +kernel⟩
set_option maxRecDepth 100000 in
theorem z_M_changes : ft_zok 163 := ⟨⟨1301, rfl⟩, ⟨84, by decide +kernel⟩, by decide +kernel, by decide +kernel⟩
set_option maxRecDepth 100000 in
theorem z_M_tick : ft_zok 164 := ⟨⟨1305, rfl⟩, ⟨84, by decide +kernel⟩, by decide +kernel, by decide +kernel⟩
set_option maxRecDepth 100000 in
theorem z_M_one : ft_zok 165 := ⟨⟨1310, rfl⟩, ⟨84, by decide +kernel⟩, by decide +kernel, by decide +kernel⟩
set_option maxRecDepth 100000 in
theorem z_M_turn : ft_zok 189 := ⟨⟨1409, rfl⟩, ⟨84, by decide +kernel⟩, by decide +kernel, by decide +kernel⟩
set_option maxRecDepth 100000 in
theorem z_M_timers : ft_zok 190 := ⟨⟨1413, rfl⟩, ⟨84, by decide +kernel⟩, by decide +kernel, by decide +kernel⟩
set_option maxRecDepth 100000 in
theorem z_M_lose : ft_zok 195 := ⟨⟨1433, rfl⟩, ⟨84, by decide +kernel⟩, by decide +kernel, by decide +kernel⟩
set_option maxRecDepth 100000 in
theorem z_M_isThere : ft_zok 196 := ⟨⟨1437, rfl⟩, ⟨84, by decide +kernel⟩, by decide +kernel, by decide +kernel⟩
set_option maxRecDepth 100000 in
theorem z_M_hold : ft_zok 197 := ⟨⟨1441, rfl⟩, ⟨84, by decide +kernel⟩, by decide +kernel, by decide +kernel⟩
set_option maxRecDepth 100000 in
theorem z_M_repeat : ft_zok 198 := ⟨⟨1445, rfl⟩, ⟨84, by decide +kernel⟩, by decide +kernel, by decide +kernel⟩
set_option maxRecDepth 100000 in
theorem z_M_alter : ft_zok 199 := ⟨⟨1449, rfl⟩, ⟨84, by decide +kernel⟩, by decide +kernel, by decide +kernel⟩
set_option maxRecDepth 100000 in
theorem z_M_feed : ft_zok 200 := ⟨⟨1453, rfl⟩, ⟨84, by decide +kernel⟩, by decide +kernel, by decide +kernel⟩
set_option maxRecDepth 100000 in
theorem z_M_put : ft_zok 201 := ⟨⟨1457, rfl⟩, ⟨84, by decide +kernel⟩, by decide +kernel, by decide +kernel⟩
set_option maxRecDepth 100000 in
theorem z_M_way : ft_zok 202 := ⟨⟨1461, rfl⟩, ⟨84, by decide +kernel⟩, by decide +kernel, by decide +kernel⟩
set_option maxRecDepth 100000 in
theorem z_M_packet : ft_zok 203 := ⟨⟨1465, rfl⟩, ⟨84, by decide +kernel⟩, by decide +kernel, by decide +kernel⟩
set_option maxRecDepth 100000 in
theorem z_M_octet : ft_zok 204 := ⟨⟨1469, rfl⟩, ⟨84, by decide +kernel⟩, by decide +kernel, by decide +kernel⟩
set_option maxRecDepth 100000 in
theorem z_M_state : ft_zok 205 := ⟨⟨1473, rfl⟩, ⟨84, by decide +kernel⟩, by decide +kernel, by decide +kernel⟩
set_option maxRecDepth 100000 in
theorem z_M_number : ft_zok 206 := ⟨⟨1477, rfl⟩, ⟨84, by decide +kernel⟩, by decide +kernel, by decide +kernel⟩
set_option maxRecDepth 100000 in
theorem z_M_feature : ft_zok 207 := ⟨⟨1484, rfl⟩, ⟨84, by decide +kernel⟩, by decide +kernel, by decide +kernel⟩
set_option maxRecDepth 100000 in
theorem z_M_count : ft_zok 208 := ⟨⟨1488, rfl⟩, ⟨84, by decide +kernel⟩, by decide +kernel, by decide +kernel⟩
set_option maxRecDepth 100000 in
theorem z_M_got : ft_zok 209 := ⟨⟨1492, rfl⟩, ⟨84, by decide +kernel⟩, by decide +kernel, by decide +kernel⟩
set_option maxRecDepth 100000 in
theorem z_M_seen : ft_zok 210 := ⟨⟨1496, rfl⟩, ⟨84, by decide +kernel⟩, by decide +kernel, by decide +kernel⟩
set_option maxRecDepth 100000 in
theorem z_M_sent : ft_zok 211 := ⟨⟨1500, rfl⟩, ⟨84, by decide +kernel⟩, by decide +kernel, by decide +kernel⟩
set_option maxRecDepth 100000 in
theorem k_L_law_0 : ft_chkL 0 ft_c0_0 = true := by decide +kernel
set_option maxRecDepth 100000 in
theorem k_L_law_1 : ft_chkL 0 ft_c0_1 = true := by decide +kernel
set_option maxRecDepth 100000 in
theorem k_L_law_2 : ft_chkL 0 ft_c0_2 = true := by decide +kernel
set_option maxRecDepth 100000 in
theorem k_L_law_3 : ft_chkL 0 ft_c0_3 = true := by decide +kernel
set_option maxRecDepth 100000 in
theorem k_L_law_4 : ft_chkL 0 ft_c0_4 = true := by decide +kernel
set_option maxRecDepth 100000 in
theorem k_L_law_5 : ft_chkL 0 ft_c0_5 = true := by decide +kernel
set_option maxRecDepth 100000 in
theorem k_L_law_6 : ft_chkL 0 ft_c0_6 = true := by decide +kernel
set_option maxRecDepth 100000 in
theorem k_L_law_7 : ft_chkL 0 ft_c0_7 = true := by decide +kernel
set_option maxRecDepth 100000 in
theorem k_L_law_8 : ft_chkL 0 ft_c0_8 = true := by decide +kernel
set_option maxRecDepth 100000 in
theorem k_L_law_9 : ft_chkL 0 ft_c0_9 = true := by decide +kernel
set_option maxRecDepth 100000 in
theorem k_L_law_10 : ft_chkL 0 ft_c0_10 = true := by decide +kernel
set_option maxRecDepth 100000 in
theorem k_L_law_11 : ft_chkL 0 ft_c0_11 = true := by decide +kernel
set_option maxRecDepth 100000 in
theorem k_L_law_12 : ft_chkL 0 ft_c0_12 = true := by decide +kernel
theorem k_L_law : ft_chk 0 = true := ft_chk_app k_L_law_0 (ft_chk_app k_L_law_1 (ft_chk_app k_L_law_2 (ft_chk_app k_L_law_3 (ft_chk_app k_L_law_4 (ft_chk_app k_L_law_5 (ft_chk_app k_L_law_6 (ft_chk_app k_L_law_7 (ft_chk_app k_L_law_8 (ft_chk_app k_L_law_9 (ft_chk_app k_L_law_10 (ft_chk_app k_L_law_11 (k_L_law_12))))))))))))
set_option maxRecDepth 100000 in
theorem k_F_init : ft_chk 1 = true := by decide +kernel
set_option maxRecDepth 100000 in
theorem k_Math_floorMod : ft_chk 2 = true := by decide +kernel
set_option maxRecDepth 100000 in
theorem k_Li_init : ft_chk 3 = true := by decide +kernel
set_option maxRecDepth 100000 in
theorem k_Pa_init : ft_chk 4 = true := by decide +kernel
set_option maxRecDepth 100000 in
theorem k_En_init : ft_chk 5 = true := by decide +kernel
set_option maxRecDepth 100000 in
theorem k_Re_init : ft_chk 6 = true := by decide +kernel
set_option maxRecDepth 100000 in
theorem k_Fl_init : ft_chk 7 = true := by decide +kernel
set_option maxRecDepth 100000 in
theorem k_Da_init : ft_chk 8 = true := by decide +kernel
set_option maxRecDepth 100000 in
theorem k_Math_max : ft_chk 9 = true := by decide +kernel
set_option maxRecDepth 100000 in
theorem k_Ag_init : ft_chk 10 = true := by decide +kernel
set_option maxRecDepth 100000 in
theorem k_Co_init : ft_chk 11 = true := by decide +kernel
set_option maxRecDepth 100000 in
theorem k_Ch_init : ft_chk 12 = true := by decide +kernel
set_option maxRecDepth 100000 in
theorem k_Fe_init : ft_chk 13 = true := by decide +kernel
set_option maxRecDepth 100000 in
theorem k_En_restart : ft_chk 14 = true := by decide +kernel
set_option maxRecDepth 100000 in
theorem k_En_enter : ft_chk 15 = true := by decide +kernel
set_option maxRecDepth 100000 in
theorem k_Ag_restart : ft_chk 16 = true := by decide +kernel
set_option maxRecDepth 100000 in
theorem k_Fe_restart : ft_chk 17 = true := by decide +kernel
set_option maxRecDepth 100000 in
theorem k_F_isFeature : ft_chk 18 = true := by decide +kernel
set_option maxRecDepth 100000 in
theorem k_Ch_add : ft_chk 19 = true := by decide +kernel
set_option maxRecDepth 100000 in
theorem k_Re_restart : ft_chk 20 = true := by decide +kernel
set_option maxRecDepth 100000 in
theorem k_Arrays_fill : ft_chk 21 = true := by decide +kernel
