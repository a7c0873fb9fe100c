set_option maxRecDepth 100000 in
theorem z_F_init : ft_zok 1 := ⟨⟨90, rfl⟩, ⟨71, by decide +kernel⟩, by decide +kernel, by decide +kernel⟩
set_option maxRecDepth 100000 in
theorem z_Math_floorMod : ft_zok 2 := ⟨⟨100, rfl⟩, ⟨73, by decide +kernel⟩, by decide +kernel, by decide +kernel⟩
set_option maxRecDepth 100000 in
theorem z_Li_init : ft_zok 3 := ⟨⟨103, rfl⟩, ⟨72, by decide +kernel⟩, by decide +kernel, by decide +kernel⟩
set_option maxRecDepth 100000 in
theorem z_Pa_init : ft_zok 4 := ⟨⟨110, rfl⟩, ⟨74, by decide +kernel⟩, by decide +kernel, by decide +kernel⟩
set_option maxRecDepth 100000 in
theorem z_En_init : ft_zok 5 := ⟨⟨164, rfl⟩, ⟨75, by decide +kernel⟩, by decide +kernel, by decide +kernel⟩
set_option maxRecDepth 100000 in
theorem z_Re_init : ft_zok 6 := ⟨⟨170, rfl⟩, ⟨76, by decide +kernel⟩, by decide +kernel, by decide +kernel⟩
set_option maxRecDepth 100000 in
theorem z_Fl_init : ft_zok 7 := ⟨⟨202, rfl⟩, ⟨77, by decide +kernel⟩, by decide +kernel, by decide +kernel⟩
set_option maxRecDepth 100000 in
theorem z_Da_init : ft_zok 8 := ⟨⟨242, rfl⟩, ⟨78, by decide +kernel⟩, by decide +kernel, by decide +kernel⟩
set_option maxRecDepth 100000 in
theorem z_Math_max : ft_zok 9 := ⟨⟨246, rfl⟩, ⟨73, by decide +kernel⟩, by decide +kernel, by decide +kernel⟩
set_option maxRecDepth 100000 in
theorem z_Ag_init : ft_zok 10 := ⟨⟨268, rfl⟩, ⟨79, by decide +kernel⟩, by decide +kernel, by decide +kernel⟩
set_option maxRecDepth 100000 in
theorem z_Co_init : ft_zok 11 := ⟨⟨276, rfl⟩, ⟨80, by decide +kernel⟩, by decide +kernel, by decide +kernel⟩
set_option maxRecDepth 100000 in
theorem z_Ch_init : ft_zok 12 := ⟨⟨292, rfl⟩, ⟨81, by decide +kernel⟩, by decide +kernel, by decide +kernel⟩
set_option maxRecDepth 100000 in
theorem z_Fe_init : ft_zok 13 := ⟨⟨308, rfl⟩, ⟨82, by decide +kernel⟩, by decide +kernel, by decide +kernel⟩
set_option maxRecDepth 100000 in
theorem z_En_restart : ft_zok 14 := ⟨⟨364, rfl⟩, ⟨75, by decide +kernel⟩, by decide +kernel, by decide +kernel⟩
set_option maxRecDepth 100000 in
theorem z_En_enter : ft_zok 15 := ⟨⟨368, rfl⟩, ⟨75, by decide +kernel⟩, by decide +kernel, by decide +kernel⟩
set_option maxRecDepth 100000 in
theorem z_Ag_restart : ft_zok 16 := ⟨⟨372, rfl⟩, ⟨79, by decide +kernel⟩, by decide +kernel, by decide +kernel⟩
set_option maxRecDepth 100000 in
theorem z_Fe_restart : ft_zok 17 := ⟨⟨376, rfl⟩, ⟨82, by decide +kernel⟩, by decide +kernel, by decide +kernel⟩
set_option maxRecDepth 100000 in
theorem z_F_isFeature : ft_zok 18 := ⟨⟨379, rfl⟩, ⟨71, by decide +kernel⟩, by decide +kernel, by decide +kernel⟩
set_option maxRecDepth 100000 in
theorem z_Ch_add : ft_zok 19 := ⟨⟨385, rfl⟩, ⟨81, by decide +kernel⟩, by decide +kernel, by decide +kernel⟩
set_option maxRecDepth 100000 in
theorem z_Re_restart : ft_zok 20 := ⟨⟨389, rfl⟩, ⟨76, by decide +kernel⟩, by decide +kernel, by decide +kernel⟩
set_option maxRecDepth 100000 in
theorem z_Arrays_fill : ft_zok 21 := ⟨⟨392, rfl⟩, ⟨83, by decide +kernel⟩, by decide +kernel, by decide +kernel⟩
set_option maxRecDepth 100000 in
theorem z_Arrays_fill2 : ft_zok 22 := ⟨⟨396, rfl⟩, ⟨83, by decide +kernel⟩, by decide +kernel, by decide +kernel⟩
set_option maxRecDepth 100000 in
theorem z_Fl_restart : ft_zok 23 := ⟨⟨400, rfl⟩, ⟨77, by decide +kernel⟩, by decide +kernel, by decide +kernel⟩
set_option maxRecDepth 100000 in
theorem z_Da_clear : ft_zok 24 := ⟨⟨406, rfl⟩, ⟨78, by decide +kernel⟩, by decide +kernel, by decide +kernel⟩
set_option maxRecDepth 100000 in
theorem z_F_open : ft_zok 25 := ⟨⟨489, rfl⟩, ⟨71, by decide +kernel⟩, by decide +kernel, by decide +kernel⟩
set_option maxRecDepth 100000 in
theorem z_En_send : ft_zok 26 := ⟨⟨494, rfl⟩, ⟨75, by decide +kernel⟩, by decide +kernel, by decide +kernel⟩
set_option maxRecDepth 100000 in
theorem z_Pa_begin : ft_zok 27 := ⟨⟨498, rfl⟩, ⟨74, by decide +kernel⟩, by decide +kernel, by decide +kernel⟩
set_option maxRecDepth 100000 in
theorem z_Pa_appendNumber : ft_zok 28 := ⟨⟨502, rfl⟩, ⟨74, by decide +kernel⟩, by decide +kernel, by decide +kernel⟩
set_option maxRecDepth 100000 in
theorem z_Pa_hasAck : ft_zok 29 := ⟨⟨506, rfl⟩, ⟨74, by decide +kernel⟩, by decide +kernel, by decide +kernel⟩
set_option maxRecDepth 100000 in
theorem z_Pa_append : ft_zok 30 := ⟨⟨510, rfl⟩, ⟨74, by decide +kernel⟩, by decide +kernel, by decide +kernel⟩
set_option maxRecDepth 100000 in
theorem z_Co_moveTo : ft_zok 31 := ⟨⟨514, rfl⟩, ⟨80, by decide +kernel⟩, by decide +kernel, by decide +kernel⟩
set_option maxRecDepth 100000 in
theorem z_Ag_writeChanges : ft_zok 32 := ⟨⟨519, rfl⟩, ⟨79, by decide +kernel⟩, by decide +kernel, by decide +kernel⟩
set_option maxRecDepth 100000 in
theorem z_Ch_item : ft_zok 33 := ⟨⟨524, rfl⟩, ⟨81, by decide +kernel⟩, by decide +kernel, by decide +kernel⟩
set_option maxRecDepth 100000 in
theorem z_Ag_valueOf : ft_zok 34 := ⟨⟨528, rfl⟩, ⟨79, by decide +kernel⟩, by decide +kernel, by decide +kernel⟩
set_option maxRecDepth 100000 in
theorem z_Ag_find : ft_zok 35 := ⟨⟨532, rfl⟩, ⟨79, by decide +kernel⟩, by decide +kernel, by decide +kernel⟩
set_option maxRecDepth 100000 in
theorem z_Re_writeVector : ft_zok 36 := ⟨⟨536, rfl⟩, ⟨76, by decide +kernel⟩, by decide +kernel, by decide +kernel⟩
set_option maxRecDepth 100000 in
theorem z_Math_min : ft_zok 37 := ⟨⟨541, rfl⟩, ⟨73, by decide +kernel⟩, by decide +kernel, by decide +kernel⟩
set_option maxRecDepth 100000 in
theorem z_Re_markBehind : ft_zok 38 := ⟨⟨546, rfl⟩, ⟨76, by decide +kernel⟩, by decide +kernel, by decide +kernel⟩
set_option maxRecDepth 100000 in
theorem z_Pa_optionsAt : ft_zok 39 := ⟨⟨551, rfl⟩, ⟨74, by decide +kernel⟩, by decide +kernel, by decide +kernel⟩
set_option maxRecDepth 100000 in
theorem z_Pa_has : ft_zok 40 := ⟨⟨555, rfl⟩, ⟨74, by decide +kernel⟩, by decide +kernel, by decide +kernel⟩
set_option maxRecDepth 100000 in
theorem z_Pa_hasData : ft_zok 41 := ⟨⟨560, rfl⟩, ⟨74, by decide +kernel⟩, by decide +kernel, by decide +kernel⟩
set_option maxRecDepth 100000 in
theorem z_Da_moveFirstTo : ft_zok 42 := ⟨⟨564, rfl⟩, ⟨78, by decide +kernel⟩, by decide +kernel, by decide +kernel⟩
set_option maxRecDepth 100000 in
theorem z_Da_row : ft_zok 43 := ⟨⟨568, rfl⟩, ⟨78, by decide +kernel⟩, by decide +kernel, by decide +kernel⟩
set_option maxRecDepth 100000 in
theorem z_Re_noteOwn : ft_zok 44 := ⟨⟨574, rfl⟩, ⟨76, by decide +kernel⟩, by decide +kernel, by decide +kernel⟩
set_option maxRecDepth 100000 in
theorem z_Fl_note : ft_zok 45 := ⟨⟨578, rfl⟩, ⟨77, by decide +kernel⟩, by decide +kernel, by decide +kernel⟩
set_option maxRecDepth 100000 in
theorem z_Pa_makeCheckRight : ft_zok 46 := ⟨⟨584, rfl⟩, ⟨74, by decide +kernel⟩, by decide +kernel, by decide +kernel⟩
set_option maxRecDepth 100000 in
theorem z_Pa_check : ft_zok 47 := ⟨⟨588, rfl⟩, ⟨74, by decide +kernel⟩, by decide +kernel, by decide +kernel⟩
set_option maxRecDepth 100000 in
theorem z_Li_post : ft_zok 48 := ⟨⟨593, rfl⟩, ⟨72, by decide +kernel⟩, by decide +kernel, by decide +kernel⟩
set_option maxRecDepth 100000 in
theorem z_F_listen : ft_zok 49 := ⟨⟨597, rfl⟩, ⟨71, by decide +kernel⟩, by decide +kernel, by decide +kernel⟩
set_option maxRecDepth 100000 in
theorem z_F_close : ft_zok 50 := ⟨⟨601, rfl⟩, ⟨71, by decide +kernel⟩, by decide +kernel, by decide +kernel⟩
set_option maxRecDepth 100000 in
theorem z_F_isEnd : ft_zok 51 := ⟨⟨604, rfl⟩, ⟨71, by decide +kernel⟩, by decide +kernel, by decide +kernel⟩
set_option maxRecDepth 100000 in
theorem z_En_leave : ft_zok 52 := ⟨⟨608, rfl⟩, ⟨75, by decide +kernel⟩, by decide +kernel, by decide +kernel⟩
set_option maxRecDepth 100000 in
theorem z_En_abort : ft_zok 53 := ⟨⟨612, rfl⟩, ⟨75, by decide +kernel⟩, by decide +kernel, by decide +kernel⟩
set_option maxRecDepth 100000 in
theorem z_F_give : ft_zok 54 := ⟨⟨617, rfl⟩, ⟨71, by decide +kernel⟩, by decide +kernel, by decide +kernel⟩
set_option maxRecDepth 100000 in
theorem z_Da_waiting : ft_zok 55 := ⟨⟨621, rfl⟩, ⟨78, by decide +kernel⟩, by decide +kernel, by decide +kernel⟩
set_option maxRecDepth 100000 in
theorem z_Da_begin : ft_zok 56 := ⟨⟨625, rfl⟩, ⟨78, by decide +kernel⟩, by decide +kernel, by decide +kernel⟩
set_option maxRecDepth 100000 in
theorem z_Da_append : ft_zok 57 := ⟨⟨629, rfl⟩, ⟨78, by decide +kernel⟩, by decide +kernel, by decide +kernel⟩
set_option maxRecDepth 100000 in
theorem z_F_want : ft_zok 58 := ⟨⟨633, rfl⟩, ⟨71, by decide +kernel⟩, by decide +kernel, by decide +kernel⟩
set_option maxRecDepth 100000 in
theorem z_Ch_unpack : ft_zok 59 := ⟨⟨638, rfl⟩, ⟨81, by decide +kernel⟩, by decide +kernel, by decide +kernel⟩
set_option maxRecDepth 100000 in
theorem z_Ch_isRightFor : ft_zok 60 := ⟨⟨643, rfl⟩, ⟨81, by decide +kernel⟩, by decide +kernel, by decide +kernel⟩
set_option maxRecDepth 100000 in
theorem z_Ag_wish : ft_zok 61 := ⟨⟨652, rfl⟩, ⟨79, by decide +kernel⟩, by decide +kernel, by decide +kernel⟩
set_option maxRecDepth 100000 in
theorem z_Ch_copy : ft_zok 62 := ⟨⟨656, rfl⟩, ⟨81, by decide +kernel⟩, by decide +kernel, by decide +kernel⟩
set_option maxRecDepth 100000 in
theorem z_Ag_changing : ft_zok 63 := ⟨⟨661, rfl⟩, ⟨79, by decide +kernel⟩, by decide +kernel, by decide +kernel⟩
set_option maxRecDepth 100000 in
theorem z_F_tick : ft_zok 64 := ⟨⟨665, rfl⟩, ⟨71, by decide +kernel⟩, by decide +kernel, by decide +kernel⟩
set_option maxRecDepth 100000 in
theorem z_Li_takeIfDue : ft_zok 65 := ⟨⟨669, rfl⟩, ⟨72, by decide +kernel⟩, by decide +kernel, by decide +kernel⟩
set_option maxRecDepth 100000 in
theorem z_Li_has : ft_zok 66 := ⟨⟨673, rfl⟩, ⟨72, by decide +kernel⟩, by decide +kernel, by decide +kernel⟩
set_option maxRecDepth 100000 in
theorem z_Li_take : ft_zok 67 := ⟨⟨677, rfl⟩, ⟨72, by decide +kernel⟩, by decide +kernel, by decide +kernel⟩
set_option maxRecDepth 100000 in
theorem z_En_come : ft_zok 68 := ⟨⟨681, rfl⟩, ⟨75, by decide +kernel⟩, by decide +kernel, by decide +kernel⟩
set_option maxRecDepth 100000 in
theorem z_Pa_isAsTold : ft_zok 69 := ⟨⟨685, rfl⟩, ⟨74, by decide +kernel⟩, by decide +kernel, by decide +kernel⟩
set_option maxRecDepth 100000 in
theorem z_Pa_optionsEnd : ft_zok 70 := ⟨⟨689, rfl⟩, ⟨74, by decide +kernel⟩, by decide +kernel, by decide +kernel⟩
set_option maxRecDepth 100000 in
theorem z_En_reject : ft_zok 71 := ⟨⟨695, rfl⟩, ⟨75, by decide +kernel⟩, by decide +kernel, by decide +kernel⟩
set_option maxRecDepth 100000 in
theorem z_Pa_kind : ft_zok 72 := ⟨⟨699, rfl⟩, ⟨74, by decide +kernel⟩, by decide +kernel, by decide +kernel⟩
set_option maxRecDepth 100000 in
theorem z_En_comeListening : ft_zok 73 := ⟨⟨703, rfl⟩, ⟨75, by decide +kernel⟩, by decide +kernel, by decide +kernel⟩
set_option maxRecDepth 100000 in
theorem z_Pa_numberAt : ft_zok 74 := ⟨⟨707, rfl⟩, ⟨74, by decide +kernel⟩, by decide +kernel, by decide +kernel⟩
set_option maxRecDepth 100000 in
theorem z_Re_meet : ft_zok 75 := ⟨⟨712, rfl⟩, ⟨76, by decide +kernel⟩, by decide +kernel, by decide +kernel⟩
set_option maxRecDepth 100000 in
theorem z_Ag_hear : ft_zok 76 := ⟨⟨716, rfl⟩, ⟨79, by decide +kernel⟩, by decide +kernel, by decide +kernel⟩
set_option maxRecDepth 100000 in
theorem z_Pa_byteAt : ft_zok 77 := ⟨⟨722, rfl⟩, ⟨74, by decide +kernel⟩, by decide +kernel, by decide +kernel⟩
set_option maxRecDepth 100000 in
theorem z_Ag_isRight : ft_zok 78 := ⟨⟨725, rfl⟩, ⟨79, by decide +kernel⟩, by decide +kernel, by decide +kernel⟩
set_option maxRecDepth 100000 in
theorem z_Ag_hearChange : ft_zok 79 := ⟨⟨729, rfl⟩, ⟨79, by decide +kernel⟩, by decide +kernel, by decide +kernel⟩
set_option maxRecDepth 100000 in
theorem z_Co_addEmpty : ft_zok 80 := ⟨⟨733, rfl⟩, ⟨80, by decide +kernel⟩, by decide +kernel, by decide +kernel⟩
set_option maxRecDepth 100000 in
theorem z_Fe_hears : ft_zok 81 := ⟨⟨738, rfl⟩, ⟨82, by decide +kernel⟩, by decide +kernel, by decide +kernel⟩
set_option maxRecDepth 100000 in
theorem z_F_isAfter : ft_zok 82 := ⟨⟨741, rfl⟩, ⟨71, by decide +kernel⟩, by decide +kernel, by decide +kernel⟩
set_option maxRecDepth 100000 in
theorem z_Ch_read : ft_zok 83 := ⟨⟨746, rfl⟩, ⟨81, by decide +kernel⟩, by decide +kernel, by decide +kernel⟩
set_option maxRecDepth 100000 in
theorem z_Co_add : ft_zok 84 := ⟨⟨752, rfl⟩, ⟨80, by decide +kernel⟩, by decide +kernel, by decide +kernel⟩
set_option maxRecDepth 100000 in
theorem z_Ag_reconciled : ft_zok 85 := ⟨⟨758, rfl⟩, ⟨79, by decide +kernel⟩, by decide +kernel, by decide +kernel⟩
set_option maxRecDepth 100000 in
theorem z_Ch_firstThatIsIn : ft_zok 86 := ⟨⟨762, rfl⟩, ⟨81, by decide +kernel⟩, by decide +kernel, by decide +kernel⟩
set_option maxRecDepth 100000 in
theorem z_Ag_hearConfirm : ft_zok 87 := ⟨⟨766, rfl⟩, ⟨79, by decide +kernel⟩, by decide +kernel, by decide +kernel⟩
set_option maxRecDepth 100000 in
theorem z_En_comeRequesting : ft_zok 88 := ⟨⟨770, rfl⟩, ⟨75, by decide +kernel⟩, by decide +kernel, by decide +kernel⟩
set_option maxRecDepth 100000 in
theorem z_En_ackFits : ft_zok 89 := ⟨⟨775, rfl⟩, ⟨75, by decide +kernel⟩, by decide +kernel, by decide +kernel⟩
set_option maxRecDepth 100000 in
theorem z_En_comeLive : ft_zok 90 := ⟨⟨781, rfl⟩, ⟨75, by decide +kernel⟩, by decide +kernel, by decide +kernel⟩
set_option maxRecDepth 100000 in
theorem z_Re_fits : ft_zok 91 := ⟨⟨785, rfl⟩, ⟨76, by decide +kernel⟩, by decide +kernel, by decide +kernel⟩
set_option maxRecDepth 100000 in
theorem z_En_sync : ft_zok 92 := ⟨⟨790, rfl⟩, ⟨75, by decide +kernel⟩, by decide +kernel, by decide +kernel⟩
set_option maxRecDepth 100000 in
theorem z_Re_has : ft_zok 93 := ⟨⟨794, rfl⟩, ⟨76, by decide +kernel⟩, by decide +kernel, by decide +kernel⟩
set_option maxRecDepth 100000 in
theorem z_Re_add : ft_zok 94 := ⟨⟨798, rfl⟩, ⟨76, by decide +kernel⟩, by decide +kernel, by decide +kernel⟩
set_option maxRecDepth 100000 in
theorem z_En_tell : ft_zok 95 := ⟨⟨803, rfl⟩, ⟨75, by decide +kernel⟩, by decide +kernel, by decide +kernel⟩
set_option maxRecDepth 100000 in
theorem z_En_tellRow : ft_zok 96 := ⟨⟨807, rfl⟩, ⟨75, by decide +kernel⟩, by decide +kernel, by decide +kernel⟩
set_option maxRecDepth 100000 in
theorem z_Re_ownIsTold : ft_zok 97 := ⟨⟨812, rfl⟩, ⟨76, by decide +kernel⟩, by decide +kernel, by decide +kernel⟩
set_option maxRecDepth 100000 in
theorem z_Fl_isTold : ft_zok 98 := ⟨⟨816, rfl⟩, ⟨77, by decide +kernel⟩, by decide +kernel, by decide +kernel⟩
set_option maxRecDepth 100000 in
theorem z_Math_min2 : ft_zok 99 := ⟨⟨819, rfl⟩, ⟨73, by decide +kernel⟩, by decide +kernel, by decide +kernel⟩
set_option maxRecDepth 100000 in
theorem z_Fl_findLost : ft_zok 100 := ⟨⟨825, rfl⟩, ⟨77, by decide +kernel⟩, by decide +kernel, by decide +kernel⟩
set_option maxRecDepth 100000 in
theorem z_En_deliver : ft_zok 101 := ⟨⟨832, rfl⟩, ⟨75, by decide +kernel⟩, by decide +kernel, by decide +kernel⟩
set_option maxRecDepth 100000 in
theorem z_En_answer : ft_zok 102 := ⟨⟨838, rfl⟩, ⟨75, by decide +kernel⟩, by decide +kernel, by decide +kernel⟩
set_option maxRecDepth 100000 in
theorem z_En_pass : ft_zok 103 := ⟨⟨842, rfl⟩, ⟨75, by decide +kernel⟩, by decide +kernel, by decide +kernel⟩
set_option maxRecDepth 100000 in
theorem z_En_passState : ft_zok 104 := ⟨⟨846, rfl⟩, ⟨75, by decide +kernel⟩, by decide +kernel, by decide +kernel⟩
set_option maxRecDepth 100000 in
theorem z_En_sayAgain : ft_zok 105 := ⟨⟨850, rfl⟩, ⟨75, by decide +kernel⟩, by decide +kernel, by decide +kernel⟩
set_option maxRecDepth 100000 in
theorem z_Fl_loseIfTooLong : ft_zok 106 := ⟨⟨854, rfl⟩, ⟨77, by decide +kernel⟩, by decide +kernel, by decide +kernel⟩
set_option maxRecDepth 100000 in
theorem z_En_sendDatagrams : ft_zok 107 := ⟨⟨858, rfl⟩, ⟨75, by decide +kernel⟩, by decide +kernel, by decide +kernel⟩
set_option maxRecDepth 100000 in
theorem z_En_mustSpeak : ft_zok 108 := ⟨⟨863, rfl⟩, ⟨75, by decide +kernel⟩, by decide +kernel, by decide +kernel⟩
set_option maxRecDepth 100000 in
theorem z_Ag_isChangeDue : ft_zok 109 := ⟨⟨867, rfl⟩, ⟨79, by decide +kernel⟩, by decide +kernel, by decide +kernel⟩
set_option maxRecDepth 100000 in
theorem z_F_lose : ft_zok 110 := ⟨⟨871, rfl⟩, ⟨71, by decide +kernel⟩, by decide +kernel, by decide +kernel⟩
set_option maxRecDepth 100000 in
theorem z_F_hold : ft_zok 111 := ⟨⟨877, rfl⟩, ⟨71, by decide +kernel⟩, by decide +kernel, by decide +kernel⟩
set_option maxRecDepth 100000 in
theorem z_F_repeat : ft_zok 112 := ⟨⟨881, rfl⟩, ⟨71, by decide +kernel⟩, by decide +kernel, by decide +kernel⟩
set_option maxRecDepth 100000 in
theorem z_Pa_fill : ft_zok 113 := ⟨⟨885, rfl⟩, ⟨74, by decide +kernel⟩, by decide +kernel, by decide +kernel⟩
set_option maxRecDepth 100000 in
theorem z_F_alter : ft_zok 114 := ⟨⟨895, rfl⟩, ⟨71, by decide +kernel⟩, by decide +kernel, by decide +kernel⟩
set_option maxRecDepth 100000 in
theorem z_F_feed : ft_zok 115 := ⟨⟨900, rfl⟩, ⟨71, by decide +kernel⟩, by decide +kernel, by decide +kernel⟩
set_option maxRecDepth 100000 in
theorem z_F_feedOne : ft_zok 116 := ⟨⟨904, rfl⟩, ⟨71, by decide +kernel⟩, by decide +kernel, by decide +kernel⟩
set_option maxRecDepth 100000 in
theorem z_F_put : ft_zok 117 := ⟨⟨908, rfl⟩, ⟨71, by decide +kernel⟩, by decide +kernel, by decide +kernel⟩
set_option maxRecDepth 100000 in
theorem z_F_way : ft_zok 118 := ⟨⟨913, rfl⟩, ⟨71, by decide +kernel⟩, by decide +kernel, by decide +kernel⟩
set_option maxRecDepth 100000 in
theorem z_F_packet : ft_zok 119 := ⟨⟨917, rfl⟩, ⟨71, by decide +kernel⟩, by decide +kernel, by decide +kernel⟩
set_option maxRecDepth 100000 in
theorem z_F_octet : ft_zok 120 := ⟨⟨921, rfl⟩, ⟨71, by decide +kernel⟩, by decide +kernel, by decide +kernel⟩
set_option maxRecDepth 100000 in
theorem z_F_state : ft_zok 121 := ⟨⟨925, rfl⟩, ⟨71, by decide +kernel⟩, by decide +kernel, by decide +kernel⟩
set_option maxRecDepth 100000 in
theorem z_F_number : ft_zok 122 := ⟨⟨929, rfl⟩, ⟨71, by decide +kernel⟩, by decide +kernel, by decide +kernel⟩
set_option maxRecDepth 100000 in
theorem z_F_feature : ft_zok 123 := ⟨⟨935, rfl⟩, ⟨71, by decide +kernel⟩, by decide +kernel, by decide +kernel⟩
set_option maxRecDepth 100000 in
theorem z_F_count : ft_zok 124 := ⟨⟨941, rfl⟩, ⟨71, by decide +kernel⟩, by decide +kernel, by decide +kernel⟩
set_option maxRecDepth 100000 in
theorem z_F_got : ft_zok 125 := ⟨⟨945, rfl⟩, ⟨71, by decide +kernel⟩, by decide +kernel, by decide +kernel⟩
set_option maxRecDepth 100000 in
theorem z_Da_sizeOf : ft_zok 126 := ⟨⟨949, rfl⟩, ⟨78, by decide +kernel⟩, by decide +kernel, by decide +kernel⟩
set_option maxRecDepth 100000 in
theorem z_Da_byteOf : ft_zok 127 := ⟨⟨953, rfl⟩, ⟨78, by decide +kernel⟩, by decide +kernel, by decide +kernel⟩
set_option maxRecDepth 100000 in
theorem z_F_seen : ft_zok 128 := ⟨⟨957, rfl⟩, ⟨71, by decide +kernel⟩, by decide +kernel, by decide +kernel⟩
set_option maxRecDepth 100000 in
theorem z_F_sent : ft_zok 129 := ⟨⟨963, rfl⟩, ⟨71, by decide +kernel⟩, by decide +kernel, by decide +kernel⟩
set_option maxRecDepth 100000 in
theorem z_L_cell : ft_zok 130 := ⟨⟨968, rfl⟩, ⟨70, by decide +kernel⟩, by decide +kernel, by decide +kernel⟩
set_option maxRecDepth 100000 in
theorem z_M_init : ft_zok 131 := ⟨⟨973, rfl⟩, ⟨84, by decide +kernel⟩, by decide +kernel, by decide +kernel⟩
set_option maxRecDepth 100000 in
theorem z_M_around : ft_zok 132 := ⟨⟨977, rfl⟩, ⟨84, by decide +kernel⟩, by decide +kernel, by decide +kernel⟩
set_option maxRecDepth 100000 in
theorem z_M_atFirst : ft_zok 133 := ⟨⟨982, rfl⟩, ⟨84, by decide +kernel⟩, by decide +kernel, by decide +kernel⟩
set_option maxRecDepth 100000 in
theorem z_M_feat : ft_zok 134 := ⟨⟨985, rfl⟩, ⟨84, by decide +kernel⟩, by decide +kernel, by decide +kernel⟩
set_option maxRecDepth 100000 in
theorem z_M_open : ft_zok 135 := ⟨⟨1186, rfl⟩, ⟨84, by decide +kernel⟩, by decide +kernel, by decide +kernel⟩
set_option maxRecDepth 100000 in
theorem z_M_become : ft_zok 136 := ⟨⟨1190, rfl⟩, ⟨84, by decide +kernel⟩, by decide +kernel, by decide +kernel⟩
set_option maxRecDepth 100000 in
theorem z_M_sendPlain : ft_zok 137 := ⟨⟨1194, rfl⟩, ⟨84, by decide +kernel⟩, by decide +kernel, by decide +kernel⟩
set_option maxRecDepth 100000 in
theorem z_M_send : ft_zok 138 := ⟨⟨1198, rfl⟩, ⟨84, by decide +kernel⟩, by decide +kernel, by decide +kernel⟩
set_option maxRecDepth 100000 in
theorem z_M_pipe : ft_zok 139 := ⟨⟨1202, rfl⟩, ⟨84, by decide +kernel⟩, by decide +kernel, by decide +kernel⟩
set_option maxRecDepth 100000 in
theorem z_M_isOwn : ft_zok 140 := ⟨⟨1206, rfl⟩, ⟨84, by decide +kernel⟩, by decide +kernel, by decide +kernel⟩
set_option maxRecDepth 100000 in
theorem z_M_in : ft_zok 141 := ⟨⟨1210, rfl⟩, ⟨84, by decide +kernel⟩, by decide +kernel, by decide +kernel⟩
set_option maxRecDepth 100000 in
theorem z_M_before : ft_zok 142 := ⟨⟨1213, rfl⟩, ⟨84, by decide +kernel⟩, by decide +kernel, by decide +kernel⟩
set_option maxRecDepth 100000 in
theorem z_M_after : ft_zok 143 := ⟨⟨1216, rfl⟩, ⟨84, by decide +kernel⟩, by decide +kernel, by decide +kernel⟩
set_option maxRecDepth 100000 in
theorem z_M_at : ft_zok 144 := ⟨⟨1220, rfl⟩, ⟨84, by decide +kernel⟩, by decide +kernel, by decide +kernel⟩
set_option maxRecDepth 100000 in
theorem z_M_byteOf : ft_zok 145 := ⟨⟨1224, rfl⟩, ⟨84, by decide +kernel⟩, by decide +kernel, by decide +kernel⟩
set_option maxRecDepth 100000 in
theorem z_M_six : ft_zok 146 := ⟨⟨1228, rfl⟩, ⟨84, by decide +kernel⟩, by decide +kernel, by decide +kernel⟩
set_option maxRecDepth 100000 in
theorem z_M_hasAck : ft_zok 147 := ⟨⟨1231, rfl⟩, ⟨84, by decide +kernel⟩, by decide +kernel, by decide +kernel⟩
set_option maxRecDepth 100000 in
theorem z_M_putConfirms : ft_zok 148 := ⟨⟨1235, rfl⟩, ⟨84, by decide +kernel⟩, by decide +kernel, by decide +kernel⟩
set_option maxRecDepth 100000 in
theorem z_M_fits : ft_zok 149 := ⟨⟨1239, rfl⟩, ⟨84, by decide +kernel⟩, by decide +kernel, by decide +kernel⟩
set_option maxRecDepth 100000 in
theorem z_M_putChanges : ft_zok 150 := ⟨⟨1243, rfl⟩, ⟨84, by decide +kernel⟩, by decide +kernel, by decide +kernel⟩
set_option maxRecDepth 100000 in
theorem z_M_putRow : ft_zok 151 := ⟨⟨1247, rfl⟩, ⟨84, by decide +kernel⟩, by decide +kernel, by decide +kernel⟩
set_option maxRecDepth 100000 in
theorem z_M_inRow : ft_zok 152 := ⟨⟨1251, rfl⟩, ⟨84, by decide +kernel⟩, by decide +kernel, by decide +kernel⟩
set_option maxRecDepth 100000 in
theorem z_M_shift : ft_zok 153 := ⟨⟨1256, rfl⟩, ⟨84, by decide +kernel⟩, by decide +kernel, by decide +kernel⟩
set_option maxRecDepth 100000 in
theorem z_M_checkOf : ft_zok 154 := ⟨⟨1259, rfl⟩, ⟨84, by decide +kernel⟩, by decide +kernel, by decide +kernel⟩
set_option maxRecDepth 100000 in
theorem z_M_listen : ft_zok 155 := ⟨⟨1264, rfl⟩, ⟨84, by decide +kernel⟩, by decide +kernel, by decide +kernel⟩
set_option maxRecDepth 100000 in
theorem z_M_close : ft_zok 156 := ⟨⟨1268, rfl⟩, ⟨84, by decide +kernel⟩, by decide +kernel, by decide +kernel⟩
set_option maxRecDepth 100000 in
theorem z_M_isEnd : ft_zok 157 := ⟨⟨1271, rfl⟩, ⟨84, by decide +kernel⟩, by decide +kernel, by decide +kernel⟩
set_option maxRecDepth 100000 in
theorem z_M_reset : ft_zok 158 := ⟨⟨1276, rfl⟩, ⟨84, by decide +kernel⟩, by decide +kernel, by decide +kernel⟩
set_option maxRecDepth 100000 in
theorem z_M_give : ft_zok 159 := ⟨⟨1280, rfl⟩, ⟨84, by decide +kernel⟩, by decide +kernel, by decide +kernel⟩
set_option maxRecDepth 100000 in
theorem z_M_want : ft_zok 160 := ⟨⟨1286, rfl⟩, ⟨84, by decide +kernel⟩, by decide +kernel, by decide +kernel⟩
set_option maxRecDepth 100000 in
theorem z_M_isList : ft_zok 161 := ⟨⟨1292, rfl⟩, ⟨84, by decide +kernel⟩, by decide +kernel, by decide +kernel⟩
set_option maxRecDepth 100000 in
theorem z_M_mayBe : ft_zok 162 := ⟨⟨1295, rfl⟩, ⟨84, by decide +kernel⟩, by decide +kernel, by decide +kernel⟩
set_option maxRecDepth 100000 in
theorem z_M_changes : ft_zok 163 := ⟨⟨1301, rfl⟩, ⟨84, by decide +kernel⟩, by decide +kernel, by decide +kernel⟩
set_option maxRecDepth 100000 in
theorem z_M_tick : ft_zok 164 := ⟨⟨1305, rfl⟩, ⟨84, by decide +kernel⟩, by decide +kernel, by decide +kernel⟩
set_option maxRecDepth 100000 in
theorem z_M_one : ft_zok 165 := ⟨⟨1310, rfl⟩, ⟨84, by decide +kernel⟩, by decide +kernel, by decide +kernel⟩
set_option maxRecDepth 100000 in
theorem z_M_drop : ft_zok 166 := ⟨⟨1314, rfl⟩, ⟨84, by decide +kernel⟩, by decide +kernel, by decide +kernel⟩
set_option maxRecDepth 100000 in
theorem z_M_take : ft_zok 167 := ⟨⟨1318, rfl⟩, ⟨84, by decide +kernel⟩, by decide +kernel, by decide +kernel⟩
set_option maxRecDepth 100000 in
theorem z_M_isRight : ft_zok 168 := ⟨⟨1322, rfl⟩, ⟨84, by decide +kernel⟩, by decide +kernel, by decide +kernel⟩
set_option maxRecDepth 100000 in
theorem z_M_headOf : ft_zok 169 := ⟨⟨1326, rfl⟩, ⟨84, by decide +kernel⟩, by decide +kernel, by decide +kernel⟩
set_option maxRecDepth 100000 in
theorem z_M_sixAt : ft_zok 170 := ⟨⟨1330, rfl⟩, ⟨84, by decide +kernel⟩, by decide +kernel, by decide +kernel⟩
set_option maxRecDepth 100000 in
theorem z_M_meet : ft_zok 171 := ⟨⟨1334, rfl⟩, ⟨84, by decide +kernel⟩, by decide +kernel, by decide +kernel⟩
set_option maxRecDepth 100000 in
theorem z_M_hear : ft_zok 172 := ⟨⟨1338, rfl⟩, ⟨84, by decide +kernel⟩, by decide +kernel, by decide +kernel⟩
set_option maxRecDepth 100000 in
theorem z_M_heard : ft_zok 173 := ⟨⟨1342, rfl⟩, ⟨84, by decide +kernel⟩, by decide +kernel, by decide +kernel⟩
set_option maxRecDepth 100000 in
theorem z_M_isGood : ft_zok 174 := ⟨⟨1346, rfl⟩, ⟨84, by decide +kernel⟩, by decide +kernel, by decide +kernel⟩
set_option maxRecDepth 100000 in
theorem z_M_hearFeature : ft_zok 175 := ⟨⟨1353, rfl⟩, ⟨84, by decide +kernel⟩, by decide +kernel, by decide +kernel⟩
set_option maxRecDepth 100000 in
theorem z_M_confirm : ft_zok 176 := ⟨⟨1357, rfl⟩, ⟨84, by decide +kernel⟩, by decide +kernel, by decide +kernel⟩
set_option maxRecDepth 100000 in
theorem z_M_reconciled : ft_zok 177 := ⟨⟨1361, rfl⟩, ⟨84, by decide +kernel⟩, by decide +kernel, by decide +kernel⟩
set_option maxRecDepth 100000 in
theorem z_M_hasTold : ft_zok 178 := ⟨⟨1365, rfl⟩, ⟨84, by decide +kernel⟩, by decide +kernel, by decide +kernel⟩
set_option maxRecDepth 100000 in
theorem z_M_hasOwn : ft_zok 179 := ⟨⟨1369, rfl⟩, ⟨84, by decide +kernel⟩, by decide +kernel, by decide +kernel⟩
set_option maxRecDepth 100000 in
theorem z_M_asking : ft_zok 180 := ⟨⟨1373, rfl⟩, ⟨84, by decide +kernel⟩, by decide +kernel, by decide +kernel⟩
set_option maxRecDepth 100000 in
theorem z_M_fitsAck : ft_zok 181 := ⟨⟨1377, rfl⟩, ⟨84, by decide +kernel⟩, by decide +kernel, by decide +kernel⟩
set_option maxRecDepth 100000 in
theorem z_M_running : ft_zok 182 := ⟨⟨1381, rfl⟩, ⟨84, by decide +kernel⟩, by decide +kernel, by decide +kernel⟩
set_option maxRecDepth 100000 in
theorem z_M_fitsNumber : ft_zok 183 := ⟨⟨1385, rfl⟩, ⟨84, by decide +kernel⟩, by decide +kernel, by decide +kernel⟩
set_option maxRecDepth 100000 in
theorem z_M_sync : ft_zok 184 := ⟨⟨1389, rfl⟩, ⟨84, by decide +kernel⟩, by decide +kernel, by decide +kernel⟩
set_option maxRecDepth 100000 in
theorem z_M_hearAck : ft_zok 185 := ⟨⟨1393, rfl⟩, ⟨84, by decide +kernel⟩, by decide +kernel, by decide +kernel⟩
set_option maxRecDepth 100000 in
theorem z_M_isGot : ft_zok 186 := ⟨⟨1397, rfl⟩, ⟨84, by decide +kernel⟩, by decide +kernel, by decide +kernel⟩
set_option maxRecDepth 100000 in
theorem z_M_missing : ft_zok 187 := ⟨⟨1401, rfl⟩, ⟨84, by decide +kernel⟩, by decide +kernel, by decide +kernel⟩
set_option maxRecDepth 100000 in
theorem z_M_deliver : ft_zok 188 := ⟨⟨1405, rfl⟩, ⟨84, by decide +kernel⟩, by decide +kernel, by decide +kernel⟩
set_option maxRecDepth 100000 in
theorem z_M_turn : ft_zok 189 := ⟨⟨1409, rfl⟩, ⟨84, by decide +kernel⟩, by decide +kernel, by decide +kernel⟩
set_option maxRecDepth 100000 in
theorem z_M_timers : ft_zok 190 := ⟨⟨1413, rfl⟩, ⟨84, by decide +kernel⟩, by decide +kernel, by decide +kernel⟩
set_option maxRecDepth 100000 in
theorem z_M_repeatOr : ft_zok 191 := ⟨⟨1417, rfl⟩, ⟨84, by decide +kernel⟩, by decide +kernel, by decide +kernel⟩
set_option maxRecDepth 100000 in
theorem z_M_tooLong : ft_zok 192 := ⟨⟨1421, rfl⟩, ⟨84, by decide +kernel⟩, by decide +kernel, by decide +kernel⟩
set_option maxRecDepth 100000 in
theorem z_M_ackDue : ft_zok 193 := ⟨⟨1425, rfl⟩, ⟨84, by decide +kernel⟩, by decide +kernel, by decide +kernel⟩
set_option maxRecDepth 100000 in
theorem z_M_wantsOptions : ft_zok 194 := ⟨⟨1429, rfl⟩, ⟨84, by decide +kernel⟩, by decide +kernel, by decide +kernel⟩
set_option maxRecDepth 100000 in
theorem z_M_lose : ft_zok 195 := ⟨⟨1433, rfl⟩, ⟨84, by decide +kernel⟩, by decide +kernel, by decide +kernel⟩
set_option maxRecDepth 100000 in
theorem z_M_isThere : ft_zok 196 := ⟨⟨1437, rfl⟩, ⟨84, by decide +kernel⟩, by decide +kernel, by decide +kernel⟩
set_option maxRecDepth 100000 in
theorem z_M_hold : ft_zok 197 := ⟨⟨1441, rfl⟩, ⟨84, by decide +kernel⟩, by decide +kernel, by decide +kernel⟩
set_option maxRecDepth 100000 in
theorem z_M_repeat : ft_zok 198 := ⟨⟨1445, rfl⟩, ⟨84, by decide +kernel⟩, by decide +kernel, by decide +kernel⟩
set_option maxRecDepth 100000 in
theorem z_M_alter : ft_zok 199 := ⟨⟨1449, rfl⟩, ⟨84, by decide +kernel⟩, by decide +kernel, by decide +kernel⟩
set_option maxRecDepth 100000 in
theorem z_M_feed : ft_zok 200 := ⟨⟨1453, rfl⟩, ⟨84, by decide +kernel⟩, by decide +kernel, by decide +kernel⟩
set_option maxRecDepth 100000 in
theorem z_M_put : ft_zok 201 := ⟨⟨1457, rfl⟩, ⟨84, by decide +kernel⟩, by decide +kernel, by decide +kernel⟩
set_option maxRecDepth 100000 in
theorem z_M_way : ft_zok 202 := ⟨⟨1461, rfl⟩, ⟨84, by decide +kernel⟩, by decide +kernel, by decide +kernel⟩
set_option maxRecDepth 100000 in
theorem z_M_packet : ft_zok 203 := ⟨⟨1465, rfl⟩, ⟨84, by decide +kernel⟩, by decide +kernel, by decide +kernel⟩
set_option maxRecDepth 100000 in
theorem z_M_octet : ft_zok 204 := ⟨⟨1469, rfl⟩, ⟨84, by decide +kernel⟩, by decide +kernel, by decide +kernel⟩
set_option maxRecDepth 100000 in
theorem z_M_state : ft_zok 205 := ⟨⟨1473, rfl⟩, ⟨84, by decide +kernel⟩, by decide +kernel, by decide +kernel⟩
set_option maxRecDepth 100000 in
theorem z_M_number : ft_zok 206 := ⟨⟨1477, rfl⟩, ⟨84, by decide +kernel⟩, by decide +kernel, by decide +kernel⟩
set_option maxRecDepth 100000 in
theorem z_M_feature : ft_zok 207 := ⟨⟨1484, rfl⟩, ⟨84, by decide +kernel⟩, by decide +kernel, by decide +kernel⟩
set_option maxRecDepth 100000 in
theorem z_M_count : ft_zok 208 := ⟨⟨1488, rfl⟩, ⟨84, by decide +kernel⟩, by decide +kernel, by decide +kernel⟩
set_option maxRecDepth 100000 in
theorem z_M_got : ft_zok 209 := ⟨⟨1492, rfl⟩, ⟨84, by decide +kernel⟩, by decide +kernel, by decide +kernel⟩
set_option maxRecDepth 100000 in
theorem z_M_seen : ft_zok 210 := ⟨⟨1496, rfl⟩, ⟨84, by decide +kernel⟩, by decide +kernel, by decide +kernel⟩
set_option maxRecDepth 100000 in
theorem z_M_sent : ft_zok 211 := ⟨⟨1500, rfl⟩, ⟨84, by decide +kernel⟩, by decide +kernel, by decide +kernel⟩
