set_option maxRecDepth 100000 in
theorem z_M_around : ft_zok 132 := ⟨⟨977, rfl⟩, ⟨84, by decide +kernel⟩, by decide +kernel, by decide +kernel⟩
set_option maxRecDepth 100000 in
theorem z_M_feat : ft_zok 134 := ⟨⟨985, rfl⟩, ⟨84, by decide +kernel⟩, by decide +kernel, by decide +kernel⟩
set_option maxRecDepth 100000 in
theorem z_M_pipe : ft_zok 139 := ⟨⟨1202, rfl⟩, ⟨84, by decide +kernel⟩, by decide +kernel, by decide +kernel⟩
set_option maxRecDepth 100000 in
theorem z_M_isOwn : ft_zok 140 := ⟨⟨1206, rfl⟩, ⟨84, by decide +kernel⟩, by decide +kernel, by decide +kernel⟩
set_option maxRecDepth 100000 in
theorem z_M_in : ft_zok 141 := ⟨⟨1210, rfl⟩, ⟨84, by decide +kernel⟩, by decide +kernel, by decide +kernel⟩
set_option maxRecDepth 100000 in
theorem z_M_before : ft_zok 142 := ⟨⟨1213, rfl⟩, ⟨84, by decide +kernel⟩, by decide +kernel, by decide +kernel⟩
set_option maxRecDepth 100000 in
theorem z_M_after : ft_zok 143 := ⟨⟨1216, rfl⟩, ⟨84, by decide +kernel⟩, by decide +kernel, by decide +kernel⟩
set_option maxRecDepth 100000 in
theorem z_M_at : ft_zok 144 := ⟨⟨1220, rfl⟩, ⟨84, by decide +kernel⟩, by decide +kernel, by decide +kernel⟩
set_option maxRecDepth 100000 in
theorem z_M_byteOf : ft_zok 145 := ⟨⟨1224, rfl⟩, ⟨84, by decide +kernel⟩, by decide +kernel, by decide +kernel⟩
set_option maxRecDepth 100000 in
theorem z_M_hasAck : ft_zok 147 := ⟨⟨1231, rfl⟩, ⟨84, by decide +kernel⟩, by decide +kernel, by decide +kernel⟩
set_option maxRecDepth 100000 in
theorem z_M_isEnd : ft_zok 157 := ⟨⟨1271, rfl⟩, ⟨84, by decide +kernel⟩, by decide +kernel, by decide +kernel⟩
set_option maxRecDepth 100000 in
theorem z_M_mayBe : ft_zok 162 := ⟨⟨1295, rfl⟩, ⟨84, by decide +kernel⟩, by decide +kernel, by decide +kernel⟩
set_option maxRecDepth 100000 in
theorem z_M_changes : ft_zok 163 := ⟨⟨1301, rfl⟩, ⟨84, by decide +kernel⟩, by decide +kernel, by decide +kernel⟩
set_option maxRecDepth 100000 in
theorem z_M_hasTold : ft_zok 178 := ⟨⟨1365, rfl⟩, ⟨84, by decide +kernel⟩, by decide +kernel, by decide +kernel⟩
set_option maxRecDepth 100000 in
theorem z_M_hasOwn : ft_zok 179 := ⟨⟨1369, rfl⟩, ⟨84, by decide +kernel⟩, by decide +kernel, by decide +kernel⟩
set_option maxRecDepth 100000 in
theorem z_M_isThere : ft_zok 196 := ⟨⟨1437, rfl⟩, ⟨84, by decide +kernel⟩, by decide +kernel, by decide +kernel⟩
set_option maxRecDepth 100000 in
theorem k_M_around : ft_chk 132 = true := by decide +kernel
set_option maxRecDepth 100000 in
theorem k_M_feat : ft_chk 134 = true := by decide +kernel
set_option maxRecDepth 100000 in
theorem k_M_become : ft_chk 136 = true := by decide +kernel
set_option maxRecDepth 100000 in
theorem k_M_pipe : ft_chk 139 = true := by decide +kernel
set_option maxRecDepth 100000 in
theorem k_M_isOwn : ft_chk 140 = true := by decide +kernel
set_option maxRecDepth 100000 in
theorem k_M_in : ft_chk 141 = true := by decide +kernel
set_option maxRecDepth 100000 in
theorem k_M_before : ft_chk 142 = true := by decide +kernel
set_option maxRecDepth 100000 in
theorem k_M_after : ft_chk 143 = true := by decide +kernel
set_option maxRecDepth 100000 in
theorem k_M_at : ft_chk 144 = true := by decide +kernel
set_option maxRecDepth 100000 in
theorem k_M_byteOf : ft_chk 145 = true := by decide +kernel
set_option maxRecDepth 100000 in
theorem k_M_six : ft_chk 146 = true := by decide +kernel
set_option maxRecDepth 100000 in
theorem k_M_hasAck : ft_chk 147 = true := by decide +kernel
set_option maxRecDepth 100000 in
theorem k_M_fits : ft_chk 149 = true := by decide +kernel
set_option maxRecDepth 100000 in
theorem k_M_inRow : ft_chk 152 = true := by decide +kernel
set_option maxRecDepth 100000 in
theorem k_M_checkOf : ft_chk 154 = true := by decide +kernel
set_option maxRecDepth 100000 in
theorem k_M_isEnd : ft_chk 157 = true := by decide +kernel
set_option maxRecDepth 100000 in
theorem k_M_isList : ft_chk 161 = true := by decide +kernel
set_option maxRecDepth 100000 in
theorem k_M_mayBe : ft_chk 162 = true := by decide +kernel
set_option maxRecDepth 100000 in
theorem k_M_changes : ft_chk 163 = true := by decide +kernel
set_option maxRecDepth 100000 in
theorem k_M_headOf : ft_chk 169 = true := by decide +kernel
set_option maxRecDepth 100000 in
theorem k_M_sixAt : ft_chk 170 = true := by decide +kernel
set_option maxRecDepth 100000 in
theorem k_M_meet : ft_chk 171 = true := by decide +kernel
set_option maxRecDepth 100000 in
theorem k_M_reconciled : ft_chk 177 = true := by decide +kernel
set_option maxRecDepth 100000 in
theorem k_M_hasTold : ft_chk 178 = true := by decide +kernel
set_option maxRecDepth 100000 in
theorem k_M_hasOwn : ft_chk 179 = true := by decide +kernel
set_option maxRecDepth 100000 in
theorem k_M_fitsAck : ft_chk 181 = true := by decide +kernel
set_option maxRecDepth 100000 in
theorem k_M_fitsNumber : ft_chk 183 = true := by decide +kernel
set_option maxRecDepth 100000 in
theorem k_M_isGot_0 : ft_chkL 186 ft_c186_0 = true := by decide +kernel
set_option maxRecDepth 100000 in
theorem k_M_isGot_1 : ft_chkL 186 ft_c186_1 = true := by decide +kernel
set_option maxRecDepth 100000 in
theorem k_M_isGot_2 : ft_chkL 186 ft_c186_2 = true := by decide +kernel
theorem k_M_isGot : ft_chk 186 = true := ft_chk_app k_M_isGot_0 (ft_chk_app k_M_isGot_1 (k_M_isGot_2))
set_option maxRecDepth 100000 in
theorem k_M_missing_0 : ft_chkL 187 ft_c187_0 = true := by decide +kernel
set_option maxRecDepth 100000 in
theorem k_M_missing_1 : ft_chkL 187 ft_c187_1 = true := by decide +kernel
set_option maxRecDepth 100000 in
theorem k_M_missing_2 : ft_chkL 187 ft_c187_2 = true := by decide +kernel
theorem k_M_missing : ft_chk 187 = true := ft_chk_app k_M_missing_0 (ft_chk_app k_M_missing_1 (k_M_missing_2))
set_option maxRecDepth 100000 in
theorem k_M_tooLong_0 : ft_chkL 192 ft_c192_0 = true := by decide +kernel
set_option maxRecDepth 100000 in
theorem k_M_tooLong_1 : ft_chkL 192 ft_c192_1 = true := by decide +kernel
set_option maxRecDepth 100000 in
theorem k_M_tooLong_2 : ft_chkL 192 ft_c192_2 = true := by decide +kernel
theorem k_M_tooLong : ft_chk 192 = true := ft_chk_app k_M_tooLong_0 (ft_chk_app k_M_tooLong_1 (k_M_tooLong_2))
set_option maxRecDepth 100000 in
theorem k_M_ackDue : ft_chk 193 = true := by decide +kernel
set_option maxRecDepth 100000 in
theorem k_M_wantsOptions : ft_chk 194 = true := by decide +kernel
set_option maxRecDepth 100000 in
theorem k_M_isThere : ft_chk 196 = true := by decide +kernel
set_option maxRecDepth 100000 in
theorem k_M_way : ft_chk 202 = true := by decide +kernel
set_option maxRecDepth 100000 in
theorem k_M_packet : ft_chk 203 = true := by decide +kernel
set_option maxRecDepth 100000 in
theorem k_M_octet : ft_chk 204 = true := by decide +kernel
set_option maxRecDepth 100000 in
theorem k_M_state : ft_chk 205 = true := by decide +kernel
set_option maxRecDepth 100000 in
theorem k_M_number : ft_chk 206 = true := by decide +kernel
set_option maxRecDepth 100000 in
theorem k_M_count_0 : ft_chkL 208 ft_c208_0 = true := by decide +kernel
set_option maxRecDepth 100000 in
theorem k_M_count_1 : ft_chkL 208 ft_c208_1 = true := by decide +kernel
theorem k_M_count : ft_chk 208 = true := ft_chk_app k_M_count_0 (k_M_count_1)
set_option maxRecDepth 100000 in
theorem k_M_seen : ft_chk 210 = true := by decide +kernel
set_option maxRecDepth 100000 in
theorem k_M_sent : ft_chk 211 = true := by decide +kernel
