set_option maxRecDepth 100000 in
theorem k_M_in : ft_chk 141 = true := by decide +kernel
set_option maxRecDepth 100000 in
theorem z_M_in : ft_zok 141 := ⟨⟨1210, rfl⟩, ⟨84, by decide +kernel⟩, by decide +kernel, by decide +kernel⟩
set_option maxRecDepth 100000 in
theorem k_M_around : ft_chk 132 = true := by decide +kernel
set_option maxRecDepth 100000 in
theorem z_M_around : ft_zok 132 := ⟨⟨977, rfl⟩, ⟨84, by decide +kernel⟩, by decide +kernel, by decide +kernel⟩
set_option maxRecDepth 100000 in
theorem k_M_after : ft_chk 143 = true := by decide +kernel
set_option maxRecDepth 100000 in
theorem z_M_after : ft_zok 143 := ⟨⟨1216, rfl⟩, ⟨84, by decide +kernel⟩, by decide +kernel, by decide +kernel⟩
set_option maxRecDepth 100000 in
theorem k_M_before : ft_chk 142 = true := by decide +kernel
set_option maxRecDepth 100000 in
theorem z_M_before : ft_zok 142 := ⟨⟨1213, rfl⟩, ⟨84, by decide +kernel⟩, by decide +kernel, by decide +kernel⟩
set_option maxRecDepth 100000 in
theorem k_M_at : ft_chk 144 = true := by decide +kernel
set_option maxRecDepth 100000 in
theorem z_M_at : ft_zok 144 := ⟨⟨1220, rfl⟩, ⟨84, by decide +kernel⟩, by decide +kernel, by decide +kernel⟩
set_option maxRecDepth 100000 in
theorem k_M_feat : ft_chk 134 = true := by decide +kernel
set_option maxRecDepth 100000 in
theorem z_M_feat : ft_zok 134 := ⟨⟨985, rfl⟩, ⟨84, by decide +kernel⟩, by decide +kernel, by decide +kernel⟩
set_option maxRecDepth 100000 in
theorem k_M_become : ft_chk 136 = true := by decide +kernel
set_option maxRecDepth 100000 in
theorem z_M_become : ft_zok 136 := ⟨⟨1190, rfl⟩, ⟨84, by decide +kernel⟩, by decide +kernel, by decide +kernel⟩
set_option maxRecDepth 100000 in
theorem k_M_byteOf : ft_chk 145 = true := by decide +kernel
set_option maxRecDepth 100000 in
theorem z_M_byteOf : ft_zok 145 := ⟨⟨1224, rfl⟩, ⟨84, by decide +kernel⟩, by decide +kernel, by decide +kernel⟩
set_option maxRecDepth 100000 in
theorem k_M_six : ft_chk 146 = true := by decide +kernel
set_option maxRecDepth 100000 in
theorem z_M_six : ft_zok 146 := ⟨⟨1228, rfl⟩, ⟨84, by decide +kernel⟩, by decide +kernel, by decide +kernel⟩
set_option maxRecDepth 100000 in
theorem k_M_isEnd : ft_chk 157 = true := by decide +kernel
set_option maxRecDepth 100000 in
theorem z_M_isEnd : ft_zok 157 := ⟨⟨1271, rfl⟩, ⟨84, by decide +kernel⟩, by decide +kernel, by decide +kernel⟩
