set_option maxRecDepth 100000 in
theorem k_M_isRight_0 : ft_chkL 168 ft_c168_0 = true := by decide +kernel
set_option maxRecDepth 100000 in
theorem k_M_isRight_1 : ft_chkL 168 ft_c168_1 = true := by decide +kernel
theorem k_M_isRight : ft_chk 168 = true := ft_chk_app k_M_isRight_0 (k_M_isRight_1)
set_option maxRecDepth 100000 in
theorem z_M_isRight : ft_zok 168 := ⟨⟨1322, rfl⟩, ⟨84, by decide +kernel⟩, by decide +kernel, by decide +kernel⟩
set_option maxRecDepth 100000 in
theorem z_M_checkOf : ft_zok 154 := ⟨⟨1259, rfl⟩, ⟨84, by decide +kernel⟩, by decide +kernel, by decide +kernel⟩
set_option maxRecDepth 100000 in
theorem z_M_headOf : ft_zok 169 := ⟨⟨1326, rfl⟩, ⟨84, by decide +kernel⟩, by decide +kernel, by decide +kernel⟩
