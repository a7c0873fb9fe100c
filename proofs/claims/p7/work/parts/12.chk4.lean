theorem k_M_want : ft_chk 159 = true := ft_chk_app k_M_want_0 (k_M_want_1)
set_option maxRecDepth 100000 in
theorem k_M_isList : ft_chk 160 = true := by decide +kernel
set_option maxRecDepth 100000 in
theorem k_M_mayBe : ft_chk 161 = true := by decide +kernel
set_option maxRecDepth 100000 in
theorem k_M_changes : ft_chk 162 = true := by decide +kernel
set_option maxRecDepth 100000 in
theorem k_M_tick : ft_chk 163 = true := by decide +kernel
set_option maxRecDepth 100000 in
theorem k_M_one_0 : ft_chkL 164 ft_c164_0 = true := by decide +kernel
set_option maxRecDepth 100000 in
theorem k_M_one_1 : ft_chkL 164 ft_c164_1 = true := by decide +kernel
theorem k_M_one : ft_chk 164 = true := ft_chk_app k_M_one_0 (k_M_one_1)
set_option maxRecDepth 100000 in
theorem k_M_drop_0 : ft_chkL 165 ft_c165_0 = true := by decide +kernel
set_option maxRecDepth 100000 in
theorem k_M_drop_1 : ft_chkL 165 ft_c165_1 = true := by decide +kernel
theorem k_M_drop : ft_chk 165 = true := ft_chk_app k_M_drop_0 (k_M_drop_1)
set_option maxRecDepth 100000 in
theorem k_M_take_0 : ft_chkL 166 ft_c166_0 = true := by decide +kernel
set_option maxRecDepth 100000 in
theorem k_M_take_1 : ft_chkL 166 ft_c166_1 = true := by decide +kernel
theorem k_M_take : ft_chk 166 = true := ft_chk_app k_M_take_0 (k_M_take_1)
set_option maxRecDepth 100000 in
theorem k_M_isRight_0 : ft_chkL 167 ft_c167_0 = true := by decide +kernel
set_option maxRecDepth 100000 in
theorem k_M_isRight_1 : ft_chkL 167 ft_c167_1 = true := by decide +kernel
theorem k_M_isRight : ft_chk 167 = true := ft_chk_app k_M_isRight_0 (k_M_isRight_1)
set_option maxRecDepth 100000 in
theorem k_M_headOf : ft_chk 168 = true := by decide +kernel
set_option maxRecDepth 100000 in
theorem k_M_sixAt : ft_chk 169 = true := by decide +kernel
set_option maxRecDepth 100000 in
theorem k_M_meet : ft_chk 170 = true := by decide +kernel
set_option maxRecDepth 100000 in
theorem k_M_hear : ft_chk 171 = true := by decide +kernel
set_option maxRecDepth 100000 in
theorem k_M_heard_0 : ft_chkL 172 ft_c172_0 = true := by decide +kernel
set_option maxRecDepth 100000 in
theorem k_M_heard_1 : ft_chkL 172 ft_c172_1 = true := by decide +kernel
theorem k_M_heard : ft_chk 172 = true := ft_chk_app k_M_heard_0 (k_M_heard_1)
set_option maxRecDepth 100000 in
theorem k_M_isGood_0 : ft_chkL 173 ft_c173_0 = true := by decide +kernel
set_option maxRecDepth 100000 in
theorem k_M_isGood_1 : ft_chkL 173 ft_c173_1 = true := by decide +kernel
theorem k_M_isGood : ft_chk 173 = true := ft_chk_app k_M_isGood_0 (k_M_isGood_1)
set_option maxRecDepth 100000 in
theorem k_M_hearFeature_0 : ft_chkL 174 ft_c174_0 = true := by decide +kernel
set_option maxRecDepth 100000 in
theorem k_M_hearFeature_1 : ft_chkL 174 ft_c174_1 = true := by decide +kernel
set_option maxRecDepth 100000 in
theorem k_M_hearFeature_2 : ft_chkL 174 ft_c174_2 = true := by decide +kernel
set_option maxRecDepth 100000 in
theorem k_M_hearFeature_3 : ft_chkL 174 ft_c174_3 = true := by decide +kernel
theorem k_M_hearFeature : ft_chk 174 = true := ft_chk_app k_M_hearFeature_0 (ft_chk_app k_M_hearFeature_1 (ft_chk_app k_M_hearFeature_2 (k_M_hearFeature_3)))
set_option maxRecDepth 100000 in
theorem k_M_confirm_0 : ft_chkL 175 ft_c175_0 = true := by decide +kernel
set_option maxRecDepth 100000 in
theorem k_M_confirm_1 : ft_chkL 175 ft_c175_1 = true := by decide +kernel
theorem k_M_confirm : ft_chk 175 = true := ft_chk_app k_M_confirm_0 (k_M_confirm_1)
set_option maxRecDepth 100000 in
theorem k_M_reconciled : ft_chk 176 = true := by decide +kernel
set_option maxRecDepth 100000 in
theorem k_M_hasTold : ft_chk 177 = true := by decide +kernel
set_option maxRecDepth 100000 in
theorem k_M_hasOwn : ft_chk 178 = true := by decide +kernel
set_option maxRecDepth 100000 in
theorem k_M_asking : ft_chk 179 = true := by decide +kernel
set_option maxRecDepth 100000 in
theorem k_M_fitsAck : ft_chk 180 = true := by decide +kernel
set_option maxRecDepth 100000 in
theorem k_M_running_0 : ft_chkL 181 ft_c181_0 = true := by decide +kernel
set_option maxRecDepth 100000 in
theorem k_M_running_1 : ft_chkL 181 ft_c181_1 = true := by decide +kernel
set_option maxRecDepth 100000 in
theorem k_M_running_2 : ft_chkL 181 ft_c181_2 = true := by decide +kernel
set_option maxRecDepth 100000 in
theorem k_M_running_3 : ft_chkL 181 ft_c181_3 = true := by decide +kernel
set_option maxRecDepth 100000 in
theorem k_M_running_4 : ft_chkL 181 ft_c181_4 = true := by decide +kernel
theorem k_M_running : ft_chk 181 = true := ft_chk_app k_M_running_0 (ft_chk_app k_M_running_1 (ft_chk_app k_M_running_2 (ft_chk_app k_M_running_3 (k_M_running_4))))
set_option maxRecDepth 100000 in
theorem k_M_fitsNumber : ft_chk 182 = true := by decide +kernel
set_option maxRecDepth 100000 in
theorem k_M_sync : ft_chk 183 = true := by decide +kernel
set_option maxRecDepth 100000 in
theorem k_M_hearAck_0 : ft_chkL 184 ft_c184_0 = true := by decide +kernel
set_option maxRecDepth 100000 in
theorem k_M_hearAck_1 : ft_chkL 184 ft_c184_1 = true := by decide +kernel
set_option maxRecDepth 100000 in
theorem k_M_hearAck_2 : ft_chkL 184 ft_c184_2 = true := by decide +kernel
theorem k_M_hearAck : ft_chk 184 = true := ft_chk_app k_M_hearAck_0 (ft_chk_app k_M_hearAck_1 (k_M_hearAck_2))
set_option maxRecDepth 100000 in
theorem k_M_isGot_0 : ft_chkL 185 ft_c185_0 = true := by decide +kernel
set_option maxRecDepth 100000 in
theorem k_M_isGot_1 : ft_chkL 185 ft_c185_1 = true := by decide +kernel
set_option maxRecDepth 100000 in
theorem k_M_isGot_2 : ft_chkL 185 ft_c185_2 = true := by decide +kernel
theorem k_M_isGot : ft_chk 185 = true := ft_chk_app k_M_isGot_0 (ft_chk_app k_M_isGot_1 (k_M_isGot_2))
set_option maxRecDepth 100000 in
theorem k_M_missing_0 : ft_chkL 186 ft_c186_0 = true := by decide +kernel
set_option maxRecDepth 100000 in
theorem k_M_missing_1 : ft_chkL 186 ft_c186_1 = true := by decide +kernel
set_option maxRecDepth 100000 in
theorem k_M_missing_2 : ft_chkL 186 ft_c186_2 = true := by decide +kernel
theorem k_M_missing : ft_chk 186 = true := ft_chk_app k_M_missing_0 (ft_chk_app k_M_missing_1 (k_M_missing_2))
