/-! the tables of the methods, looked at by evaluation -/
theorem ck_AM_shape : am_ckk q_AM_shape k_AM_shape = true := by decide +kernel
theorem ck_AM_about : am_ckk q_AM_about k_AM_about = true := by decide +kernel
theorem ck_Md_init : am_ckk q_Md_init k_Md_init = true := by decide +kernel
theorem ck_Md_thrown : am_ckk q_Md_thrown k_Md_thrown = true := by decide +kernel
theorem ck_Md_type : am_ckk q_Md_type k_Md_type = true := by decide +kernel
theorem ck_Md_in : am_ckk q_Md_in k_Md_in = true := by decide +kernel
theorem ck_Md_fail : am_ckk q_Md_fail k_Md_fail = true := by decide +kernel
theorem ck_Md_good : am_ckk q_Md_good k_Md_good = true := by decide +kernel
theorem ck_Md_clear : am_ckk q_Md_clear k_Md_clear = true := by decide +kernel
theorem ck_Md_check : am_ckk q_Md_check k_Md_check = true := by decide +kernel
theorem ck_Md_read : am_ckk q_Md_read k_Md_read = true := by decide +kernel
theorem ck_Md_stands : am_ckk q_Md_stands k_Md_stands = true := by decide +kernel
theorem ck_Md_piece : am_ckk q_Md_piece k_Md_piece = true := by decide +kernel
