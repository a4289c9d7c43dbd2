/-! the tables of the methods, looked at by evaluation -/
theorem ck_Md_deliver : am_ckk q_Md_deliver k_Md_deliver = true := by decide +kernel
theorem ck_Md_leafOf : am_ckk q_Md_leafOf k_Md_leafOf = true := by decide +kernel
theorem ck_Md_end : am_ckk q_Md_end k_Md_end = true := by decide +kernel
theorem ck_Md_link : am_ckk q_Md_link k_Md_link = true := by decide +kernel
theorem ck_Md_step : am_ckk q_Md_step k_Md_step = true := by decide +kernel
theorem ck_Md_takes : am_ckk q_Md_takes k_Md_takes = true := by decide +kernel
theorem ck_Md_fits : am_ckk q_Md_fits k_Md_fits = true := by decide +kernel
