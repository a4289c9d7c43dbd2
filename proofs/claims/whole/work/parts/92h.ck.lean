/-! the tables of the methods, looked at by evaluation -/
theorem ck_Md_bit : am_ckk q_Md_bit k_Md_bit = true := by decide +kernel
theorem ck_Md_part : am_ckk q_Md_part k_Md_part = true := by decide +kernel
theorem ck_Md_bits : am_ckk q_Md_bits k_Md_bits = true := by decide +kernel
theorem ck_Md_simple : am_ckk q_Md_simple k_Md_simple = true := by decide +kernel
theorem ck_Md_number : am_ckk q_Md_number k_Md_number = true := by decide +kernel
theorem ck_Md_evaluate : am_ckk q_Md_evaluate k_Md_evaluate = true := by decide +kernel
theorem ck_Md_combine : am_ckk q_Md_combine k_Md_combine = true := by decide +kernel
theorem ck_Md_isInt : am_ckk q_Md_isInt k_Md_isInt = true := by decide +kernel
theorem ck_Md_take : am_ckk q_Md_take k_Md_take = true := by decide +kernel
theorem ck_Md_perform : am_ckk q_Md_perform k_Md_perform = true := by decide +kernel
