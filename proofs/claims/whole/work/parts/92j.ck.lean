/-! the tables of the methods, looked at by evaluation -/
theorem ck_Lw_clear : am_ckk q_Lw_clear k_Lw_clear = true := by decide +kernel
theorem ck_Lw_check : am_ckk q_Lw_check k_Lw_check = true := by decide +kernel
theorem ck_Lw_fault : am_ckk q_Lw_fault k_Lw_fault = true := by decide +kernel
theorem ck_Lw_spawn : am_ckk q_Lw_spawn k_Lw_spawn = true := by decide +kernel
theorem ck_Lw_send : am_ckk q_Lw_send k_Lw_send = true := by decide +kernel
theorem ck_Lw_deliver : am_ckk q_Lw_deliver k_Lw_deliver = true := by decide +kernel
theorem ck_Lw_step : am_ckk q_Lw_step k_Lw_step = true := by decide +kernel
theorem ck_Lw_kill : am_ckk q_Lw_kill k_Lw_kill = true := by decide +kernel
theorem ck_Lw_reap : am_ckk q_Lw_reap k_Lw_reap = true := by decide +kernel
theorem ck_Lw_leaf : am_ckk q_Lw_leaf k_Lw_leaf = true := by decide +kernel
theorem ck_Lw_shape : am_ckk q_Lw_shape k_Lw_shape = true := by decide +kernel
theorem ck_Lw_about : am_ckk q_Lw_about k_Lw_about = true := by decide +kernel
theorem ck_Integer_bitCount : am_ckk q_Integer_bitCount k_Integer_bitCount = true := by decide +kernel
