/-! the table of the law, block by block -/
theorem cl_39 : am_ckb q_Lw_law k_Lw_law.2.1 (k_Lw_law.1.getD 39 (0, [])).1 (k_Lw_law.1.getD 39 (0, [])).2 = true := by decide +kernel
theorem cl_40 : am_ckb q_Lw_law k_Lw_law.2.1 (k_Lw_law.1.getD 40 (0, [])).1 (k_Lw_law.1.getD 40 (0, [])).2 = true := by decide +kernel
theorem cl_41 : am_ckb q_Lw_law k_Lw_law.2.1 (k_Lw_law.1.getD 41 (0, [])).1 (k_Lw_law.1.getD 41 (0, [])).2 = true := by decide +kernel
theorem cl_42 : am_ckb q_Lw_law k_Lw_law.2.1 (k_Lw_law.1.getD 42 (0, [])).1 (k_Lw_law.1.getD 42 (0, [])).2 = true := by decide +kernel
