/-! the table of the law, block by block -/
theorem cl_0 : am_ckb q_Lw_law k_Lw_law.2.1 (k_Lw_law.1.getD 0 (0, [])).1 (k_Lw_law.1.getD 0 (0, [])).2 = true := by decide +kernel
theorem cl_1 : am_ckb q_Lw_law k_Lw_law.2.1 (k_Lw_law.1.getD 1 (0, [])).1 (k_Lw_law.1.getD 1 (0, [])).2 = true := by decide +kernel
theorem cl_2 : am_ckb q_Lw_law k_Lw_law.2.1 (k_Lw_law.1.getD 2 (0, [])).1 (k_Lw_law.1.getD 2 (0, [])).2 = true := by decide +kernel
theorem cl_3 : am_ckb q_Lw_law k_Lw_law.2.1 (k_Lw_law.1.getD 3 (0, [])).1 (k_Lw_law.1.getD 3 (0, [])).2 = true := by decide +kernel
theorem cl_4 : am_ckb q_Lw_law k_Lw_law.2.1 (k_Lw_law.1.getD 4 (0, [])).1 (k_Lw_law.1.getD 4 (0, [])).2 = true := by decide +kernel
theorem cl_5 : am_ckb q_Lw_law k_Lw_law.2.1 (k_Lw_law.1.getD 5 (0, [])).1 (k_Lw_law.1.getD 5 (0, [])).2 = true := by decide +kernel
theorem cl_6 : am_ckb q_Lw_law k_Lw_law.2.1 (k_Lw_law.1.getD 6 (0, [])).1 (k_Lw_law.1.getD 6 (0, [])).2 = true := by decide +kernel
theorem cl_7 : am_ckb q_Lw_law k_Lw_law.2.1 (k_Lw_law.1.getD 7 (0, [])).1 (k_Lw_law.1.getD 7 (0, [])).2 = true := by decide +kernel
theorem cl_8 : am_ckb q_Lw_law k_Lw_law.2.1 (k_Lw_law.1.getD 8 (0, [])).1 (k_Lw_law.1.getD 8 (0, [])).2 = true := by decide +kernel
theorem cl_9 : am_ckb q_Lw_law k_Lw_law.2.1 (k_Lw_law.1.getD 9 (0, [])).1 (k_Lw_law.1.getD 9 (0, [])).2 = true := by decide +kernel
theorem cl_10 : am_ckb q_Lw_law k_Lw_law.2.1 (k_Lw_law.1.getD 10 (0, [])).1 (k_Lw_law.1.getD 10 (0, [])).2 = true := by decide +kernel
theorem cl_11 : am_ckb q_Lw_law k_Lw_law.2.1 (k_Lw_law.1.getD 11 (0, [])).1 (k_Lw_law.1.getD 11 (0, [])).2 = true := by decide +kernel
theorem cl_12 : am_ckb q_Lw_law k_Lw_law.2.1 (k_Lw_law.1.getD 12 (0, [])).1 (k_Lw_law.1.getD 12 (0, [])).2 = true := by decide +kernel
theorem cl_13 : am_ckb q_Lw_law k_Lw_law.2.1 (k_Lw_law.1.getD 13 (0, [])).1 (k_Lw_law.1.getD 13 (0, [])).2 = true := by decide +kernel
