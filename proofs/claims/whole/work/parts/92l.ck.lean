/-! the table of the law, block by block -/
theorem cl_14 : am_ckb q_Lw_law k_Lw_law.2.1 (k_Lw_law.1.getD 14 (0, [])).1 (k_Lw_law.1.getD 14 (0, [])).2 = true := by decide +kernel
theorem cl_15 : am_ckb q_Lw_law k_Lw_law.2.1 (k_Lw_law.1.getD 15 (0, [])).1 (k_Lw_law.1.getD 15 (0, [])).2 = true := by decide +kernel
theorem cl_16 : am_ckb q_Lw_law k_Lw_law.2.1 (k_Lw_law.1.getD 16 (0, [])).1 (k_Lw_law.1.getD 16 (0, [])).2 = true := by decide +kernel
theorem cl_17 : am_ckb q_Lw_law k_Lw_law.2.1 (k_Lw_law.1.getD 17 (0, [])).1 (k_Lw_law.1.getD 17 (0, [])).2 = true := by decide +kernel
theorem cl_18 : am_ckb q_Lw_law k_Lw_law.2.1 (k_Lw_law.1.getD 18 (0, [])).1 (k_Lw_law.1.getD 18 (0, [])).2 = true := by decide +kernel
theorem cl_19 : am_ckb q_Lw_law k_Lw_law.2.1 (k_Lw_law.1.getD 19 (0, [])).1 (k_Lw_law.1.getD 19 (0, [])).2 = true := by decide +kernel
theorem cl_20 : am_ckb q_Lw_law k_Lw_law.2.1 (k_Lw_law.1.getD 20 (0, [])).1 (k_Lw_law.1.getD 20 (0, [])).2 = true := by decide +kernel
theorem cl_21 : am_ckb q_Lw_law k_Lw_law.2.1 (k_Lw_law.1.getD 21 (0, [])).1 (k_Lw_law.1.getD 21 (0, [])).2 = true := by decide +kernel
theorem cl_22 : am_ckb q_Lw_law k_Lw_law.2.1 (k_Lw_law.1.getD 22 (0, [])).1 (k_Lw_law.1.getD 22 (0, [])).2 = true := by decide +kernel
theorem cl_23 : am_ckb q_Lw_law k_Lw_law.2.1 (k_Lw_law.1.getD 23 (0, [])).1 (k_Lw_law.1.getD 23 (0, [])).2 = true := by decide +kernel
theorem cl_24 : am_ckb q_Lw_law k_Lw_law.2.1 (k_Lw_law.1.getD 24 (0, [])).1 (k_Lw_law.1.getD 24 (0, [])).2 = true := by decide +kernel
theorem cl_25 : am_ckb q_Lw_law k_Lw_law.2.1 (k_Lw_law.1.getD 25 (0, [])).1 (k_Lw_law.1.getD 25 (0, [])).2 = true := by decide +kernel
