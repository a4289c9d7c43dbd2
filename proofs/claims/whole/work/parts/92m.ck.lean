/-! the table of the law, block by block -/
theorem cl_26 : am_ckb q_Lw_law k_Lw_law.2.1 (k_Lw_law.1.getD 26 (0, [])).1 (k_Lw_law.1.getD 26 (0, [])).2 = true := by decide +kernel
theorem cl_27 : am_ckb q_Lw_law k_Lw_law.2.1 (k_Lw_law.1.getD 27 (0, [])).1 (k_Lw_law.1.getD 27 (0, [])).2 = true := by decide +kernel
theorem cl_28 : am_ckb q_Lw_law k_Lw_law.2.1 (k_Lw_law.1.getD 28 (0, [])).1 (k_Lw_law.1.getD 28 (0, [])).2 = true := by decide +kernel
theorem cl_29 : am_ckb q_Lw_law k_Lw_law.2.1 (k_Lw_law.1.getD 29 (0, [])).1 (k_Lw_law.1.getD 29 (0, [])).2 = true := by decide +kernel
theorem cl_30 : am_ckb q_Lw_law k_Lw_law.2.1 (k_Lw_law.1.getD 30 (0, [])).1 (k_Lw_law.1.getD 30 (0, [])).2 = true := by decide +kernel
theorem cl_31 : am_ckb q_Lw_law k_Lw_law.2.1 (k_Lw_law.1.getD 31 (0, [])).1 (k_Lw_law.1.getD 31 (0, [])).2 = true := by decide +kernel
theorem cl_32 : am_ckb q_Lw_law k_Lw_law.2.1 (k_Lw_law.1.getD 32 (0, [])).1 (k_Lw_law.1.getD 32 (0, [])).2 = true := by decide +kernel
theorem cl_33 : am_ckb q_Lw_law k_Lw_law.2.1 (k_Lw_law.1.getD 33 (0, [])).1 (k_Lw_law.1.getD 33 (0, [])).2 = true := by decide +kernel
theorem cl_34 : am_ckb q_Lw_law k_Lw_law.2.1 (k_Lw_law.1.getD 34 (0, [])).1 (k_Lw_law.1.getD 34 (0, [])).2 = true := by decide +kernel
theorem cl_35 : am_ckb q_Lw_law k_Lw_law.2.1 (k_Lw_law.1.getD 35 (0, [])).1 (k_Lw_law.1.getD 35 (0, [])).2 = true := by decide +kernel
theorem cl_36 : am_ckb q_Lw_law k_Lw_law.2.1 (k_Lw_law.1.getD 36 (0, [])).1 (k_Lw_law.1.getD 36 (0, [])).2 = true := by decide +kernel
theorem cl_37 : am_ckb q_Lw_law k_Lw_law.2.1 (k_Lw_law.1.getD 37 (0, [])).1 (k_Lw_law.1.getD 37 (0, [])).2 = true := by decide +kernel
theorem cl_38 : am_ckb q_Lw_law k_Lw_law.2.1 (k_Lw_law.1.getD 38 (0, [])).1 (k_Lw_law.1.getD 38 (0, [])).2 = true := by decide +kernel
