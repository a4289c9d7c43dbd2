/-! the tables of the methods, looked at by evaluation -/
theorem ck_Md_act : am_ckk q_Md_act k_Md_act = true := by decide +kernel
theorem ck_Md_actorOf : am_ckk q_Md_actorOf k_Md_actorOf = true := by decide +kernel
theorem ck_Md_kill : am_ckk q_Md_kill k_Md_kill = true := by decide +kernel
theorem ck_Md_reap : am_ckk q_Md_reap k_Md_reap = true := by decide +kernel
theorem ck_Md_leaf : am_ckk q_Md_leaf k_Md_leaf = true := by decide +kernel
theorem ck_Md_term : am_ckk q_Md_term k_Md_term = true := by decide +kernel
theorem ck_Md_told : am_ckk q_Md_told k_Md_told = true := by decide +kernel
theorem ck_Md_shape : am_ckk q_Md_shape k_Md_shape = true := by decide +kernel
theorem ck_Md_about : am_ckk q_Md_about k_Md_about = true := by decide +kernel
theorem ck_Lw_type : am_ckk q_Lw_type k_Lw_type = true := by decide +kernel
