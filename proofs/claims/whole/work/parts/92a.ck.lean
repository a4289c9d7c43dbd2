/-! the tables of the methods, looked at by evaluation -/
theorem ck_Actor_init : am_ckk q_Actor_init k_Actor_init = true := by decide +kernel
theorem ck_Actor_begin : am_ckk q_Actor_begin k_Actor_begin = true := by decide +kernel
theorem ck_Actor_finish : am_ckk q_Actor_finish k_Actor_finish = true := by decide +kernel
theorem ck_Evaluator_init : am_ckk q_Evaluator_init k_Evaluator_init = true := by decide +kernel
theorem ck_Evaluator_begin : am_ckk q_Evaluator_begin k_Evaluator_begin = true := by decide +kernel
theorem ck_Evaluator_fits : am_ckk q_Evaluator_fits k_Evaluator_fits = true := by decide +kernel
theorem ck_Evaluator_variableOf : am_ckk q_Evaluator_variableOf k_Evaluator_variableOf = true := by decide +kernel
theorem ck_Evaluator_constant : am_ckk q_Evaluator_constant k_Evaluator_constant = true := by decide +kernel
theorem ck_Evaluator_guardHolds : am_ckk q_Evaluator_guardHolds k_Evaluator_guardHolds = true := by decide +kernel
theorem ck_Evaluator_evaluate : am_ckk q_Evaluator_evaluate k_Evaluator_evaluate = true := by decide +kernel
theorem ck_Evaluator_evaluateTwo : am_ckk q_Evaluator_evaluateTwo k_Evaluator_evaluateTwo = true := by decide +kernel
theorem ck_Evaluator_failed : am_ckk q_Evaluator_failed k_Evaluator_failed = true := by decide +kernel
theorem ck_Evaluator_calculate : am_ckk q_Evaluator_calculate k_Evaluator_calculate = true := by decide +kernel
theorem ck_Grammar_init : am_ckk q_Grammar_init k_Grammar_init = true := by decide +kernel
theorem ck_Grammar_placeOfFault : am_ckk q_Grammar_placeOfFault k_Grammar_placeOfFault = true := by decide +kernel
theorem ck_Grammar_readPattern : am_ckk q_Grammar_readPattern k_Grammar_readPattern = true := by decide +kernel
theorem ck_Grammar_readSimple : am_ckk q_Grammar_readSimple k_Grammar_readSimple = true := by decide +kernel
