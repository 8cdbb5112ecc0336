theorem zg_castable : goodWord (.castable "a" "b") = true := by decide +kernel
theorem zg_lays : goodWord (.lays "a" "b" "c" "I") = true := by decide +kernel
theorem zg_inst : goodWord (.instantiable "a" 6) = true := by decide +kernel
theorem zg_sel : goodWord (.selects "a" yX0_seal yX0_seal) = true := by decide +kernel
theorem zg_sync : goodWord (.codeSync yX0_seal cX0_seal 1 none) = true := by decide +kernel
theorem zg_nat : goodWord (.native yX0_seal) = true := by decide +kernel
theorem zg_sup : goodWord (.superclass "a" "b") = true := by decide +kernel
theorem zg_same : goodWord (.sameMethod "a" "b" "c" "d") = true := by decide +kernel
theorem zg_ls : goodWord (.laysStatic "a" "b" "I") = true := by decide +kernel
theorem zg_decl : goodWord (.declares yX0_seal) = true := by decide +kernel
theorem zg_code : goodWord (.code yX0_seal cX0_seal 1 none) = true := by decide +kernel
theorem zg_im : goodWord (.instanceMethod yX0_seal) = true := by decide +kernel
theorem zg_ml : goodWord (.methodLink "a" 1 yX0_seal) = true := by decide +kernel
theorem zg_ini : goodWord (.initialized "a") = true := by decide +kernel
theorem zg_fl : goodWord (.fieldLink "a" 1 "a" "b" "I") = true := by decide +kernel
theorem zg_st : goodWord (.static yX0_seal) = true := by decide +kernel
theorem zg_cst : goodWord (.constant "a" 1 2) = true := by decide +kernel
theorem zg_cwith : goodWord (.codeWith yX0_seal cX0_seal 1 none []) = true := by decide +kernel
theorem zg_over : goodWord (.arrayOver (.object "a")) = true := by decide +kernel
theorem zg_cl : goodWord (.classLink "a" 1 "b") = true := by decide +kernel
theorem zg_lf : goodWord (.laysFinal "a" "b" "c" "I") = true := by decide +kernel
