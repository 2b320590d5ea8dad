theorem ini_L : Cond.initialized cn_L ∈ zt_tbl := zt_in (i := 0) (by decide +kernel) rfl
theorem ini_T : Cond.initialized cn_T ∈ zt_tbl := zt_in (i := 1) (by decide +kernel) rfl
theorem ini_U : Cond.initialized cn_U ∈ zt_tbl := zt_in (i := 2) (by decide +kernel) rfl
theorem ini_N : Cond.initialized cn_N ∈ zt_tbl := zt_in (i := 3) (by decide +kernel) rfl
theorem ini_F : Cond.initialized cn_F ∈ zt_tbl := zt_in (i := 4) (by decide +kernel) rfl
theorem ini_P : Cond.initialized cn_P ∈ zt_tbl := zt_in (i := 5) (by decide +kernel) rfl
theorem ini_R : Cond.initialized cn_R ∈ zt_tbl := zt_in (i := 6) (by decide +kernel) rfl
theorem ini_W : Cond.initialized cn_W ∈ zt_tbl := zt_in (i := 7) (by decide +kernel) rfl
theorem ini_M : Cond.initialized cn_M ∈ zt_tbl := zt_in (i := 8) (by decide +kernel) rfl
theorem ini_Throwable : Cond.initialized "java/lang/Throwable" ∈ zt_tbl := zt_in (i := 9) (by decide +kernel) rfl
theorem ini_Exception : Cond.initialized "java/lang/Exception" ∈ zt_tbl := zt_in (i := 10) (by decide +kernel) rfl
theorem ini_RuntimeException : Cond.initialized "java/lang/RuntimeException" ∈ zt_tbl := zt_in (i := 11) (by decide +kernel) rfl
theorem ini_IndexOutOfBoundsException : Cond.initialized "java/lang/IndexOutOfBoundsException" ∈ zt_tbl := zt_in (i := 12) (by decide +kernel) rfl
theorem ini_IllegalStateException : Cond.initialized "java/lang/IllegalStateException" ∈ zt_tbl := zt_in (i := 13) (by decide +kernel) rfl
theorem ini_IllegalArgumentException : Cond.initialized "java/lang/IllegalArgumentException" ∈ zt_tbl := zt_in (i := 14) (by decide +kernel) rfl
theorem ini_Math : Cond.initialized "java/lang/Math" ∈ zt_tbl := zt_in (i := 15) (by decide +kernel) rfl
theorem ini_G : Cond.initialized cn_G ∈ zt_tbl := zt_in (i := 16) (by decide +kernel) rfl
theorem cl_L_8 : Cond.classLink cn_L 8 cn_T ∈ zt_tbl := zt_in (i := 17) (by decide +kernel) rfl
theorem ins_T : Cond.instantiable cn_T 6 ∈ zt_tbl := zt_in (i := 18) (by decide +kernel) rfl
theorem ml_L_69 : Cond.methodLink cn_L 69 mn_T_init ∈ zt_tbl := zt_in (i := 19) (by decide +kernel) rfl
theorem im_T_init : Cond.instanceMethod mn_T_init ∈ zt_tbl := zt_in (i := 20) (by decide +kernel) rfl
theorem wk_T_init : Cond.code mn_T_init bc_T_init 2 none ∈ zt_tbl := zt_in (i := 21) (by decide +kernel) rfl
theorem ml_T_3 : Cond.methodLink cn_T 3 ⟨"java/lang/Object", "<init>", "()V"⟩ ∈ zt_tbl := zt_in (i := 22) (by decide +kernel) rfl
theorem im_Object_init : Cond.instanceMethod ⟨"java/lang/Object", "<init>", "()V"⟩ ∈ zt_tbl := zt_in (i := 23) (by decide +kernel) rfl
theorem wk_Object_init : Cond.code ⟨"java/lang/Object", "<init>", "()V"⟩ object_method_1_code 1 none ∈ zt_tbl := zt_in (i := 24) (by decide +kernel) rfl
theorem cl_T_9 : Cond.classLink cn_T 9 cn_U ∈ zt_tbl := zt_in (i := 25) (by decide +kernel) rfl
theorem ins_U : Cond.instantiable cn_U 6 ∈ zt_tbl := zt_in (i := 27) (by decide +kernel) rfl
theorem ml_T_15 : Cond.methodLink cn_T 15 mn_U_init ∈ zt_tbl := zt_in (i := 28) (by decide +kernel) rfl
theorem im_U_init : Cond.instanceMethod mn_U_init ∈ zt_tbl := zt_in (i := 29) (by decide +kernel) rfl
theorem wk_U_init : Cond.code mn_U_init bc_U_init 1 none ∈ zt_tbl := zt_in (i := 30) (by decide +kernel) rfl
theorem ml_U_3 : Cond.methodLink cn_U 3 ⟨"java/lang/Object", "<init>", "()V"⟩ ∈ zt_tbl := zt_in (i := 31) (by decide +kernel) rfl
theorem cl_U_9 : Cond.classLink cn_U 9 cn_N ∈ zt_tbl := zt_in (i := 32) (by decide +kernel) rfl
theorem ins_N : Cond.instantiable cn_N 3 ∈ zt_tbl := zt_in (i := 33) (by decide +kernel) rfl
theorem ml_U_11 : Cond.methodLink cn_U 11 mn_N_init ∈ zt_tbl := zt_in (i := 34) (by decide +kernel) rfl
theorem im_N_init : Cond.instanceMethod mn_N_init ∈ zt_tbl := zt_in (i := 35) (by decide +kernel) rfl
theorem wk_N_init : Cond.code mn_N_init bc_N_init 2 none ∈ zt_tbl := zt_in (i := 36) (by decide +kernel) rfl
theorem ml_N_1 : Cond.methodLink cn_N 1 ⟨"java/lang/Object", "<init>", "()V"⟩ ∈ zt_tbl := zt_in (i := 37) (by decide +kernel) rfl
theorem fl_N_7 : Cond.fieldLink cn_N 7 "TuneFinder$Notes" "pitches" "[I" ∈ zt_tbl := zt_in (i := 38) (by decide +kernel) rfl
theorem fl_U_41 : Cond.fieldLink cn_U 41 "TuneFinder$Notes" "pitches" "[I" ∈ zt_tbl := zt_in (i := 39) (by decide +kernel) rfl
theorem fl_T_219 : Cond.fieldLink cn_T 219 "TuneFinder$Notes" "pitches" "[I" ∈ zt_tbl := zt_in (i := 40) (by decide +kernel) rfl
theorem fl_N_13 : Cond.fieldLink cn_N 13 "TuneFinder$Notes" "lengths" "[I" ∈ zt_tbl := zt_in (i := 41) (by decide +kernel) rfl
theorem fl_U_44 : Cond.fieldLink cn_U 44 "TuneFinder$Notes" "lengths" "[I" ∈ zt_tbl := zt_in (i := 42) (by decide +kernel) rfl
theorem fl_T_250 : Cond.fieldLink cn_T 250 "TuneFinder$Notes" "lengths" "[I" ∈ zt_tbl := zt_in (i := 43) (by decide +kernel) rfl
theorem fl_N_16 : Cond.fieldLink cn_N 16 "TuneFinder$Notes" "count" "I" ∈ zt_tbl := zt_in (i := 44) (by decide +kernel) rfl
theorem fl_R_25 : Cond.fieldLink cn_R 25 "TuneFinder$Notes" "count" "I" ∈ zt_tbl := zt_in (i := 45) (by decide +kernel) rfl
theorem fl_T_84 : Cond.fieldLink cn_T 84 "TuneFinder$Notes" "count" "I" ∈ zt_tbl := zt_in (i := 46) (by decide +kernel) rfl
theorem fl_U_55 : Cond.fieldLink cn_U 55 "TuneFinder$Notes" "count" "I" ∈ zt_tbl := zt_in (i := 47) (by decide +kernel) rfl
theorem ac_int : Cond.arrayClass .int ∈ zt_tbl := zt_in (i := 55) (by decide +kernel) rfl
theorem fl_U_14 : Cond.fieldLink cn_U 14 "TuneFinder$Tune" "now" "LTuneFinder$Notes;" ∈ zt_tbl := zt_in (i := 56) (by decide +kernel) rfl
theorem fl_T_81 : Cond.fieldLink cn_T 81 "TuneFinder$Tune" "now" "LTuneFinder$Notes;" ∈ zt_tbl := zt_in (i := 57) (by decide +kernel) rfl
theorem fl_U_20 : Cond.fieldLink cn_U 20 "TuneFinder$Tune" "placesReplaced" "[I" ∈ zt_tbl := zt_in (i := 58) (by decide +kernel) rfl
theorem fl_U_24 : Cond.fieldLink cn_U 24 "TuneFinder$Tune" "replaced" "LTuneFinder$Notes;" ∈ zt_tbl := zt_in (i := 59) (by decide +kernel) rfl
theorem fl_U_30 : Cond.fieldLink cn_U 30 "TuneFinder$Tune" "there" "Z" ∈ zt_tbl := zt_in (i := 60) (by decide +kernel) rfl
theorem fl_T_53 : Cond.fieldLink cn_T 53 "TuneFinder$Tune" "there" "Z" ∈ zt_tbl := zt_in (i := 61) (by decide +kernel) rfl
theorem fl_U_34 : Cond.fieldLink cn_U 34 "TuneFinder$Tune" "shown" "Z" ∈ zt_tbl := zt_in (i := 62) (by decide +kernel) rfl
theorem fl_T_74 : Cond.fieldLink cn_T 74 "TuneFinder$Tune" "shown" "Z" ∈ zt_tbl := zt_in (i := 63) (by decide +kernel) rfl
theorem fl_U_37 : Cond.fieldLink cn_U 37 "TuneFinder$Tune" "lastReading" "I" ∈ zt_tbl := zt_in (i := 64) (by decide +kernel) rfl
theorem fl_T_77 : Cond.fieldLink cn_T 77 "TuneFinder$Tune" "lastReading" "I" ∈ zt_tbl := zt_in (i := 65) (by decide +kernel) rfl
theorem cl_T_16 : Cond.classLink cn_T 16 cn_N ∈ zt_tbl := zt_in (i := 79) (by decide +kernel) rfl
theorem ml_T_18 : Cond.methodLink cn_T 18 mn_N_init ∈ zt_tbl := zt_in (i := 80) (by decide +kernel) rfl
theorem cl_T_25 : Cond.classLink cn_T 25 cn_F ∈ zt_tbl := zt_in (i := 81) (by decide +kernel) rfl
theorem ins_F : Cond.instantiable cn_F 4 ∈ zt_tbl := zt_in (i := 82) (by decide +kernel) rfl
theorem ml_T_27 : Cond.methodLink cn_T 27 mn_F_init ∈ zt_tbl := zt_in (i := 83) (by decide +kernel) rfl
theorem im_F_init : Cond.instanceMethod mn_F_init ∈ zt_tbl := zt_in (i := 84) (by decide +kernel) rfl
theorem wk_F_init : Cond.code mn_F_init bc_F_init 2 none ∈ zt_tbl := zt_in (i := 85) (by decide +kernel) rfl
theorem ml_F_3 : Cond.methodLink cn_F 3 ⟨"java/lang/Object", "<init>", "()V"⟩ ∈ zt_tbl := zt_in (i := 86) (by decide +kernel) rfl
theorem cl_F_9 : Cond.classLink cn_F 9 cn_P ∈ zt_tbl := zt_in (i := 87) (by decide +kernel) rfl
theorem ins_P : Cond.instantiable cn_P 5 ∈ zt_tbl := zt_in (i := 89) (by decide +kernel) rfl
theorem im_P_init : Cond.instanceMethod mn_P_init ∈ zt_tbl := zt_in (i := 91) (by decide +kernel) rfl
theorem wk_P_init : Cond.code mn_P_init bc_P_init 1 none ∈ zt_tbl := zt_in (i := 92) (by decide +kernel) rfl
theorem ml_P_1 : Cond.methodLink cn_P 1 ⟨"java/lang/Object", "<init>", "()V"⟩ ∈ zt_tbl := zt_in (i := 93) (by decide +kernel) rfl
theorem fl_F_36 : Cond.fieldLink cn_F 36 "TuneFinder$Passage" "id" "I" ∈ zt_tbl := zt_in (i := 94) (by decide +kernel) rfl
theorem fl_T_144 : Cond.fieldLink cn_T 144 "TuneFinder$Passage" "id" "I" ∈ zt_tbl := zt_in (i := 95) (by decide +kernel) rfl
theorem fl_F_39 : Cond.fieldLink cn_F 39 "TuneFinder$Passage" "place" "I" ∈ zt_tbl := zt_in (i := 96) (by decide +kernel) rfl
theorem fl_T_149 : Cond.fieldLink cn_T 149 "TuneFinder$Passage" "place" "I" ∈ zt_tbl := zt_in (i := 97) (by decide +kernel) rfl
theorem fl_F_42 : Cond.fieldLink cn_F 42 "TuneFinder$Passage" "span" "I" ∈ zt_tbl := zt_in (i := 98) (by decide +kernel) rfl
theorem fl_T_152 : Cond.fieldLink cn_T 152 "TuneFinder$Passage" "span" "I" ∈ zt_tbl := zt_in (i := 99) (by decide +kernel) rfl
theorem fl_F_45 : Cond.fieldLink cn_F 45 "TuneFinder$Passage" "higher" "I" ∈ zt_tbl := zt_in (i := 100) (by decide +kernel) rfl
theorem fl_T_155 : Cond.fieldLink cn_T 155 "TuneFinder$Passage" "higher" "I" ∈ zt_tbl := zt_in (i := 101) (by decide +kernel) rfl
theorem fl_F_48 : Cond.fieldLink cn_F 48 "TuneFinder$Passage" "c" "I" ∈ zt_tbl := zt_in (i := 102) (by decide +kernel) rfl
theorem fl_F_11 : Cond.fieldLink cn_F 11 "TuneFinder$Found" "passages" "[LTuneFinder$Passage;" ∈ zt_tbl := zt_in (i := 114) (by decide +kernel) rfl
theorem fl_T_140 : Cond.fieldLink cn_T 140 "TuneFinder$Found" "passages" "[LTuneFinder$Passage;" ∈ zt_tbl := zt_in (i := 115) (by decide +kernel) rfl
theorem fl_F_18 : Cond.fieldLink cn_F 18 "TuneFinder$Found" "asked" "I" ∈ zt_tbl := zt_in (i := 116) (by decide +kernel) rfl
theorem fl_F_22 : Cond.fieldLink cn_F 22 "TuneFinder$Found" "total" "I" ∈ zt_tbl := zt_in (i := 117) (by decide +kernel) rfl
theorem fl_T_134 : Cond.fieldLink cn_T 134 "TuneFinder$Found" "total" "I" ∈ zt_tbl := zt_in (i := 118) (by decide +kernel) rfl
theorem fl_F_25 : Cond.fieldLink cn_F 25 "TuneFinder$Found" "kept" "I" ∈ zt_tbl := zt_in (i := 119) (by decide +kernel) rfl
theorem fl_T_137 : Cond.fieldLink cn_T 137 "TuneFinder$Found" "kept" "I" ∈ zt_tbl := zt_in (i := 120) (by decide +kernel) rfl
theorem cl_T_32 : Cond.classLink cn_T 32 cn_R ∈ zt_tbl := zt_in (i := 130) (by decide +kernel) rfl
theorem ins_R : Cond.instantiable cn_R 5 ∈ zt_tbl := zt_in (i := 131) (by decide +kernel) rfl
theorem ml_T_34 : Cond.methodLink cn_T 34 mn_R_init ∈ zt_tbl := zt_in (i := 132) (by decide +kernel) rfl
theorem im_R_init : Cond.instanceMethod mn_R_init ∈ zt_tbl := zt_in (i := 133) (by decide +kernel) rfl
theorem wk_R_init : Cond.code mn_R_init bc_R_init 1 none ∈ zt_tbl := zt_in (i := 134) (by decide +kernel) rfl
theorem ml_R_3 : Cond.methodLink cn_R 3 ⟨"java/lang/Object", "<init>", "()V"⟩ ∈ zt_tbl := zt_in (i := 135) (by decide +kernel) rfl
theorem fl_R_9 : Cond.fieldLink cn_R 9 "TuneFinder$Near" "weights" "[I" ∈ zt_tbl := zt_in (i := 136) (by decide +kernel) rfl
theorem fl_R_15 : Cond.fieldLink cn_R 15 "TuneFinder$Near" "here" "[I" ∈ zt_tbl := zt_in (i := 137) (by decide +kernel) rfl
theorem fl_R_18 : Cond.fieldLink cn_R 18 "TuneFinder$Near" "behind" "[I" ∈ zt_tbl := zt_in (i := 138) (by decide +kernel) rfl
theorem fl_R_21 : Cond.fieldLink cn_R 21 "TuneFinder$Near" "most" "I" ∈ zt_tbl := zt_in (i := 139) (by decide +kernel) rfl
theorem fl_R_30 : Cond.fieldLink cn_R 30 "TuneFinder$Near" "longest" "I" ∈ zt_tbl := zt_in (i := 140) (by decide +kernel) rfl
theorem fl_T_231 : Cond.fieldLink cn_T 231 "TuneFinder$Near" "longest" "I" ∈ zt_tbl := zt_in (i := 141) (by decide +kernel) rfl
theorem cl_T_39 : Cond.classLink cn_T 39 cn_W ∈ zt_tbl := zt_in (i := 153) (by decide +kernel) rfl
theorem ins_W : Cond.instantiable cn_W 4 ∈ zt_tbl := zt_in (i := 154) (by decide +kernel) rfl
theorem ml_T_41 : Cond.methodLink cn_T 41 mn_W_init ∈ zt_tbl := zt_in (i := 155) (by decide +kernel) rfl
theorem im_W_init : Cond.instanceMethod mn_W_init ∈ zt_tbl := zt_in (i := 156) (by decide +kernel) rfl
theorem wk_W_init : Cond.code mn_W_init bc_W_init 1 none ∈ zt_tbl := zt_in (i := 157) (by decide +kernel) rfl
theorem ml_W_3 : Cond.methodLink cn_W 3 ⟨"java/lang/Object", "<init>", "()V"⟩ ∈ zt_tbl := zt_in (i := 158) (by decide +kernel) rfl
theorem fl_W_9 : Cond.fieldLink cn_W 9 "TuneFinder$Repeats" "common" "[I" ∈ zt_tbl := zt_in (i := 159) (by decide +kernel) rfl
theorem fl_W_29 : Cond.fieldLink cn_W 29 "TuneFinder$Repeats" "first" "I" ∈ zt_tbl := zt_in (i := 160) (by decide +kernel) rfl
theorem fl_T_172 : Cond.fieldLink cn_T 172 "TuneFinder$Repeats" "first" "I" ∈ zt_tbl := zt_in (i := 161) (by decide +kernel) rfl
theorem fl_W_33 : Cond.fieldLink cn_W 33 "TuneFinder$Repeats" "size" "I" ∈ zt_tbl := zt_in (i := 162) (by decide +kernel) rfl
theorem fl_T_175 : Cond.fieldLink cn_T 175 "TuneFinder$Repeats" "size" "I" ∈ zt_tbl := zt_in (i := 163) (by decide +kernel) rfl
theorem fl_W_36 : Cond.fieldLink cn_W 36 "TuneFinder$Repeats" "places" "I" ∈ zt_tbl := zt_in (i := 164) (by decide +kernel) rfl
theorem fl_T_178 : Cond.fieldLink cn_T 178 "TuneFinder$Repeats" "places" "I" ∈ zt_tbl := zt_in (i := 165) (by decide +kernel) rfl
theorem fl_T_11 : Cond.fieldLink cn_T 11 "TuneFinder" "tunes" "[LTuneFinder$Tune;" ∈ zt_tbl := zt_in (i := 175) (by decide +kernel) rfl
theorem fl_T_21 : Cond.fieldLink cn_T 21 "TuneFinder" "query" "LTuneFinder$Notes;" ∈ zt_tbl := zt_in (i := 176) (by decide +kernel) rfl
theorem fl_T_28 : Cond.fieldLink cn_T 28 "TuneFinder" "found" "LTuneFinder$Found;" ∈ zt_tbl := zt_in (i := 177) (by decide +kernel) rfl
theorem fl_T_35 : Cond.fieldLink cn_T 35 "TuneFinder" "near" "LTuneFinder$Near;" ∈ zt_tbl := zt_in (i := 178) (by decide +kernel) rfl
theorem fl_T_42 : Cond.fieldLink cn_T 42 "TuneFinder" "rows" "LTuneFinder$Repeats;" ∈ zt_tbl := zt_in (i := 179) (by decide +kernel) rfl
theorem fl_T_46 : Cond.fieldLink cn_T 46 "TuneFinder" "sharedSteps" "[I" ∈ zt_tbl := zt_in (i := 180) (by decide +kernel) rfl
theorem ml_L_115 : Cond.methodLink cn_L 115 mn_T_forget ∈ zt_tbl := zt_in (i := 194) (by decide +kernel) rfl
theorem im_T_forget : Cond.instanceMethod mn_T_forget ∈ zt_tbl := zt_in (i := 195) (by decide +kernel) rfl
theorem se_T_forget : Cond.selects cn_T mn_T_forget mn_T_forget ∈ zt_tbl := zt_in (i := 196) (by decide +kernel) rfl
theorem wk_T_forget : Cond.code mn_T_forget bc_T_forget 1 none ∈ zt_tbl := zt_in (i := 197) (by decide +kernel) rfl
theorem ml_T_125 : Cond.methodLink cn_T 125 mn_N_clear ∈ zt_tbl := zt_in (i := 198) (by decide +kernel) rfl
theorem im_N_clear : Cond.instanceMethod mn_N_clear ∈ zt_tbl := zt_in (i := 199) (by decide +kernel) rfl
theorem se_N_clear : Cond.selects cn_N mn_N_clear mn_N_clear ∈ zt_tbl := zt_in (i := 200) (by decide +kernel) rfl
theorem wk_N_clear : Cond.code mn_N_clear bc_N_clear 1 none ∈ zt_tbl := zt_in (i := 201) (by decide +kernel) rfl
theorem ml_L_73 : Cond.methodLink cn_L 73 mn_L_tune ∈ zt_tbl := zt_in (i := 202) (by decide +kernel) rfl
theorem sm_L_tune : Cond.static mn_L_tune ∈ zt_tbl := zt_in (i := 203) (by decide +kernel) rfl
theorem cl_L_13 : Cond.classLink cn_L 13 "java/lang/IndexOutOfBoundsException" ∈ zt_tbl := zt_in (i := 205) (by decide +kernel) rfl
theorem cl_L_15 : Cond.classLink cn_L 15 "java/lang/IllegalStateException" ∈ zt_tbl := zt_in (i := 206) (by decide +kernel) rfl
theorem ml_L_7 : Cond.methodLink cn_L 7 mn_T_tune ∈ zt_tbl := zt_in (i := 207) (by decide +kernel) rfl
theorem im_T_tune : Cond.instanceMethod mn_T_tune ∈ zt_tbl := zt_in (i := 208) (by decide +kernel) rfl
theorem se_T_tune : Cond.selects cn_T mn_T_tune mn_T_tune ∈ zt_tbl := zt_in (i := 209) (by decide +kernel) rfl
theorem wk_T_tune : Cond.code mn_T_tune bc_T_tune 2 none ∈ zt_tbl := zt_in (i := 210) (by decide +kernel) rfl
theorem cl_T_50 : Cond.classLink cn_T 50 "java/lang/IndexOutOfBoundsException" ∈ zt_tbl := zt_in (i := 211) (by decide +kernel) rfl
theorem ins_IndexOutOfBoundsException : Cond.instantiable "java/lang/IndexOutOfBoundsException" 6 ∈ zt_tbl := zt_in (i := 212) (by decide +kernel) rfl
theorem ins_Throwable : Cond.instantiable "java/lang/Throwable" 6 ∈ zt_tbl := zt_in (i := 250) (by decide +kernel) rfl
theorem ml_T_52 : Cond.methodLink cn_T 52 ⟨"java/lang/IndexOutOfBoundsException", "<init>", "()V"⟩ ∈ zt_tbl := zt_in (i := 252) (by decide +kernel) rfl
theorem cl_T_57 : Cond.classLink cn_T 57 "java/lang/IllegalStateException" ∈ zt_tbl := zt_in (i := 274) (by decide +kernel) rfl
theorem ins_IllegalStateException : Cond.instantiable "java/lang/IllegalStateException" 6 ∈ zt_tbl := zt_in (i := 275) (by decide +kernel) rfl
theorem ml_T_59 : Cond.methodLink cn_T 59 ⟨"java/lang/IllegalStateException", "<init>", "()V"⟩ ∈ zt_tbl := zt_in (i := 283) (by decide +kernel) rfl
theorem ml_T_60 : Cond.methodLink cn_T 60 mn_U_begin ∈ zt_tbl := zt_in (i := 289) (by decide +kernel) rfl
theorem im_U_begin : Cond.instanceMethod mn_U_begin ∈ zt_tbl := zt_in (i := 290) (by decide +kernel) rfl
theorem se_U_begin : Cond.selects cn_U mn_U_begin mn_U_begin ∈ zt_tbl := zt_in (i := 291) (by decide +kernel) rfl
theorem wk_U_begin : Cond.code mn_U_begin bc_U_begin 1 none ∈ zt_tbl := zt_in (i := 292) (by decide +kernel) rfl
theorem ml_U_27 : Cond.methodLink cn_U 27 mn_N_clear ∈ zt_tbl := zt_in (i := 293) (by decide +kernel) rfl
theorem ml_L_83 : Cond.methodLink cn_L 83 mn_L_drop ∈ zt_tbl := zt_in (i := 294) (by decide +kernel) rfl
theorem sm_L_drop : Cond.static mn_L_drop ∈ zt_tbl := zt_in (i := 295) (by decide +kernel) rfl
theorem ml_L_17 : Cond.methodLink cn_L 17 mn_T_drop ∈ zt_tbl := zt_in (i := 297) (by decide +kernel) rfl
theorem im_T_drop : Cond.instanceMethod mn_T_drop ∈ zt_tbl := zt_in (i := 298) (by decide +kernel) rfl
theorem se_T_drop : Cond.selects cn_T mn_T_drop mn_T_drop ∈ zt_tbl := zt_in (i := 299) (by decide +kernel) rfl
theorem wk_T_drop : Cond.code mn_T_drop bc_T_drop 2 none ∈ zt_tbl := zt_in (i := 300) (by decide +kernel) rfl
theorem ml_T_63 : Cond.methodLink cn_T 63 mn_T_existing ∈ zt_tbl := zt_in (i := 301) (by decide +kernel) rfl
theorem im_T_existing : Cond.instanceMethod mn_T_existing ∈ zt_tbl := zt_in (i := 303) (by decide +kernel) rfl
theorem wk_T_existing : Cond.code mn_T_existing bc_T_existing 2 ((some (.object "TuneFinder$Tune"))) ∈ zt_tbl := zt_in (i := 304) (by decide +kernel) rfl
theorem ml_T_67 : Cond.methodLink cn_T 67 mn_U_end ∈ zt_tbl := zt_in (i := 305) (by decide +kernel) rfl
theorem im_U_end : Cond.instanceMethod mn_U_end ∈ zt_tbl := zt_in (i := 306) (by decide +kernel) rfl
theorem se_U_end : Cond.selects cn_U mn_U_end mn_U_end ∈ zt_tbl := zt_in (i := 307) (by decide +kernel) rfl
theorem wk_U_end : Cond.code mn_U_end bc_U_end 1 none ∈ zt_tbl := zt_in (i := 308) (by decide +kernel) rfl
theorem ml_L_86 : Cond.methodLink cn_L 86 mn_L_note ∈ zt_tbl := zt_in (i := 309) (by decide +kernel) rfl
theorem sm_L_note : Cond.static mn_L_note ∈ zt_tbl := zt_in (i := 310) (by decide +kernel) rfl
theorem cl_L_24 : Cond.classLink cn_L 24 "java/lang/IllegalArgumentException" ∈ zt_tbl := zt_in (i := 312) (by decide +kernel) rfl
theorem ml_L_20 : Cond.methodLink cn_L 20 mn_T_note ∈ zt_tbl := zt_in (i := 313) (by decide +kernel) rfl
theorem im_T_note : Cond.instanceMethod mn_T_note ∈ zt_tbl := zt_in (i := 314) (by decide +kernel) rfl
theorem se_T_note : Cond.selects cn_T mn_T_note mn_T_note ∈ zt_tbl := zt_in (i := 315) (by decide +kernel) rfl
theorem wk_T_note : Cond.code mn_T_note bc_T_note 5 ((some .int)) ∈ zt_tbl := zt_in (i := 316) (by decide +kernel) rfl
theorem ml_T_70 : Cond.methodLink cn_T 70 mn_T_refuseUnlessNote ∈ zt_tbl := zt_in (i := 317) (by decide +kernel) rfl
theorem sm_T_refuseUnlessNote : Cond.static mn_T_refuseUnlessNote ∈ zt_tbl := zt_in (i := 318) (by decide +kernel) rfl
theorem wk_T_refuseUnlessNote : Cond.code mn_T_refuseUnlessNote bc_T_refuseUnlessNote 2 none ∈ zt_tbl := zt_in (i := 319) (by decide +kernel) rfl
theorem cl_T_114 : Cond.classLink cn_T 114 "java/lang/IllegalArgumentException" ∈ zt_tbl := zt_in (i := 320) (by decide +kernel) rfl
theorem ins_IllegalArgumentException : Cond.instantiable "java/lang/IllegalArgumentException" 6 ∈ zt_tbl := zt_in (i := 321) (by decide +kernel) rfl
theorem ml_T_116 : Cond.methodLink cn_T 116 ⟨"java/lang/IllegalArgumentException", "<init>", "()V"⟩ ∈ zt_tbl := zt_in (i := 329) (by decide +kernel) rfl
theorem ml_T_87 : Cond.methodLink cn_T 87 mn_N_append ∈ zt_tbl := zt_in (i := 335) (by decide +kernel) rfl
theorem im_N_append : Cond.instanceMethod mn_N_append ∈ zt_tbl := zt_in (i := 336) (by decide +kernel) rfl
theorem se_N_append : Cond.selects cn_N mn_N_append mn_N_append ∈ zt_tbl := zt_in (i := 337) (by decide +kernel) rfl
theorem wk_N_append : Cond.code mn_N_append bc_N_append 3 ((some .int)) ∈ zt_tbl := zt_in (i := 338) (by decide +kernel) rfl
theorem ml_N_20 : Cond.methodLink cn_N 20 mn_N_put ∈ zt_tbl := zt_in (i := 339) (by decide +kernel) rfl
theorem im_N_put : Cond.instanceMethod mn_N_put ∈ zt_tbl := zt_in (i := 340) (by decide +kernel) rfl
theorem se_N_put : Cond.selects cn_N mn_N_put mn_N_put ∈ zt_tbl := zt_in (i := 341) (by decide +kernel) rfl
theorem wk_N_put : Cond.code mn_N_put bc_N_put 4 none ∈ zt_tbl := zt_in (i := 342) (by decide +kernel) rfl
theorem ml_L_90 : Cond.methodLink cn_L 90 mn_L_show ∈ zt_tbl := zt_in (i := 343) (by decide +kernel) rfl
theorem sm_L_show : Cond.static mn_L_show ∈ zt_tbl := zt_in (i := 344) (by decide +kernel) rfl
theorem ml_L_26 : Cond.methodLink cn_L 26 mn_T_show ∈ zt_tbl := zt_in (i := 346) (by decide +kernel) rfl
theorem im_T_show : Cond.instanceMethod mn_T_show ∈ zt_tbl := zt_in (i := 347) (by decide +kernel) rfl
theorem se_T_show : Cond.selects cn_T mn_T_show mn_T_show ∈ zt_tbl := zt_in (i := 348) (by decide +kernel) rfl
theorem wk_T_show : Cond.code mn_T_show bc_T_show 4 none ∈ zt_tbl := zt_in (i := 349) (by decide +kernel) rfl
theorem ml_L_94 : Cond.methodLink cn_L 94 mn_L_correct ∈ zt_tbl := zt_in (i := 350) (by decide +kernel) rfl
theorem sm_L_correct : Cond.static mn_L_correct ∈ zt_tbl := zt_in (i := 351) (by decide +kernel) rfl
theorem ml_L_30 : Cond.methodLink cn_L 30 mn_T_correct ∈ zt_tbl := zt_in (i := 353) (by decide +kernel) rfl
theorem im_T_correct : Cond.instanceMethod mn_T_correct ∈ zt_tbl := zt_in (i := 354) (by decide +kernel) rfl
theorem se_T_correct : Cond.selects cn_T mn_T_correct mn_T_correct ∈ zt_tbl := zt_in (i := 355) (by decide +kernel) rfl
theorem wk_T_correct : Cond.code mn_T_correct bc_T_correct 6 ((some .int)) ∈ zt_tbl := zt_in (i := 356) (by decide +kernel) rfl
theorem ml_T_91 : Cond.methodLink cn_T 91 mn_T_refuseUnlessPlace ∈ zt_tbl := zt_in (i := 357) (by decide +kernel) rfl
theorem sm_T_refuseUnlessPlace : Cond.static mn_T_refuseUnlessPlace ∈ zt_tbl := zt_in (i := 358) (by decide +kernel) rfl
theorem wk_T_refuseUnlessPlace : Cond.code mn_T_refuseUnlessPlace bc_T_refuseUnlessPlace 2 none ∈ zt_tbl := zt_in (i := 359) (by decide +kernel) rfl
theorem ml_T_95 : Cond.methodLink cn_T 95 mn_U_replace ∈ zt_tbl := zt_in (i := 360) (by decide +kernel) rfl
theorem im_U_replace : Cond.instanceMethod mn_U_replace ∈ zt_tbl := zt_in (i := 361) (by decide +kernel) rfl
theorem se_U_replace : Cond.selects cn_U mn_U_replace mn_U_replace ∈ zt_tbl := zt_in (i := 362) (by decide +kernel) rfl
theorem wk_U_replace : Cond.code mn_U_replace bc_U_replace 4 ((some .int)) ∈ zt_tbl := zt_in (i := 363) (by decide +kernel) rfl
theorem ml_U_47 : Cond.methodLink cn_U 47 mn_N_put ∈ zt_tbl := zt_in (i := 364) (by decide +kernel) rfl
theorem ml_L_98 : Cond.methodLink cn_L 98 mn_L_restore ∈ zt_tbl := zt_in (i := 365) (by decide +kernel) rfl
theorem sm_L_restore : Cond.static mn_L_restore ∈ zt_tbl := zt_in (i := 366) (by decide +kernel) rfl
theorem ml_L_34 : Cond.methodLink cn_L 34 mn_T_restore ∈ zt_tbl := zt_in (i := 368) (by decide +kernel) rfl
theorem im_T_restore : Cond.instanceMethod mn_T_restore ∈ zt_tbl := zt_in (i := 369) (by decide +kernel) rfl
theorem se_T_restore : Cond.selects cn_T mn_T_restore mn_T_restore ∈ zt_tbl := zt_in (i := 370) (by decide +kernel) rfl
theorem wk_T_restore : Cond.code mn_T_restore bc_T_restore 4 none ∈ zt_tbl := zt_in (i := 371) (by decide +kernel) rfl
theorem ml_T_99 : Cond.methodLink cn_T 99 mn_T_refuseUnlessReading ∈ zt_tbl := zt_in (i := 372) (by decide +kernel) rfl
theorem sm_T_refuseUnlessReading : Cond.static mn_T_refuseUnlessReading ∈ zt_tbl := zt_in (i := 373) (by decide +kernel) rfl
theorem wk_T_refuseUnlessReading : Cond.code mn_T_refuseUnlessReading bc_T_refuseUnlessReading 2 none ∈ zt_tbl := zt_in (i := 374) (by decide +kernel) rfl
theorem ml_T_102 : Cond.methodLink cn_T 102 mn_U_goBack ∈ zt_tbl := zt_in (i := 375) (by decide +kernel) rfl
theorem im_U_goBack : Cond.instanceMethod mn_U_goBack ∈ zt_tbl := zt_in (i := 376) (by decide +kernel) rfl
theorem se_U_goBack : Cond.selects cn_U mn_U_goBack mn_U_goBack ∈ zt_tbl := zt_in (i := 377) (by decide +kernel) rfl
theorem wk_U_goBack : Cond.code mn_U_goBack bc_U_goBack 3 none ∈ zt_tbl := zt_in (i := 378) (by decide +kernel) rfl
theorem ml_L_102 : Cond.methodLink cn_L 102 mn_L_at ∈ zt_tbl := zt_in (i := 379) (by decide +kernel) rfl
theorem sm_L_at : Cond.static mn_L_at ∈ zt_tbl := zt_in (i := 380) (by decide +kernel) rfl
theorem ml_L_38 : Cond.methodLink cn_L 38 mn_T_at ∈ zt_tbl := zt_in (i := 382) (by decide +kernel) rfl
theorem im_T_at : Cond.instanceMethod mn_T_at ∈ zt_tbl := zt_in (i := 383) (by decide +kernel) rfl
theorem se_T_at : Cond.selects cn_T mn_T_at mn_T_at ∈ zt_tbl := zt_in (i := 384) (by decide +kernel) rfl
theorem wk_T_at : Cond.code mn_T_at bc_T_at 7 ((some .int)) ∈ zt_tbl := zt_in (i := 385) (by decide +kernel) rfl
theorem ml_T_105 : Cond.methodLink cn_T 105 mn_U_pitchIn ∈ zt_tbl := zt_in (i := 386) (by decide +kernel) rfl
theorem im_U_pitchIn : Cond.instanceMethod mn_U_pitchIn ∈ zt_tbl := zt_in (i := 387) (by decide +kernel) rfl
theorem se_U_pitchIn : Cond.selects cn_U mn_U_pitchIn mn_U_pitchIn ∈ zt_tbl := zt_in (i := 388) (by decide +kernel) rfl
theorem wk_U_pitchIn : Cond.code mn_U_pitchIn bc_U_pitchIn 4 ((some .int)) ∈ zt_tbl := zt_in (i := 389) (by decide +kernel) rfl
theorem ml_U_51 : Cond.methodLink cn_U 51 mn_U_replacedAfter ∈ zt_tbl := zt_in (i := 390) (by decide +kernel) rfl
theorem im_U_replacedAfter : Cond.instanceMethod mn_U_replacedAfter ∈ zt_tbl := zt_in (i := 392) (by decide +kernel) rfl
theorem wk_U_replacedAfter : Cond.code mn_U_replacedAfter bc_U_replacedAfter 4 ((some .int)) ∈ zt_tbl := zt_in (i := 393) (by decide +kernel) rfl
theorem ml_T_108 : Cond.methodLink cn_T 108 mn_U_lengthIn ∈ zt_tbl := zt_in (i := 394) (by decide +kernel) rfl
theorem im_U_lengthIn : Cond.instanceMethod mn_U_lengthIn ∈ zt_tbl := zt_in (i := 395) (by decide +kernel) rfl
theorem se_U_lengthIn : Cond.selects cn_U mn_U_lengthIn mn_U_lengthIn ∈ zt_tbl := zt_in (i := 396) (by decide +kernel) rfl
theorem wk_U_lengthIn : Cond.code mn_U_lengthIn bc_U_lengthIn 4 ((some .int)) ∈ zt_tbl := zt_in (i := 397) (by decide +kernel) rfl
theorem ml_T_111 : Cond.methodLink cn_T 111 mn_U_stepIn ∈ zt_tbl := zt_in (i := 398) (by decide +kernel) rfl
theorem im_U_stepIn : Cond.instanceMethod mn_U_stepIn ∈ zt_tbl := zt_in (i := 399) (by decide +kernel) rfl
theorem se_U_stepIn : Cond.selects cn_U mn_U_stepIn mn_U_stepIn ∈ zt_tbl := zt_in (i := 400) (by decide +kernel) rfl
theorem wk_U_stepIn : Cond.code mn_U_stepIn bc_U_stepIn 3 ((some .int)) ∈ zt_tbl := zt_in (i := 401) (by decide +kernel) rfl
theorem ml_U_58 : Cond.methodLink cn_U 58 mn_U_pitchIn ∈ zt_tbl := zt_in (i := 402) (by decide +kernel) rfl
theorem ml_L_105 : Cond.methodLink cn_L 105 mn_L_about ∈ zt_tbl := zt_in (i := 403) (by decide +kernel) rfl
theorem sm_L_about : Cond.static mn_L_about ∈ zt_tbl := zt_in (i := 404) (by decide +kernel) rfl
theorem ml_L_41 : Cond.methodLink cn_L 41 mn_T_about ∈ zt_tbl := zt_in (i := 406) (by decide +kernel) rfl
theorem im_T_about : Cond.instanceMethod mn_T_about ∈ zt_tbl := zt_in (i := 407) (by decide +kernel) rfl
theorem se_T_about : Cond.selects cn_T mn_T_about mn_T_about ∈ zt_tbl := zt_in (i := 408) (by decide +kernel) rfl
theorem wk_T_about : Cond.code mn_T_about bc_T_about 4 ((some .int)) ∈ zt_tbl := zt_in (i := 409) (by decide +kernel) rfl
theorem ml_L_109 : Cond.methodLink cn_L 109 mn_L_contour ∈ zt_tbl := zt_in (i := 410) (by decide +kernel) rfl
theorem sm_L_contour : Cond.static mn_L_contour ∈ zt_tbl := zt_in (i := 411) (by decide +kernel) rfl
theorem ml_L_45 : Cond.methodLink cn_L 45 mn_T_contour ∈ zt_tbl := zt_in (i := 413) (by decide +kernel) rfl
theorem im_T_contour : Cond.instanceMethod mn_T_contour ∈ zt_tbl := zt_in (i := 414) (by decide +kernel) rfl
theorem se_T_contour : Cond.selects cn_T mn_T_contour mn_T_contour ∈ zt_tbl := zt_in (i := 415) (by decide +kernel) rfl
theorem wk_T_contour : Cond.code mn_T_contour bc_T_contour 5 ((some .int)) ∈ zt_tbl := zt_in (i := 416) (by decide +kernel) rfl
theorem ml_T_117 : Cond.methodLink cn_T 117 mn_N_steps ∈ zt_tbl := zt_in (i := 417) (by decide +kernel) rfl
theorem im_N_steps : Cond.instanceMethod mn_N_steps ∈ zt_tbl := zt_in (i := 418) (by decide +kernel) rfl
theorem se_N_steps : Cond.selects cn_N mn_N_steps mn_N_steps ∈ zt_tbl := zt_in (i := 419) (by decide +kernel) rfl
theorem wk_N_steps : Cond.code mn_N_steps bc_N_steps 1 ((some .int)) ∈ zt_tbl := zt_in (i := 420) (by decide +kernel) rfl
theorem ml_N_24 : Cond.methodLink cn_N 24 ⟨"java/lang/Math", "max", "(II)I"⟩ ∈ zt_tbl := zt_in (i := 421) (by decide +kernel) rfl
theorem sm_Math_max : Cond.static ⟨"java/lang/Math", "max", "(II)I"⟩ ∈ zt_tbl := zt_in (i := 422) (by decide +kernel) rfl
theorem wk_Math_max : Cond.code ⟨"java/lang/Math", "max", "(II)I"⟩ prog_15_method_65_code 2 (some .int) ∈ zt_tbl := zt_in (i := 423) (by decide +kernel) rfl
theorem ml_T_121 : Cond.methodLink cn_T 121 mn_N_stepBehind ∈ zt_tbl := zt_in (i := 424) (by decide +kernel) rfl
theorem im_N_stepBehind : Cond.instanceMethod mn_N_stepBehind ∈ zt_tbl := zt_in (i := 425) (by decide +kernel) rfl
theorem se_N_stepBehind : Cond.selects cn_N mn_N_stepBehind mn_N_stepBehind ∈ zt_tbl := zt_in (i := 426) (by decide +kernel) rfl
theorem wk_N_stepBehind : Cond.code mn_N_stepBehind bc_N_stepBehind 2 ((some .int)) ∈ zt_tbl := zt_in (i := 427) (by decide +kernel) rfl
theorem ml_L_112 : Cond.methodLink cn_L 112 mn_L_ask ∈ zt_tbl := zt_in (i := 428) (by decide +kernel) rfl
theorem sm_L_ask : Cond.static mn_L_ask ∈ zt_tbl := zt_in (i := 429) (by decide +kernel) rfl
theorem ml_L_48 : Cond.methodLink cn_L 48 mn_T_ask ∈ zt_tbl := zt_in (i := 431) (by decide +kernel) rfl
theorem im_T_ask : Cond.instanceMethod mn_T_ask ∈ zt_tbl := zt_in (i := 432) (by decide +kernel) rfl
theorem se_T_ask : Cond.selects cn_T mn_T_ask mn_T_ask ∈ zt_tbl := zt_in (i := 433) (by decide +kernel) rfl
theorem wk_T_ask : Cond.code mn_T_ask bc_T_ask 3 ((some .int)) ∈ zt_tbl := zt_in (i := 434) (by decide +kernel) rfl
theorem ml_L_119 : Cond.methodLink cn_L 119 mn_L_search ∈ zt_tbl := zt_in (i := 435) (by decide +kernel) rfl
theorem sm_L_search : Cond.static mn_L_search ∈ zt_tbl := zt_in (i := 436) (by decide +kernel) rfl
theorem ml_L_51 : Cond.methodLink cn_L 51 mn_T_search ∈ zt_tbl := zt_in (i := 438) (by decide +kernel) rfl
theorem im_T_search : Cond.instanceMethod mn_T_search ∈ zt_tbl := zt_in (i := 439) (by decide +kernel) rfl
theorem se_T_search : Cond.selects cn_T mn_T_search mn_T_search ∈ zt_tbl := zt_in (i := 440) (by decide +kernel) rfl
theorem wk_T_search : Cond.code mn_T_search bc_T_search 4 ((some .int)) ∈ zt_tbl := zt_in (i := 441) (by decide +kernel) rfl
theorem ml_T_128 : Cond.methodLink cn_T 128 mn_F_begin ∈ zt_tbl := zt_in (i := 442) (by decide +kernel) rfl
theorem im_F_begin : Cond.instanceMethod mn_F_begin ∈ zt_tbl := zt_in (i := 443) (by decide +kernel) rfl
theorem se_F_begin : Cond.selects cn_F mn_F_begin mn_F_begin ∈ zt_tbl := zt_in (i := 444) (by decide +kernel) rfl
theorem wk_F_begin : Cond.code mn_F_begin bc_F_begin 2 none ∈ zt_tbl := zt_in (i := 445) (by decide +kernel) rfl
theorem ml_T_130 : Cond.methodLink cn_T 130 mn_T_searchTune ∈ zt_tbl := zt_in (i := 446) (by decide +kernel) rfl
theorem im_T_searchTune : Cond.instanceMethod mn_T_searchTune ∈ zt_tbl := zt_in (i := 448) (by decide +kernel) rfl
theorem wk_T_searchTune : Cond.code mn_T_searchTune bc_T_searchTune 4 none ∈ zt_tbl := zt_in (i := 449) (by decide +kernel) rfl
theorem ml_T_192 : Cond.methodLink cn_T 192 mn_T_searchOutline ∈ zt_tbl := zt_in (i := 450) (by decide +kernel) rfl
theorem im_T_searchOutline : Cond.instanceMethod mn_T_searchOutline ∈ zt_tbl := zt_in (i := 452) (by decide +kernel) rfl
theorem wk_T_searchOutline : Cond.code mn_T_searchOutline bc_T_searchOutline 7 none ∈ zt_tbl := zt_in (i := 453) (by decide +kernel) rfl
theorem ml_T_216 : Cond.methodLink cn_T 216 mn_T_outlineEnds ∈ zt_tbl := zt_in (i := 454) (by decide +kernel) rfl
theorem im_T_outlineEnds : Cond.instanceMethod mn_T_outlineEnds ∈ zt_tbl := zt_in (i := 456) (by decide +kernel) rfl
theorem wk_T_outlineEnds : Cond.code mn_T_outlineEnds bc_T_outlineEnds 9 ((some .int)) ∈ zt_tbl := zt_in (i := 457) (by decide +kernel) rfl
theorem ml_T_222 : Cond.methodLink cn_T 222 mn_N_placesOfPitch ∈ zt_tbl := zt_in (i := 458) (by decide +kernel) rfl
theorem im_N_placesOfPitch : Cond.instanceMethod mn_N_placesOfPitch ∈ zt_tbl := zt_in (i := 459) (by decide +kernel) rfl
theorem se_N_placesOfPitch : Cond.selects cn_N mn_N_placesOfPitch mn_N_placesOfPitch ∈ zt_tbl := zt_in (i := 460) (by decide +kernel) rfl
theorem wk_N_placesOfPitch : Cond.code mn_N_placesOfPitch bc_N_placesOfPitch 4 ((some .int)) ∈ zt_tbl := zt_in (i := 461) (by decide +kernel) rfl
theorem ml_T_205 : Cond.methodLink cn_T 205 mn_T_offer ∈ zt_tbl := zt_in (i := 462) (by decide +kernel) rfl
theorem im_T_offer : Cond.instanceMethod mn_T_offer ∈ zt_tbl := zt_in (i := 464) (by decide +kernel) rfl
theorem wk_T_offer : Cond.code mn_T_offer bc_T_offer 6 none ∈ zt_tbl := zt_in (i := 465) (by decide +kernel) rfl
theorem ml_T_241 : Cond.methodLink cn_T 241 mn_F_add ∈ zt_tbl := zt_in (i := 466) (by decide +kernel) rfl
theorem im_F_add : Cond.instanceMethod mn_F_add ∈ zt_tbl := zt_in (i := 467) (by decide +kernel) rfl
theorem se_F_add : Cond.selects cn_F mn_F_add mn_F_add ∈ zt_tbl := zt_in (i := 468) (by decide +kernel) rfl
theorem wk_F_add : Cond.code mn_F_add bc_F_add 8 none ∈ zt_tbl := zt_in (i := 469) (by decide +kernel) rfl
theorem ml_F_28 : Cond.methodLink cn_F 28 mn_F_rankOf ∈ zt_tbl := zt_in (i := 470) (by decide +kernel) rfl
theorem im_F_rankOf : Cond.instanceMethod mn_F_rankOf ∈ zt_tbl := zt_in (i := 472) (by decide +kernel) rfl
theorem wk_F_rankOf : Cond.code mn_F_rankOf bc_F_rankOf 5 ((some .int)) ∈ zt_tbl := zt_in (i := 473) (by decide +kernel) rfl
theorem ml_F_32 : Cond.methodLink cn_F 32 mn_F_makeRoom ∈ zt_tbl := zt_in (i := 474) (by decide +kernel) rfl
theorem im_F_makeRoom : Cond.instanceMethod mn_F_makeRoom ∈ zt_tbl := zt_in (i := 476) (by decide +kernel) rfl
theorem wk_F_makeRoom : Cond.code mn_F_makeRoom bc_F_makeRoom 5 ((some (.object "TuneFinder$Passage"))) ∈ zt_tbl := zt_in (i := 477) (by decide +kernel) rfl
theorem ml_F_51 : Cond.methodLink cn_F 51 ⟨"java/lang/Math", "min", "(II)I"⟩ ∈ zt_tbl := zt_in (i := 478) (by decide +kernel) rfl
theorem sm_Math_min : Cond.static ⟨"java/lang/Math", "min", "(II)I"⟩ ∈ zt_tbl := zt_in (i := 479) (by decide +kernel) rfl
theorem wk_Math_min : Cond.code ⟨"java/lang/Math", "min", "(II)I"⟩ prog_15_method_69_code 2 (some .int) ∈ zt_tbl := zt_in (i := 480) (by decide +kernel) rfl
theorem ml_T_195 : Cond.methodLink cn_T 195 mn_T_searchNear ∈ zt_tbl := zt_in (i := 481) (by decide +kernel) rfl
theorem im_T_searchNear : Cond.instanceMethod mn_T_searchNear ∈ zt_tbl := zt_in (i := 483) (by decide +kernel) rfl
theorem wk_T_searchNear : Cond.code mn_T_searchNear bc_T_searchNear 6 none ∈ zt_tbl := zt_in (i := 484) (by decide +kernel) rfl
theorem ml_T_225 : Cond.methodLink cn_T 225 mn_R_begin ∈ zt_tbl := zt_in (i := 485) (by decide +kernel) rfl
theorem im_R_begin : Cond.instanceMethod mn_R_begin ∈ zt_tbl := zt_in (i := 486) (by decide +kernel) rfl
theorem se_R_begin : Cond.selects cn_R mn_R_begin mn_R_begin ∈ zt_tbl := zt_in (i := 487) (by decide +kernel) rfl
theorem wk_R_begin : Cond.code mn_R_begin bc_R_begin 4 none ∈ zt_tbl := zt_in (i := 488) (by decide +kernel) rfl
theorem ml_R_33 : Cond.methodLink cn_R 33 mn_R_measure ∈ zt_tbl := zt_in (i := 489) (by decide +kernel) rfl
theorem im_R_measure : Cond.instanceMethod mn_R_measure ∈ zt_tbl := zt_in (i := 491) (by decide +kernel) rfl
theorem wk_R_measure : Cond.code mn_R_measure bc_R_measure 5 none ∈ zt_tbl := zt_in (i := 492) (by decide +kernel) rfl
theorem ml_R_37 : Cond.methodLink cn_R 37 mn_N_steps ∈ zt_tbl := zt_in (i := 493) (by decide +kernel) rfl
theorem ml_R_41 : Cond.methodLink cn_R 41 mn_N_stepBehind ∈ zt_tbl := zt_in (i := 494) (by decide +kernel) rfl
theorem ml_R_45 : Cond.methodLink cn_R 45 mn_R_takeIn ∈ zt_tbl := zt_in (i := 495) (by decide +kernel) rfl
theorem im_R_takeIn : Cond.instanceMethod mn_R_takeIn ∈ zt_tbl := zt_in (i := 497) (by decide +kernel) rfl
theorem wk_R_takeIn : Cond.code mn_R_takeIn bc_R_takeIn 8 none ∈ zt_tbl := zt_in (i := 498) (by decide +kernel) rfl
theorem ml_R_49 : Cond.methodLink cn_R 49 ⟨"java/lang/Math", "min", "(II)I"⟩ ∈ zt_tbl := zt_in (i := 499) (by decide +kernel) rfl
theorem ml_T_228 : Cond.methodLink cn_T 228 mn_R_goOn ∈ zt_tbl := zt_in (i := 500) (by decide +kernel) rfl
theorem im_R_goOn : Cond.instanceMethod mn_R_goOn ∈ zt_tbl := zt_in (i := 501) (by decide +kernel) rfl
theorem se_R_goOn : Cond.selects cn_R mn_R_goOn mn_R_goOn ∈ zt_tbl := zt_in (i := 502) (by decide +kernel) rfl
theorem wk_R_goOn : Cond.code mn_R_goOn bc_R_goOn 5 none ∈ zt_tbl := zt_in (i := 503) (by decide +kernel) rfl
theorem ml_T_234 : Cond.methodLink cn_T 234 mn_R_holds ∈ zt_tbl := zt_in (i := 504) (by decide +kernel) rfl
theorem im_R_holds : Cond.instanceMethod mn_R_holds ∈ zt_tbl := zt_in (i := 505) (by decide +kernel) rfl
theorem se_R_holds : Cond.selects cn_R mn_R_holds mn_R_holds ∈ zt_tbl := zt_in (i := 506) (by decide +kernel) rfl
theorem wk_R_holds : Cond.code mn_R_holds bc_R_holds 2 ((some .boolean)) ∈ zt_tbl := zt_in (i := 507) (by decide +kernel) rfl
theorem ml_T_238 : Cond.methodLink cn_T 238 mn_R_staying ∈ zt_tbl := zt_in (i := 508) (by decide +kernel) rfl
theorem im_R_staying : Cond.instanceMethod mn_R_staying ∈ zt_tbl := zt_in (i := 509) (by decide +kernel) rfl
theorem se_R_staying : Cond.selects cn_R mn_R_staying mn_R_staying ∈ zt_tbl := zt_in (i := 510) (by decide +kernel) rfl
theorem wk_R_staying : Cond.code mn_R_staying bc_R_staying 3 ((some .int)) ∈ zt_tbl := zt_in (i := 511) (by decide +kernel) rfl
theorem ml_T_198 : Cond.methodLink cn_T 198 mn_T_searchNoteByNote ∈ zt_tbl := zt_in (i := 512) (by decide +kernel) rfl
theorem im_T_searchNoteByNote : Cond.instanceMethod mn_T_searchNoteByNote ∈ zt_tbl := zt_in (i := 514) (by decide +kernel) rfl
theorem wk_T_searchNoteByNote : Cond.code mn_T_searchNoteByNote bc_T_searchNoteByNote 5 none ∈ zt_tbl := zt_in (i := 515) (by decide +kernel) rfl
theorem ml_T_201 : Cond.methodLink cn_T 201 mn_T_fits ∈ zt_tbl := zt_in (i := 516) (by decide +kernel) rfl
theorem im_T_fits : Cond.instanceMethod mn_T_fits ∈ zt_tbl := zt_in (i := 518) (by decide +kernel) rfl
theorem wk_T_fits : Cond.code mn_T_fits bc_T_fits 4 ((some .boolean)) ∈ zt_tbl := zt_in (i := 519) (by decide +kernel) rfl
theorem ml_T_181 : Cond.methodLink cn_T 181 mn_T_sameSteps ∈ zt_tbl := zt_in (i := 520) (by decide +kernel) rfl
theorem sm_T_sameSteps : Cond.static mn_T_sameSteps ∈ zt_tbl := zt_in (i := 521) (by decide +kernel) rfl
theorem wk_T_sameSteps : Cond.code mn_T_sameSteps bc_T_sameSteps 5 ((some .boolean)) ∈ zt_tbl := zt_in (i := 522) (by decide +kernel) rfl
theorem ml_T_209 : Cond.methodLink cn_T 209 mn_T_sameRatio ∈ zt_tbl := zt_in (i := 523) (by decide +kernel) rfl
theorem sm_T_sameRatio : Cond.static mn_T_sameRatio ∈ zt_tbl := zt_in (i := 524) (by decide +kernel) rfl
theorem wk_T_sameRatio : Cond.code mn_T_sameRatio bc_T_sameRatio 4 ((some .boolean)) ∈ zt_tbl := zt_in (i := 525) (by decide +kernel) rfl
theorem ml_T_213 : Cond.methodLink cn_T 213 mn_T_sameContour ∈ zt_tbl := zt_in (i := 526) (by decide +kernel) rfl
theorem sm_T_sameContour : Cond.static mn_T_sameContour ∈ zt_tbl := zt_in (i := 527) (by decide +kernel) rfl
theorem wk_T_sameContour : Cond.code mn_T_sameContour bc_T_sameContour 4 ((some .boolean)) ∈ zt_tbl := zt_in (i := 528) (by decide +kernel) rfl
theorem ml_T_245 : Cond.methodLink cn_T 245 mn_G_signum ∈ zt_tbl := zt_in (i := 529) (by decide +kernel) rfl
theorem sm_G_signum : Cond.static mn_G_signum ∈ zt_tbl := zt_in (i := 530) (by decide +kernel) rfl
theorem wk_G_signum : Cond.code mn_G_signum bc_G_signum 1 ((some .int)) ∈ zt_tbl := zt_in (i := 531) (by decide +kernel) rfl
theorem ml_L_122 : Cond.methodLink cn_L 122 mn_L_match ∈ zt_tbl := zt_in (i := 532) (by decide +kernel) rfl
theorem sm_L_match : Cond.static mn_L_match ∈ zt_tbl := zt_in (i := 533) (by decide +kernel) rfl
theorem ml_L_54 : Cond.methodLink cn_L 54 mn_T_match ∈ zt_tbl := zt_in (i := 535) (by decide +kernel) rfl
theorem im_T_match : Cond.instanceMethod mn_T_match ∈ zt_tbl := zt_in (i := 536) (by decide +kernel) rfl
theorem se_T_match : Cond.selects cn_T mn_T_match mn_T_match ∈ zt_tbl := zt_in (i := 537) (by decide +kernel) rfl
theorem wk_T_match : Cond.code mn_T_match bc_T_match 4 ((some .int)) ∈ zt_tbl := zt_in (i := 538) (by decide +kernel) rfl
theorem ml_T_158 : Cond.methodLink cn_T 158 mn_F_upperOfScore ∈ zt_tbl := zt_in (i := 539) (by decide +kernel) rfl
theorem im_F_upperOfScore : Cond.instanceMethod mn_F_upperOfScore ∈ zt_tbl := zt_in (i := 540) (by decide +kernel) rfl
theorem se_F_upperOfScore : Cond.selects cn_F mn_F_upperOfScore mn_F_upperOfScore ∈ zt_tbl := zt_in (i := 541) (by decide +kernel) rfl
theorem wk_F_upperOfScore : Cond.code mn_F_upperOfScore bc_F_upperOfScore 2 ((some .int)) ∈ zt_tbl := zt_in (i := 542) (by decide +kernel) rfl
theorem ml_F_56 : Cond.methodLink cn_F 56 mn_F_leastTerm ∈ zt_tbl := zt_in (i := 543) (by decide +kernel) rfl
theorem sm_F_leastTerm : Cond.static mn_F_leastTerm ∈ zt_tbl := zt_in (i := 544) (by decide +kernel) rfl
theorem wk_F_leastTerm : Cond.code mn_F_leastTerm bc_F_leastTerm 3 ((some .int)) ∈ zt_tbl := zt_in (i := 545) (by decide +kernel) rfl
theorem ml_T_162 : Cond.methodLink cn_T 162 mn_F_lowerOfScore ∈ zt_tbl := zt_in (i := 546) (by decide +kernel) rfl
theorem im_F_lowerOfScore : Cond.instanceMethod mn_F_lowerOfScore ∈ zt_tbl := zt_in (i := 547) (by decide +kernel) rfl
theorem se_F_lowerOfScore : Cond.selects cn_F mn_F_lowerOfScore mn_F_lowerOfScore ∈ zt_tbl := zt_in (i := 548) (by decide +kernel) rfl
theorem wk_F_lowerOfScore : Cond.code mn_F_lowerOfScore bc_F_lowerOfScore 2 ((some .int)) ∈ zt_tbl := zt_in (i := 549) (by decide +kernel) rfl
theorem ml_L_125 : Cond.methodLink cn_L 125 mn_L_repeats ∈ zt_tbl := zt_in (i := 550) (by decide +kernel) rfl
theorem sm_L_repeats : Cond.static mn_L_repeats ∈ zt_tbl := zt_in (i := 551) (by decide +kernel) rfl
theorem ml_L_57 : Cond.methodLink cn_L 57 mn_T_repeats ∈ zt_tbl := zt_in (i := 553) (by decide +kernel) rfl
theorem im_T_repeats : Cond.instanceMethod mn_T_repeats ∈ zt_tbl := zt_in (i := 554) (by decide +kernel) rfl
theorem se_T_repeats : Cond.selects cn_T mn_T_repeats mn_T_repeats ∈ zt_tbl := zt_in (i := 555) (by decide +kernel) rfl
theorem wk_T_repeats : Cond.code mn_T_repeats bc_T_repeats 4 ((some .int)) ∈ zt_tbl := zt_in (i := 556) (by decide +kernel) rfl
theorem ml_T_165 : Cond.methodLink cn_T 165 mn_T_refuseUnlessLeast ∈ zt_tbl := zt_in (i := 557) (by decide +kernel) rfl
theorem sm_T_refuseUnlessLeast : Cond.static mn_T_refuseUnlessLeast ∈ zt_tbl := zt_in (i := 558) (by decide +kernel) rfl
theorem wk_T_refuseUnlessLeast : Cond.code mn_T_refuseUnlessLeast bc_T_refuseUnlessLeast 1 none ∈ zt_tbl := zt_in (i := 559) (by decide +kernel) rfl
theorem ml_T_168 : Cond.methodLink cn_T 168 mn_W_walk ∈ zt_tbl := zt_in (i := 560) (by decide +kernel) rfl
theorem im_W_walk : Cond.instanceMethod mn_W_walk ∈ zt_tbl := zt_in (i := 561) (by decide +kernel) rfl
theorem se_W_walk : Cond.selects cn_W mn_W_walk mn_W_walk ∈ zt_tbl := zt_in (i := 562) (by decide +kernel) rfl
theorem wk_W_walk : Cond.code mn_W_walk bc_W_walk 8 ((some .int)) ∈ zt_tbl := zt_in (i := 563) (by decide +kernel) rfl
theorem ml_W_15 : Cond.methodLink cn_W 15 mn_N_steps ∈ zt_tbl := zt_in (i := 564) (by decide +kernel) rfl
theorem ml_W_21 : Cond.methodLink cn_W 21 mn_W_compare ∈ zt_tbl := zt_in (i := 565) (by decide +kernel) rfl
theorem im_W_compare : Cond.instanceMethod mn_W_compare ∈ zt_tbl := zt_in (i := 567) (by decide +kernel) rfl
theorem wk_W_compare : Cond.code mn_W_compare bc_W_compare 6 none ∈ zt_tbl := zt_in (i := 568) (by decide +kernel) rfl
theorem ml_W_39 : Cond.methodLink cn_W 39 ⟨"java/lang/Math", "max", "(II)I"⟩ ∈ zt_tbl := zt_in (i := 569) (by decide +kernel) rfl
theorem ml_W_45 : Cond.methodLink cn_W 45 mn_N_stepBehind ∈ zt_tbl := zt_in (i := 570) (by decide +kernel) rfl
theorem ml_W_25 : Cond.methodLink cn_W 25 mn_W_placesOfRepeat ∈ zt_tbl := zt_in (i := 571) (by decide +kernel) rfl
theorem im_W_placesOfRepeat : Cond.instanceMethod mn_W_placesOfRepeat ∈ zt_tbl := zt_in (i := 573) (by decide +kernel) rfl
theorem wk_W_placesOfRepeat : Cond.code mn_W_placesOfRepeat bc_W_placesOfRepeat 8 ((some .int)) ∈ zt_tbl := zt_in (i := 574) (by decide +kernel) rfl
theorem ml_L_128 : Cond.methodLink cn_L 128 mn_L_repeat ∈ zt_tbl := zt_in (i := 575) (by decide +kernel) rfl
theorem sm_L_repeat : Cond.static mn_L_repeat ∈ zt_tbl := zt_in (i := 576) (by decide +kernel) rfl
theorem ml_L_60 : Cond.methodLink cn_L 60 mn_T_repeat ∈ zt_tbl := zt_in (i := 578) (by decide +kernel) rfl
theorem im_T_repeat : Cond.instanceMethod mn_T_repeat ∈ zt_tbl := zt_in (i := 579) (by decide +kernel) rfl
theorem se_T_repeat : Cond.selects cn_T mn_T_repeat mn_T_repeat ∈ zt_tbl := zt_in (i := 580) (by decide +kernel) rfl
theorem wk_T_repeat : Cond.code mn_T_repeat bc_T_repeat 6 ((some .int)) ∈ zt_tbl := zt_in (i := 581) (by decide +kernel) rfl
theorem ml_L_131 : Cond.methodLink cn_L 131 mn_L_canon ∈ zt_tbl := zt_in (i := 582) (by decide +kernel) rfl
theorem sm_L_canon : Cond.static mn_L_canon ∈ zt_tbl := zt_in (i := 583) (by decide +kernel) rfl
theorem ml_L_63 : Cond.methodLink cn_L 63 mn_T_canon ∈ zt_tbl := zt_in (i := 585) (by decide +kernel) rfl
theorem im_T_canon : Cond.instanceMethod mn_T_canon ∈ zt_tbl := zt_in (i := 586) (by decide +kernel) rfl
theorem se_T_canon : Cond.selects cn_T mn_T_canon mn_T_canon ∈ zt_tbl := zt_in (i := 587) (by decide +kernel) rfl
theorem wk_T_canon : Cond.code mn_T_canon bc_T_canon 7 ((some .int)) ∈ zt_tbl := zt_in (i := 588) (by decide +kernel) rfl
theorem ml_T_185 : Cond.methodLink cn_T 185 mn_T_sameLengths ∈ zt_tbl := zt_in (i := 589) (by decide +kernel) rfl
theorem sm_T_sameLengths : Cond.static mn_T_sameLengths ∈ zt_tbl := zt_in (i := 590) (by decide +kernel) rfl
theorem wk_T_sameLengths : Cond.code mn_T_sameLengths bc_T_sameLengths 5 ((some .boolean)) ∈ zt_tbl := zt_in (i := 591) (by decide +kernel) rfl
theorem ml_L_134 : Cond.methodLink cn_L 134 mn_L_opening ∈ zt_tbl := zt_in (i := 592) (by decide +kernel) rfl
theorem sm_L_opening : Cond.static mn_L_opening ∈ zt_tbl := zt_in (i := 593) (by decide +kernel) rfl
theorem ml_L_66 : Cond.methodLink cn_L 66 mn_T_opening ∈ zt_tbl := zt_in (i := 595) (by decide +kernel) rfl
theorem im_T_opening : Cond.instanceMethod mn_T_opening ∈ zt_tbl := zt_in (i := 596) (by decide +kernel) rfl
theorem se_T_opening : Cond.selects cn_T mn_T_opening mn_T_opening ∈ zt_tbl := zt_in (i := 597) (by decide +kernel) rfl
theorem wk_T_opening : Cond.code mn_T_opening bc_T_opening 7 ((some .int)) ∈ zt_tbl := zt_in (i := 598) (by decide +kernel) rfl
theorem ml_T_188 : Cond.methodLink cn_T 188 mn_T_stepsSharedAtFirst ∈ zt_tbl := zt_in (i := 599) (by decide +kernel) rfl
theorem sm_T_stepsSharedAtFirst : Cond.static mn_T_stepsSharedAtFirst ∈ zt_tbl := zt_in (i := 600) (by decide +kernel) rfl
theorem wk_T_stepsSharedAtFirst : Cond.code mn_T_stepsSharedAtFirst bc_T_stepsSharedAtFirst 4 ((some .int)) ∈ zt_tbl := zt_in (i := 601) (by decide +kernel) rfl
theorem ml_T_253 : Cond.methodLink cn_T 253 ⟨"java/lang/Math", "min", "(II)I"⟩ ∈ zt_tbl := zt_in (i := 602) (by decide +kernel) rfl
theorem cl_L_70 : Cond.classLink cn_L 70 cn_M ∈ zt_tbl := zt_in (i := 603) (by decide +kernel) rfl
theorem ins_M : Cond.instantiable cn_M 21 ∈ zt_tbl := zt_in (i := 604) (by decide +kernel) rfl
theorem ml_L_72 : Cond.methodLink cn_L 72 mn_M_init ∈ zt_tbl := zt_in (i := 605) (by decide +kernel) rfl
theorem im_M_init : Cond.instanceMethod mn_M_init ∈ zt_tbl := zt_in (i := 606) (by decide +kernel) rfl
theorem wk_M_init : Cond.code mn_M_init bc_M_init 1 none ∈ zt_tbl := zt_in (i := 607) (by decide +kernel) rfl
theorem ml_M_1 : Cond.methodLink cn_M 1 ⟨"java/lang/Object", "<init>", "()V"⟩ ∈ zt_tbl := zt_in (i := 608) (by decide +kernel) rfl
theorem fl_M_62 : Cond.fieldLink cn_M 62 "TuneFinderModel" "code" "I" ∈ zt_tbl := zt_in (i := 609) (by decide +kernel) rfl
theorem fl_M_7 : Cond.fieldLink cn_M 7 "TuneFinderModel" "there" "[Z" ∈ zt_tbl := zt_in (i := 610) (by decide +kernel) rfl
theorem fl_M_13 : Cond.fieldLink cn_M 13 "TuneFinderModel" "shown" "[Z" ∈ zt_tbl := zt_in (i := 611) (by decide +kernel) rfl
theorem fl_M_16 : Cond.fieldLink cn_M 16 "TuneFinderModel" "sizes" "[I" ∈ zt_tbl := zt_in (i := 612) (by decide +kernel) rfl
theorem fl_M_20 : Cond.fieldLink cn_M 20 "TuneFinderModel" "readings" "[I" ∈ zt_tbl := zt_in (i := 613) (by decide +kernel) rfl
theorem fl_M_23 : Cond.fieldLink cn_M 23 "TuneFinderModel" "pitches" "[I" ∈ zt_tbl := zt_in (i := 614) (by decide +kernel) rfl
theorem fl_M_26 : Cond.fieldLink cn_M 26 "TuneFinderModel" "lengths" "[I" ∈ zt_tbl := zt_in (i := 615) (by decide +kernel) rfl
theorem fl_M_89 : Cond.fieldLink cn_M 89 "TuneFinderModel" "asked" "I" ∈ zt_tbl := zt_in (i := 616) (by decide +kernel) rfl
theorem fl_M_29 : Cond.fieldLink cn_M 29 "TuneFinderModel" "askedPitch" "[I" ∈ zt_tbl := zt_in (i := 617) (by decide +kernel) rfl
theorem fl_M_32 : Cond.fieldLink cn_M 32 "TuneFinderModel" "askedLength" "[I" ∈ zt_tbl := zt_in (i := 618) (by decide +kernel) rfl
theorem fl_M_112 : Cond.fieldLink cn_M 112 "TuneFinderModel" "found" "I" ∈ zt_tbl := zt_in (i := 619) (by decide +kernel) rfl
theorem fl_M_35 : Cond.fieldLink cn_M 35 "TuneFinderModel" "foundTune" "[I" ∈ zt_tbl := zt_in (i := 620) (by decide +kernel) rfl
theorem fl_M_38 : Cond.fieldLink cn_M 38 "TuneFinderModel" "foundPlace" "[I" ∈ zt_tbl := zt_in (i := 621) (by decide +kernel) rfl
theorem fl_M_41 : Cond.fieldLink cn_M 41 "TuneFinderModel" "foundSpan" "[I" ∈ zt_tbl := zt_in (i := 622) (by decide +kernel) rfl
theorem fl_M_44 : Cond.fieldLink cn_M 44 "TuneFinderModel" "foundPart" "[I" ∈ zt_tbl := zt_in (i := 623) (by decide +kernel) rfl
theorem fl_M_47 : Cond.fieldLink cn_M 47 "TuneFinderModel" "taken" "[Z" ∈ zt_tbl := zt_in (i := 624) (by decide +kernel) rfl
theorem fl_M_119 : Cond.fieldLink cn_M 119 "TuneFinderModel" "kept" "I" ∈ zt_tbl := zt_in (i := 625) (by decide +kernel) rfl
theorem fl_M_50 : Cond.fieldLink cn_M 50 "TuneFinderModel" "best" "[I" ∈ zt_tbl := zt_in (i := 626) (by decide +kernel) rfl
theorem fl_M_53 : Cond.fieldLink cn_M 53 "TuneFinderModel" "changes" "[I" ∈ zt_tbl := zt_in (i := 627) (by decide +kernel) rfl
theorem fl_M_56 : Cond.fieldLink cn_M 56 "TuneFinderModel" "stays" "[I" ∈ zt_tbl := zt_in (i := 628) (by decide +kernel) rfl
theorem fl_M_59 : Cond.fieldLink cn_M 59 "TuneFinderModel" "may" "[Z" ∈ zt_tbl := zt_in (i := 629) (by decide +kernel) rfl
theorem ac_boolean : Cond.arrayClass .boolean ∈ zt_tbl := zt_in (i := 673) (by decide +kernel) rfl
theorem ml_L_79 : Cond.methodLink cn_L 79 mn_M_thrown ∈ zt_tbl := zt_in (i := 674) (by decide +kernel) rfl
theorem im_M_thrown : Cond.instanceMethod mn_M_thrown ∈ zt_tbl := zt_in (i := 675) (by decide +kernel) rfl
theorem se_M_thrown : Cond.selects cn_M mn_M_thrown mn_M_thrown ∈ zt_tbl := zt_in (i := 676) (by decide +kernel) rfl
theorem wk_M_thrown : Cond.code mn_M_thrown bc_M_thrown 1 ((some .int)) ∈ zt_tbl := zt_in (i := 677) (by decide +kernel) rfl
theorem ml_L_78 : Cond.methodLink cn_L 78 mn_M_tune ∈ zt_tbl := zt_in (i := 678) (by decide +kernel) rfl
theorem im_M_tune : Cond.instanceMethod mn_M_tune ∈ zt_tbl := zt_in (i := 679) (by decide +kernel) rfl
theorem se_M_tune : Cond.selects cn_M mn_M_tune mn_M_tune ∈ zt_tbl := zt_in (i := 680) (by decide +kernel) rfl
theorem wk_M_tune : Cond.code mn_M_tune bc_M_tune 2 none ∈ zt_tbl := zt_in (i := 681) (by decide +kernel) rfl
theorem ml_L_85 : Cond.methodLink cn_L 85 mn_M_drop ∈ zt_tbl := zt_in (i := 682) (by decide +kernel) rfl
theorem im_M_drop : Cond.instanceMethod mn_M_drop ∈ zt_tbl := zt_in (i := 683) (by decide +kernel) rfl
theorem se_M_drop : Cond.selects cn_M mn_M_drop mn_M_drop ∈ zt_tbl := zt_in (i := 684) (by decide +kernel) rfl
theorem wk_M_drop : Cond.code mn_M_drop bc_M_drop 2 none ∈ zt_tbl := zt_in (i := 685) (by decide +kernel) rfl
theorem ml_M_74 : Cond.methodLink cn_M 74 mn_M_noTune ∈ zt_tbl := zt_in (i := 686) (by decide +kernel) rfl
theorem im_M_noTune : Cond.instanceMethod mn_M_noTune ∈ zt_tbl := zt_in (i := 688) (by decide +kernel) rfl
theorem wk_M_noTune : Cond.code mn_M_noTune bc_M_noTune 2 ((some .boolean)) ∈ zt_tbl := zt_in (i := 689) (by decide +kernel) rfl
theorem ml_L_89 : Cond.methodLink cn_L 89 mn_M_note ∈ zt_tbl := zt_in (i := 690) (by decide +kernel) rfl
theorem im_M_note : Cond.instanceMethod mn_M_note ∈ zt_tbl := zt_in (i := 691) (by decide +kernel) rfl
theorem se_M_note : Cond.selects cn_M mn_M_note mn_M_note ∈ zt_tbl := zt_in (i := 692) (by decide +kernel) rfl
theorem wk_M_note : Cond.code mn_M_note bc_M_note 4 ((some .int)) ∈ zt_tbl := zt_in (i := 693) (by decide +kernel) rfl
theorem ml_M_78 : Cond.methodLink cn_M 78 mn_M_noNote ∈ zt_tbl := zt_in (i := 694) (by decide +kernel) rfl
theorem sm_M_noNote : Cond.static mn_M_noNote ∈ zt_tbl := zt_in (i := 695) (by decide +kernel) rfl
theorem wk_M_noNote : Cond.code mn_M_noNote bc_M_noNote 2 ((some .boolean)) ∈ zt_tbl := zt_in (i := 696) (by decide +kernel) rfl
theorem ml_M_66 : Cond.methodLink cn_M 66 mn_M_spot ∈ zt_tbl := zt_in (i := 697) (by decide +kernel) rfl
theorem im_M_spot : Cond.instanceMethod mn_M_spot ∈ zt_tbl := zt_in (i := 699) (by decide +kernel) rfl
theorem wk_M_spot : Cond.code mn_M_spot bc_M_spot 4 ((some .int)) ∈ zt_tbl := zt_in (i := 700) (by decide +kernel) rfl
theorem ml_L_93 : Cond.methodLink cn_L 93 mn_M_show ∈ zt_tbl := zt_in (i := 701) (by decide +kernel) rfl
theorem im_M_show : Cond.instanceMethod mn_M_show ∈ zt_tbl := zt_in (i := 702) (by decide +kernel) rfl
theorem se_M_show : Cond.selects cn_M mn_M_show mn_M_show ∈ zt_tbl := zt_in (i := 703) (by decide +kernel) rfl
theorem wk_M_show : Cond.code mn_M_show bc_M_show 3 none ∈ zt_tbl := zt_in (i := 704) (by decide +kernel) rfl
theorem ml_L_97 : Cond.methodLink cn_L 97 mn_M_correct ∈ zt_tbl := zt_in (i := 705) (by decide +kernel) rfl
theorem im_M_correct : Cond.instanceMethod mn_M_correct ∈ zt_tbl := zt_in (i := 706) (by decide +kernel) rfl
theorem se_M_correct : Cond.selects cn_M mn_M_correct mn_M_correct ∈ zt_tbl := zt_in (i := 707) (by decide +kernel) rfl
theorem wk_M_correct : Cond.code mn_M_correct bc_M_correct 7 ((some .int)) ∈ zt_tbl := zt_in (i := 708) (by decide +kernel) rfl
theorem ml_L_101 : Cond.methodLink cn_L 101 mn_M_restore ∈ zt_tbl := zt_in (i := 709) (by decide +kernel) rfl
theorem im_M_restore : Cond.instanceMethod mn_M_restore ∈ zt_tbl := zt_in (i := 710) (by decide +kernel) rfl
theorem se_M_restore : Cond.selects cn_M mn_M_restore mn_M_restore ∈ zt_tbl := zt_in (i := 711) (by decide +kernel) rfl
theorem wk_M_restore : Cond.code mn_M_restore bc_M_restore 3 none ∈ zt_tbl := zt_in (i := 712) (by decide +kernel) rfl
theorem ml_L_104 : Cond.methodLink cn_L 104 mn_M_at ∈ zt_tbl := zt_in (i := 713) (by decide +kernel) rfl
theorem im_M_at : Cond.instanceMethod mn_M_at ∈ zt_tbl := zt_in (i := 714) (by decide +kernel) rfl
theorem se_M_at : Cond.selects cn_M mn_M_at mn_M_at ∈ zt_tbl := zt_in (i := 715) (by decide +kernel) rfl
theorem wk_M_at : Cond.code mn_M_at bc_M_at 7 ((some .int)) ∈ zt_tbl := zt_in (i := 716) (by decide +kernel) rfl
theorem ml_L_108 : Cond.methodLink cn_L 108 mn_M_about ∈ zt_tbl := zt_in (i := 717) (by decide +kernel) rfl
theorem im_M_about : Cond.instanceMethod mn_M_about ∈ zt_tbl := zt_in (i := 718) (by decide +kernel) rfl
theorem se_M_about : Cond.selects cn_M mn_M_about mn_M_about ∈ zt_tbl := zt_in (i := 719) (by decide +kernel) rfl
theorem wk_M_about : Cond.code mn_M_about bc_M_about 3 ((some .int)) ∈ zt_tbl := zt_in (i := 720) (by decide +kernel) rfl
theorem ml_L_111 : Cond.methodLink cn_L 111 mn_M_contour ∈ zt_tbl := zt_in (i := 721) (by decide +kernel) rfl
theorem im_M_contour : Cond.instanceMethod mn_M_contour ∈ zt_tbl := zt_in (i := 722) (by decide +kernel) rfl
theorem se_M_contour : Cond.selects cn_M mn_M_contour mn_M_contour ∈ zt_tbl := zt_in (i := 723) (by decide +kernel) rfl
theorem wk_M_contour : Cond.code mn_M_contour bc_M_contour 4 ((some .int)) ∈ zt_tbl := zt_in (i := 724) (by decide +kernel) rfl
theorem ml_M_82 : Cond.methodLink cn_M 82 mn_M_step ∈ zt_tbl := zt_in (i := 725) (by decide +kernel) rfl
theorem im_M_step : Cond.instanceMethod mn_M_step ∈ zt_tbl := zt_in (i := 727) (by decide +kernel) rfl
theorem wk_M_step : Cond.code mn_M_step bc_M_step 3 ((some .int)) ∈ zt_tbl := zt_in (i := 728) (by decide +kernel) rfl
theorem ml_M_70 : Cond.methodLink cn_M 70 mn_M_pitch ∈ zt_tbl := zt_in (i := 729) (by decide +kernel) rfl
theorem im_M_pitch : Cond.instanceMethod mn_M_pitch ∈ zt_tbl := zt_in (i := 731) (by decide +kernel) rfl
theorem wk_M_pitch : Cond.code mn_M_pitch bc_M_pitch 3 ((some .int)) ∈ zt_tbl := zt_in (i := 732) (by decide +kernel) rfl
theorem ml_M_85 : Cond.methodLink cn_M 85 mn_M_sign ∈ zt_tbl := zt_in (i := 733) (by decide +kernel) rfl
theorem sm_M_sign : Cond.static mn_M_sign ∈ zt_tbl := zt_in (i := 734) (by decide +kernel) rfl
theorem wk_M_sign : Cond.code mn_M_sign bc_M_sign 1 ((some .int)) ∈ zt_tbl := zt_in (i := 735) (by decide +kernel) rfl
theorem ml_L_114 : Cond.methodLink cn_L 114 mn_M_ask ∈ zt_tbl := zt_in (i := 736) (by decide +kernel) rfl
theorem im_M_ask : Cond.instanceMethod mn_M_ask ∈ zt_tbl := zt_in (i := 737) (by decide +kernel) rfl
theorem se_M_ask : Cond.selects cn_M mn_M_ask mn_M_ask ∈ zt_tbl := zt_in (i := 738) (by decide +kernel) rfl
theorem wk_M_ask : Cond.code mn_M_ask bc_M_ask 3 ((some .int)) ∈ zt_tbl := zt_in (i := 739) (by decide +kernel) rfl
theorem ml_L_118 : Cond.methodLink cn_L 118 mn_M_forget ∈ zt_tbl := zt_in (i := 740) (by decide +kernel) rfl
theorem im_M_forget : Cond.instanceMethod mn_M_forget ∈ zt_tbl := zt_in (i := 741) (by decide +kernel) rfl
theorem se_M_forget : Cond.selects cn_M mn_M_forget mn_M_forget ∈ zt_tbl := zt_in (i := 742) (by decide +kernel) rfl
theorem wk_M_forget : Cond.code mn_M_forget bc_M_forget 1 none ∈ zt_tbl := zt_in (i := 743) (by decide +kernel) rfl
theorem ml_L_121 : Cond.methodLink cn_L 121 mn_M_search ∈ zt_tbl := zt_in (i := 744) (by decide +kernel) rfl
theorem im_M_search : Cond.instanceMethod mn_M_search ∈ zt_tbl := zt_in (i := 745) (by decide +kernel) rfl
theorem se_M_search : Cond.selects cn_M mn_M_search mn_M_search ∈ zt_tbl := zt_in (i := 746) (by decide +kernel) rfl
theorem wk_M_search : Cond.code mn_M_search bc_M_search 7 ((some .int)) ∈ zt_tbl := zt_in (i := 747) (by decide +kernel) rfl
theorem ml_M_115 : Cond.methodLink cn_M 115 mn_M_part ∈ zt_tbl := zt_in (i := 748) (by decide +kernel) rfl
theorem im_M_part : Cond.instanceMethod mn_M_part ∈ zt_tbl := zt_in (i := 750) (by decide +kernel) rfl
theorem wk_M_part : Cond.code mn_M_part bc_M_part 7 ((some .int)) ∈ zt_tbl := zt_in (i := 751) (by decide +kernel) rfl
theorem ml_M_101 : Cond.methodLink cn_M 101 mn_M_plain ∈ zt_tbl := zt_in (i := 752) (by decide +kernel) rfl
theorem im_M_plain : Cond.instanceMethod mn_M_plain ∈ zt_tbl := zt_in (i := 754) (by decide +kernel) rfl
theorem wk_M_plain : Cond.code mn_M_plain bc_M_plain 10 ((some .boolean)) ∈ zt_tbl := zt_in (i := 755) (by decide +kernel) rfl
theorem ml_M_92 : Cond.methodLink cn_M 92 mn_M_askedStep ∈ zt_tbl := zt_in (i := 756) (by decide +kernel) rfl
theorem im_M_askedStep : Cond.instanceMethod mn_M_askedStep ∈ zt_tbl := zt_in (i := 758) (by decide +kernel) rfl
theorem wk_M_askedStep : Cond.code mn_M_askedStep bc_M_askedStep 2 ((some .int)) ∈ zt_tbl := zt_in (i := 759) (by decide +kernel) rfl
theorem ml_M_95 : Cond.methodLink cn_M 95 mn_M_lengthOf ∈ zt_tbl := zt_in (i := 760) (by decide +kernel) rfl
theorem im_M_lengthOf : Cond.instanceMethod mn_M_lengthOf ∈ zt_tbl := zt_in (i := 762) (by decide +kernel) rfl
theorem wk_M_lengthOf : Cond.code mn_M_lengthOf bc_M_lengthOf 3 ((some .int)) ∈ zt_tbl := zt_in (i := 763) (by decide +kernel) rfl
theorem ml_M_105 : Cond.methodLink cn_M 105 mn_M_outlines ∈ zt_tbl := zt_in (i := 764) (by decide +kernel) rfl
theorem im_M_outlines : Cond.instanceMethod mn_M_outlines ∈ zt_tbl := zt_in (i := 766) (by decide +kernel) rfl
theorem wk_M_outlines : Cond.code mn_M_outlines bc_M_outlines 10 ((some .boolean)) ∈ zt_tbl := zt_in (i := 767) (by decide +kernel) rfl
theorem ml_M_109 : Cond.methodLink cn_M 109 mn_M_near ∈ zt_tbl := zt_in (i := 768) (by decide +kernel) rfl
theorem im_M_near : Cond.instanceMethod mn_M_near ∈ zt_tbl := zt_in (i := 770) (by decide +kernel) rfl
theorem wk_M_near : Cond.code mn_M_near bc_M_near 5 ((some .boolean)) ∈ zt_tbl := zt_in (i := 771) (by decide +kernel) rfl
theorem ml_M_98 : Cond.methodLink cn_M 98 mn_M_distance ∈ zt_tbl := zt_in (i := 772) (by decide +kernel) rfl
theorem im_M_distance : Cond.instanceMethod mn_M_distance ∈ zt_tbl := zt_in (i := 774) (by decide +kernel) rfl
theorem wk_M_distance : Cond.code mn_M_distance bc_M_distance 12 ((some .int)) ∈ zt_tbl := zt_in (i := 775) (by decide +kernel) rfl
theorem ml_M_122 : Cond.methodLink cn_M 122 mn_M_leads ∈ zt_tbl := zt_in (i := 776) (by decide +kernel) rfl
theorem im_M_leads : Cond.instanceMethod mn_M_leads ∈ zt_tbl := zt_in (i := 778) (by decide +kernel) rfl
theorem wk_M_leads : Cond.code mn_M_leads bc_M_leads 5 ((some .boolean)) ∈ zt_tbl := zt_in (i := 779) (by decide +kernel) rfl
theorem ml_M_125 : Cond.methodLink cn_M 125 mn_M_divisor ∈ zt_tbl := zt_in (i := 780) (by decide +kernel) rfl
theorem sm_M_divisor : Cond.static mn_M_divisor ∈ zt_tbl := zt_in (i := 781) (by decide +kernel) rfl
theorem wk_M_divisor : Cond.code mn_M_divisor bc_M_divisor 3 ((some .int)) ∈ zt_tbl := zt_in (i := 782) (by decide +kernel) rfl
theorem ml_L_124 : Cond.methodLink cn_L 124 mn_M_match ∈ zt_tbl := zt_in (i := 783) (by decide +kernel) rfl
theorem im_M_match : Cond.instanceMethod mn_M_match ∈ zt_tbl := zt_in (i := 784) (by decide +kernel) rfl
theorem se_M_match : Cond.selects cn_M mn_M_match mn_M_match ∈ zt_tbl := zt_in (i := 785) (by decide +kernel) rfl
theorem wk_M_match : Cond.code mn_M_match bc_M_match 3 ((some .int)) ∈ zt_tbl := zt_in (i := 786) (by decide +kernel) rfl
theorem ml_L_127 : Cond.methodLink cn_L 127 mn_M_repeats ∈ zt_tbl := zt_in (i := 787) (by decide +kernel) rfl
theorem im_M_repeats : Cond.instanceMethod mn_M_repeats ∈ zt_tbl := zt_in (i := 788) (by decide +kernel) rfl
theorem se_M_repeats : Cond.selects cn_M mn_M_repeats mn_M_repeats ∈ zt_tbl := zt_in (i := 789) (by decide +kernel) rfl
theorem wk_M_repeats : Cond.code mn_M_repeats bc_M_repeats 6 ((some .int)) ∈ zt_tbl := zt_in (i := 790) (by decide +kernel) rfl
theorem ml_M_134 : Cond.methodLink cn_M 134 mn_M_places ∈ zt_tbl := zt_in (i := 791) (by decide +kernel) rfl
theorem im_M_places : Cond.instanceMethod mn_M_places ∈ zt_tbl := zt_in (i := 793) (by decide +kernel) rfl
theorem wk_M_places : Cond.code mn_M_places bc_M_places 8 ((some .int)) ∈ zt_tbl := zt_in (i := 794) (by decide +kernel) rfl
theorem ml_M_128 : Cond.methodLink cn_M 128 mn_M_sameSteps ∈ zt_tbl := zt_in (i := 795) (by decide +kernel) rfl
theorem im_M_sameSteps : Cond.instanceMethod mn_M_sameSteps ∈ zt_tbl := zt_in (i := 797) (by decide +kernel) rfl
theorem wk_M_sameSteps : Cond.code mn_M_sameSteps bc_M_sameSteps 7 ((some .boolean)) ∈ zt_tbl := zt_in (i := 798) (by decide +kernel) rfl
theorem ml_M_131 : Cond.methodLink cn_M 131 mn_M_hasStep ∈ zt_tbl := zt_in (i := 799) (by decide +kernel) rfl
theorem im_M_hasStep : Cond.instanceMethod mn_M_hasStep ∈ zt_tbl := zt_in (i := 801) (by decide +kernel) rfl
theorem wk_M_hasStep : Cond.code mn_M_hasStep bc_M_hasStep 3 ((some .boolean)) ∈ zt_tbl := zt_in (i := 802) (by decide +kernel) rfl
theorem ml_L_130 : Cond.methodLink cn_L 130 mn_M_repeat ∈ zt_tbl := zt_in (i := 803) (by decide +kernel) rfl
theorem im_M_repeat : Cond.instanceMethod mn_M_repeat ∈ zt_tbl := zt_in (i := 804) (by decide +kernel) rfl
theorem se_M_repeat : Cond.selects cn_M mn_M_repeat mn_M_repeat ∈ zt_tbl := zt_in (i := 805) (by decide +kernel) rfl
theorem wk_M_repeat : Cond.code mn_M_repeat bc_M_repeat 9 ((some .int)) ∈ zt_tbl := zt_in (i := 806) (by decide +kernel) rfl
theorem ml_L_133 : Cond.methodLink cn_L 133 mn_M_canon ∈ zt_tbl := zt_in (i := 807) (by decide +kernel) rfl
theorem im_M_canon : Cond.instanceMethod mn_M_canon ∈ zt_tbl := zt_in (i := 808) (by decide +kernel) rfl
theorem se_M_canon : Cond.selects cn_M mn_M_canon mn_M_canon ∈ zt_tbl := zt_in (i := 809) (by decide +kernel) rfl
theorem wk_M_canon : Cond.code mn_M_canon bc_M_canon 7 ((some .int)) ∈ zt_tbl := zt_in (i := 810) (by decide +kernel) rfl
theorem ml_L_136 : Cond.methodLink cn_L 136 mn_M_opening ∈ zt_tbl := zt_in (i := 811) (by decide +kernel) rfl
theorem im_M_opening : Cond.instanceMethod mn_M_opening ∈ zt_tbl := zt_in (i := 812) (by decide +kernel) rfl
theorem se_M_opening : Cond.selects cn_M mn_M_opening mn_M_opening ∈ zt_tbl := zt_in (i := 813) (by decide +kernel) rfl
theorem wk_M_opening : Cond.code mn_M_opening bc_M_opening 9 ((some .int)) ∈ zt_tbl := zt_in (i := 814) (by decide +kernel) rfl
theorem ml_M_137 : Cond.methodLink cn_M 137 mn_M_sharing ∈ zt_tbl := zt_in (i := 815) (by decide +kernel) rfl
theorem im_M_sharing : Cond.instanceMethod mn_M_sharing ∈ zt_tbl := zt_in (i := 817) (by decide +kernel) rfl
theorem wk_M_sharing : Cond.code mn_M_sharing bc_M_sharing 4 ((some .int)) ∈ zt_tbl := zt_in (i := 818) (by decide +kernel) rfl
theorem ac_long : Cond.arrayClass .long ∈ zt_tbl := zt_in (i := 819) (by decide +kernel) rfl
theorem se_T_existing : Cond.selects cn_T mn_T_existing mn_T_existing ∈ zt_tbl := zt_sel (i := 1) (q := (mn_T_existing, 6)) (by decide +kernel)
theorem se_U_replacedAfter : Cond.selects cn_U mn_U_replacedAfter mn_U_replacedAfter ∈ zt_tbl := zt_sel (i := 2) (q := (mn_U_replacedAfter, 6)) (by decide +kernel)
theorem se_T_searchTune : Cond.selects cn_T mn_T_searchTune mn_T_searchTune ∈ zt_tbl := zt_sel (i := 3) (q := (mn_T_searchTune, 6)) (by decide +kernel)
theorem se_T_searchOutline : Cond.selects cn_T mn_T_searchOutline mn_T_searchOutline ∈ zt_tbl := zt_sel (i := 4) (q := (mn_T_searchOutline, 6)) (by decide +kernel)
theorem se_T_outlineEnds : Cond.selects cn_T mn_T_outlineEnds mn_T_outlineEnds ∈ zt_tbl := zt_sel (i := 5) (q := (mn_T_outlineEnds, 6)) (by decide +kernel)
theorem se_T_offer : Cond.selects cn_T mn_T_offer mn_T_offer ∈ zt_tbl := zt_sel (i := 6) (q := (mn_T_offer, 6)) (by decide +kernel)
theorem se_F_rankOf : Cond.selects cn_F mn_F_rankOf mn_F_rankOf ∈ zt_tbl := zt_sel (i := 7) (q := (mn_F_rankOf, 4)) (by decide +kernel)
theorem se_F_makeRoom : Cond.selects cn_F mn_F_makeRoom mn_F_makeRoom ∈ zt_tbl := zt_sel (i := 8) (q := (mn_F_makeRoom, 4)) (by decide +kernel)
theorem se_T_searchNear : Cond.selects cn_T mn_T_searchNear mn_T_searchNear ∈ zt_tbl := zt_sel (i := 9) (q := (mn_T_searchNear, 6)) (by decide +kernel)
theorem se_R_measure : Cond.selects cn_R mn_R_measure mn_R_measure ∈ zt_tbl := zt_sel (i := 10) (q := (mn_R_measure, 5)) (by decide +kernel)
theorem se_R_takeIn : Cond.selects cn_R mn_R_takeIn mn_R_takeIn ∈ zt_tbl := zt_sel (i := 11) (q := (mn_R_takeIn, 5)) (by decide +kernel)
theorem se_T_searchNoteByNote : Cond.selects cn_T mn_T_searchNoteByNote mn_T_searchNoteByNote ∈ zt_tbl := zt_sel (i := 12) (q := (mn_T_searchNoteByNote, 6)) (by decide +kernel)
theorem se_T_fits : Cond.selects cn_T mn_T_fits mn_T_fits ∈ zt_tbl := zt_sel (i := 13) (q := (mn_T_fits, 6)) (by decide +kernel)
theorem se_W_compare : Cond.selects cn_W mn_W_compare mn_W_compare ∈ zt_tbl := zt_sel (i := 14) (q := (mn_W_compare, 4)) (by decide +kernel)
theorem se_W_placesOfRepeat : Cond.selects cn_W mn_W_placesOfRepeat mn_W_placesOfRepeat ∈ zt_tbl := zt_sel (i := 15) (q := (mn_W_placesOfRepeat, 4)) (by decide +kernel)
theorem se_M_noTune : Cond.selects cn_M mn_M_noTune mn_M_noTune ∈ zt_tbl := zt_sel (i := 16) (q := (mn_M_noTune, 21)) (by decide +kernel)
theorem se_M_spot : Cond.selects cn_M mn_M_spot mn_M_spot ∈ zt_tbl := zt_sel (i := 17) (q := (mn_M_spot, 21)) (by decide +kernel)
theorem se_M_step : Cond.selects cn_M mn_M_step mn_M_step ∈ zt_tbl := zt_sel (i := 18) (q := (mn_M_step, 21)) (by decide +kernel)
theorem se_M_pitch : Cond.selects cn_M mn_M_pitch mn_M_pitch ∈ zt_tbl := zt_sel (i := 19) (q := (mn_M_pitch, 21)) (by decide +kernel)
theorem se_M_part : Cond.selects cn_M mn_M_part mn_M_part ∈ zt_tbl := zt_sel (i := 20) (q := (mn_M_part, 21)) (by decide +kernel)
theorem se_M_plain : Cond.selects cn_M mn_M_plain mn_M_plain ∈ zt_tbl := zt_sel (i := 21) (q := (mn_M_plain, 21)) (by decide +kernel)
theorem se_M_askedStep : Cond.selects cn_M mn_M_askedStep mn_M_askedStep ∈ zt_tbl := zt_sel (i := 22) (q := (mn_M_askedStep, 21)) (by decide +kernel)
theorem se_M_lengthOf : Cond.selects cn_M mn_M_lengthOf mn_M_lengthOf ∈ zt_tbl := zt_sel (i := 23) (q := (mn_M_lengthOf, 21)) (by decide +kernel)
theorem se_M_outlines : Cond.selects cn_M mn_M_outlines mn_M_outlines ∈ zt_tbl := zt_sel (i := 24) (q := (mn_M_outlines, 21)) (by decide +kernel)
theorem se_M_near : Cond.selects cn_M mn_M_near mn_M_near ∈ zt_tbl := zt_sel (i := 25) (q := (mn_M_near, 21)) (by decide +kernel)
theorem se_M_distance : Cond.selects cn_M mn_M_distance mn_M_distance ∈ zt_tbl := zt_sel (i := 26) (q := (mn_M_distance, 21)) (by decide +kernel)
theorem se_M_leads : Cond.selects cn_M mn_M_leads mn_M_leads ∈ zt_tbl := zt_sel (i := 27) (q := (mn_M_leads, 21)) (by decide +kernel)
theorem se_M_places : Cond.selects cn_M mn_M_places mn_M_places ∈ zt_tbl := zt_sel (i := 28) (q := (mn_M_places, 21)) (by decide +kernel)
theorem se_M_sameSteps : Cond.selects cn_M mn_M_sameSteps mn_M_sameSteps ∈ zt_tbl := zt_sel (i := 29) (q := (mn_M_sameSteps, 21)) (by decide +kernel)
theorem se_M_hasStep : Cond.selects cn_M mn_M_hasStep mn_M_hasStep ∈ zt_tbl := zt_sel (i := 30) (q := (mn_M_hasStep, 21)) (by decide +kernel)
theorem se_M_sharing : Cond.selects cn_M mn_M_sharing mn_M_sharing ∈ zt_tbl := zt_sel (i := 31) (q := (mn_M_sharing, 21)) (by decide +kernel)
