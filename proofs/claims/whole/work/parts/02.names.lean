abbrev b_SG_init : ByteArray := prog_1_method_1_code
def y_SG_init : MethodName := ⟨"SiftedGraphs", "<init>", "()V"⟩
abbrev w_SG_init : Cond := .code y_SG_init b_SG_init 2 none
abbrev b_RG_init : ByteArray := prog_4_method_1_code
def y_RG_init : MethodName := ⟨"SiftedGraphs$Registers", "<init>", "()V"⟩
abbrev w_RG_init : Cond := .code y_RG_init b_RG_init 1 none
abbrev b_FR_init : ByteArray := prog_2_method_1_code
def y_FR_init : MethodName := ⟨"SiftedGraphs$FormulaReader", "<init>", "()V"⟩
abbrev w_FR_init : Cond := .code y_FR_init b_FR_init 1 none
abbrev b_NC_init : ByteArray := prog_3_method_1_code
def y_NC_init : MethodName := ⟨"SiftedGraphs$NodeCounter", "<init>", "()V"⟩
abbrev w_NC_init : Cond := .code y_NC_init b_NC_init 1 none
abbrev b_SG_shared : ByteArray := prog_1_method_17_code
def y_SG_shared : MethodName := ⟨"SiftedGraphs", "shared", "()I"⟩
abbrev w_SG_shared : Cond := .code y_SG_shared b_SG_shared 1 (some .int)
abbrev b_SG_nodesOfAll : ByteArray := prog_1_method_24_code
def y_SG_nodesOfAll : MethodName := ⟨"SiftedGraphs", "nodesOfAll", "()I"⟩
abbrev w_SG_nodesOfAll : Cond := .code y_SG_nodesOfAll b_SG_nodesOfAll 2 (some .int)
abbrev b_NC_begin : ByteArray := prog_3_method_2_code
def y_NC_begin : MethodName := ⟨"SiftedGraphs$NodeCounter", "begin", "()V"⟩
abbrev w_NC_begin : Cond := .code y_NC_begin b_NC_begin 1 none
abbrev b_RG_isHeld : ByteArray := prog_4_method_2_code
def y_RG_isHeld : MethodName := ⟨"SiftedGraphs$Registers", "isHeld", "(I)Z"⟩
abbrev w_RG_isHeld : Cond := .code y_RG_isHeld b_RG_isHeld 2 (some .boolean)
abbrev b_RG_table : ByteArray := prog_4_method_3_code
def y_RG_table : MethodName := ⟨"SiftedGraphs$Registers", "table", "(I)J"⟩
abbrev w_RG_table : Cond := .code y_RG_table b_RG_table 2 (some .long)
abbrev b_NC_add : ByteArray := prog_3_method_3_code
def y_NC_add : MethodName := ⟨"SiftedGraphs$NodeCounter", "add", "(J)V"⟩
abbrev w_NC_add : Cond := .code y_NC_add b_NC_add 4 none
abbrev b_NC_total : ByteArray := prog_3_method_4_code
def y_NC_total : MethodName := ⟨"SiftedGraphs$NodeCounter", "total", "([I)I"⟩
abbrev w_NC_total : Cond := .code y_NC_total b_NC_total 4 (some .int)
abbrev b_NC_goDown : ByteArray := prog_3_method_6_code
def y_NC_goDown : MethodName := ⟨"SiftedGraphs$NodeCounter", "goDown", "()V"⟩
abbrev w_NC_goDown : Cond := .code y_NC_goDown b_NC_goDown 2 none
abbrev b_NC_branch : ByteArray := prog_3_method_7_code
def y_NC_branch : MethodName := ⟨"SiftedGraphs$NodeCounter", "branch", "(I)I"⟩
abbrev w_NC_branch : Cond := .code y_NC_branch b_NC_branch 8 (some .int)
abbrev b_TB_withZero : ByteArray := prog_5_method_7_code
def y_TB_withZero : MethodName := ⟨"SiftedGraphs$Tables", "withZero", "(JI)J"⟩
abbrev w_TB_withZero : Cond := .code y_TB_withZero b_TB_withZero 5 (some .long)
abbrev b_TB_weight : ByteArray := prog_5_method_9_code
def y_TB_weight : MethodName := ⟨"SiftedGraphs$Tables", "weight", "(I)I"⟩
abbrev w_TB_weight : Cond := .code y_TB_weight b_TB_weight 1 (some .int)
abbrev b_TB_withOne : ByteArray := prog_5_method_6_code
def y_TB_withOne : MethodName := ⟨"SiftedGraphs$Tables", "withOne", "(JI)J"⟩
abbrev w_TB_withOne : Cond := .code y_TB_withOne b_TB_withOne 5 (some .long)
abbrev b_LW_set : ByteArray := method_3_code
def y_LW_set : MethodName := ⟨"SiftedGraphsLaw", "set", "(LSiftedGraphs;II)I"⟩
abbrev w_LW_set : Cond := .codeWith y_LW_set b_LW_set 4 (some .int) [(0, 6, 9, 13)]
abbrev b_SG_set : ByteArray := prog_1_method_2_code
def y_SG_set : MethodName := ⟨"SiftedGraphs", "set", "(II)V"⟩
abbrev w_SG_set : Cond := .code y_SG_set b_SG_set 5 none
abbrev b_SG_checkBelow : ByteArray := prog_1_method_22_code
def y_SG_checkBelow : MethodName := ⟨"SiftedGraphs", "checkBelow", "(II)V"⟩
abbrev w_SG_checkBelow : Cond := .code y_SG_checkBelow b_SG_checkBelow 2 none
abbrev b_TB_ofVariable : ByteArray := prog_5_method_2_code
def y_TB_ofVariable : MethodName := ⟨"SiftedGraphs$Tables", "ofVariable", "(I)J"⟩
abbrev w_TB_ofVariable : Cond := .code y_TB_ofVariable b_TB_ofVariable 1 (some .long)
abbrev b_RG_put : ByteArray := prog_4_method_4_code
def y_RG_put : MethodName := ⟨"SiftedGraphs$Registers", "put", "(IJ)V"⟩
abbrev w_RG_put : Cond := .code y_RG_put b_RG_put 4 none
abbrev b_LW_apply : ByteArray := method_4_code
def y_LW_apply : MethodName := ⟨"SiftedGraphsLaw", "apply", "(LSiftedGraphs;IIII)I"⟩
abbrev w_LW_apply : Cond := .codeWith y_LW_apply b_LW_apply 6 (some .int) [(0, 9, 12, 13), (0, 9, 16, 19)]
abbrev b_SG_apply : ByteArray := prog_1_method_3_code
def y_SG_apply : MethodName := ⟨"SiftedGraphs", "apply", "(IIII)V"⟩
abbrev w_SG_apply : Cond := .code y_SG_apply b_SG_apply 5 none
abbrev b_SG_look : ByteArray := prog_1_method_23_code
def y_SG_look : MethodName := ⟨"SiftedGraphs", "look", "(I)J"⟩
abbrev w_SG_look : Cond := .code y_SG_look b_SG_look 2 (some .long)
abbrev b_TB_connected : ByteArray := prog_5_method_4_code
def y_TB_connected : MethodName := ⟨"SiftedGraphs$Tables", "connected", "(JJI)J"⟩
abbrev w_TB_connected : Cond := .code y_TB_connected b_TB_connected 7 (some .long)
abbrev b_LW_choose : ByteArray := method_5_code
def y_LW_choose : MethodName := ⟨"SiftedGraphsLaw", "choose", "(LSiftedGraphs;IIII)I"⟩
abbrev w_LW_choose : Cond := .codeWith y_LW_choose b_LW_choose 6 (some .int) [(0, 9, 12, 13), (0, 9, 16, 19)]
abbrev b_SG_choose : ByteArray := prog_1_method_4_code
def y_SG_choose : MethodName := ⟨"SiftedGraphs", "choose", "(IIII)V"⟩
abbrev w_SG_choose : Cond := .code y_SG_choose b_SG_choose 5 none
abbrev b_TB_chosen : ByteArray := prog_5_method_5_code
def y_TB_chosen : MethodName := ⟨"SiftedGraphs$Tables", "chosen", "(JJJ)J"⟩
abbrev w_TB_chosen : Cond := .code y_TB_chosen b_TB_chosen 6 (some .long)
abbrev b_LW_restrict : ByteArray := method_6_code
def y_LW_restrict : MethodName := ⟨"SiftedGraphsLaw", "restrict", "(LSiftedGraphs;IIIZ)I"⟩
abbrev w_LW_restrict : Cond := .codeWith y_LW_restrict b_LW_restrict 6 (some .int) [(0, 9, 12, 13), (0, 9, 16, 19)]
abbrev b_SG_restrict : ByteArray := prog_1_method_5_code
def y_SG_restrict : MethodName := ⟨"SiftedGraphs", "restrict", "(IIIZ)V"⟩
abbrev w_SG_restrict : Cond := .code y_SG_restrict b_SG_restrict 7 none
abbrev b_LW_compose : ByteArray := method_7_code
def y_LW_compose : MethodName := ⟨"SiftedGraphsLaw", "compose", "(LSiftedGraphs;IIII)I"⟩
abbrev w_LW_compose : Cond := .codeWith y_LW_compose b_LW_compose 6 (some .int) [(0, 9, 12, 13), (0, 9, 16, 19)]
abbrev b_SG_compose : ByteArray := prog_1_method_6_code
def y_SG_compose : MethodName := ⟨"SiftedGraphs", "compose", "(IIII)V"⟩
abbrev w_SG_compose : Cond := .code y_SG_compose b_SG_compose 9 none
abbrev b_LW_quantify : ByteArray := method_8_code
def y_LW_quantify : MethodName := ⟨"SiftedGraphsLaw", "quantify", "(LSiftedGraphs;IIIZ)I"⟩
abbrev w_LW_quantify : Cond := .codeWith y_LW_quantify b_LW_quantify 6 (some .int) [(0, 9, 12, 13), (0, 9, 16, 19)]
abbrev b_SG_quantify : ByteArray := prog_1_method_7_code
def y_SG_quantify : MethodName := ⟨"SiftedGraphs", "quantify", "(IIIZ)V"⟩
abbrev w_SG_quantify : Cond := .code y_SG_quantify b_SG_quantify 12 none
abbrev b_LW_type : ByteArray := method_9_code
def y_LW_type : MethodName := ⟨"SiftedGraphsLaw", "type", "(LSiftedGraphs;JI[J)I"⟩
abbrev w_LW_type : Cond := .codeWith y_LW_type b_LW_type 6 (some .int) [(0, 11, 14, 13)]
abbrev b_SG_type : ByteArray := prog_1_method_8_code
def y_SG_type : MethodName := ⟨"SiftedGraphs", "type", "(JI)I"⟩
abbrev w_SG_type : Cond := .code y_SG_type b_SG_type 5 (some .int)
abbrev b_LW_read : ByteArray := method_10_code
def y_LW_read : MethodName := ⟨"SiftedGraphsLaw", "read", "(LSiftedGraphs;I[J)I"⟩
abbrev w_LW_read : Cond := .codeWith y_LW_read b_LW_read 4 (some .int) [(0, 9, 12, 13)]
abbrev b_SG_read : ByteArray := prog_1_method_9_code
def y_SG_read : MethodName := ⟨"SiftedGraphs", "read", "(I)I"⟩
abbrev w_SG_read : Cond := .code y_SG_read b_SG_read 3 (some .int)
abbrev b_FR_failurePlace : ByteArray := prog_2_method_2_code
def y_FR_failurePlace : MethodName := ⟨"SiftedGraphs$FormulaReader", "failurePlace", "([CILSiftedGraphs$Registers;)I"⟩
abbrev w_FR_failurePlace : Cond := .code y_FR_failurePlace b_FR_failurePlace 7 (some .int)
abbrev b_FR_beginFormula : ByteArray := prog_2_method_4_code
def y_FR_beginFormula : MethodName := ⟨"SiftedGraphs$FormulaReader", "beginFormula", "()V"⟩
abbrev w_FR_beginFormula : Cond := .code y_FR_beginFormula b_FR_beginFormula 1 none
abbrev b_FR_beginFactor : ByteArray := prog_2_method_5_code
def y_FR_beginFactor : MethodName := ⟨"SiftedGraphs$FormulaReader", "beginFactor", "()V"⟩
abbrev w_FR_beginFactor : Cond := .code y_FR_beginFactor b_FR_beginFactor 1 none
abbrev b_FR_takeInOperand : ByteArray := prog_2_method_6_code
def y_FR_takeInOperand : MethodName := ⟨"SiftedGraphs$FormulaReader", "takeInOperand", "(CLSiftedGraphs$Registers;)Z"⟩
abbrev w_FR_takeInOperand : Cond := .code y_FR_takeInOperand b_FR_takeInOperand 3 (some .boolean)
abbrev b_FR_openParenthesis : ByteArray := prog_2_method_9_code
def y_FR_openParenthesis : MethodName := ⟨"SiftedGraphs$FormulaReader", "openParenthesis", "()Z"⟩
abbrev w_FR_openParenthesis : Cond := .code y_FR_openParenthesis b_FR_openParenthesis 1 (some .boolean)
abbrev b_FR_endFactor : ByteArray := prog_2_method_8_code
def y_FR_endFactor : MethodName := ⟨"SiftedGraphs$FormulaReader", "endFactor", "(J)V"⟩
abbrev w_FR_endFactor : Cond := .code y_FR_endFactor b_FR_endFactor 3 none
abbrev b_FR_takeBehindOperand : ByteArray := prog_2_method_7_code
def y_FR_takeBehindOperand : MethodName := ⟨"SiftedGraphs$FormulaReader", "takeBehindOperand", "(C)Z"⟩
abbrev w_FR_takeBehindOperand : Cond := .code y_FR_takeBehindOperand b_FR_takeBehindOperand 2 (some .boolean)
abbrev b_FR_meaning : ByteArray := prog_2_method_3_code
def y_FR_meaning : MethodName := ⟨"SiftedGraphs$FormulaReader", "meaning", "()J"⟩
abbrev w_FR_meaning : Cond := .code y_FR_meaning b_FR_meaning 1 (some .long)
abbrev b_FR_closeParenthesis : ByteArray := prog_2_method_10_code
def y_FR_closeParenthesis : MethodName := ⟨"SiftedGraphs$FormulaReader", "closeParenthesis", "()Z"⟩
abbrev w_FR_closeParenthesis : Cond := .code y_FR_closeParenthesis b_FR_closeParenthesis 3 (some .boolean)
abbrev b_LW_release : ByteArray := method_11_code
def y_LW_release : MethodName := ⟨"SiftedGraphsLaw", "release", "(LSiftedGraphs;I[J)I"⟩
abbrev w_LW_release : Cond := .codeWith y_LW_release b_LW_release 4 (some .int) [(0, 16, 19, 13)]
abbrev b_SG_release : ByteArray := prog_1_method_10_code
def y_SG_release : MethodName := ⟨"SiftedGraphs", "release", "(I)Z"⟩
abbrev w_SG_release : Cond := .code y_SG_release b_SG_release 3 (some .boolean)
abbrev b_RG_clear : ByteArray := prog_4_method_5_code
def y_RG_clear : MethodName := ⟨"SiftedGraphs$Registers", "clear", "(I)V"⟩
abbrev w_RG_clear : Cond := .code y_RG_clear b_RG_clear 2 none
abbrev b_LW_equal : ByteArray := method_12_code
def y_LW_equal : MethodName := ⟨"SiftedGraphsLaw", "equal", "(LSiftedGraphs;II[J)I"⟩
abbrev w_LW_equal : Cond := .codeWith y_LW_equal b_LW_equal 5 (some .int) [(0, 17, 20, 13), (0, 17, 24, 19)]
abbrev b_SG_equal : ByteArray := prog_1_method_11_code
def y_SG_equal : MethodName := ⟨"SiftedGraphs", "equal", "(II)Z"⟩
abbrev w_SG_equal : Cond := .code y_SG_equal b_SG_equal 3 (some .boolean)
abbrev b_LW_value : ByteArray := method_13_code
def y_LW_value : MethodName := ⟨"SiftedGraphsLaw", "value", "(LSiftedGraphs;II[J)I"⟩
abbrev w_LW_value : Cond := .codeWith y_LW_value b_LW_value 5 (some .int) [(0, 17, 20, 13), (0, 17, 24, 19)]
abbrev b_SG_value : ByteArray := prog_1_method_12_code
def y_SG_value : MethodName := ⟨"SiftedGraphs", "value", "(II)Z"⟩
abbrev w_SG_value : Cond := .code y_SG_value b_SG_value 3 (some .boolean)
abbrev b_TB_at : ByteArray := prog_5_method_3_code
def y_TB_at : MethodName := ⟨"SiftedGraphs$Tables", "at", "(JI)Z"⟩
abbrev w_TB_at : Cond := .code y_TB_at b_TB_at 3 (some .boolean)
abbrev b_LW_count : ByteArray := method_14_code
def y_LW_count : MethodName := ⟨"SiftedGraphsLaw", "count", "(LSiftedGraphs;I[J)I"⟩
abbrev w_LW_count : Cond := .codeWith y_LW_count b_LW_count 4 (some .int) [(0, 9, 12, 13), (0, 9, 15, 19)]
abbrev b_SG_count : ByteArray := prog_1_method_13_code
def y_SG_count : MethodName := ⟨"SiftedGraphs", "count", "(I)I"⟩
abbrev w_SG_count : Cond := .code y_SG_count b_SG_count 2 (some .int)
abbrev b_JL_bitCount : ByteArray := prog_10_method_50_code
def y_JL_bitCount : MethodName := ⟨"java/lang/Long", "bitCount", "(J)I"⟩
abbrev w_JL_bitCount : Cond := .code y_JL_bitCount b_JL_bitCount 2 (some .int)
abbrev b_LW_least : ByteArray := method_15_code
def y_LW_least : MethodName := ⟨"SiftedGraphsLaw", "least", "(LSiftedGraphs;I[J)I"⟩
abbrev w_LW_least : Cond := .codeWith y_LW_least b_LW_least 4 (some .int) [(0, 9, 12, 13), (0, 9, 15, 19)]
abbrev b_SG_least : ByteArray := prog_1_method_14_code
def y_SG_least : MethodName := ⟨"SiftedGraphs", "least", "(I)I"⟩
abbrev w_SG_least : Cond := .code y_SG_least b_SG_least 5 (some .int)
abbrev b_LW_support : ByteArray := method_16_code
def y_LW_support : MethodName := ⟨"SiftedGraphsLaw", "support", "(LSiftedGraphs;I[J)I"⟩
abbrev w_LW_support : Cond := .codeWith y_LW_support b_LW_support 4 (some .int) [(0, 9, 12, 13), (0, 9, 15, 19)]
abbrev b_SG_support : ByteArray := prog_1_method_15_code
def y_SG_support : MethodName := ⟨"SiftedGraphs", "support", "(I)I"⟩
abbrev w_SG_support : Cond := .code y_SG_support b_SG_support 6 (some .int)
abbrev b_TB_dependsOn : ByteArray := prog_5_method_8_code
def y_TB_dependsOn : MethodName := ⟨"SiftedGraphs$Tables", "dependsOn", "(JI)Z"⟩
abbrev w_TB_dependsOn : Cond := .code y_TB_dependsOn b_TB_dependsOn 3 (some .boolean)
abbrev b_LW_size : ByteArray := method_17_code
def y_LW_size : MethodName := ⟨"SiftedGraphsLaw", "size", "(LSiftedGraphs;I[J)I"⟩
abbrev w_LW_size : Cond := .codeWith y_LW_size b_LW_size 4 (some .int) [(0, 9, 12, 13), (0, 9, 15, 19)]
abbrev b_SG_size : ByteArray := prog_1_method_16_code
def y_SG_size : MethodName := ⟨"SiftedGraphs", "size", "(I)I"⟩
abbrev w_SG_size : Cond := .code y_SG_size b_SG_size 2 (some .int)
abbrev b_LW_width : ByteArray := method_18_code
def y_LW_width : MethodName := ⟨"SiftedGraphsLaw", "width", "(LSiftedGraphs;I[J)I"⟩
abbrev w_LW_width : Cond := .codeWith y_LW_width b_LW_width 4 (some .int) [(0, 9, 12, 13)]
abbrev b_SG_width : ByteArray := prog_1_method_18_code
def y_SG_width : MethodName := ⟨"SiftedGraphs", "width", "(I)I"⟩
abbrev w_SG_width : Cond := .code y_SG_width b_SG_width 2 (some .int)
abbrev b_NC_onLevel : ByteArray := prog_3_method_5_code
def y_NC_onLevel : MethodName := ⟨"SiftedGraphs$NodeCounter", "onLevel", "(I)I"⟩
abbrev w_NC_onLevel : Cond := .code y_NC_onLevel b_NC_onLevel 2 (some .int)
abbrev b_LW_variable : ByteArray := method_19_code
def y_LW_variable : MethodName := ⟨"SiftedGraphsLaw", "variable", "(LSiftedGraphs;I[J)I"⟩
abbrev w_LW_variable : Cond := .codeWith y_LW_variable b_LW_variable 4 (some .int) [(0, 9, 12, 13)]
abbrev b_SG_variable : ByteArray := prog_1_method_19_code
def y_SG_variable : MethodName := ⟨"SiftedGraphs", "variable", "(I)I"⟩
abbrev w_SG_variable : Cond := .code y_SG_variable b_SG_variable 2 (some .int)
abbrev b_LW_swap : ByteArray := method_20_code
def y_LW_swap : MethodName := ⟨"SiftedGraphsLaw", "swap", "(LSiftedGraphs;I[J)I"⟩
abbrev w_LW_swap : Cond := .codeWith y_LW_swap b_LW_swap 4 (some .int) [(0, 9, 12, 13)]
abbrev b_SG_swap : ByteArray := prog_1_method_20_code
def y_SG_swap : MethodName := ⟨"SiftedGraphs", "swap", "(I)I"⟩
abbrev w_SG_swap : Cond := .code y_SG_swap b_SG_swap 2 (some .int)
abbrev b_SG_exchange : ByteArray := prog_1_method_27_code
def y_SG_exchange : MethodName := ⟨"SiftedGraphs", "exchange", "(I)V"⟩
abbrev w_SG_exchange : Cond := .code y_SG_exchange b_SG_exchange 3 none
abbrev b_LW_sift : ByteArray := method_21_code
def y_LW_sift : MethodName := ⟨"SiftedGraphsLaw", "sift", "(LSiftedGraphs;I[J)I"⟩
abbrev w_LW_sift : Cond := .codeWith y_LW_sift b_LW_sift 4 (some .int) [(0, 9, 12, 13)]
abbrev b_SG_sift : ByteArray := prog_1_method_21_code
def y_SG_sift : MethodName := ⟨"SiftedGraphs", "sift", "(I)I"⟩
abbrev w_SG_sift : Cond := .code y_SG_sift b_SG_sift 6 (some .int)
abbrev b_SG_levelOf : ByteArray := prog_1_method_25_code
def y_SG_levelOf : MethodName := ⟨"SiftedGraphs", "levelOf", "(I)I"⟩
abbrev w_SG_levelOf : Cond := .code y_SG_levelOf b_SG_levelOf 4 (some .int)
abbrev b_SG_raise : ByteArray := prog_1_method_26_code
def y_SG_raise : MethodName := ⟨"SiftedGraphs", "raise", "(II)V"⟩
abbrev w_SG_raise : Cond := .code y_SG_raise b_SG_raise 4 none
abbrev b_MD_init : ByteArray := prog_7_method_1_code
def y_MD_init : MethodName := ⟨"SiftedGraphsModel", "<init>", "()V"⟩
abbrev w_MD_init : Cond := .code y_MD_init b_MD_init 2 none
abbrev b_MD_thrown : ByteArray := prog_7_method_2_code
def y_MD_thrown : MethodName := ⟨"SiftedGraphsModel", "thrown", "()I"⟩
abbrev w_MD_thrown : Cond := .code y_MD_thrown b_MD_thrown 1 (some .int)
abbrev b_MD_set : ByteArray := prog_7_method_10_code
def y_MD_set : MethodName := ⟨"SiftedGraphsModel", "set", "(II)V"⟩
abbrev w_MD_set : Cond := .code y_MD_set b_MD_set 5 none
abbrev b_MD_isRegister : ByteArray := prog_7_method_4_code
def y_MD_isRegister : MethodName := ⟨"SiftedGraphsModel", "isRegister", "(I)Z"⟩
abbrev w_MD_isRegister : Cond := .code y_MD_isRegister b_MD_isRegister 1 (some .boolean)
abbrev b_MD_within : ByteArray := prog_7_method_3_code
def y_MD_within : MethodName := ⟨"SiftedGraphsModel", "within", "(III)Z"⟩
abbrev w_MD_within : Cond := .code y_MD_within b_MD_within 3 (some .boolean)
abbrev b_MD_variableTable : ByteArray := prog_7_method_6_code
def y_MD_variableTable : MethodName := ⟨"SiftedGraphsModel", "variableTable", "(I)J"⟩
abbrev w_MD_variableTable : Cond := .code y_MD_variableTable b_MD_variableTable 4 (some .long)
abbrev b_MD_put : ByteArray := prog_7_method_9_code
def y_MD_put : MethodName := ⟨"SiftedGraphsModel", "put", "(IJ)V"⟩
abbrev w_MD_put : Cond := .code y_MD_put b_MD_put 4 none
abbrev b_MD_apply : ByteArray := prog_7_method_11_code
def y_MD_apply : MethodName := ⟨"SiftedGraphsModel", "apply", "(IIII)V"⟩
abbrev w_MD_apply : Cond := .code y_MD_apply b_MD_apply 10 none
abbrev b_MD_at : ByteArray := prog_7_method_5_code
def y_MD_at : MethodName := ⟨"SiftedGraphsModel", "at", "(JI)Z"⟩
abbrev w_MD_at : Cond := .code y_MD_at b_MD_at 3 (some .boolean)
abbrev b_MD_choose : ByteArray := prog_7_method_12_code
def y_MD_choose : MethodName := ⟨"SiftedGraphsModel", "choose", "(IIII)V"⟩
abbrev w_MD_choose : Cond := .code y_MD_choose b_MD_choose 6 none
abbrev b_MD_restrict : ByteArray := prog_7_method_13_code
def y_MD_restrict : MethodName := ⟨"SiftedGraphsModel", "restrict", "(IIIZ)V"⟩
abbrev w_MD_restrict : Cond := .code y_MD_restrict b_MD_restrict 6 none
abbrev b_MD_with : ByteArray := prog_7_method_7_code
def y_MD_with : MethodName := ⟨"SiftedGraphsModel", "with", "(JIJ)J"⟩
abbrev w_MD_with : Cond := .code y_MD_with b_MD_with 10 (some .long)
abbrev b_MD_compose : ByteArray := prog_7_method_14_code
def y_MD_compose : MethodName := ⟨"SiftedGraphsModel", "compose", "(IIII)V"⟩
abbrev w_MD_compose : Cond := .code y_MD_compose b_MD_compose 6 none
abbrev b_MD_quantify : ByteArray := prog_7_method_15_code
def y_MD_quantify : MethodName := ⟨"SiftedGraphsModel", "quantify", "(IIIZ)V"⟩
abbrev w_MD_quantify : Cond := .code y_MD_quantify b_MD_quantify 13 none
abbrev b_MD_release : ByteArray := prog_7_method_16_code
def y_MD_release : MethodName := ⟨"SiftedGraphsModel", "release", "(I)Z"⟩
abbrev w_MD_release : Cond := .code y_MD_release b_MD_release 3 (some .boolean)
abbrev b_MD_type : ByteArray := prog_7_method_17_code
def y_MD_type : MethodName := ⟨"SiftedGraphsModel", "type", "(JI)I"⟩
abbrev w_MD_type : Cond := .code y_MD_type b_MD_type 5 (some .int)
abbrev b_MD_read : ByteArray := prog_7_method_23_code
def y_MD_read : MethodName := ⟨"SiftedGraphsModel", "read", "(I)I"⟩
abbrev w_MD_read : Cond := .code y_MD_read b_MD_read 8 (some .int)
abbrev b_MD_begin : ByteArray := prog_7_method_22_code
def y_MD_begin : MethodName := ⟨"SiftedGraphsModel", "begin", "(II)I"⟩
abbrev w_MD_begin : Cond := .code y_MD_begin b_MD_begin 3 (some .int)
abbrev b_MD_later : ByteArray := prog_7_method_21_code
def y_MD_later : MethodName := ⟨"SiftedGraphsModel", "later", "(I)V"⟩
abbrev w_MD_later : Cond := .code y_MD_later b_MD_later 2 none
abbrev b_MD_push : ByteArray := prog_7_method_18_code
def y_MD_push : MethodName := ⟨"SiftedGraphsModel", "push", "(J)V"⟩
abbrev w_MD_push : Cond := .code y_MD_push b_MD_push 3 none
abbrev b_MD_reduce : ByteArray := prog_7_method_20_code
def y_MD_reduce : MethodName := ⟨"SiftedGraphsModel", "reduce", "(I)V"⟩
abbrev w_MD_reduce : Cond := .code y_MD_reduce b_MD_reduce 7 none
abbrev b_MD_strength : ByteArray := prog_7_method_19_code
def y_MD_strength : MethodName := ⟨"SiftedGraphsModel", "strength", "(I)I"⟩
abbrev w_MD_strength : Cond := .code y_MD_strength b_MD_strength 1 (some .int)
abbrev b_MD_equal : ByteArray := prog_7_method_24_code
def y_MD_equal : MethodName := ⟨"SiftedGraphsModel", "equal", "(II)Z"⟩
abbrev w_MD_equal : Cond := .code y_MD_equal b_MD_equal 3 (some .boolean)
abbrev b_MD_value : ByteArray := prog_7_method_25_code
def y_MD_value : MethodName := ⟨"SiftedGraphsModel", "value", "(II)Z"⟩
abbrev w_MD_value : Cond := .code y_MD_value b_MD_value 3 (some .boolean)
abbrev b_MD_count : ByteArray := prog_7_method_27_code
def y_MD_count : MethodName := ⟨"SiftedGraphsModel", "count", "(I)I"⟩
abbrev w_MD_count : Cond := .code y_MD_count b_MD_count 4 (some .int)
abbrev b_MD_lack : ByteArray := prog_7_method_26_code
def y_MD_lack : MethodName := ⟨"SiftedGraphsModel", "lack", "(I)I"⟩
abbrev w_MD_lack : Cond := .code y_MD_lack b_MD_lack 2 (some .int)
abbrev b_MD_least : ByteArray := prog_7_method_28_code
def y_MD_least : MethodName := ⟨"SiftedGraphsModel", "least", "(I)I"⟩
abbrev w_MD_least : Cond := .code y_MD_least b_MD_least 3 (some .int)
abbrev b_MD_support : ByteArray := prog_7_method_29_code
def y_MD_support : MethodName := ⟨"SiftedGraphsModel", "support", "(I)I"⟩
abbrev w_MD_support : Cond := .code y_MD_support b_MD_support 4 (some .int)
abbrev b_MD_depends : ByteArray := prog_7_method_8_code
def y_MD_depends : MethodName := ⟨"SiftedGraphsModel", "depends", "(JI)Z"⟩
abbrev w_MD_depends : Cond := .code y_MD_depends b_MD_depends 3 (some .boolean)
abbrev b_MD_size : ByteArray := prog_7_method_34_code
def y_MD_size : MethodName := ⟨"SiftedGraphsModel", "size", "(I)I"⟩
abbrev w_MD_size : Cond := .code y_MD_size b_MD_size 4 (some .int)
abbrev b_MD_findAll : ByteArray := prog_7_method_31_code
def y_MD_findAll : MethodName := ⟨"SiftedGraphsModel", "findAll", "(JI)V"⟩
abbrev w_MD_findAll : Cond := .code y_MD_findAll b_MD_findAll 8 none
abbrev b_MD_find : ByteArray := prog_7_method_30_code
def y_MD_find : MethodName := ⟨"SiftedGraphsModel", "find", "(J)V"⟩
abbrev w_MD_find : Cond := .code y_MD_find b_MD_find 4 none
abbrev b_MD_shared : ByteArray := prog_7_method_35_code
def y_MD_shared : MethodName := ⟨"SiftedGraphsModel", "shared", "()I"⟩
abbrev w_MD_shared : Cond := .code y_MD_shared b_MD_shared 1 (some .int)
abbrev b_MD_all : ByteArray := prog_7_method_33_code
def y_MD_all : MethodName := ⟨"SiftedGraphsModel", "all", "()I"⟩
abbrev w_MD_all : Cond := .code y_MD_all b_MD_all 3 (some .int)
abbrev b_MD_widthOf : ByteArray := prog_7_method_32_code
def y_MD_widthOf : MethodName := ⟨"SiftedGraphsModel", "widthOf", "(I)I"⟩
abbrev w_MD_widthOf : Cond := .code y_MD_widthOf b_MD_widthOf 3 (some .int)
abbrev b_MD_width : ByteArray := prog_7_method_36_code
def y_MD_width : MethodName := ⟨"SiftedGraphsModel", "width", "(I)I"⟩
abbrev w_MD_width : Cond := .code y_MD_width b_MD_width 2 (some .int)
abbrev b_MD_variable : ByteArray := prog_7_method_37_code
def y_MD_variable : MethodName := ⟨"SiftedGraphsModel", "variable", "(I)I"⟩
abbrev w_MD_variable : Cond := .code y_MD_variable b_MD_variable 2 (some .int)
abbrev b_MD_swap : ByteArray := prog_7_method_38_code
def y_MD_swap : MethodName := ⟨"SiftedGraphsModel", "swap", "(I)I"⟩
abbrev w_MD_swap : Cond := .code y_MD_swap b_MD_swap 3 (some .int)
abbrev b_MD_sift : ByteArray := prog_7_method_40_code
def y_MD_sift : MethodName := ⟨"SiftedGraphsModel", "sift", "(I)I"⟩
abbrev w_MD_sift : Cond := .code y_MD_sift b_MD_sift 6 (some .int)
abbrev b_MD_arrange : ByteArray := prog_7_method_39_code
def y_MD_arrange : MethodName := ⟨"SiftedGraphsModel", "arrange", "(II)V"⟩
abbrev w_MD_arrange : Cond := .code y_MD_arrange b_MD_arrange 5 none
abbrev b_LW_law : ByteArray := code
def y_LW_law : MethodName := ⟨"SiftedGraphsLaw", "law", "([I)Z"⟩
abbrev w_LW_law : Cond := .code y_LW_law b_LW_law 7 (some .boolean)
/-- the words of the tables that stay true whatever is linked later -/
def TW : List Cond := lw_tbl.filter goodWord
theorem TW_t {w : Cond} (i : Nat) (h : tables_1[i]? = some w) (g : goodWord w = true) : w ∈ TW := List.mem_filter.mpr ⟨List.mem_append_right _ (List.mem_of_getElem? h), g⟩
theorem TW_s {w : Cond} (i : Nat) (h : (k2_sels lw_privs)[i]? = some w) (g : goodWord w = true) : w ∈ TW := List.mem_filter.mpr ⟨List.mem_append_left _ (List.mem_of_getElem? h), g⟩
theorem TW_g {w : Cond} (h : w ∈ TW) : goodWord w = true := (List.mem_filter.mp h).2
theorem TW_l {w : Cond} (h : w ∈ TW) : w ∈ lw_tbl := (List.mem_filter.mp h).1
theorem TW_in (c0 : Cond) {ws : List Cond} (h : ∀ w ∈ ws, w ∈ TW) : GoodIn (c0 :: TW) ws := fun w hw => ⟨List.mem_cons_of_mem _ (h w hw), good_of_word (TW_g (h w hw))⟩
theorem tw_0 : (Cond.initialized "SiftedGraphsLaw" : Cond) ∈ TW := TW_t 0 (by decide +kernel) (by decide +kernel)
theorem tw_1 : (Cond.initialized "SiftedGraphs" : Cond) ∈ TW := TW_t 1 (by decide +kernel) (by decide +kernel)
theorem tw_2 : (Cond.initialized "SiftedGraphs$Registers" : Cond) ∈ TW := TW_t 2 (by decide +kernel) (by decide +kernel)
theorem tw_3 : (Cond.initialized "SiftedGraphs$FormulaReader" : Cond) ∈ TW := TW_t 3 (by decide +kernel) (by decide +kernel)
theorem tw_4 : (Cond.initialized "SiftedGraphs$NodeCounter" : Cond) ∈ TW := TW_t 4 (by decide +kernel) (by decide +kernel)
theorem tw_5 : (Cond.initialized "SiftedGraphsModel" : Cond) ∈ TW := TW_t 5 (by decide +kernel) (by decide +kernel)
theorem tw_6 : (Cond.initialized "java/lang/Throwable" : Cond) ∈ TW := TW_t 6 (by decide +kernel) (by decide +kernel)
theorem tw_7 : (Cond.initialized "java/lang/Exception" : Cond) ∈ TW := TW_t 7 (by decide +kernel) (by decide +kernel)
theorem tw_8 : (Cond.initialized "java/lang/RuntimeException" : Cond) ∈ TW := TW_t 8 (by decide +kernel) (by decide +kernel)
theorem tw_9 : (Cond.initialized "java/lang/IllegalArgumentException" : Cond) ∈ TW := TW_t 9 (by decide +kernel) (by decide +kernel)
theorem tw_10 : (Cond.initialized "SiftedGraphs$Tables" : Cond) ∈ TW := TW_t 10 (by decide +kernel) (by decide +kernel)
theorem tw_11 : (Cond.initialized "java/util/NoSuchElementException" : Cond) ∈ TW := TW_t 11 (by decide +kernel) (by decide +kernel)
theorem tw_12 : (Cond.initialized "java/lang/Long" : Cond) ∈ TW := TW_t 12 (by decide +kernel) (by decide +kernel)
theorem tw_13 : (Cond.classLink "SiftedGraphsLaw" 8 "SiftedGraphs" : Cond) ∈ TW := TW_t 13 (by decide +kernel) (by decide +kernel)
theorem tw_14 : (Cond.instantiable "SiftedGraphs" 6 : Cond) ∈ TW := TW_t 14 (by decide +kernel) (by decide +kernel)
theorem tw_15 : (Cond.methodLink "SiftedGraphsLaw" 77 y_SG_init : Cond) ∈ TW := TW_t 15 (by decide +kernel) (by decide +kernel)
theorem tw_16 : (Cond.instanceMethod y_SG_init : Cond) ∈ TW := TW_t 16 (by decide +kernel) (by decide +kernel)
set_option maxRecDepth 100000 in
theorem tw_17 : (Cond.code y_SG_init prog_1_method_1_code 2 none : Cond) ∈ TW := TW_t 17 rfl (by decide +kernel)
theorem tw_18 : (Cond.methodLink "SiftedGraphs" 3 ⟨"java/lang/Object", "<init>", "()V"⟩ : Cond) ∈ TW := TW_t 18 (by decide +kernel) (by decide +kernel)
theorem tw_19 : (Cond.instanceMethod ⟨"java/lang/Object", "<init>", "()V"⟩ : Cond) ∈ TW := TW_t 19 (by decide +kernel) (by decide +kernel)
set_option maxRecDepth 100000 in
theorem tw_20 : (Cond.code ⟨"java/lang/Object", "<init>", "()V"⟩ object_method_1_code 1 none : Cond) ∈ TW := TW_t 20 rfl (by decide +kernel)
theorem tw_21 : (Cond.classLink "SiftedGraphs" 9 "SiftedGraphs$Registers" : Cond) ∈ TW := TW_t 21 (by decide +kernel) (by decide +kernel)
theorem tw_22 : (Cond.instantiable "SiftedGraphs$Registers" 2 : Cond) ∈ TW := TW_t 22 (by decide +kernel) (by decide +kernel)
theorem tw_23 : (Cond.methodLink "SiftedGraphs" 11 y_RG_init : Cond) ∈ TW := TW_t 23 (by decide +kernel) (by decide +kernel)
theorem tw_24 : (Cond.instanceMethod y_RG_init : Cond) ∈ TW := TW_t 24 (by decide +kernel) (by decide +kernel)
set_option maxRecDepth 100000 in
theorem tw_25 : (Cond.code y_RG_init prog_4_method_1_code 1 none : Cond) ∈ TW := TW_t 25 rfl (by decide +kernel)
theorem tw_26 : (Cond.methodLink "SiftedGraphs$Registers" 3 ⟨"java/lang/Object", "<init>", "()V"⟩ : Cond) ∈ TW := TW_t 26 (by decide +kernel) (by decide +kernel)
theorem tw_27 : (Cond.fieldLink "SiftedGraphs$Registers" 9 "SiftedGraphs$Registers" "tables" "[J" : Cond) ∈ TW := TW_t 27 (by decide +kernel) (by decide +kernel)
theorem tw_28 : (Cond.fieldLink "SiftedGraphs$Registers" 15 "SiftedGraphs$Registers" "held" "[Z" : Cond) ∈ TW := TW_t 28 (by decide +kernel) (by decide +kernel)
theorem tw_29 : (Cond.laysFinal "SiftedGraphs$Registers" "SiftedGraphs$Registers" "tables" "[J" : Cond) ∈ TW := TW_t 29 (by decide +kernel) (by decide +kernel)
theorem tw_30 : (Cond.soleField "SiftedGraphs$Registers" "tables" : Cond) ∈ TW := TW_t 30 (by decide +kernel) (by decide +kernel)
theorem tw_31 : (Cond.laysFinal "SiftedGraphs$Registers" "SiftedGraphs$Registers" "held" "[Z" : Cond) ∈ TW := TW_t 31 (by decide +kernel) (by decide +kernel)
theorem tw_32 : (Cond.soleField "SiftedGraphs$Registers" "held" : Cond) ∈ TW := TW_t 32 (by decide +kernel) (by decide +kernel)
theorem tw_33 : (Cond.superclass "SiftedGraphs$Registers" "java/lang/Object" : Cond) ∈ TW := TW_t 33 (by decide +kernel) (by decide +kernel)
theorem tw_34 : (Cond.arrayClass .long : Cond) ∈ TW := TW_t 34 (by decide +kernel) (by decide +kernel)
theorem tw_35 : (Cond.arrayClass .boolean : Cond) ∈ TW := TW_t 35 (by decide +kernel) (by decide +kernel)
theorem tw_36 : (Cond.classLink "SiftedGraphs" 28 "SiftedGraphs$FormulaReader" : Cond) ∈ TW := TW_t 36 (by decide +kernel) (by decide +kernel)
theorem tw_37 : (Cond.instantiable "SiftedGraphs$FormulaReader" 6 : Cond) ∈ TW := TW_t 37 (by decide +kernel) (by decide +kernel)
theorem tw_38 : (Cond.methodLink "SiftedGraphs" 30 y_FR_init : Cond) ∈ TW := TW_t 38 (by decide +kernel) (by decide +kernel)
theorem tw_39 : (Cond.instanceMethod y_FR_init : Cond) ∈ TW := TW_t 39 (by decide +kernel) (by decide +kernel)
set_option maxRecDepth 100000 in
theorem tw_40 : (Cond.code y_FR_init prog_2_method_1_code 1 none : Cond) ∈ TW := TW_t 40 rfl (by decide +kernel)
theorem tw_41 : (Cond.methodLink "SiftedGraphs$FormulaReader" 3 ⟨"java/lang/Object", "<init>", "()V"⟩ : Cond) ∈ TW := TW_t 41 (by decide +kernel) (by decide +kernel)
theorem tw_42 : (Cond.fieldLink "SiftedGraphs$FormulaReader" 11 "SiftedGraphs$FormulaReader" "sums" "[J" : Cond) ∈ TW := TW_t 42 (by decide +kernel) (by decide +kernel)
theorem tw_43 : (Cond.fieldLink "SiftedGraphs$FormulaReader" 15 "SiftedGraphs$FormulaReader" "parities" "[J" : Cond) ∈ TW := TW_t 43 (by decide +kernel) (by decide +kernel)
theorem tw_44 : (Cond.fieldLink "SiftedGraphs$FormulaReader" 18 "SiftedGraphs$FormulaReader" "products" "[J" : Cond) ∈ TW := TW_t 44 (by decide +kernel) (by decide +kernel)
theorem tw_45 : (Cond.fieldLink "SiftedGraphs$FormulaReader" 21 "SiftedGraphs$FormulaReader" "flips" "[J" : Cond) ∈ TW := TW_t 45 (by decide +kernel) (by decide +kernel)
theorem tw_46 : (Cond.fieldLink "SiftedGraphs$FormulaReader" 24 "SiftedGraphs$FormulaReader" "open" "I" : Cond) ∈ TW := TW_t 46 (by decide +kernel) (by decide +kernel)
theorem tw_47 : (Cond.fieldLink "SiftedGraphs$FormulaReader" 31 "SiftedGraphs$FormulaReader" "operandDue" "Z" : Cond) ∈ TW := TW_t 47 (by decide +kernel) (by decide +kernel)
theorem tw_48 : (Cond.laysFinal "SiftedGraphs$FormulaReader" "SiftedGraphs$FormulaReader" "sums" "[J" : Cond) ∈ TW := TW_t 48 (by decide +kernel) (by decide +kernel)
theorem tw_49 : (Cond.soleField "SiftedGraphs$FormulaReader" "sums" : Cond) ∈ TW := TW_t 49 (by decide +kernel) (by decide +kernel)
theorem tw_50 : (Cond.laysFinal "SiftedGraphs$FormulaReader" "SiftedGraphs$FormulaReader" "parities" "[J" : Cond) ∈ TW := TW_t 50 (by decide +kernel) (by decide +kernel)
theorem tw_51 : (Cond.soleField "SiftedGraphs$FormulaReader" "parities" : Cond) ∈ TW := TW_t 51 (by decide +kernel) (by decide +kernel)
theorem tw_52 : (Cond.laysFinal "SiftedGraphs$FormulaReader" "SiftedGraphs$FormulaReader" "products" "[J" : Cond) ∈ TW := TW_t 52 (by decide +kernel) (by decide +kernel)
theorem tw_53 : (Cond.soleField "SiftedGraphs$FormulaReader" "products" : Cond) ∈ TW := TW_t 53 (by decide +kernel) (by decide +kernel)
theorem tw_54 : (Cond.laysFinal "SiftedGraphs$FormulaReader" "SiftedGraphs$FormulaReader" "flips" "[J" : Cond) ∈ TW := TW_t 54 (by decide +kernel) (by decide +kernel)
theorem tw_55 : (Cond.soleField "SiftedGraphs$FormulaReader" "flips" : Cond) ∈ TW := TW_t 55 (by decide +kernel) (by decide +kernel)
theorem tw_56 : (Cond.lays "SiftedGraphs$FormulaReader" "SiftedGraphs$FormulaReader" "open" "I" : Cond) ∈ TW := TW_t 56 (by decide +kernel) (by decide +kernel)
theorem tw_57 : (Cond.soleField "SiftedGraphs$FormulaReader" "open" : Cond) ∈ TW := TW_t 57 (by decide +kernel) (by decide +kernel)
theorem tw_58 : (Cond.lays "SiftedGraphs$FormulaReader" "SiftedGraphs$FormulaReader" "operandDue" "Z" : Cond) ∈ TW := TW_t 58 (by decide +kernel) (by decide +kernel)
theorem tw_59 : (Cond.soleField "SiftedGraphs$FormulaReader" "operandDue" : Cond) ∈ TW := TW_t 59 (by decide +kernel) (by decide +kernel)
theorem tw_60 : (Cond.superclass "SiftedGraphs$FormulaReader" "java/lang/Object" : Cond) ∈ TW := TW_t 60 (by decide +kernel) (by decide +kernel)
theorem tw_61 : (Cond.arrayClass .int : Cond) ∈ TW := TW_t 61 (by decide +kernel) (by decide +kernel)
theorem tw_62 : (Cond.arrayClass .char : Cond) ∈ TW := TW_t 62 (by decide +kernel) (by decide +kernel)
theorem tw_63 : (Cond.classLink "SiftedGraphs" 35 "SiftedGraphs$NodeCounter" : Cond) ∈ TW := TW_t 63 (by decide +kernel) (by decide +kernel)
theorem tw_64 : (Cond.instantiable "SiftedGraphs$NodeCounter" 5 : Cond) ∈ TW := TW_t 64 (by decide +kernel) (by decide +kernel)
theorem tw_65 : (Cond.methodLink "SiftedGraphs" 37 y_NC_init : Cond) ∈ TW := TW_t 65 (by decide +kernel) (by decide +kernel)
theorem tw_66 : (Cond.instanceMethod y_NC_init : Cond) ∈ TW := TW_t 66 (by decide +kernel) (by decide +kernel)
set_option maxRecDepth 100000 in
theorem tw_67 : (Cond.code y_NC_init prog_3_method_1_code 1 none : Cond) ∈ TW := TW_t 67 rfl (by decide +kernel)
theorem tw_68 : (Cond.methodLink "SiftedGraphs$NodeCounter" 3 ⟨"java/lang/Object", "<init>", "()V"⟩ : Cond) ∈ TW := TW_t 68 (by decide +kernel) (by decide +kernel)
theorem tw_69 : (Cond.fieldLink "SiftedGraphs$NodeCounter" 11 "SiftedGraphs$NodeCounter" "above" "[J" : Cond) ∈ TW := TW_t 69 (by decide +kernel) (by decide +kernel)
theorem tw_70 : (Cond.fieldLink "SiftedGraphs$NodeCounter" 33 "SiftedGraphs$NodeCounter" "aboveCount" "I" : Cond) ∈ TW := TW_t 70 (by decide +kernel) (by decide +kernel)
theorem tw_71 : (Cond.fieldLink "SiftedGraphs$NodeCounter" 15 "SiftedGraphs$NodeCounter" "below" "[J" : Cond) ∈ TW := TW_t 71 (by decide +kernel) (by decide +kernel)
theorem tw_72 : (Cond.fieldLink "SiftedGraphs$NodeCounter" 22 "SiftedGraphs$NodeCounter" "belowCount" "I" : Cond) ∈ TW := TW_t 72 (by decide +kernel) (by decide +kernel)
theorem tw_73 : (Cond.fieldLink "SiftedGraphs$NodeCounter" 18 "SiftedGraphs$NodeCounter" "widths" "[I" : Cond) ∈ TW := TW_t 73 (by decide +kernel) (by decide +kernel)
theorem tw_74 : (Cond.lays "SiftedGraphs$NodeCounter" "SiftedGraphs$NodeCounter" "above" "[J" : Cond) ∈ TW := TW_t 74 (by decide +kernel) (by decide +kernel)
theorem tw_75 : (Cond.soleField "SiftedGraphs$NodeCounter" "above" : Cond) ∈ TW := TW_t 75 (by decide +kernel) (by decide +kernel)
theorem tw_76 : (Cond.lays "SiftedGraphs$NodeCounter" "SiftedGraphs$NodeCounter" "aboveCount" "I" : Cond) ∈ TW := TW_t 76 (by decide +kernel) (by decide +kernel)
theorem tw_77 : (Cond.soleField "SiftedGraphs$NodeCounter" "aboveCount" : Cond) ∈ TW := TW_t 77 (by decide +kernel) (by decide +kernel)
theorem tw_78 : (Cond.lays "SiftedGraphs$NodeCounter" "SiftedGraphs$NodeCounter" "below" "[J" : Cond) ∈ TW := TW_t 78 (by decide +kernel) (by decide +kernel)
theorem tw_79 : (Cond.soleField "SiftedGraphs$NodeCounter" "below" : Cond) ∈ TW := TW_t 79 (by decide +kernel) (by decide +kernel)
theorem tw_80 : (Cond.lays "SiftedGraphs$NodeCounter" "SiftedGraphs$NodeCounter" "belowCount" "I" : Cond) ∈ TW := TW_t 80 (by decide +kernel) (by decide +kernel)
theorem tw_81 : (Cond.soleField "SiftedGraphs$NodeCounter" "belowCount" : Cond) ∈ TW := TW_t 81 (by decide +kernel) (by decide +kernel)
theorem tw_82 : (Cond.laysFinal "SiftedGraphs$NodeCounter" "SiftedGraphs$NodeCounter" "widths" "[I" : Cond) ∈ TW := TW_t 82 (by decide +kernel) (by decide +kernel)
theorem tw_83 : (Cond.soleField "SiftedGraphs$NodeCounter" "widths" : Cond) ∈ TW := TW_t 83 (by decide +kernel) (by decide +kernel)
theorem tw_84 : (Cond.superclass "SiftedGraphs$NodeCounter" "java/lang/Object" : Cond) ∈ TW := TW_t 84 (by decide +kernel) (by decide +kernel)
theorem tw_85 : (Cond.fieldLink "SiftedGraphs" 12 "SiftedGraphs" "registers" "LSiftedGraphs$Registers;" : Cond) ∈ TW := TW_t 85 (by decide +kernel) (by decide +kernel)
theorem tw_86 : (Cond.fieldLink "SiftedGraphs" 16 "SiftedGraphs" "order" "[I" : Cond) ∈ TW := TW_t 86 (by decide +kernel) (by decide +kernel)
theorem tw_87 : (Cond.fieldLink "SiftedGraphs" 20 "SiftedGraphs" "text" "[C" : Cond) ∈ TW := TW_t 87 (by decide +kernel) (by decide +kernel)
theorem tw_88 : (Cond.fieldLink "SiftedGraphs" 24 "SiftedGraphs" "typed" "I" : Cond) ∈ TW := TW_t 88 (by decide +kernel) (by decide +kernel)
theorem tw_89 : (Cond.fieldLink "SiftedGraphs" 31 "SiftedGraphs" "reader" "LSiftedGraphs$FormulaReader;" : Cond) ∈ TW := TW_t 89 (by decide +kernel) (by decide +kernel)
theorem tw_90 : (Cond.fieldLink "SiftedGraphs" 38 "SiftedGraphs" "nodes" "LSiftedGraphs$NodeCounter;" : Cond) ∈ TW := TW_t 90 (by decide +kernel) (by decide +kernel)
theorem tw_91 : (Cond.laysFinal "SiftedGraphs" "SiftedGraphs" "registers" "LSiftedGraphs$Registers;" : Cond) ∈ TW := TW_t 91 (by decide +kernel) (by decide +kernel)
theorem tw_92 : (Cond.soleField "SiftedGraphs" "registers" : Cond) ∈ TW := TW_t 92 (by decide +kernel) (by decide +kernel)
theorem tw_93 : (Cond.laysFinal "SiftedGraphs" "SiftedGraphs" "order" "[I" : Cond) ∈ TW := TW_t 93 (by decide +kernel) (by decide +kernel)
theorem tw_94 : (Cond.soleField "SiftedGraphs" "order" : Cond) ∈ TW := TW_t 94 (by decide +kernel) (by decide +kernel)
theorem tw_95 : (Cond.laysFinal "SiftedGraphs" "SiftedGraphs" "text" "[C" : Cond) ∈ TW := TW_t 95 (by decide +kernel) (by decide +kernel)
theorem tw_96 : (Cond.soleField "SiftedGraphs" "text" : Cond) ∈ TW := TW_t 96 (by decide +kernel) (by decide +kernel)
theorem tw_97 : (Cond.lays "SiftedGraphs" "SiftedGraphs" "typed" "I" : Cond) ∈ TW := TW_t 97 (by decide +kernel) (by decide +kernel)
theorem tw_98 : (Cond.soleField "SiftedGraphs" "typed" : Cond) ∈ TW := TW_t 98 (by decide +kernel) (by decide +kernel)
theorem tw_99 : (Cond.laysFinal "SiftedGraphs" "SiftedGraphs" "reader" "LSiftedGraphs$FormulaReader;" : Cond) ∈ TW := TW_t 99 (by decide +kernel) (by decide +kernel)
theorem tw_100 : (Cond.soleField "SiftedGraphs" "reader" : Cond) ∈ TW := TW_t 100 (by decide +kernel) (by decide +kernel)
theorem tw_101 : (Cond.laysFinal "SiftedGraphs" "SiftedGraphs" "nodes" "LSiftedGraphs$NodeCounter;" : Cond) ∈ TW := TW_t 101 (by decide +kernel) (by decide +kernel)
theorem tw_102 : (Cond.soleField "SiftedGraphs" "nodes" : Cond) ∈ TW := TW_t 102 (by decide +kernel) (by decide +kernel)
theorem tw_103 : (Cond.superclass "SiftedGraphs" "java/lang/Object" : Cond) ∈ TW := TW_t 103 (by decide +kernel) (by decide +kernel)
theorem tw_104 : (Cond.methodLink "SiftedGraphsLaw" 140 y_SG_shared : Cond) ∈ TW := TW_t 104 (by decide +kernel) (by decide +kernel)
theorem tw_105 : (Cond.instanceMethod y_SG_shared : Cond) ∈ TW := TW_t 105 (by decide +kernel) (by decide +kernel)
theorem tw_106 : (Cond.selects "SiftedGraphs" y_SG_shared y_SG_shared : Cond) ∈ TW := TW_t 106 (by decide +kernel) (by decide +kernel)
set_option maxRecDepth 100000 in
theorem tw_107 : (Cond.code y_SG_shared prog_1_method_17_code 1 (some .int) : Cond) ∈ TW := TW_t 107 rfl (by decide +kernel)
theorem tw_108 : (Cond.methodLink "SiftedGraphs" 121 y_SG_nodesOfAll : Cond) ∈ TW := TW_t 108 (by decide +kernel) (by decide +kernel)
theorem tw_110 : (Cond.instanceMethod y_SG_nodesOfAll : Cond) ∈ TW := TW_t 110 (by decide +kernel) (by decide +kernel)
set_option maxRecDepth 100000 in
theorem tw_111 : (Cond.code y_SG_nodesOfAll prog_1_method_24_code 2 (some .int) : Cond) ∈ TW := TW_t 111 rfl (by decide +kernel)
theorem tw_112 : (Cond.methodLink "SiftedGraphs" 110 y_NC_begin : Cond) ∈ TW := TW_t 112 (by decide +kernel) (by decide +kernel)
theorem tw_113 : (Cond.instanceMethod y_NC_begin : Cond) ∈ TW := TW_t 113 (by decide +kernel) (by decide +kernel)
theorem tw_114 : (Cond.selects "SiftedGraphs$NodeCounter" y_NC_begin y_NC_begin : Cond) ∈ TW := TW_t 114 (by decide +kernel) (by decide +kernel)
set_option maxRecDepth 100000 in
theorem tw_115 : (Cond.code y_NC_begin prog_3_method_2_code 1 none : Cond) ∈ TW := TW_t 115 rfl (by decide +kernel)
theorem tw_116 : (Cond.methodLink "SiftedGraphs" 89 y_RG_isHeld : Cond) ∈ TW := TW_t 116 (by decide +kernel) (by decide +kernel)
theorem tw_117 : (Cond.instanceMethod y_RG_isHeld : Cond) ∈ TW := TW_t 117 (by decide +kernel) (by decide +kernel)
theorem tw_118 : (Cond.selects "SiftedGraphs$Registers" y_RG_isHeld y_RG_isHeld : Cond) ∈ TW := TW_t 118 (by decide +kernel) (by decide +kernel)
set_option maxRecDepth 100000 in
theorem tw_119 : (Cond.code y_RG_isHeld prog_4_method_2_code 2 (some .boolean) : Cond) ∈ TW := TW_t 119 rfl (by decide +kernel)
theorem tw_120 : (Cond.methodLink "SiftedGraphs" 141 y_RG_table : Cond) ∈ TW := TW_t 120 (by decide +kernel) (by decide +kernel)
theorem tw_121 : (Cond.instanceMethod y_RG_table : Cond) ∈ TW := TW_t 121 (by decide +kernel) (by decide +kernel)
theorem tw_122 : (Cond.selects "SiftedGraphs$Registers" y_RG_table y_RG_table : Cond) ∈ TW := TW_t 122 (by decide +kernel) (by decide +kernel)
set_option maxRecDepth 100000 in
theorem tw_123 : (Cond.code y_RG_table prog_4_method_3_code 2 (some .long) : Cond) ∈ TW := TW_t 123 rfl (by decide +kernel)
theorem tw_124 : (Cond.methodLink "SiftedGraphs" 113 y_NC_add : Cond) ∈ TW := TW_t 124 (by decide +kernel) (by decide +kernel)
theorem tw_125 : (Cond.instanceMethod y_NC_add : Cond) ∈ TW := TW_t 125 (by decide +kernel) (by decide +kernel)
theorem tw_126 : (Cond.selects "SiftedGraphs$NodeCounter" y_NC_add y_NC_add : Cond) ∈ TW := TW_t 126 (by decide +kernel) (by decide +kernel)
set_option maxRecDepth 100000 in
theorem tw_127 : (Cond.code y_NC_add prog_3_method_3_code 4 none : Cond) ∈ TW := TW_t 127 rfl (by decide +kernel)
theorem tw_128 : (Cond.methodLink "SiftedGraphs" 117 y_NC_total : Cond) ∈ TW := TW_t 128 (by decide +kernel) (by decide +kernel)
theorem tw_129 : (Cond.instanceMethod y_NC_total : Cond) ∈ TW := TW_t 129 (by decide +kernel) (by decide +kernel)
theorem tw_130 : (Cond.selects "SiftedGraphs$NodeCounter" y_NC_total y_NC_total : Cond) ∈ TW := TW_t 130 (by decide +kernel) (by decide +kernel)
set_option maxRecDepth 100000 in
theorem tw_131 : (Cond.code y_NC_total prog_3_method_4_code 4 (some .int) : Cond) ∈ TW := TW_t 131 rfl (by decide +kernel)
theorem tw_132 : (Cond.methodLink "SiftedGraphs$NodeCounter" 26 y_NC_goDown : Cond) ∈ TW := TW_t 132 (by decide +kernel) (by decide +kernel)
theorem tw_134 : (Cond.instanceMethod y_NC_goDown : Cond) ∈ TW := TW_t 134 (by decide +kernel) (by decide +kernel)
set_option maxRecDepth 100000 in
theorem tw_135 : (Cond.code y_NC_goDown prog_3_method_6_code 2 none : Cond) ∈ TW := TW_t 135 rfl (by decide +kernel)
theorem tw_136 : (Cond.methodLink "SiftedGraphs$NodeCounter" 29 y_NC_branch : Cond) ∈ TW := TW_t 136 (by decide +kernel) (by decide +kernel)
theorem tw_138 : (Cond.instanceMethod y_NC_branch : Cond) ∈ TW := TW_t 138 (by decide +kernel) (by decide +kernel)
set_option maxRecDepth 100000 in
theorem tw_139 : (Cond.code y_NC_branch prog_3_method_7_code 8 (some .int) : Cond) ∈ TW := TW_t 139 rfl (by decide +kernel)
theorem tw_140 : (Cond.methodLink "SiftedGraphs$NodeCounter" 36 y_TB_withZero : Cond) ∈ TW := TW_t 140 (by decide +kernel) (by decide +kernel)
theorem tw_141 : (Cond.static y_TB_withZero : Cond) ∈ TW := TW_t 141 (by decide +kernel) (by decide +kernel)
set_option maxRecDepth 100000 in
theorem tw_142 : (Cond.code y_TB_withZero prog_5_method_7_code 5 (some .long) : Cond) ∈ TW := TW_t 142 rfl (by decide +kernel)
theorem tw_143 : (Cond.fieldLink "SiftedGraphs$Tables" 9 "SiftedGraphs$Tables" "OF_VARIABLES" "[J" : Cond) ∈ TW := TW_t 143 (by decide +kernel) (by decide +kernel)
theorem tw_145 : (Cond.constantLong "SiftedGraphs$Tables" 15 (-1) : Cond) ∈ TW := TW_t 145 (by decide +kernel) (by decide +kernel)
theorem tw_146 : (Cond.methodLink "SiftedGraphs$Tables" 17 y_TB_weight : Cond) ∈ TW := TW_t 146 (by decide +kernel) (by decide +kernel)
theorem tw_147 : (Cond.static y_TB_weight : Cond) ∈ TW := TW_t 147 (by decide +kernel) (by decide +kernel)
set_option maxRecDepth 100000 in
theorem tw_148 : (Cond.code y_TB_weight prog_5_method_9_code 1 (some .int) : Cond) ∈ TW := TW_t 148 rfl (by decide +kernel)
theorem tw_149 : (Cond.methodLink "SiftedGraphs$NodeCounter" 42 y_TB_withOne : Cond) ∈ TW := TW_t 149 (by decide +kernel) (by decide +kernel)
theorem tw_150 : (Cond.static y_TB_withOne : Cond) ∈ TW := TW_t 150 (by decide +kernel) (by decide +kernel)
set_option maxRecDepth 100000 in
theorem tw_151 : (Cond.code y_TB_withOne prog_5_method_6_code 5 (some .long) : Cond) ∈ TW := TW_t 151 rfl (by decide +kernel)
theorem tw_152 : (Cond.methodLink "SiftedGraphs$NodeCounter" 45 y_NC_add : Cond) ∈ TW := TW_t 152 (by decide +kernel) (by decide +kernel)
theorem tw_153 : (Cond.methodLink "SiftedGraphsLaw" 81 y_LW_set : Cond) ∈ TW := TW_t 153 (by decide +kernel) (by decide +kernel)
theorem tw_154 : (Cond.static y_LW_set : Cond) ∈ TW := TW_t 154 (by decide +kernel) (by decide +kernel)
set_option maxRecDepth 100000 in
theorem tw_155 : (Cond.codeWith y_LW_set method_3_code 4 (some .int) [(0, 6, 9, 13)] : Cond) ∈ TW := TW_t 155 rfl (by decide +kernel)
theorem tw_156 : (Cond.classLink "SiftedGraphsLaw" 13 "java/lang/IllegalArgumentException" : Cond) ∈ TW := TW_t 156 (by decide +kernel) (by decide +kernel)
theorem tw_157 : (Cond.methodLink "SiftedGraphsLaw" 7 y_SG_set : Cond) ∈ TW := TW_t 157 (by decide +kernel) (by decide +kernel)
theorem tw_158 : (Cond.instanceMethod y_SG_set : Cond) ∈ TW := TW_t 158 (by decide +kernel) (by decide +kernel)
theorem tw_159 : (Cond.selects "SiftedGraphs" y_SG_set y_SG_set : Cond) ∈ TW := TW_t 159 (by decide +kernel) (by decide +kernel)
set_option maxRecDepth 100000 in
theorem tw_160 : (Cond.code y_SG_set prog_1_method_2_code 5 none : Cond) ∈ TW := TW_t 160 rfl (by decide +kernel)
theorem tw_161 : (Cond.methodLink "SiftedGraphs" 42 y_SG_checkBelow : Cond) ∈ TW := TW_t 161 (by decide +kernel) (by decide +kernel)
theorem tw_162 : (Cond.static y_SG_checkBelow : Cond) ∈ TW := TW_t 162 (by decide +kernel) (by decide +kernel)
set_option maxRecDepth 100000 in
theorem tw_163 : (Cond.code y_SG_checkBelow prog_1_method_22_code 2 none : Cond) ∈ TW := TW_t 163 rfl (by decide +kernel)
theorem tw_164 : (Cond.classLink "SiftedGraphs" 76 "java/lang/IllegalArgumentException" : Cond) ∈ TW := TW_t 164 (by decide +kernel) (by decide +kernel)
theorem tw_165 : (Cond.instantiable "java/lang/IllegalArgumentException" 6 : Cond) ∈ TW := TW_t 165 (by decide +kernel) (by decide +kernel)
theorem tw_173 : (Cond.selects "java/lang/IllegalArgumentException" ⟨"java/lang/Throwable", "fillInStackTrace", "(I)Ljava/lang/Throwable;"⟩ ⟨"java/lang/Throwable", "fillInStackTrace", "(I)Ljava/lang/Throwable;"⟩ : Cond) ∈ TW := TW_t 173 (by decide +kernel) (by decide +kernel)
theorem tw_174 : (Cond.selects "java/lang/IllegalArgumentException" ⟨"java/lang/Throwable", "fillInStackTrace", "()Ljava/lang/Throwable;"⟩ ⟨"java/lang/Throwable", "fillInStackTrace", "()Ljava/lang/Throwable;"⟩ : Cond) ∈ TW := TW_t 174 (by decide +kernel) (by decide +kernel)
theorem tw_175 : (Cond.lays "java/lang/IllegalArgumentException" "java/lang/Throwable" "cause" "Ljava/lang/Throwable;" : Cond) ∈ TW := TW_t 175 (by decide +kernel) (by decide +kernel)
theorem tw_176 : (Cond.lays "java/lang/Throwable" "java/lang/Throwable" "cause" "Ljava/lang/Throwable;" : Cond) ∈ TW := TW_t 176 (by decide +kernel) (by decide +kernel)
theorem tw_177 : (Cond.lays "java/lang/IllegalArgumentException" "java/lang/Throwable" "stackTrace" "[Ljava/lang/StackTraceElement;" : Cond) ∈ TW := TW_t 177 (by decide +kernel) (by decide +kernel)
theorem tw_178 : (Cond.lays "java/lang/Throwable" "java/lang/Throwable" "stackTrace" "[Ljava/lang/StackTraceElement;" : Cond) ∈ TW := TW_t 178 (by decide +kernel) (by decide +kernel)
theorem tw_179 : (Cond.lays "java/lang/IllegalArgumentException" "java/lang/Throwable" "suppressedExceptions" "Ljava/util/List;" : Cond) ∈ TW := TW_t 179 (by decide +kernel) (by decide +kernel)
theorem tw_180 : (Cond.lays "java/lang/Throwable" "java/lang/Throwable" "suppressedExceptions" "Ljava/util/List;" : Cond) ∈ TW := TW_t 180 (by decide +kernel) (by decide +kernel)
theorem tw_181 : (Cond.lays "java/lang/IllegalArgumentException" "java/lang/Throwable" "detailMessage" "Ljava/lang/String;" : Cond) ∈ TW := TW_t 181 (by decide +kernel) (by decide +kernel)
theorem tw_182 : (Cond.lays "java/lang/Throwable" "java/lang/Throwable" "detailMessage" "Ljava/lang/String;" : Cond) ∈ TW := TW_t 182 (by decide +kernel) (by decide +kernel)
theorem tw_183 : (Cond.lays "java/lang/IllegalArgumentException" "java/lang/Throwable" "backtrace" "Ljava/lang/Object;" : Cond) ∈ TW := TW_t 183 (by decide +kernel) (by decide +kernel)
theorem tw_184 : (Cond.lays "java/lang/Throwable" "java/lang/Throwable" "backtrace" "Ljava/lang/Object;" : Cond) ∈ TW := TW_t 184 (by decide +kernel) (by decide +kernel)
theorem tw_185 : (Cond.fieldLink "java/lang/Throwable" 198 "java/lang/Throwable" "backtrace" "Ljava/lang/Object;" : Cond) ∈ TW := TW_t 185 (by decide +kernel) (by decide +kernel)
theorem tw_186 : (Cond.superclass "java/lang/Throwable" "java/lang/Object" : Cond) ∈ TW := TW_t 186 (by decide +kernel) (by decide +kernel)
theorem tw_187 : (Cond.instanceMethod ⟨"java/lang/Throwable", "<init>", "()V"⟩ : Cond) ∈ TW := TW_t 187 (by decide +kernel) (by decide +kernel)
set_option maxRecDepth 100000 in
theorem tw_188 : (Cond.code ⟨"java/lang/Throwable", "<init>", "()V"⟩ prog_12_method_1_code 1 none : Cond) ∈ TW := TW_t 188 rfl (by decide +kernel)
theorem tw_189 : (Cond.methodLink "java/lang/Throwable" 1 ⟨"java/lang/Object", "<init>", "()V"⟩ : Cond) ∈ TW := TW_t 189 (by decide +kernel) (by decide +kernel)
theorem tw_190 : (Cond.fieldLink "java/lang/Throwable" 13 "java/lang/Throwable" "UNASSIGNED_STACK" "[Ljava/lang/StackTraceElement;" : Cond) ∈ TW := TW_t 190 (by decide +kernel) (by decide +kernel)
theorem tw_192 : (Cond.fieldLink "java/lang/Throwable" 20 "java/lang/Throwable" "SUPPRESSED_SENTINEL" "Ljava/util/List;" : Cond) ∈ TW := TW_t 192 (by decide +kernel) (by decide +kernel)
theorem tw_194 : (Cond.methodLink "java/lang/Throwable" 27 ⟨"java/lang/Throwable", "fillInStackTrace", "()Ljava/lang/Throwable;"⟩ : Cond) ∈ TW := TW_t 194 (by decide +kernel) (by decide +kernel)
theorem tw_195 : (Cond.instanceMethod ⟨"java/lang/Throwable", "fillInStackTrace", "()Ljava/lang/Throwable;"⟩ : Cond) ∈ TW := TW_t 195 (by decide +kernel) (by decide +kernel)
theorem tw_196 : (Cond.sameMethod "java/lang/Throwable" "java/lang/Throwable" "fillInStackTrace" "()Ljava/lang/Throwable;" : Cond) ∈ TW := TW_t 196 (by decide +kernel) (by decide +kernel)
theorem tw_197 : (Cond.selects "java/util/NoSuchElementException" ⟨"java/lang/Throwable", "fillInStackTrace", "()Ljava/lang/Throwable;"⟩ ⟨"java/lang/Throwable", "fillInStackTrace", "()Ljava/lang/Throwable;"⟩ : Cond) ∈ TW := TW_t 197 (by decide +kernel) (by decide +kernel)
set_option maxRecDepth 100000 in
theorem tw_198 : (Cond.codeSync ⟨"java/lang/Throwable", "fillInStackTrace", "()Ljava/lang/Throwable;"⟩ prog_12_method_18_code 1 (some (.object "java/lang/Throwable")) : Cond) ∈ TW := TW_t 198 rfl (by decide +kernel)
theorem tw_199 : (Cond.methodLink "java/lang/Throwable" 202 ⟨"java/lang/Throwable", "fillInStackTrace", "(I)Ljava/lang/Throwable;"⟩ : Cond) ∈ TW := TW_t 199 (by decide +kernel) (by decide +kernel)
theorem tw_201 : (Cond.instanceMethod ⟨"java/lang/Throwable", "fillInStackTrace", "(I)Ljava/lang/Throwable;"⟩ : Cond) ∈ TW := TW_t 201 (by decide +kernel) (by decide +kernel)
theorem tw_202 : (Cond.instantiable "java/lang/Throwable" 6 : Cond) ∈ TW := TW_t 202 (by decide +kernel) (by decide +kernel)
theorem tw_203 : (Cond.native ⟨"java/lang/Throwable", "fillInStackTrace", "(I)Ljava/lang/Throwable;"⟩ : Cond) ∈ TW := TW_t 203 (by decide +kernel) (by decide +kernel)
theorem tw_204 : (Cond.methodLink "SiftedGraphs" 78 ⟨"java/lang/IllegalArgumentException", "<init>", "()V"⟩ : Cond) ∈ TW := TW_t 204 (by decide +kernel) (by decide +kernel)
theorem tw_205 : (Cond.instanceMethod ⟨"java/lang/IllegalArgumentException", "<init>", "()V"⟩ : Cond) ∈ TW := TW_t 205 (by decide +kernel) (by decide +kernel)
set_option maxRecDepth 100000 in
theorem tw_206 : (Cond.code ⟨"java/lang/IllegalArgumentException", "<init>", "()V"⟩ prog_9_method_1_code 1 none : Cond) ∈ TW := TW_t 206 rfl (by decide +kernel)
theorem tw_207 : (Cond.methodLink "java/lang/IllegalArgumentException" 1 ⟨"java/lang/RuntimeException", "<init>", "()V"⟩ : Cond) ∈ TW := TW_t 207 (by decide +kernel) (by decide +kernel)
theorem tw_208 : (Cond.instanceMethod ⟨"java/lang/RuntimeException", "<init>", "()V"⟩ : Cond) ∈ TW := TW_t 208 (by decide +kernel) (by decide +kernel)
set_option maxRecDepth 100000 in
theorem tw_209 : (Cond.code ⟨"java/lang/RuntimeException", "<init>", "()V"⟩ prog_11_method_1_code 1 none : Cond) ∈ TW := TW_t 209 rfl (by decide +kernel)
theorem tw_210 : (Cond.methodLink "java/lang/RuntimeException" 1 ⟨"java/lang/Exception", "<init>", "()V"⟩ : Cond) ∈ TW := TW_t 210 (by decide +kernel) (by decide +kernel)
theorem tw_211 : (Cond.instanceMethod ⟨"java/lang/Exception", "<init>", "()V"⟩ : Cond) ∈ TW := TW_t 211 (by decide +kernel) (by decide +kernel)
set_option maxRecDepth 100000 in
theorem tw_212 : (Cond.code ⟨"java/lang/Exception", "<init>", "()V"⟩ prog_8_method_1_code 1 none : Cond) ∈ TW := TW_t 212 rfl (by decide +kernel)
theorem tw_213 : (Cond.methodLink "java/lang/Exception" 1 ⟨"java/lang/Throwable", "<init>", "()V"⟩ : Cond) ∈ TW := TW_t 213 (by decide +kernel) (by decide +kernel)
theorem tw_215 : (Cond.fieldLink "java/lang/Throwable" 7 "java/lang/Throwable" "cause" "Ljava/lang/Throwable;" : Cond) ∈ TW := TW_t 215 (by decide +kernel) (by decide +kernel)
theorem tw_216 : (Cond.fieldLink "java/lang/Throwable" 17 "java/lang/Throwable" "stackTrace" "[Ljava/lang/StackTraceElement;" : Cond) ∈ TW := TW_t 216 (by decide +kernel) (by decide +kernel)
theorem tw_217 : (Cond.fieldLink "java/lang/Throwable" 24 "java/lang/Throwable" "suppressedExceptions" "Ljava/util/List;" : Cond) ∈ TW := TW_t 217 (by decide +kernel) (by decide +kernel)
theorem tw_218 : (Cond.soleField "java/lang/Throwable" "backtrace" : Cond) ∈ TW := TW_t 218 (by decide +kernel) (by decide +kernel)
theorem tw_219 : (Cond.soleField "java/lang/Throwable" "detailMessage" : Cond) ∈ TW := TW_t 219 (by decide +kernel) (by decide +kernel)
theorem tw_220 : (Cond.soleField "java/lang/Throwable" "cause" : Cond) ∈ TW := TW_t 220 (by decide +kernel) (by decide +kernel)
theorem tw_221 : (Cond.soleField "java/lang/Throwable" "stackTrace" : Cond) ∈ TW := TW_t 221 (by decide +kernel) (by decide +kernel)
theorem tw_222 : (Cond.lays "java/lang/IllegalArgumentException" "java/lang/Throwable" "depth" "I" : Cond) ∈ TW := TW_t 222 (by decide +kernel) (by decide +kernel)
theorem tw_223 : (Cond.soleField "java/lang/Throwable" "depth" : Cond) ∈ TW := TW_t 223 (by decide +kernel) (by decide +kernel)
theorem tw_224 : (Cond.soleField "java/lang/Throwable" "suppressedExceptions" : Cond) ∈ TW := TW_t 224 (by decide +kernel) (by decide +kernel)
theorem tw_225 : (Cond.superclass "java/lang/IllegalArgumentException" "java/lang/RuntimeException" : Cond) ∈ TW := TW_t 225 (by decide +kernel) (by decide +kernel)
theorem tw_226 : (Cond.methodLink "SiftedGraphs" 48 y_TB_ofVariable : Cond) ∈ TW := TW_t 226 (by decide +kernel) (by decide +kernel)
theorem tw_227 : (Cond.static y_TB_ofVariable : Cond) ∈ TW := TW_t 227 (by decide +kernel) (by decide +kernel)
set_option maxRecDepth 100000 in
theorem tw_228 : (Cond.code y_TB_ofVariable prog_5_method_2_code 1 (some .long) : Cond) ∈ TW := TW_t 228 rfl (by decide +kernel)
theorem tw_229 : (Cond.constantLong "SiftedGraphs" 52 (-1) : Cond) ∈ TW := TW_t 229 (by decide +kernel) (by decide +kernel)
theorem tw_230 : (Cond.methodLink "SiftedGraphs" 54 y_RG_put : Cond) ∈ TW := TW_t 230 (by decide +kernel) (by decide +kernel)
theorem tw_231 : (Cond.instanceMethod y_RG_put : Cond) ∈ TW := TW_t 231 (by decide +kernel) (by decide +kernel)
theorem tw_232 : (Cond.selects "SiftedGraphs$Registers" y_RG_put y_RG_put : Cond) ∈ TW := TW_t 232 (by decide +kernel) (by decide +kernel)
set_option maxRecDepth 100000 in
theorem tw_233 : (Cond.code y_RG_put prog_4_method_4_code 4 none : Cond) ∈ TW := TW_t 233 rfl (by decide +kernel)
theorem tw_234 : (Cond.methodLink "SiftedGraphsLaw" 91 y_LW_apply : Cond) ∈ TW := TW_t 234 (by decide +kernel) (by decide +kernel)
theorem tw_235 : (Cond.static y_LW_apply : Cond) ∈ TW := TW_t 235 (by decide +kernel) (by decide +kernel)
set_option maxRecDepth 100000 in
theorem tw_236 : (Cond.codeWith y_LW_apply method_4_code 6 (some .int) [(0, 9, 12, 13), (0, 9, 16, 19)] : Cond) ∈ TW := TW_t 236 rfl (by decide +kernel)
theorem tw_237 : (Cond.classLink "SiftedGraphsLaw" 19 "java/util/NoSuchElementException" : Cond) ∈ TW := TW_t 237 (by decide +kernel) (by decide +kernel)
theorem tw_238 : (Cond.methodLink "SiftedGraphsLaw" 15 y_SG_apply : Cond) ∈ TW := TW_t 238 (by decide +kernel) (by decide +kernel)
theorem tw_239 : (Cond.instanceMethod y_SG_apply : Cond) ∈ TW := TW_t 239 (by decide +kernel) (by decide +kernel)
theorem tw_240 : (Cond.selects "SiftedGraphs" y_SG_apply y_SG_apply : Cond) ∈ TW := TW_t 240 (by decide +kernel) (by decide +kernel)
set_option maxRecDepth 100000 in
theorem tw_241 : (Cond.code y_SG_apply prog_1_method_3_code 5 none : Cond) ∈ TW := TW_t 241 rfl (by decide +kernel)
theorem tw_242 : (Cond.methodLink "SiftedGraphs" 58 y_SG_look : Cond) ∈ TW := TW_t 242 (by decide +kernel) (by decide +kernel)
theorem tw_244 : (Cond.instanceMethod y_SG_look : Cond) ∈ TW := TW_t 244 (by decide +kernel) (by decide +kernel)
set_option maxRecDepth 100000 in
theorem tw_245 : (Cond.code y_SG_look prog_1_method_23_code 2 (some .long) : Cond) ∈ TW := TW_t 245 rfl (by decide +kernel)
theorem tw_246 : (Cond.classLink "SiftedGraphs" 138 "java/util/NoSuchElementException" : Cond) ∈ TW := TW_t 246 (by decide +kernel) (by decide +kernel)
theorem tw_247 : (Cond.instantiable "java/util/NoSuchElementException" 6 : Cond) ∈ TW := TW_t 247 (by decide +kernel) (by decide +kernel)
theorem tw_249 : (Cond.selects "java/util/NoSuchElementException" ⟨"java/lang/Throwable", "fillInStackTrace", "(I)Ljava/lang/Throwable;"⟩ ⟨"java/lang/Throwable", "fillInStackTrace", "(I)Ljava/lang/Throwable;"⟩ : Cond) ∈ TW := TW_t 249 (by decide +kernel) (by decide +kernel)
theorem tw_250 : (Cond.lays "java/util/NoSuchElementException" "java/lang/Throwable" "cause" "Ljava/lang/Throwable;" : Cond) ∈ TW := TW_t 250 (by decide +kernel) (by decide +kernel)
theorem tw_251 : (Cond.lays "java/util/NoSuchElementException" "java/lang/Throwable" "stackTrace" "[Ljava/lang/StackTraceElement;" : Cond) ∈ TW := TW_t 251 (by decide +kernel) (by decide +kernel)
theorem tw_252 : (Cond.lays "java/util/NoSuchElementException" "java/lang/Throwable" "suppressedExceptions" "Ljava/util/List;" : Cond) ∈ TW := TW_t 252 (by decide +kernel) (by decide +kernel)
theorem tw_253 : (Cond.lays "java/util/NoSuchElementException" "java/lang/Throwable" "detailMessage" "Ljava/lang/String;" : Cond) ∈ TW := TW_t 253 (by decide +kernel) (by decide +kernel)
theorem tw_254 : (Cond.lays "java/util/NoSuchElementException" "java/lang/Throwable" "backtrace" "Ljava/lang/Object;" : Cond) ∈ TW := TW_t 254 (by decide +kernel) (by decide +kernel)
theorem tw_255 : (Cond.methodLink "SiftedGraphs" 140 ⟨"java/util/NoSuchElementException", "<init>", "()V"⟩ : Cond) ∈ TW := TW_t 255 (by decide +kernel) (by decide +kernel)
theorem tw_256 : (Cond.instanceMethod ⟨"java/util/NoSuchElementException", "<init>", "()V"⟩ : Cond) ∈ TW := TW_t 256 (by decide +kernel) (by decide +kernel)
set_option maxRecDepth 100000 in
theorem tw_257 : (Cond.code ⟨"java/util/NoSuchElementException", "<init>", "()V"⟩ prog_13_method_1_code 1 none : Cond) ∈ TW := TW_t 257 rfl (by decide +kernel)
theorem tw_258 : (Cond.methodLink "java/util/NoSuchElementException" 1 ⟨"java/lang/RuntimeException", "<init>", "()V"⟩ : Cond) ∈ TW := TW_t 258 (by decide +kernel) (by decide +kernel)
theorem tw_259 : (Cond.lays "java/util/NoSuchElementException" "java/lang/Throwable" "depth" "I" : Cond) ∈ TW := TW_t 259 (by decide +kernel) (by decide +kernel)
theorem tw_260 : (Cond.superclass "java/util/NoSuchElementException" "java/lang/RuntimeException" : Cond) ∈ TW := TW_t 260 (by decide +kernel) (by decide +kernel)
theorem tw_261 : (Cond.methodLink "SiftedGraphs" 61 y_TB_connected : Cond) ∈ TW := TW_t 261 (by decide +kernel) (by decide +kernel)
theorem tw_262 : (Cond.static y_TB_connected : Cond) ∈ TW := TW_t 262 (by decide +kernel) (by decide +kernel)
set_option maxRecDepth 100000 in
theorem tw_263 : (Cond.code y_TB_connected prog_5_method_4_code 7 (some .long) : Cond) ∈ TW := TW_t 263 rfl (by decide +kernel)
theorem tw_264 : (Cond.methodLink "SiftedGraphsLaw" 95 y_LW_choose : Cond) ∈ TW := TW_t 264 (by decide +kernel) (by decide +kernel)
theorem tw_265 : (Cond.static y_LW_choose : Cond) ∈ TW := TW_t 265 (by decide +kernel) (by decide +kernel)
set_option maxRecDepth 100000 in
theorem tw_266 : (Cond.codeWith y_LW_choose method_5_code 6 (some .int) [(0, 9, 12, 13), (0, 9, 16, 19)] : Cond) ∈ TW := TW_t 266 rfl (by decide +kernel)
theorem tw_267 : (Cond.methodLink "SiftedGraphsLaw" 21 y_SG_choose : Cond) ∈ TW := TW_t 267 (by decide +kernel) (by decide +kernel)
theorem tw_268 : (Cond.instanceMethod y_SG_choose : Cond) ∈ TW := TW_t 268 (by decide +kernel) (by decide +kernel)
theorem tw_269 : (Cond.selects "SiftedGraphs" y_SG_choose y_SG_choose : Cond) ∈ TW := TW_t 269 (by decide +kernel) (by decide +kernel)
set_option maxRecDepth 100000 in
theorem tw_270 : (Cond.code y_SG_choose prog_1_method_4_code 5 none : Cond) ∈ TW := TW_t 270 rfl (by decide +kernel)
theorem tw_271 : (Cond.methodLink "SiftedGraphs" 65 y_TB_chosen : Cond) ∈ TW := TW_t 271 (by decide +kernel) (by decide +kernel)
theorem tw_272 : (Cond.static y_TB_chosen : Cond) ∈ TW := TW_t 272 (by decide +kernel) (by decide +kernel)
set_option maxRecDepth 100000 in
theorem tw_273 : (Cond.code y_TB_chosen prog_5_method_5_code 6 (some .long) : Cond) ∈ TW := TW_t 273 rfl (by decide +kernel)
theorem tw_274 : (Cond.methodLink "SiftedGraphsLaw" 98 y_LW_restrict : Cond) ∈ TW := TW_t 274 (by decide +kernel) (by decide +kernel)
theorem tw_275 : (Cond.static y_LW_restrict : Cond) ∈ TW := TW_t 275 (by decide +kernel) (by decide +kernel)
set_option maxRecDepth 100000 in
theorem tw_276 : (Cond.codeWith y_LW_restrict method_6_code 6 (some .int) [(0, 9, 12, 13), (0, 9, 16, 19)] : Cond) ∈ TW := TW_t 276 rfl (by decide +kernel)
theorem tw_277 : (Cond.methodLink "SiftedGraphsLaw" 24 y_SG_restrict : Cond) ∈ TW := TW_t 277 (by decide +kernel) (by decide +kernel)
theorem tw_278 : (Cond.instanceMethod y_SG_restrict : Cond) ∈ TW := TW_t 278 (by decide +kernel) (by decide +kernel)
theorem tw_279 : (Cond.selects "SiftedGraphs" y_SG_restrict y_SG_restrict : Cond) ∈ TW := TW_t 279 (by decide +kernel) (by decide +kernel)
set_option maxRecDepth 100000 in
theorem tw_280 : (Cond.code y_SG_restrict prog_1_method_5_code 7 none : Cond) ∈ TW := TW_t 280 rfl (by decide +kernel)
theorem tw_281 : (Cond.methodLink "SiftedGraphs" 69 y_TB_withOne : Cond) ∈ TW := TW_t 281 (by decide +kernel) (by decide +kernel)
theorem tw_282 : (Cond.methodLink "SiftedGraphs" 73 y_TB_withZero : Cond) ∈ TW := TW_t 282 (by decide +kernel) (by decide +kernel)
theorem tw_283 : (Cond.methodLink "SiftedGraphsLaw" 102 y_LW_compose : Cond) ∈ TW := TW_t 283 (by decide +kernel) (by decide +kernel)
theorem tw_284 : (Cond.static y_LW_compose : Cond) ∈ TW := TW_t 284 (by decide +kernel) (by decide +kernel)
set_option maxRecDepth 100000 in
theorem tw_285 : (Cond.codeWith y_LW_compose method_7_code 6 (some .int) [(0, 9, 12, 13), (0, 9, 16, 19)] : Cond) ∈ TW := TW_t 285 rfl (by decide +kernel)
theorem tw_286 : (Cond.methodLink "SiftedGraphsLaw" 28 y_SG_compose : Cond) ∈ TW := TW_t 286 (by decide +kernel) (by decide +kernel)
theorem tw_287 : (Cond.instanceMethod y_SG_compose : Cond) ∈ TW := TW_t 287 (by decide +kernel) (by decide +kernel)
theorem tw_288 : (Cond.selects "SiftedGraphs" y_SG_compose y_SG_compose : Cond) ∈ TW := TW_t 288 (by decide +kernel) (by decide +kernel)
set_option maxRecDepth 100000 in
theorem tw_289 : (Cond.code y_SG_compose prog_1_method_6_code 9 none : Cond) ∈ TW := TW_t 289 rfl (by decide +kernel)
theorem tw_290 : (Cond.methodLink "SiftedGraphsLaw" 105 y_LW_quantify : Cond) ∈ TW := TW_t 290 (by decide +kernel) (by decide +kernel)
theorem tw_291 : (Cond.static y_LW_quantify : Cond) ∈ TW := TW_t 291 (by decide +kernel) (by decide +kernel)
set_option maxRecDepth 100000 in
theorem tw_292 : (Cond.codeWith y_LW_quantify method_8_code 6 (some .int) [(0, 9, 12, 13), (0, 9, 16, 19)] : Cond) ∈ TW := TW_t 292 rfl (by decide +kernel)
theorem tw_293 : (Cond.methodLink "SiftedGraphsLaw" 31 y_SG_quantify : Cond) ∈ TW := TW_t 293 (by decide +kernel) (by decide +kernel)
theorem tw_294 : (Cond.instanceMethod y_SG_quantify : Cond) ∈ TW := TW_t 294 (by decide +kernel) (by decide +kernel)
theorem tw_295 : (Cond.selects "SiftedGraphs" y_SG_quantify y_SG_quantify : Cond) ∈ TW := TW_t 295 (by decide +kernel) (by decide +kernel)
set_option maxRecDepth 100000 in
theorem tw_296 : (Cond.code y_SG_quantify prog_1_method_7_code 12 none : Cond) ∈ TW := TW_t 296 rfl (by decide +kernel)
theorem tw_297 : (Cond.methodLink "SiftedGraphsLaw" 110 y_LW_type : Cond) ∈ TW := TW_t 297 (by decide +kernel) (by decide +kernel)
theorem tw_298 : (Cond.static y_LW_type : Cond) ∈ TW := TW_t 298 (by decide +kernel) (by decide +kernel)
set_option maxRecDepth 100000 in
theorem tw_299 : (Cond.codeWith y_LW_type method_9_code 6 (some .int) [(0, 11, 14, 13)] : Cond) ∈ TW := TW_t 299 rfl (by decide +kernel)
theorem tw_300 : (Cond.methodLink "SiftedGraphsLaw" 34 y_SG_type : Cond) ∈ TW := TW_t 300 (by decide +kernel) (by decide +kernel)
theorem tw_301 : (Cond.instanceMethod y_SG_type : Cond) ∈ TW := TW_t 301 (by decide +kernel) (by decide +kernel)
theorem tw_302 : (Cond.selects "SiftedGraphs" y_SG_type y_SG_type : Cond) ∈ TW := TW_t 302 (by decide +kernel) (by decide +kernel)
set_option maxRecDepth 100000 in
theorem tw_303 : (Cond.code y_SG_type prog_1_method_8_code 5 (some .int) : Cond) ∈ TW := TW_t 303 rfl (by decide +kernel)
theorem tw_304 : (Cond.constantLong "SiftedGraphs" 79 255 : Cond) ∈ TW := TW_t 304 (by decide +kernel) (by decide +kernel)
theorem tw_305 : (Cond.methodLink "SiftedGraphsLaw" 114 y_LW_read : Cond) ∈ TW := TW_t 305 (by decide +kernel) (by decide +kernel)
theorem tw_306 : (Cond.static y_LW_read : Cond) ∈ TW := TW_t 306 (by decide +kernel) (by decide +kernel)
set_option maxRecDepth 100000 in
theorem tw_307 : (Cond.codeWith y_LW_read method_10_code 4 (some .int) [(0, 9, 12, 13)] : Cond) ∈ TW := TW_t 307 rfl (by decide +kernel)
theorem tw_308 : (Cond.methodLink "SiftedGraphsLaw" 38 y_SG_read : Cond) ∈ TW := TW_t 308 (by decide +kernel) (by decide +kernel)
theorem tw_309 : (Cond.instanceMethod y_SG_read : Cond) ∈ TW := TW_t 309 (by decide +kernel) (by decide +kernel)
theorem tw_310 : (Cond.selects "SiftedGraphs" y_SG_read y_SG_read : Cond) ∈ TW := TW_t 310 (by decide +kernel) (by decide +kernel)
set_option maxRecDepth 100000 in
theorem tw_311 : (Cond.code y_SG_read prog_1_method_9_code 3 (some .int) : Cond) ∈ TW := TW_t 311 rfl (by decide +kernel)
theorem tw_312 : (Cond.methodLink "SiftedGraphs" 81 y_FR_failurePlace : Cond) ∈ TW := TW_t 312 (by decide +kernel) (by decide +kernel)
theorem tw_313 : (Cond.instanceMethod y_FR_failurePlace : Cond) ∈ TW := TW_t 313 (by decide +kernel) (by decide +kernel)
theorem tw_314 : (Cond.selects "SiftedGraphs$FormulaReader" y_FR_failurePlace y_FR_failurePlace : Cond) ∈ TW := TW_t 314 (by decide +kernel) (by decide +kernel)
set_option maxRecDepth 100000 in
theorem tw_315 : (Cond.code y_FR_failurePlace prog_2_method_2_code 7 (some .int) : Cond) ∈ TW := TW_t 315 rfl (by decide +kernel)
theorem tw_316 : (Cond.methodLink "SiftedGraphs$FormulaReader" 28 y_FR_beginFormula : Cond) ∈ TW := TW_t 316 (by decide +kernel) (by decide +kernel)
theorem tw_318 : (Cond.instanceMethod y_FR_beginFormula : Cond) ∈ TW := TW_t 318 (by decide +kernel) (by decide +kernel)
set_option maxRecDepth 100000 in
theorem tw_319 : (Cond.code y_FR_beginFormula prog_2_method_4_code 1 none : Cond) ∈ TW := TW_t 319 rfl (by decide +kernel)
theorem tw_320 : (Cond.constantLong "SiftedGraphs$FormulaReader" 45 (-1) : Cond) ∈ TW := TW_t 320 (by decide +kernel) (by decide +kernel)
theorem tw_321 : (Cond.methodLink "SiftedGraphs$FormulaReader" 47 y_FR_beginFactor : Cond) ∈ TW := TW_t 321 (by decide +kernel) (by decide +kernel)
theorem tw_323 : (Cond.instanceMethod y_FR_beginFactor : Cond) ∈ TW := TW_t 323 (by decide +kernel) (by decide +kernel)
set_option maxRecDepth 100000 in
theorem tw_324 : (Cond.code y_FR_beginFactor prog_2_method_5_code 1 none : Cond) ∈ TW := TW_t 324 rfl (by decide +kernel)
theorem tw_325 : (Cond.methodLink "SiftedGraphs$FormulaReader" 35 y_FR_takeInOperand : Cond) ∈ TW := TW_t 325 (by decide +kernel) (by decide +kernel)
theorem tw_327 : (Cond.instanceMethod y_FR_takeInOperand : Cond) ∈ TW := TW_t 327 (by decide +kernel) (by decide +kernel)
set_option maxRecDepth 100000 in
theorem tw_328 : (Cond.code y_FR_takeInOperand prog_2_method_6_code 3 (some .boolean) : Cond) ∈ TW := TW_t 328 rfl (by decide +kernel)
theorem tw_329 : (Cond.methodLink "SiftedGraphs$FormulaReader" 50 y_FR_openParenthesis : Cond) ∈ TW := TW_t 329 (by decide +kernel) (by decide +kernel)
theorem tw_331 : (Cond.instanceMethod y_FR_openParenthesis : Cond) ∈ TW := TW_t 331 (by decide +kernel) (by decide +kernel)
set_option maxRecDepth 100000 in
theorem tw_332 : (Cond.code y_FR_openParenthesis prog_2_method_9_code 1 (some .boolean) : Cond) ∈ TW := TW_t 332 rfl (by decide +kernel)
theorem tw_333 : (Cond.methodLink "SiftedGraphs$FormulaReader" 54 y_FR_endFactor : Cond) ∈ TW := TW_t 333 (by decide +kernel) (by decide +kernel)
theorem tw_335 : (Cond.instanceMethod y_FR_endFactor : Cond) ∈ TW := TW_t 335 (by decide +kernel) (by decide +kernel)
set_option maxRecDepth 100000 in
theorem tw_336 : (Cond.code y_FR_endFactor prog_2_method_8_code 3 none : Cond) ∈ TW := TW_t 336 rfl (by decide +kernel)
theorem tw_337 : (Cond.methodLink "SiftedGraphs$FormulaReader" 58 y_TB_ofVariable : Cond) ∈ TW := TW_t 337 (by decide +kernel) (by decide +kernel)
theorem tw_338 : (Cond.methodLink "SiftedGraphs$FormulaReader" 62 y_RG_isHeld : Cond) ∈ TW := TW_t 338 (by decide +kernel) (by decide +kernel)
theorem tw_339 : (Cond.methodLink "SiftedGraphs$FormulaReader" 68 y_RG_table : Cond) ∈ TW := TW_t 339 (by decide +kernel) (by decide +kernel)
theorem tw_340 : (Cond.methodLink "SiftedGraphs$FormulaReader" 39 y_FR_takeBehindOperand : Cond) ∈ TW := TW_t 340 (by decide +kernel) (by decide +kernel)
theorem tw_342 : (Cond.instanceMethod y_FR_takeBehindOperand : Cond) ∈ TW := TW_t 342 (by decide +kernel) (by decide +kernel)
set_option maxRecDepth 100000 in
theorem tw_343 : (Cond.code y_FR_takeBehindOperand prog_2_method_7_code 2 (some .boolean) : Cond) ∈ TW := TW_t 343 rfl (by decide +kernel)
theorem tw_344 : (Cond.methodLink "SiftedGraphs$FormulaReader" 71 y_FR_meaning : Cond) ∈ TW := TW_t 344 (by decide +kernel) (by decide +kernel)
theorem tw_345 : (Cond.instanceMethod y_FR_meaning : Cond) ∈ TW := TW_t 345 (by decide +kernel) (by decide +kernel)
theorem tw_346 : (Cond.selects "SiftedGraphs$FormulaReader" y_FR_meaning y_FR_meaning : Cond) ∈ TW := TW_t 346 (by decide +kernel) (by decide +kernel)
set_option maxRecDepth 100000 in
theorem tw_347 : (Cond.code y_FR_meaning prog_2_method_3_code 1 (some .long) : Cond) ∈ TW := TW_t 347 rfl (by decide +kernel)
theorem tw_348 : (Cond.methodLink "SiftedGraphs$FormulaReader" 75 y_FR_closeParenthesis : Cond) ∈ TW := TW_t 348 (by decide +kernel) (by decide +kernel)
theorem tw_350 : (Cond.instanceMethod y_FR_closeParenthesis : Cond) ∈ TW := TW_t 350 (by decide +kernel) (by decide +kernel)
set_option maxRecDepth 100000 in
theorem tw_351 : (Cond.code y_FR_closeParenthesis prog_2_method_10_code 3 (some .boolean) : Cond) ∈ TW := TW_t 351 rfl (by decide +kernel)
theorem tw_352 : (Cond.methodLink "SiftedGraphs" 85 y_FR_meaning : Cond) ∈ TW := TW_t 352 (by decide +kernel) (by decide +kernel)
theorem tw_353 : (Cond.methodLink "SiftedGraphsLaw" 118 y_LW_release : Cond) ∈ TW := TW_t 353 (by decide +kernel) (by decide +kernel)
theorem tw_354 : (Cond.static y_LW_release : Cond) ∈ TW := TW_t 354 (by decide +kernel) (by decide +kernel)
set_option maxRecDepth 100000 in
theorem tw_355 : (Cond.codeWith y_LW_release method_11_code 4 (some .int) [(0, 16, 19, 13)] : Cond) ∈ TW := TW_t 355 rfl (by decide +kernel)
theorem tw_356 : (Cond.methodLink "SiftedGraphsLaw" 42 y_SG_release : Cond) ∈ TW := TW_t 356 (by decide +kernel) (by decide +kernel)
theorem tw_357 : (Cond.instanceMethod y_SG_release : Cond) ∈ TW := TW_t 357 (by decide +kernel) (by decide +kernel)
theorem tw_358 : (Cond.selects "SiftedGraphs" y_SG_release y_SG_release : Cond) ∈ TW := TW_t 358 (by decide +kernel) (by decide +kernel)
set_option maxRecDepth 100000 in
theorem tw_359 : (Cond.code y_SG_release prog_1_method_10_code 3 (some .boolean) : Cond) ∈ TW := TW_t 359 rfl (by decide +kernel)
theorem tw_360 : (Cond.methodLink "SiftedGraphs" 93 y_RG_clear : Cond) ∈ TW := TW_t 360 (by decide +kernel) (by decide +kernel)
theorem tw_361 : (Cond.instanceMethod y_RG_clear : Cond) ∈ TW := TW_t 361 (by decide +kernel) (by decide +kernel)
theorem tw_362 : (Cond.selects "SiftedGraphs$Registers" y_RG_clear y_RG_clear : Cond) ∈ TW := TW_t 362 (by decide +kernel) (by decide +kernel)
set_option maxRecDepth 100000 in
theorem tw_363 : (Cond.code y_RG_clear prog_4_method_5_code 2 none : Cond) ∈ TW := TW_t 363 rfl (by decide +kernel)
theorem tw_364 : (Cond.methodLink "SiftedGraphsLaw" 121 y_LW_equal : Cond) ∈ TW := TW_t 364 (by decide +kernel) (by decide +kernel)
theorem tw_365 : (Cond.static y_LW_equal : Cond) ∈ TW := TW_t 365 (by decide +kernel) (by decide +kernel)
set_option maxRecDepth 100000 in
theorem tw_366 : (Cond.codeWith y_LW_equal method_12_code 5 (some .int) [(0, 17, 20, 13), (0, 17, 24, 19)] : Cond) ∈ TW := TW_t 366 rfl (by decide +kernel)
theorem tw_367 : (Cond.methodLink "SiftedGraphsLaw" 46 y_SG_equal : Cond) ∈ TW := TW_t 367 (by decide +kernel) (by decide +kernel)
theorem tw_368 : (Cond.instanceMethod y_SG_equal : Cond) ∈ TW := TW_t 368 (by decide +kernel) (by decide +kernel)
theorem tw_369 : (Cond.selects "SiftedGraphs" y_SG_equal y_SG_equal : Cond) ∈ TW := TW_t 369 (by decide +kernel) (by decide +kernel)
set_option maxRecDepth 100000 in
theorem tw_370 : (Cond.code y_SG_equal prog_1_method_11_code 3 (some .boolean) : Cond) ∈ TW := TW_t 370 rfl (by decide +kernel)
theorem tw_371 : (Cond.methodLink "SiftedGraphsLaw" 125 y_LW_value : Cond) ∈ TW := TW_t 371 (by decide +kernel) (by decide +kernel)
theorem tw_372 : (Cond.static y_LW_value : Cond) ∈ TW := TW_t 372 (by decide +kernel) (by decide +kernel)
set_option maxRecDepth 100000 in
theorem tw_373 : (Cond.codeWith y_LW_value method_13_code 5 (some .int) [(0, 17, 20, 13), (0, 17, 24, 19)] : Cond) ∈ TW := TW_t 373 rfl (by decide +kernel)
theorem tw_374 : (Cond.methodLink "SiftedGraphsLaw" 50 y_SG_value : Cond) ∈ TW := TW_t 374 (by decide +kernel) (by decide +kernel)
theorem tw_375 : (Cond.instanceMethod y_SG_value : Cond) ∈ TW := TW_t 375 (by decide +kernel) (by decide +kernel)
theorem tw_376 : (Cond.selects "SiftedGraphs" y_SG_value y_SG_value : Cond) ∈ TW := TW_t 376 (by decide +kernel) (by decide +kernel)
set_option maxRecDepth 100000 in
theorem tw_377 : (Cond.code y_SG_value prog_1_method_12_code 3 (some .boolean) : Cond) ∈ TW := TW_t 377 rfl (by decide +kernel)
theorem tw_378 : (Cond.methodLink "SiftedGraphs" 97 y_TB_at : Cond) ∈ TW := TW_t 378 (by decide +kernel) (by decide +kernel)
theorem tw_379 : (Cond.static y_TB_at : Cond) ∈ TW := TW_t 379 (by decide +kernel) (by decide +kernel)
set_option maxRecDepth 100000 in
theorem tw_380 : (Cond.code y_TB_at prog_5_method_3_code 3 (some .boolean) : Cond) ∈ TW := TW_t 380 rfl (by decide +kernel)
theorem tw_381 : (Cond.methodLink "SiftedGraphsLaw" 128 y_LW_count : Cond) ∈ TW := TW_t 381 (by decide +kernel) (by decide +kernel)
theorem tw_382 : (Cond.static y_LW_count : Cond) ∈ TW := TW_t 382 (by decide +kernel) (by decide +kernel)
set_option maxRecDepth 100000 in
theorem tw_383 : (Cond.codeWith y_LW_count method_14_code 4 (some .int) [(0, 9, 12, 13), (0, 9, 15, 19)] : Cond) ∈ TW := TW_t 383 rfl (by decide +kernel)
theorem tw_384 : (Cond.methodLink "SiftedGraphsLaw" 53 y_SG_count : Cond) ∈ TW := TW_t 384 (by decide +kernel) (by decide +kernel)
theorem tw_385 : (Cond.instanceMethod y_SG_count : Cond) ∈ TW := TW_t 385 (by decide +kernel) (by decide +kernel)
theorem tw_386 : (Cond.selects "SiftedGraphs" y_SG_count y_SG_count : Cond) ∈ TW := TW_t 386 (by decide +kernel) (by decide +kernel)
set_option maxRecDepth 100000 in
theorem tw_387 : (Cond.code y_SG_count prog_1_method_13_code 2 (some .int) : Cond) ∈ TW := TW_t 387 rfl (by decide +kernel)
theorem tw_388 : (Cond.methodLink "SiftedGraphs" 101 y_JL_bitCount : Cond) ∈ TW := TW_t 388 (by decide +kernel) (by decide +kernel)
theorem tw_389 : (Cond.static y_JL_bitCount : Cond) ∈ TW := TW_t 389 (by decide +kernel) (by decide +kernel)
set_option maxRecDepth 100000 in
theorem tw_390 : (Cond.code y_JL_bitCount prog_10_method_50_code 2 (some .int) : Cond) ∈ TW := TW_t 390 rfl (by decide +kernel)
theorem tw_391 : (Cond.constantLong "java/lang/Long" 314 6148914691236517205 : Cond) ∈ TW := TW_t 391 (by decide +kernel) (by decide +kernel)
theorem tw_392 : (Cond.constantLong "java/lang/Long" 316 3689348814741910323 : Cond) ∈ TW := TW_t 392 (by decide +kernel) (by decide +kernel)
theorem tw_393 : (Cond.constantLong "java/lang/Long" 318 1085102592571150095 : Cond) ∈ TW := TW_t 393 (by decide +kernel) (by decide +kernel)
theorem tw_394 : (Cond.methodLink "SiftedGraphsLaw" 131 y_LW_least : Cond) ∈ TW := TW_t 394 (by decide +kernel) (by decide +kernel)
theorem tw_395 : (Cond.static y_LW_least : Cond) ∈ TW := TW_t 395 (by decide +kernel) (by decide +kernel)
set_option maxRecDepth 100000 in
theorem tw_396 : (Cond.codeWith y_LW_least method_15_code 4 (some .int) [(0, 9, 12, 13), (0, 9, 15, 19)] : Cond) ∈ TW := TW_t 396 rfl (by decide +kernel)
theorem tw_397 : (Cond.methodLink "SiftedGraphsLaw" 56 y_SG_least : Cond) ∈ TW := TW_t 397 (by decide +kernel) (by decide +kernel)
theorem tw_398 : (Cond.instanceMethod y_SG_least : Cond) ∈ TW := TW_t 398 (by decide +kernel) (by decide +kernel)
theorem tw_399 : (Cond.selects "SiftedGraphs" y_SG_least y_SG_least : Cond) ∈ TW := TW_t 399 (by decide +kernel) (by decide +kernel)
set_option maxRecDepth 100000 in
theorem tw_400 : (Cond.code y_SG_least prog_1_method_14_code 5 (some .int) : Cond) ∈ TW := TW_t 400 rfl (by decide +kernel)
theorem tw_401 : (Cond.methodLink "SiftedGraphsLaw" 134 y_LW_support : Cond) ∈ TW := TW_t 401 (by decide +kernel) (by decide +kernel)
theorem tw_402 : (Cond.static y_LW_support : Cond) ∈ TW := TW_t 402 (by decide +kernel) (by decide +kernel)
set_option maxRecDepth 100000 in
theorem tw_403 : (Cond.codeWith y_LW_support method_16_code 4 (some .int) [(0, 9, 12, 13), (0, 9, 15, 19)] : Cond) ∈ TW := TW_t 403 rfl (by decide +kernel)
theorem tw_404 : (Cond.methodLink "SiftedGraphsLaw" 59 y_SG_support : Cond) ∈ TW := TW_t 404 (by decide +kernel) (by decide +kernel)
theorem tw_405 : (Cond.instanceMethod y_SG_support : Cond) ∈ TW := TW_t 405 (by decide +kernel) (by decide +kernel)
theorem tw_406 : (Cond.selects "SiftedGraphs" y_SG_support y_SG_support : Cond) ∈ TW := TW_t 406 (by decide +kernel) (by decide +kernel)
set_option maxRecDepth 100000 in
theorem tw_407 : (Cond.code y_SG_support prog_1_method_15_code 6 (some .int) : Cond) ∈ TW := TW_t 407 rfl (by decide +kernel)
theorem tw_408 : (Cond.methodLink "SiftedGraphs" 107 y_TB_dependsOn : Cond) ∈ TW := TW_t 408 (by decide +kernel) (by decide +kernel)
theorem tw_409 : (Cond.static y_TB_dependsOn : Cond) ∈ TW := TW_t 409 (by decide +kernel) (by decide +kernel)
set_option maxRecDepth 100000 in
theorem tw_410 : (Cond.code y_TB_dependsOn prog_5_method_8_code 3 (some .boolean) : Cond) ∈ TW := TW_t 410 rfl (by decide +kernel)
theorem tw_411 : (Cond.methodLink "SiftedGraphs$Tables" 21 y_TB_withOne : Cond) ∈ TW := TW_t 411 (by decide +kernel) (by decide +kernel)
theorem tw_412 : (Cond.methodLink "SiftedGraphs$Tables" 25 y_TB_withZero : Cond) ∈ TW := TW_t 412 (by decide +kernel) (by decide +kernel)
theorem tw_413 : (Cond.methodLink "SiftedGraphsLaw" 137 y_LW_size : Cond) ∈ TW := TW_t 413 (by decide +kernel) (by decide +kernel)
theorem tw_414 : (Cond.static y_LW_size : Cond) ∈ TW := TW_t 414 (by decide +kernel) (by decide +kernel)
set_option maxRecDepth 100000 in
theorem tw_415 : (Cond.codeWith y_LW_size method_17_code 4 (some .int) [(0, 9, 12, 13), (0, 9, 15, 19)] : Cond) ∈ TW := TW_t 415 rfl (by decide +kernel)
theorem tw_416 : (Cond.methodLink "SiftedGraphsLaw" 62 y_SG_size : Cond) ∈ TW := TW_t 416 (by decide +kernel) (by decide +kernel)
theorem tw_417 : (Cond.instanceMethod y_SG_size : Cond) ∈ TW := TW_t 417 (by decide +kernel) (by decide +kernel)
theorem tw_418 : (Cond.selects "SiftedGraphs" y_SG_size y_SG_size : Cond) ∈ TW := TW_t 418 (by decide +kernel) (by decide +kernel)
set_option maxRecDepth 100000 in
theorem tw_419 : (Cond.code y_SG_size prog_1_method_16_code 2 (some .int) : Cond) ∈ TW := TW_t 419 rfl (by decide +kernel)
theorem tw_420 : (Cond.methodLink "SiftedGraphsLaw" 144 y_LW_width : Cond) ∈ TW := TW_t 420 (by decide +kernel) (by decide +kernel)
theorem tw_421 : (Cond.static y_LW_width : Cond) ∈ TW := TW_t 421 (by decide +kernel) (by decide +kernel)
set_option maxRecDepth 100000 in
theorem tw_422 : (Cond.codeWith y_LW_width method_18_code 4 (some .int) [(0, 9, 12, 13)] : Cond) ∈ TW := TW_t 422 rfl (by decide +kernel)
theorem tw_423 : (Cond.methodLink "SiftedGraphsLaw" 65 y_SG_width : Cond) ∈ TW := TW_t 423 (by decide +kernel) (by decide +kernel)
theorem tw_424 : (Cond.instanceMethod y_SG_width : Cond) ∈ TW := TW_t 424 (by decide +kernel) (by decide +kernel)
theorem tw_425 : (Cond.selects "SiftedGraphs" y_SG_width y_SG_width : Cond) ∈ TW := TW_t 425 (by decide +kernel) (by decide +kernel)
set_option maxRecDepth 100000 in
theorem tw_426 : (Cond.code y_SG_width prog_1_method_18_code 2 (some .int) : Cond) ∈ TW := TW_t 426 rfl (by decide +kernel)
theorem tw_427 : (Cond.methodLink "SiftedGraphs" 125 y_NC_onLevel : Cond) ∈ TW := TW_t 427 (by decide +kernel) (by decide +kernel)
theorem tw_428 : (Cond.instanceMethod y_NC_onLevel : Cond) ∈ TW := TW_t 428 (by decide +kernel) (by decide +kernel)
theorem tw_429 : (Cond.selects "SiftedGraphs$NodeCounter" y_NC_onLevel y_NC_onLevel : Cond) ∈ TW := TW_t 429 (by decide +kernel) (by decide +kernel)
set_option maxRecDepth 100000 in
theorem tw_430 : (Cond.code y_NC_onLevel prog_3_method_5_code 2 (some .int) : Cond) ∈ TW := TW_t 430 rfl (by decide +kernel)
theorem tw_431 : (Cond.methodLink "SiftedGraphsLaw" 147 y_LW_variable : Cond) ∈ TW := TW_t 431 (by decide +kernel) (by decide +kernel)
theorem tw_432 : (Cond.static y_LW_variable : Cond) ∈ TW := TW_t 432 (by decide +kernel) (by decide +kernel)
set_option maxRecDepth 100000 in
theorem tw_433 : (Cond.codeWith y_LW_variable method_19_code 4 (some .int) [(0, 9, 12, 13)] : Cond) ∈ TW := TW_t 433 rfl (by decide +kernel)
theorem tw_434 : (Cond.methodLink "SiftedGraphsLaw" 68 y_SG_variable : Cond) ∈ TW := TW_t 434 (by decide +kernel) (by decide +kernel)
theorem tw_435 : (Cond.instanceMethod y_SG_variable : Cond) ∈ TW := TW_t 435 (by decide +kernel) (by decide +kernel)
theorem tw_436 : (Cond.selects "SiftedGraphs" y_SG_variable y_SG_variable : Cond) ∈ TW := TW_t 436 (by decide +kernel) (by decide +kernel)
set_option maxRecDepth 100000 in
theorem tw_437 : (Cond.code y_SG_variable prog_1_method_19_code 2 (some .int) : Cond) ∈ TW := TW_t 437 rfl (by decide +kernel)
theorem tw_438 : (Cond.methodLink "SiftedGraphsLaw" 150 y_LW_swap : Cond) ∈ TW := TW_t 438 (by decide +kernel) (by decide +kernel)
theorem tw_439 : (Cond.static y_LW_swap : Cond) ∈ TW := TW_t 439 (by decide +kernel) (by decide +kernel)
set_option maxRecDepth 100000 in
theorem tw_440 : (Cond.codeWith y_LW_swap method_20_code 4 (some .int) [(0, 9, 12, 13)] : Cond) ∈ TW := TW_t 440 rfl (by decide +kernel)
theorem tw_441 : (Cond.methodLink "SiftedGraphsLaw" 71 y_SG_swap : Cond) ∈ TW := TW_t 441 (by decide +kernel) (by decide +kernel)
theorem tw_442 : (Cond.instanceMethod y_SG_swap : Cond) ∈ TW := TW_t 442 (by decide +kernel) (by decide +kernel)
theorem tw_443 : (Cond.selects "SiftedGraphs" y_SG_swap y_SG_swap : Cond) ∈ TW := TW_t 443 (by decide +kernel) (by decide +kernel)
set_option maxRecDepth 100000 in
theorem tw_444 : (Cond.code y_SG_swap prog_1_method_20_code 2 (some .int) : Cond) ∈ TW := TW_t 444 rfl (by decide +kernel)
theorem tw_445 : (Cond.methodLink "SiftedGraphs" 129 y_SG_exchange : Cond) ∈ TW := TW_t 445 (by decide +kernel) (by decide +kernel)
theorem tw_447 : (Cond.instanceMethod y_SG_exchange : Cond) ∈ TW := TW_t 447 (by decide +kernel) (by decide +kernel)
set_option maxRecDepth 100000 in
theorem tw_448 : (Cond.code y_SG_exchange prog_1_method_27_code 3 none : Cond) ∈ TW := TW_t 448 rfl (by decide +kernel)
theorem tw_449 : (Cond.methodLink "SiftedGraphsLaw" 153 y_LW_sift : Cond) ∈ TW := TW_t 449 (by decide +kernel) (by decide +kernel)
theorem tw_450 : (Cond.static y_LW_sift : Cond) ∈ TW := TW_t 450 (by decide +kernel) (by decide +kernel)
set_option maxRecDepth 100000 in
theorem tw_451 : (Cond.codeWith y_LW_sift method_21_code 4 (some .int) [(0, 9, 12, 13)] : Cond) ∈ TW := TW_t 451 rfl (by decide +kernel)
theorem tw_452 : (Cond.methodLink "SiftedGraphsLaw" 74 y_SG_sift : Cond) ∈ TW := TW_t 452 (by decide +kernel) (by decide +kernel)
theorem tw_453 : (Cond.instanceMethod y_SG_sift : Cond) ∈ TW := TW_t 453 (by decide +kernel) (by decide +kernel)
theorem tw_454 : (Cond.selects "SiftedGraphs" y_SG_sift y_SG_sift : Cond) ∈ TW := TW_t 454 (by decide +kernel) (by decide +kernel)
set_option maxRecDepth 100000 in
theorem tw_455 : (Cond.code y_SG_sift prog_1_method_21_code 6 (some .int) : Cond) ∈ TW := TW_t 455 rfl (by decide +kernel)
theorem tw_456 : (Cond.methodLink "SiftedGraphs" 132 y_SG_levelOf : Cond) ∈ TW := TW_t 456 (by decide +kernel) (by decide +kernel)
theorem tw_458 : (Cond.instanceMethod y_SG_levelOf : Cond) ∈ TW := TW_t 458 (by decide +kernel) (by decide +kernel)
set_option maxRecDepth 100000 in
theorem tw_459 : (Cond.code y_SG_levelOf prog_1_method_25_code 4 (some .int) : Cond) ∈ TW := TW_t 459 rfl (by decide +kernel)
theorem tw_460 : (Cond.methodLink "SiftedGraphs" 135 y_SG_raise : Cond) ∈ TW := TW_t 460 (by decide +kernel) (by decide +kernel)
theorem tw_462 : (Cond.instanceMethod y_SG_raise : Cond) ∈ TW := TW_t 462 (by decide +kernel) (by decide +kernel)
set_option maxRecDepth 100000 in
theorem tw_463 : (Cond.code y_SG_raise prog_1_method_26_code 4 none : Cond) ∈ TW := TW_t 463 rfl (by decide +kernel)
theorem tw_464 : (Cond.classLink "SiftedGraphsLaw" 78 "SiftedGraphsModel" : Cond) ∈ TW := TW_t 464 (by decide +kernel) (by decide +kernel)
theorem tw_465 : (Cond.instantiable "SiftedGraphsModel" 13 : Cond) ∈ TW := TW_t 465 (by decide +kernel) (by decide +kernel)
theorem tw_466 : (Cond.methodLink "SiftedGraphsLaw" 80 y_MD_init : Cond) ∈ TW := TW_t 466 (by decide +kernel) (by decide +kernel)
theorem tw_467 : (Cond.instanceMethod y_MD_init : Cond) ∈ TW := TW_t 467 (by decide +kernel) (by decide +kernel)
set_option maxRecDepth 100000 in
theorem tw_468 : (Cond.code y_MD_init prog_7_method_1_code 2 none : Cond) ∈ TW := TW_t 468 rfl (by decide +kernel)
theorem tw_469 : (Cond.methodLink "SiftedGraphsModel" 1 ⟨"java/lang/Object", "<init>", "()V"⟩ : Cond) ∈ TW := TW_t 469 (by decide +kernel) (by decide +kernel)
theorem tw_470 : (Cond.fieldLink "SiftedGraphsModel" 36 "SiftedGraphsModel" "code" "I" : Cond) ∈ TW := TW_t 470 (by decide +kernel) (by decide +kernel)
theorem tw_471 : (Cond.fieldLink "SiftedGraphsModel" 7 "SiftedGraphsModel" "table" "[J" : Cond) ∈ TW := TW_t 471 (by decide +kernel) (by decide +kernel)
theorem tw_472 : (Cond.fieldLink "SiftedGraphsModel" 13 "SiftedGraphsModel" "held" "[Z" : Cond) ∈ TW := TW_t 472 (by decide +kernel) (by decide +kernel)
theorem tw_473 : (Cond.fieldLink "SiftedGraphsModel" 17 "SiftedGraphsModel" "order" "[I" : Cond) ∈ TW := TW_t 473 (by decide +kernel) (by decide +kernel)
theorem tw_474 : (Cond.fieldLink "SiftedGraphsModel" 21 "SiftedGraphsModel" "kept" "[I" : Cond) ∈ TW := TW_t 474 (by decide +kernel) (by decide +kernel)
theorem tw_475 : (Cond.fieldLink "SiftedGraphsModel" 66 "SiftedGraphsModel" "typed" "I" : Cond) ∈ TW := TW_t 475 (by decide +kernel) (by decide +kernel)
theorem tw_476 : (Cond.fieldLink "SiftedGraphsModel" 24 "SiftedGraphsModel" "text" "[I" : Cond) ∈ TW := TW_t 476 (by decide +kernel) (by decide +kernel)
theorem tw_477 : (Cond.fieldLink "SiftedGraphsModel" 100 "SiftedGraphsModel" "count" "I" : Cond) ∈ TW := TW_t 477 (by decide +kernel) (by decide +kernel)
theorem tw_478 : (Cond.fieldLink "SiftedGraphsModel" 27 "SiftedGraphsModel" "found" "[J" : Cond) ∈ TW := TW_t 478 (by decide +kernel) (by decide +kernel)
theorem tw_479 : (Cond.fieldLink "SiftedGraphsModel" 72 "SiftedGraphsModel" "operators" "I" : Cond) ∈ TW := TW_t 479 (by decide +kernel) (by decide +kernel)
theorem tw_480 : (Cond.fieldLink "SiftedGraphsModel" 30 "SiftedGraphsModel" "operator" "[I" : Cond) ∈ TW := TW_t 480 (by decide +kernel) (by decide +kernel)
theorem tw_481 : (Cond.fieldLink "SiftedGraphsModel" 69 "SiftedGraphsModel" "values" "I" : Cond) ∈ TW := TW_t 481 (by decide +kernel) (by decide +kernel)
theorem tw_482 : (Cond.fieldLink "SiftedGraphsModel" 33 "SiftedGraphsModel" "stack" "[J" : Cond) ∈ TW := TW_t 482 (by decide +kernel) (by decide +kernel)
theorem tw_483 : (Cond.lays "SiftedGraphsModel" "SiftedGraphsModel" "code" "I" : Cond) ∈ TW := TW_t 483 (by decide +kernel) (by decide +kernel)
theorem tw_484 : (Cond.soleField "SiftedGraphsModel" "code" : Cond) ∈ TW := TW_t 484 (by decide +kernel) (by decide +kernel)
theorem tw_485 : (Cond.lays "SiftedGraphsModel" "SiftedGraphsModel" "table" "[J" : Cond) ∈ TW := TW_t 485 (by decide +kernel) (by decide +kernel)
theorem tw_486 : (Cond.soleField "SiftedGraphsModel" "table" : Cond) ∈ TW := TW_t 486 (by decide +kernel) (by decide +kernel)
theorem tw_487 : (Cond.lays "SiftedGraphsModel" "SiftedGraphsModel" "held" "[Z" : Cond) ∈ TW := TW_t 487 (by decide +kernel) (by decide +kernel)
theorem tw_488 : (Cond.soleField "SiftedGraphsModel" "held" : Cond) ∈ TW := TW_t 488 (by decide +kernel) (by decide +kernel)
theorem tw_489 : (Cond.lays "SiftedGraphsModel" "SiftedGraphsModel" "order" "[I" : Cond) ∈ TW := TW_t 489 (by decide +kernel) (by decide +kernel)
theorem tw_490 : (Cond.soleField "SiftedGraphsModel" "order" : Cond) ∈ TW := TW_t 490 (by decide +kernel) (by decide +kernel)
theorem tw_491 : (Cond.lays "SiftedGraphsModel" "SiftedGraphsModel" "kept" "[I" : Cond) ∈ TW := TW_t 491 (by decide +kernel) (by decide +kernel)
theorem tw_492 : (Cond.soleField "SiftedGraphsModel" "kept" : Cond) ∈ TW := TW_t 492 (by decide +kernel) (by decide +kernel)
theorem tw_493 : (Cond.lays "SiftedGraphsModel" "SiftedGraphsModel" "typed" "I" : Cond) ∈ TW := TW_t 493 (by decide +kernel) (by decide +kernel)
theorem tw_494 : (Cond.soleField "SiftedGraphsModel" "typed" : Cond) ∈ TW := TW_t 494 (by decide +kernel) (by decide +kernel)
theorem tw_495 : (Cond.lays "SiftedGraphsModel" "SiftedGraphsModel" "text" "[I" : Cond) ∈ TW := TW_t 495 (by decide +kernel) (by decide +kernel)
theorem tw_496 : (Cond.soleField "SiftedGraphsModel" "text" : Cond) ∈ TW := TW_t 496 (by decide +kernel) (by decide +kernel)
theorem tw_497 : (Cond.lays "SiftedGraphsModel" "SiftedGraphsModel" "count" "I" : Cond) ∈ TW := TW_t 497 (by decide +kernel) (by decide +kernel)
theorem tw_498 : (Cond.soleField "SiftedGraphsModel" "count" : Cond) ∈ TW := TW_t 498 (by decide +kernel) (by decide +kernel)
theorem tw_499 : (Cond.lays "SiftedGraphsModel" "SiftedGraphsModel" "found" "[J" : Cond) ∈ TW := TW_t 499 (by decide +kernel) (by decide +kernel)
theorem tw_500 : (Cond.soleField "SiftedGraphsModel" "found" : Cond) ∈ TW := TW_t 500 (by decide +kernel) (by decide +kernel)
theorem tw_501 : (Cond.lays "SiftedGraphsModel" "SiftedGraphsModel" "operators" "I" : Cond) ∈ TW := TW_t 501 (by decide +kernel) (by decide +kernel)
theorem tw_502 : (Cond.soleField "SiftedGraphsModel" "operators" : Cond) ∈ TW := TW_t 502 (by decide +kernel) (by decide +kernel)
theorem tw_503 : (Cond.lays "SiftedGraphsModel" "SiftedGraphsModel" "operator" "[I" : Cond) ∈ TW := TW_t 503 (by decide +kernel) (by decide +kernel)
theorem tw_504 : (Cond.soleField "SiftedGraphsModel" "operator" : Cond) ∈ TW := TW_t 504 (by decide +kernel) (by decide +kernel)
theorem tw_505 : (Cond.lays "SiftedGraphsModel" "SiftedGraphsModel" "values" "I" : Cond) ∈ TW := TW_t 505 (by decide +kernel) (by decide +kernel)
theorem tw_506 : (Cond.soleField "SiftedGraphsModel" "values" : Cond) ∈ TW := TW_t 506 (by decide +kernel) (by decide +kernel)
theorem tw_507 : (Cond.lays "SiftedGraphsModel" "SiftedGraphsModel" "stack" "[J" : Cond) ∈ TW := TW_t 507 (by decide +kernel) (by decide +kernel)
theorem tw_508 : (Cond.soleField "SiftedGraphsModel" "stack" : Cond) ∈ TW := TW_t 508 (by decide +kernel) (by decide +kernel)
theorem tw_509 : (Cond.superclass "SiftedGraphsModel" "java/lang/Object" : Cond) ∈ TW := TW_t 509 (by decide +kernel) (by decide +kernel)
theorem tw_510 : (Cond.methodLink "SiftedGraphsLaw" 87 y_MD_thrown : Cond) ∈ TW := TW_t 510 (by decide +kernel) (by decide +kernel)
theorem tw_511 : (Cond.instanceMethod y_MD_thrown : Cond) ∈ TW := TW_t 511 (by decide +kernel) (by decide +kernel)
theorem tw_512 : (Cond.selects "SiftedGraphsModel" y_MD_thrown y_MD_thrown : Cond) ∈ TW := TW_t 512 (by decide +kernel) (by decide +kernel)
set_option maxRecDepth 100000 in
theorem tw_513 : (Cond.code y_MD_thrown prog_7_method_2_code 1 (some .int) : Cond) ∈ TW := TW_t 513 rfl (by decide +kernel)
theorem tw_514 : (Cond.methodLink "SiftedGraphsLaw" 86 y_MD_set : Cond) ∈ TW := TW_t 514 (by decide +kernel) (by decide +kernel)
theorem tw_515 : (Cond.instanceMethod y_MD_set : Cond) ∈ TW := TW_t 515 (by decide +kernel) (by decide +kernel)
theorem tw_516 : (Cond.selects "SiftedGraphsModel" y_MD_set y_MD_set : Cond) ∈ TW := TW_t 516 (by decide +kernel) (by decide +kernel)
set_option maxRecDepth 100000 in
theorem tw_517 : (Cond.code y_MD_set prog_7_method_10_code 5 none : Cond) ∈ TW := TW_t 517 rfl (by decide +kernel)
theorem tw_518 : (Cond.methodLink "SiftedGraphsModel" 54 y_MD_isRegister : Cond) ∈ TW := TW_t 518 (by decide +kernel) (by decide +kernel)
theorem tw_519 : (Cond.static y_MD_isRegister : Cond) ∈ TW := TW_t 519 (by decide +kernel) (by decide +kernel)
set_option maxRecDepth 100000 in
theorem tw_520 : (Cond.code y_MD_isRegister prog_7_method_4_code 1 (some .boolean) : Cond) ∈ TW := TW_t 520 rfl (by decide +kernel)
theorem tw_521 : (Cond.methodLink "SiftedGraphsModel" 40 y_MD_within : Cond) ∈ TW := TW_t 521 (by decide +kernel) (by decide +kernel)
theorem tw_522 : (Cond.static y_MD_within : Cond) ∈ TW := TW_t 522 (by decide +kernel) (by decide +kernel)
set_option maxRecDepth 100000 in
theorem tw_523 : (Cond.code y_MD_within prog_7_method_3_code 3 (some .boolean) : Cond) ∈ TW := TW_t 523 rfl (by decide +kernel)
theorem tw_524 : (Cond.methodLink "SiftedGraphsModel" 58 y_MD_variableTable : Cond) ∈ TW := TW_t 524 (by decide +kernel) (by decide +kernel)
theorem tw_525 : (Cond.static y_MD_variableTable : Cond) ∈ TW := TW_t 525 (by decide +kernel) (by decide +kernel)
set_option maxRecDepth 100000 in
theorem tw_526 : (Cond.code y_MD_variableTable prog_7_method_6_code 4 (some .long) : Cond) ∈ TW := TW_t 526 rfl (by decide +kernel)
theorem tw_527 : (Cond.constantLong "SiftedGraphsModel" 52 (-1) : Cond) ∈ TW := TW_t 527 (by decide +kernel) (by decide +kernel)
theorem tw_528 : (Cond.methodLink "SiftedGraphsModel" 62 y_MD_put : Cond) ∈ TW := TW_t 528 (by decide +kernel) (by decide +kernel)
theorem tw_530 : (Cond.instanceMethod y_MD_put : Cond) ∈ TW := TW_t 530 (by decide +kernel) (by decide +kernel)
set_option maxRecDepth 100000 in
theorem tw_531 : (Cond.code y_MD_put prog_7_method_9_code 4 none : Cond) ∈ TW := TW_t 531 rfl (by decide +kernel)
theorem tw_532 : (Cond.methodLink "SiftedGraphsLaw" 94 y_MD_apply : Cond) ∈ TW := TW_t 532 (by decide +kernel) (by decide +kernel)
theorem tw_533 : (Cond.instanceMethod y_MD_apply : Cond) ∈ TW := TW_t 533 (by decide +kernel) (by decide +kernel)
theorem tw_534 : (Cond.selects "SiftedGraphsModel" y_MD_apply y_MD_apply : Cond) ∈ TW := TW_t 534 (by decide +kernel) (by decide +kernel)
set_option maxRecDepth 100000 in
theorem tw_535 : (Cond.code y_MD_apply prog_7_method_11_code 10 none : Cond) ∈ TW := TW_t 535 rfl (by decide +kernel)
theorem tw_536 : (Cond.methodLink "SiftedGraphsModel" 44 y_MD_at : Cond) ∈ TW := TW_t 536 (by decide +kernel) (by decide +kernel)
theorem tw_537 : (Cond.static y_MD_at : Cond) ∈ TW := TW_t 537 (by decide +kernel) (by decide +kernel)
set_option maxRecDepth 100000 in
theorem tw_538 : (Cond.code y_MD_at prog_7_method_5_code 3 (some .boolean) : Cond) ∈ TW := TW_t 538 rfl (by decide +kernel)
theorem tw_539 : (Cond.methodLink "SiftedGraphsLaw" 97 y_MD_choose : Cond) ∈ TW := TW_t 539 (by decide +kernel) (by decide +kernel)
theorem tw_540 : (Cond.instanceMethod y_MD_choose : Cond) ∈ TW := TW_t 540 (by decide +kernel) (by decide +kernel)
theorem tw_541 : (Cond.selects "SiftedGraphsModel" y_MD_choose y_MD_choose : Cond) ∈ TW := TW_t 541 (by decide +kernel) (by decide +kernel)
set_option maxRecDepth 100000 in
theorem tw_542 : (Cond.code y_MD_choose prog_7_method_12_code 6 none : Cond) ∈ TW := TW_t 542 rfl (by decide +kernel)
theorem tw_543 : (Cond.methodLink "SiftedGraphsLaw" 101 y_MD_restrict : Cond) ∈ TW := TW_t 543 (by decide +kernel) (by decide +kernel)
theorem tw_544 : (Cond.instanceMethod y_MD_restrict : Cond) ∈ TW := TW_t 544 (by decide +kernel) (by decide +kernel)
theorem tw_545 : (Cond.selects "SiftedGraphsModel" y_MD_restrict y_MD_restrict : Cond) ∈ TW := TW_t 545 (by decide +kernel) (by decide +kernel)
set_option maxRecDepth 100000 in
theorem tw_546 : (Cond.code y_MD_restrict prog_7_method_13_code 6 none : Cond) ∈ TW := TW_t 546 rfl (by decide +kernel)
theorem tw_547 : (Cond.methodLink "SiftedGraphsModel" 48 y_MD_with : Cond) ∈ TW := TW_t 547 (by decide +kernel) (by decide +kernel)
theorem tw_548 : (Cond.static y_MD_with : Cond) ∈ TW := TW_t 548 (by decide +kernel) (by decide +kernel)
set_option maxRecDepth 100000 in
theorem tw_549 : (Cond.code y_MD_with prog_7_method_7_code 10 (some .long) : Cond) ∈ TW := TW_t 549 rfl (by decide +kernel)
theorem tw_550 : (Cond.methodLink "SiftedGraphsLaw" 104 y_MD_compose : Cond) ∈ TW := TW_t 550 (by decide +kernel) (by decide +kernel)
theorem tw_551 : (Cond.instanceMethod y_MD_compose : Cond) ∈ TW := TW_t 551 (by decide +kernel) (by decide +kernel)
theorem tw_552 : (Cond.selects "SiftedGraphsModel" y_MD_compose y_MD_compose : Cond) ∈ TW := TW_t 552 (by decide +kernel) (by decide +kernel)
set_option maxRecDepth 100000 in
theorem tw_553 : (Cond.code y_MD_compose prog_7_method_14_code 6 none : Cond) ∈ TW := TW_t 553 rfl (by decide +kernel)
theorem tw_554 : (Cond.methodLink "SiftedGraphsLaw" 107 y_MD_quantify : Cond) ∈ TW := TW_t 554 (by decide +kernel) (by decide +kernel)
theorem tw_555 : (Cond.instanceMethod y_MD_quantify : Cond) ∈ TW := TW_t 555 (by decide +kernel) (by decide +kernel)
theorem tw_556 : (Cond.selects "SiftedGraphsModel" y_MD_quantify y_MD_quantify : Cond) ∈ TW := TW_t 556 (by decide +kernel) (by decide +kernel)
set_option maxRecDepth 100000 in
theorem tw_557 : (Cond.code y_MD_quantify prog_7_method_15_code 13 none : Cond) ∈ TW := TW_t 557 rfl (by decide +kernel)
theorem tw_558 : (Cond.methodLink "SiftedGraphsLaw" 120 y_MD_release : Cond) ∈ TW := TW_t 558 (by decide +kernel) (by decide +kernel)
theorem tw_559 : (Cond.instanceMethod y_MD_release : Cond) ∈ TW := TW_t 559 (by decide +kernel) (by decide +kernel)
theorem tw_560 : (Cond.selects "SiftedGraphsModel" y_MD_release y_MD_release : Cond) ∈ TW := TW_t 560 (by decide +kernel) (by decide +kernel)
set_option maxRecDepth 100000 in
theorem tw_561 : (Cond.code y_MD_release prog_7_method_16_code 3 (some .boolean) : Cond) ∈ TW := TW_t 561 rfl (by decide +kernel)
theorem tw_562 : (Cond.methodLink "SiftedGraphsLaw" 113 y_MD_type : Cond) ∈ TW := TW_t 562 (by decide +kernel) (by decide +kernel)
theorem tw_563 : (Cond.instanceMethod y_MD_type : Cond) ∈ TW := TW_t 563 (by decide +kernel) (by decide +kernel)
theorem tw_564 : (Cond.selects "SiftedGraphsModel" y_MD_type y_MD_type : Cond) ∈ TW := TW_t 564 (by decide +kernel) (by decide +kernel)
set_option maxRecDepth 100000 in
theorem tw_565 : (Cond.code y_MD_type prog_7_method_17_code 5 (some .int) : Cond) ∈ TW := TW_t 565 rfl (by decide +kernel)
theorem tw_566 : (Cond.methodLink "SiftedGraphsLaw" 117 y_MD_read : Cond) ∈ TW := TW_t 566 (by decide +kernel) (by decide +kernel)
theorem tw_567 : (Cond.instanceMethod y_MD_read : Cond) ∈ TW := TW_t 567 (by decide +kernel) (by decide +kernel)
theorem tw_568 : (Cond.selects "SiftedGraphsModel" y_MD_read y_MD_read : Cond) ∈ TW := TW_t 568 (by decide +kernel) (by decide +kernel)
set_option maxRecDepth 100000 in
theorem tw_569 : (Cond.code y_MD_read prog_7_method_23_code 8 (some .int) : Cond) ∈ TW := TW_t 569 rfl (by decide +kernel)
theorem tw_570 : (Cond.methodLink "SiftedGraphsModel" 87 y_MD_begin : Cond) ∈ TW := TW_t 570 (by decide +kernel) (by decide +kernel)
theorem tw_572 : (Cond.instanceMethod y_MD_begin : Cond) ∈ TW := TW_t 572 (by decide +kernel) (by decide +kernel)
set_option maxRecDepth 100000 in
theorem tw_573 : (Cond.code y_MD_begin prog_7_method_22_code 3 (some .int) : Cond) ∈ TW := TW_t 573 rfl (by decide +kernel)
theorem tw_574 : (Cond.methodLink "SiftedGraphsModel" 79 y_MD_later : Cond) ∈ TW := TW_t 574 (by decide +kernel) (by decide +kernel)
theorem tw_576 : (Cond.instanceMethod y_MD_later : Cond) ∈ TW := TW_t 576 (by decide +kernel) (by decide +kernel)
set_option maxRecDepth 100000 in
theorem tw_577 : (Cond.code y_MD_later prog_7_method_21_code 2 none : Cond) ∈ TW := TW_t 577 rfl (by decide +kernel)
theorem tw_578 : (Cond.methodLink "SiftedGraphsModel" 83 y_MD_push : Cond) ∈ TW := TW_t 578 (by decide +kernel) (by decide +kernel)
theorem tw_580 : (Cond.instanceMethod y_MD_push : Cond) ∈ TW := TW_t 580 (by decide +kernel) (by decide +kernel)
set_option maxRecDepth 100000 in
theorem tw_581 : (Cond.code y_MD_push prog_7_method_18_code 3 none : Cond) ∈ TW := TW_t 581 rfl (by decide +kernel)
theorem tw_582 : (Cond.methodLink "SiftedGraphsModel" 91 y_MD_reduce : Cond) ∈ TW := TW_t 582 (by decide +kernel) (by decide +kernel)
theorem tw_584 : (Cond.instanceMethod y_MD_reduce : Cond) ∈ TW := TW_t 584 (by decide +kernel) (by decide +kernel)
set_option maxRecDepth 100000 in
theorem tw_585 : (Cond.code y_MD_reduce prog_7_method_20_code 7 none : Cond) ∈ TW := TW_t 585 rfl (by decide +kernel)
theorem tw_586 : (Cond.methodLink "SiftedGraphsModel" 75 y_MD_strength : Cond) ∈ TW := TW_t 586 (by decide +kernel) (by decide +kernel)
theorem tw_587 : (Cond.static y_MD_strength : Cond) ∈ TW := TW_t 587 (by decide +kernel) (by decide +kernel)
set_option maxRecDepth 100000 in
theorem tw_588 : (Cond.code y_MD_strength prog_7_method_19_code 1 (some .int) : Cond) ∈ TW := TW_t 588 rfl (by decide +kernel)
theorem tw_589 : (Cond.methodLink "SiftedGraphsLaw" 124 y_MD_equal : Cond) ∈ TW := TW_t 589 (by decide +kernel) (by decide +kernel)
theorem tw_590 : (Cond.instanceMethod y_MD_equal : Cond) ∈ TW := TW_t 590 (by decide +kernel) (by decide +kernel)
theorem tw_591 : (Cond.selects "SiftedGraphsModel" y_MD_equal y_MD_equal : Cond) ∈ TW := TW_t 591 (by decide +kernel) (by decide +kernel)
set_option maxRecDepth 100000 in
theorem tw_592 : (Cond.code y_MD_equal prog_7_method_24_code 3 (some .boolean) : Cond) ∈ TW := TW_t 592 rfl (by decide +kernel)
theorem tw_593 : (Cond.methodLink "SiftedGraphsLaw" 127 y_MD_value : Cond) ∈ TW := TW_t 593 (by decide +kernel) (by decide +kernel)
theorem tw_594 : (Cond.instanceMethod y_MD_value : Cond) ∈ TW := TW_t 594 (by decide +kernel) (by decide +kernel)
theorem tw_595 : (Cond.selects "SiftedGraphsModel" y_MD_value y_MD_value : Cond) ∈ TW := TW_t 595 (by decide +kernel) (by decide +kernel)
set_option maxRecDepth 100000 in
theorem tw_596 : (Cond.code y_MD_value prog_7_method_25_code 3 (some .boolean) : Cond) ∈ TW := TW_t 596 rfl (by decide +kernel)
theorem tw_597 : (Cond.methodLink "SiftedGraphsLaw" 130 y_MD_count : Cond) ∈ TW := TW_t 597 (by decide +kernel) (by decide +kernel)
theorem tw_598 : (Cond.instanceMethod y_MD_count : Cond) ∈ TW := TW_t 598 (by decide +kernel) (by decide +kernel)
theorem tw_599 : (Cond.selects "SiftedGraphsModel" y_MD_count y_MD_count : Cond) ∈ TW := TW_t 599 (by decide +kernel) (by decide +kernel)
set_option maxRecDepth 100000 in
theorem tw_600 : (Cond.code y_MD_count prog_7_method_27_code 4 (some .int) : Cond) ∈ TW := TW_t 600 rfl (by decide +kernel)
theorem tw_601 : (Cond.methodLink "SiftedGraphsModel" 94 y_MD_lack : Cond) ∈ TW := TW_t 601 (by decide +kernel) (by decide +kernel)
theorem tw_603 : (Cond.instanceMethod y_MD_lack : Cond) ∈ TW := TW_t 603 (by decide +kernel) (by decide +kernel)
set_option maxRecDepth 100000 in
theorem tw_604 : (Cond.code y_MD_lack prog_7_method_26_code 2 (some .int) : Cond) ∈ TW := TW_t 604 rfl (by decide +kernel)
theorem tw_605 : (Cond.methodLink "SiftedGraphsLaw" 133 y_MD_least : Cond) ∈ TW := TW_t 605 (by decide +kernel) (by decide +kernel)
theorem tw_606 : (Cond.instanceMethod y_MD_least : Cond) ∈ TW := TW_t 606 (by decide +kernel) (by decide +kernel)
theorem tw_607 : (Cond.selects "SiftedGraphsModel" y_MD_least y_MD_least : Cond) ∈ TW := TW_t 607 (by decide +kernel) (by decide +kernel)
set_option maxRecDepth 100000 in
theorem tw_608 : (Cond.code y_MD_least prog_7_method_28_code 3 (some .int) : Cond) ∈ TW := TW_t 608 rfl (by decide +kernel)
theorem tw_609 : (Cond.methodLink "SiftedGraphsLaw" 136 y_MD_support : Cond) ∈ TW := TW_t 609 (by decide +kernel) (by decide +kernel)
theorem tw_610 : (Cond.instanceMethod y_MD_support : Cond) ∈ TW := TW_t 610 (by decide +kernel) (by decide +kernel)
theorem tw_611 : (Cond.selects "SiftedGraphsModel" y_MD_support y_MD_support : Cond) ∈ TW := TW_t 611 (by decide +kernel) (by decide +kernel)
set_option maxRecDepth 100000 in
theorem tw_612 : (Cond.code y_MD_support prog_7_method_29_code 4 (some .int) : Cond) ∈ TW := TW_t 612 rfl (by decide +kernel)
theorem tw_613 : (Cond.methodLink "SiftedGraphsModel" 97 y_MD_depends : Cond) ∈ TW := TW_t 613 (by decide +kernel) (by decide +kernel)
theorem tw_614 : (Cond.static y_MD_depends : Cond) ∈ TW := TW_t 614 (by decide +kernel) (by decide +kernel)
set_option maxRecDepth 100000 in
theorem tw_615 : (Cond.code y_MD_depends prog_7_method_8_code 3 (some .boolean) : Cond) ∈ TW := TW_t 615 rfl (by decide +kernel)
theorem tw_616 : (Cond.methodLink "SiftedGraphsLaw" 139 y_MD_size : Cond) ∈ TW := TW_t 616 (by decide +kernel) (by decide +kernel)
theorem tw_617 : (Cond.instanceMethod y_MD_size : Cond) ∈ TW := TW_t 617 (by decide +kernel) (by decide +kernel)
theorem tw_618 : (Cond.selects "SiftedGraphsModel" y_MD_size y_MD_size : Cond) ∈ TW := TW_t 618 (by decide +kernel) (by decide +kernel)
set_option maxRecDepth 100000 in
theorem tw_619 : (Cond.code y_MD_size prog_7_method_34_code 4 (some .int) : Cond) ∈ TW := TW_t 619 rfl (by decide +kernel)
theorem tw_620 : (Cond.methodLink "SiftedGraphsModel" 106 y_MD_findAll : Cond) ∈ TW := TW_t 620 (by decide +kernel) (by decide +kernel)
theorem tw_622 : (Cond.instanceMethod y_MD_findAll : Cond) ∈ TW := TW_t 622 (by decide +kernel) (by decide +kernel)
set_option maxRecDepth 100000 in
theorem tw_623 : (Cond.code y_MD_findAll prog_7_method_31_code 8 none : Cond) ∈ TW := TW_t 623 rfl (by decide +kernel)
theorem tw_624 : (Cond.methodLink "SiftedGraphsModel" 103 y_MD_find : Cond) ∈ TW := TW_t 624 (by decide +kernel) (by decide +kernel)
theorem tw_626 : (Cond.instanceMethod y_MD_find : Cond) ∈ TW := TW_t 626 (by decide +kernel) (by decide +kernel)
set_option maxRecDepth 100000 in
theorem tw_627 : (Cond.code y_MD_find prog_7_method_30_code 4 none : Cond) ∈ TW := TW_t 627 rfl (by decide +kernel)
theorem tw_628 : (Cond.methodLink "SiftedGraphsLaw" 143 y_MD_shared : Cond) ∈ TW := TW_t 628 (by decide +kernel) (by decide +kernel)
theorem tw_629 : (Cond.instanceMethod y_MD_shared : Cond) ∈ TW := TW_t 629 (by decide +kernel) (by decide +kernel)
theorem tw_630 : (Cond.selects "SiftedGraphsModel" y_MD_shared y_MD_shared : Cond) ∈ TW := TW_t 630 (by decide +kernel) (by decide +kernel)
set_option maxRecDepth 100000 in
theorem tw_631 : (Cond.code y_MD_shared prog_7_method_35_code 1 (some .int) : Cond) ∈ TW := TW_t 631 rfl (by decide +kernel)
theorem tw_632 : (Cond.methodLink "SiftedGraphsModel" 113 y_MD_all : Cond) ∈ TW := TW_t 632 (by decide +kernel) (by decide +kernel)
theorem tw_634 : (Cond.instanceMethod y_MD_all : Cond) ∈ TW := TW_t 634 (by decide +kernel) (by decide +kernel)
set_option maxRecDepth 100000 in
theorem tw_635 : (Cond.code y_MD_all prog_7_method_33_code 3 (some .int) : Cond) ∈ TW := TW_t 635 rfl (by decide +kernel)
theorem tw_636 : (Cond.methodLink "SiftedGraphsModel" 110 y_MD_widthOf : Cond) ∈ TW := TW_t 636 (by decide +kernel) (by decide +kernel)
theorem tw_638 : (Cond.instanceMethod y_MD_widthOf : Cond) ∈ TW := TW_t 638 (by decide +kernel) (by decide +kernel)
set_option maxRecDepth 100000 in
theorem tw_639 : (Cond.code y_MD_widthOf prog_7_method_32_code 3 (some .int) : Cond) ∈ TW := TW_t 639 rfl (by decide +kernel)
theorem tw_640 : (Cond.methodLink "SiftedGraphsLaw" 146 y_MD_width : Cond) ∈ TW := TW_t 640 (by decide +kernel) (by decide +kernel)
theorem tw_641 : (Cond.instanceMethod y_MD_width : Cond) ∈ TW := TW_t 641 (by decide +kernel) (by decide +kernel)
theorem tw_642 : (Cond.selects "SiftedGraphsModel" y_MD_width y_MD_width : Cond) ∈ TW := TW_t 642 (by decide +kernel) (by decide +kernel)
set_option maxRecDepth 100000 in
theorem tw_643 : (Cond.code y_MD_width prog_7_method_36_code 2 (some .int) : Cond) ∈ TW := TW_t 643 rfl (by decide +kernel)
theorem tw_644 : (Cond.methodLink "SiftedGraphsLaw" 149 y_MD_variable : Cond) ∈ TW := TW_t 644 (by decide +kernel) (by decide +kernel)
theorem tw_645 : (Cond.instanceMethod y_MD_variable : Cond) ∈ TW := TW_t 645 (by decide +kernel) (by decide +kernel)
theorem tw_646 : (Cond.selects "SiftedGraphsModel" y_MD_variable y_MD_variable : Cond) ∈ TW := TW_t 646 (by decide +kernel) (by decide +kernel)
set_option maxRecDepth 100000 in
theorem tw_647 : (Cond.code y_MD_variable prog_7_method_37_code 2 (some .int) : Cond) ∈ TW := TW_t 647 rfl (by decide +kernel)
theorem tw_648 : (Cond.methodLink "SiftedGraphsLaw" 152 y_MD_swap : Cond) ∈ TW := TW_t 648 (by decide +kernel) (by decide +kernel)
theorem tw_649 : (Cond.instanceMethod y_MD_swap : Cond) ∈ TW := TW_t 649 (by decide +kernel) (by decide +kernel)
theorem tw_650 : (Cond.selects "SiftedGraphsModel" y_MD_swap y_MD_swap : Cond) ∈ TW := TW_t 650 (by decide +kernel) (by decide +kernel)
set_option maxRecDepth 100000 in
theorem tw_651 : (Cond.code y_MD_swap prog_7_method_38_code 3 (some .int) : Cond) ∈ TW := TW_t 651 rfl (by decide +kernel)
theorem tw_652 : (Cond.methodLink "SiftedGraphsLaw" 155 y_MD_sift : Cond) ∈ TW := TW_t 652 (by decide +kernel) (by decide +kernel)
theorem tw_653 : (Cond.instanceMethod y_MD_sift : Cond) ∈ TW := TW_t 653 (by decide +kernel) (by decide +kernel)
theorem tw_654 : (Cond.selects "SiftedGraphsModel" y_MD_sift y_MD_sift : Cond) ∈ TW := TW_t 654 (by decide +kernel) (by decide +kernel)
set_option maxRecDepth 100000 in
theorem tw_655 : (Cond.code y_MD_sift prog_7_method_40_code 6 (some .int) : Cond) ∈ TW := TW_t 655 rfl (by decide +kernel)
theorem tw_656 : (Cond.methodLink "SiftedGraphsModel" 117 y_MD_arrange : Cond) ∈ TW := TW_t 656 (by decide +kernel) (by decide +kernel)
theorem tw_658 : (Cond.instanceMethod y_MD_arrange : Cond) ∈ TW := TW_t 658 (by decide +kernel) (by decide +kernel)
set_option maxRecDepth 100000 in
theorem tw_659 : (Cond.code y_MD_arrange prog_7_method_39_code 5 none : Cond) ∈ TW := TW_t 659 rfl (by decide +kernel)
theorem tw_660 : (Cond.constantLong "SiftedGraphsLaw" 108 4294967295 : Cond) ∈ TW := TW_t 660 (by decide +kernel) (by decide +kernel)
theorem tw_661 : (Cond.sameMethod "java/lang/Throwable" "java/lang/Throwable" "fillInStackTrace" "(I)Ljava/lang/Throwable;" : Cond) ∈ TW := TW_t 661 (by decide +kernel) (by decide +kernel)
theorem ts_0 : (Cond.selects "SiftedGraphs" y_SG_nodesOfAll y_SG_nodesOfAll : Cond) ∈ TW := TW_s 0 (by decide +kernel) (by decide +kernel)
theorem ts_1 : (Cond.selects "SiftedGraphs$NodeCounter" y_NC_goDown y_NC_goDown : Cond) ∈ TW := TW_s 1 (by decide +kernel) (by decide +kernel)
theorem ts_2 : (Cond.selects "SiftedGraphs$NodeCounter" y_NC_branch y_NC_branch : Cond) ∈ TW := TW_s 2 (by decide +kernel) (by decide +kernel)
theorem ts_3 : (Cond.selects "java/lang/Throwable" ⟨"java/lang/Throwable", "fillInStackTrace", "(I)Ljava/lang/Throwable;"⟩ ⟨"java/lang/Throwable", "fillInStackTrace", "(I)Ljava/lang/Throwable;"⟩ : Cond) ∈ TW := TW_s 3 (by decide +kernel) (by decide +kernel)
theorem ts_4 : (Cond.selects "SiftedGraphs" y_SG_look y_SG_look : Cond) ∈ TW := TW_s 4 (by decide +kernel) (by decide +kernel)
theorem ts_5 : (Cond.selects "SiftedGraphs$FormulaReader" y_FR_beginFormula y_FR_beginFormula : Cond) ∈ TW := TW_s 5 (by decide +kernel) (by decide +kernel)
theorem ts_6 : (Cond.selects "SiftedGraphs$FormulaReader" y_FR_beginFactor y_FR_beginFactor : Cond) ∈ TW := TW_s 6 (by decide +kernel) (by decide +kernel)
theorem ts_7 : (Cond.selects "SiftedGraphs$FormulaReader" y_FR_takeInOperand y_FR_takeInOperand : Cond) ∈ TW := TW_s 7 (by decide +kernel) (by decide +kernel)
theorem ts_8 : (Cond.selects "SiftedGraphs$FormulaReader" y_FR_openParenthesis y_FR_openParenthesis : Cond) ∈ TW := TW_s 8 (by decide +kernel) (by decide +kernel)
theorem ts_9 : (Cond.selects "SiftedGraphs$FormulaReader" y_FR_endFactor y_FR_endFactor : Cond) ∈ TW := TW_s 9 (by decide +kernel) (by decide +kernel)
theorem ts_10 : (Cond.selects "SiftedGraphs$FormulaReader" y_FR_takeBehindOperand y_FR_takeBehindOperand : Cond) ∈ TW := TW_s 10 (by decide +kernel) (by decide +kernel)
theorem ts_11 : (Cond.selects "SiftedGraphs$FormulaReader" y_FR_closeParenthesis y_FR_closeParenthesis : Cond) ∈ TW := TW_s 11 (by decide +kernel) (by decide +kernel)
theorem ts_12 : (Cond.selects "SiftedGraphs" y_SG_exchange y_SG_exchange : Cond) ∈ TW := TW_s 12 (by decide +kernel) (by decide +kernel)
theorem ts_13 : (Cond.selects "SiftedGraphs" y_SG_levelOf y_SG_levelOf : Cond) ∈ TW := TW_s 13 (by decide +kernel) (by decide +kernel)
theorem ts_14 : (Cond.selects "SiftedGraphs" y_SG_raise y_SG_raise : Cond) ∈ TW := TW_s 14 (by decide +kernel) (by decide +kernel)
theorem ts_15 : (Cond.selects "SiftedGraphsModel" y_MD_put y_MD_put : Cond) ∈ TW := TW_s 15 (by decide +kernel) (by decide +kernel)
theorem ts_16 : (Cond.selects "SiftedGraphsModel" y_MD_begin y_MD_begin : Cond) ∈ TW := TW_s 16 (by decide +kernel) (by decide +kernel)
theorem ts_17 : (Cond.selects "SiftedGraphsModel" y_MD_later y_MD_later : Cond) ∈ TW := TW_s 17 (by decide +kernel) (by decide +kernel)
theorem ts_18 : (Cond.selects "SiftedGraphsModel" y_MD_push y_MD_push : Cond) ∈ TW := TW_s 18 (by decide +kernel) (by decide +kernel)
theorem ts_19 : (Cond.selects "SiftedGraphsModel" y_MD_reduce y_MD_reduce : Cond) ∈ TW := TW_s 19 (by decide +kernel) (by decide +kernel)
theorem ts_20 : (Cond.selects "SiftedGraphsModel" y_MD_lack y_MD_lack : Cond) ∈ TW := TW_s 20 (by decide +kernel) (by decide +kernel)
theorem ts_21 : (Cond.selects "SiftedGraphsModel" y_MD_findAll y_MD_findAll : Cond) ∈ TW := TW_s 21 (by decide +kernel) (by decide +kernel)
theorem ts_22 : (Cond.selects "SiftedGraphsModel" y_MD_find y_MD_find : Cond) ∈ TW := TW_s 22 (by decide +kernel) (by decide +kernel)
theorem ts_23 : (Cond.selects "SiftedGraphsModel" y_MD_all y_MD_all : Cond) ∈ TW := TW_s 23 (by decide +kernel) (by decide +kernel)
theorem ts_24 : (Cond.selects "SiftedGraphsModel" y_MD_widthOf y_MD_widthOf : Cond) ∈ TW := TW_s 24 (by decide +kernel) (by decide +kernel)
theorem ts_25 : (Cond.selects "SiftedGraphsModel" y_MD_arrange y_MD_arrange : Cond) ∈ TW := TW_s 25 (by decide +kernel) (by decide +kernel)
def R_FR : String := "SiftedGraphs$FormulaReader"
def T_FR : u_T := fun k => match k with
  | 0 => ("SiftedGraphs$FormulaReader", "sums", "[J", true)
  | 1 => ("SiftedGraphs$FormulaReader", "parities", "[J", true)
  | 2 => ("SiftedGraphs$FormulaReader", "products", "[J", true)
  | 3 => ("SiftedGraphs$FormulaReader", "flips", "[J", true)
  | 4 => ("SiftedGraphs$FormulaReader", "open", "I", false)
  | _ => ("SiftedGraphs$FormulaReader", "operandDue", "Z", false)
def t_FR : Nat → FieldType := fun k => match k with
  | 0 => .array .long
  | 1 => .array .long
  | 2 => .array .long
  | 3 => .array .long
  | 4 => .int
  | _ => .boolean
theorem n_FR : ∀ a, a < 6 → ∀ b, b < 6 → a ≠ b → (T_FR a).2.1 ≠ (T_FR b).2.1 := by decide +kernel
theorem t_FR_ok : ∀ k, k < 6 → parseFieldDescriptor (T_FR k).2.2.1 = some (t_FR k) := by decide +kernel
theorem i_FR : ∀ w ∈ u_ws R_FR T_FR 6, w ∈ TW := List.forall_mem_cons.mpr ⟨tw_48, List.forall_mem_cons.mpr ⟨tw_50, List.forall_mem_cons.mpr ⟨tw_52, List.forall_mem_cons.mpr ⟨tw_54, List.forall_mem_cons.mpr ⟨tw_56, List.forall_mem_cons.mpr ⟨tw_58, fun _ h => absurd h List.not_mem_nil⟩⟩⟩⟩⟩⟩
def R_NC : String := "SiftedGraphs$NodeCounter"
def T_NC : u_T := fun k => match k with
  | 0 => ("SiftedGraphs$NodeCounter", "above", "[J", false)
  | 1 => ("SiftedGraphs$NodeCounter", "aboveCount", "I", false)
  | 2 => ("SiftedGraphs$NodeCounter", "below", "[J", false)
  | 3 => ("SiftedGraphs$NodeCounter", "belowCount", "I", false)
  | _ => ("SiftedGraphs$NodeCounter", "widths", "[I", true)
def t_NC : Nat → FieldType := fun k => match k with
  | 0 => .array .long
  | 1 => .int
  | 2 => .array .long
  | 3 => .int
  | _ => .array .int
theorem n_NC : ∀ a, a < 5 → ∀ b, b < 5 → a ≠ b → (T_NC a).2.1 ≠ (T_NC b).2.1 := by decide +kernel
theorem t_NC_ok : ∀ k, k < 5 → parseFieldDescriptor (T_NC k).2.2.1 = some (t_NC k) := by decide +kernel
theorem i_NC : ∀ w ∈ u_ws R_NC T_NC 5, w ∈ TW := List.forall_mem_cons.mpr ⟨tw_74, List.forall_mem_cons.mpr ⟨tw_76, List.forall_mem_cons.mpr ⟨tw_78, List.forall_mem_cons.mpr ⟨tw_80, List.forall_mem_cons.mpr ⟨tw_82, fun _ h => absurd h List.not_mem_nil⟩⟩⟩⟩⟩
def R_RG : String := "SiftedGraphs$Registers"
def T_RG : u_T := fun k => match k with
  | 0 => ("SiftedGraphs$Registers", "tables", "[J", true)
  | _ => ("SiftedGraphs$Registers", "held", "[Z", true)
def t_RG : Nat → FieldType := fun k => match k with
  | 0 => .array .long
  | _ => .array .boolean
theorem n_RG : ∀ a, a < 2 → ∀ b, b < 2 → a ≠ b → (T_RG a).2.1 ≠ (T_RG b).2.1 := by decide +kernel
theorem t_RG_ok : ∀ k, k < 2 → parseFieldDescriptor (T_RG k).2.2.1 = some (t_RG k) := by decide +kernel
theorem i_RG : ∀ w ∈ u_ws R_RG T_RG 2, w ∈ TW := List.forall_mem_cons.mpr ⟨tw_29, List.forall_mem_cons.mpr ⟨tw_31, fun _ h => absurd h List.not_mem_nil⟩⟩
def R_SG : String := "SiftedGraphs"
def T_SG : u_T := fun k => match k with
  | 0 => ("SiftedGraphs", "registers", "LSiftedGraphs$Registers;", true)
  | 1 => ("SiftedGraphs", "order", "[I", true)
  | 2 => ("SiftedGraphs", "text", "[C", true)
  | 3 => ("SiftedGraphs", "typed", "I", false)
  | 4 => ("SiftedGraphs", "reader", "LSiftedGraphs$FormulaReader;", true)
  | _ => ("SiftedGraphs", "nodes", "LSiftedGraphs$NodeCounter;", true)
def t_SG : Nat → FieldType := fun k => match k with
  | 0 => .object "SiftedGraphs$Registers"
  | 1 => .array .int
  | 2 => .array .char
  | 3 => .int
  | 4 => .object "SiftedGraphs$FormulaReader"
  | _ => .object "SiftedGraphs$NodeCounter"
theorem n_SG : ∀ a, a < 6 → ∀ b, b < 6 → a ≠ b → (T_SG a).2.1 ≠ (T_SG b).2.1 := by decide +kernel
theorem t_SG_ok : ∀ k, k < 6 → parseFieldDescriptor (T_SG k).2.2.1 = some (t_SG k) := by decide +kernel
theorem i_SG : ∀ w ∈ u_ws R_SG T_SG 6, w ∈ TW := List.forall_mem_cons.mpr ⟨tw_91, List.forall_mem_cons.mpr ⟨tw_93, List.forall_mem_cons.mpr ⟨tw_95, List.forall_mem_cons.mpr ⟨tw_97, List.forall_mem_cons.mpr ⟨tw_99, List.forall_mem_cons.mpr ⟨tw_101, fun _ h => absurd h List.not_mem_nil⟩⟩⟩⟩⟩⟩
def R_MD : String := "SiftedGraphsModel"
def T_MD : u_T := fun k => match k with
  | 0 => ("SiftedGraphsModel", "code", "I", false)
  | 1 => ("SiftedGraphsModel", "table", "[J", false)
  | 2 => ("SiftedGraphsModel", "held", "[Z", false)
  | 3 => ("SiftedGraphsModel", "order", "[I", false)
  | 4 => ("SiftedGraphsModel", "kept", "[I", false)
  | 5 => ("SiftedGraphsModel", "typed", "I", false)
  | 6 => ("SiftedGraphsModel", "text", "[I", false)
  | 7 => ("SiftedGraphsModel", "count", "I", false)
  | 8 => ("SiftedGraphsModel", "found", "[J", false)
  | 9 => ("SiftedGraphsModel", "operators", "I", false)
  | 10 => ("SiftedGraphsModel", "operator", "[I", false)
  | 11 => ("SiftedGraphsModel", "values", "I", false)
  | _ => ("SiftedGraphsModel", "stack", "[J", false)
def t_MD : Nat → FieldType := fun k => match k with
  | 0 => .int
  | 1 => .array .long
  | 2 => .array .boolean
  | 3 => .array .int
  | 4 => .array .int
  | 5 => .int
  | 6 => .array .int
  | 7 => .int
  | 8 => .array .long
  | 9 => .int
  | 10 => .array .int
  | 11 => .int
  | _ => .array .long
theorem n_MD : ∀ a, a < 13 → ∀ b, b < 13 → a ≠ b → (T_MD a).2.1 ≠ (T_MD b).2.1 := by decide +kernel
theorem t_MD_ok : ∀ k, k < 13 → parseFieldDescriptor (T_MD k).2.2.1 = some (t_MD k) := by decide +kernel
theorem i_MD : ∀ w ∈ u_ws R_MD T_MD 13, w ∈ TW := List.forall_mem_cons.mpr ⟨tw_483, List.forall_mem_cons.mpr ⟨tw_485, List.forall_mem_cons.mpr ⟨tw_487, List.forall_mem_cons.mpr ⟨tw_489, List.forall_mem_cons.mpr ⟨tw_491, List.forall_mem_cons.mpr ⟨tw_493, List.forall_mem_cons.mpr ⟨tw_495, List.forall_mem_cons.mpr ⟨tw_497, List.forall_mem_cons.mpr ⟨tw_499, List.forall_mem_cons.mpr ⟨tw_501, List.forall_mem_cons.mpr ⟨tw_503, List.forall_mem_cons.mpr ⟨tw_505, List.forall_mem_cons.mpr ⟨tw_507, fun _ h => absurd h List.not_mem_nil⟩⟩⟩⟩⟩⟩⟩⟩⟩⟩⟩⟩⟩
abbrev cl : List vw_C := [(R_FR, T_FR, 6), (R_NC, T_NC, 5), (R_RG, T_RG, 2), (R_SG, T_SG, 6), (R_MD, T_MD, 13)]
