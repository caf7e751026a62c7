abbrev CW (g : Gx) (ad : Nat → Nat) (rg : Nat → Int64) (hd : Nat → Int32) (od : Nat → Int32) (tx : Nat → Int32) (ty : Int32) (sm : Nat → Int64) (pa : Nat → Int64) (pr : Nat → Int64) (fl : Nat → Int64) (op : Int32) (du : Int32) (qa : Nat) (ab : Nat → Int64) (ac : Int32) (qb : Nat) (be : Nat → Int64) (bc : Int32) (wd : Nat → Int32) : va_W := [(ad 0, .inr (3, [.ref (ad 1), .ref (ad 4), .ref (ad 5), .int ty, .ref (ad 6), .ref (ad 11)])), (ad 1, .inr (2, [.ref (ad 2), .ref (ad 3)])), (ad 2, aJ g 8 rg), (ad 3, aZ g 8 hd), (ad 4, aI g 6 od), (ad 5, aC g 40 tx), (ad 6, .inr (0, [.ref (ad 7), .ref (ad 8), .ref (ad 9), .ref (ad 10), .int op, .int du])), (ad 7, aJ g 6 sm), (ad 8, aJ g 6 pa), (ad 9, aJ g 6 pr), (ad 10, aJ g 6 fl), (ad 11, .inr (1, [.ref qa, .int ac, .ref qb, .int bc, .ref (ad 12)])), (ad 12, aI g 6 wd), (qa, aJ g 64 ab), (qb, aJ g 64 be)]
abbrev CWG (g : Gx) (ad : Nat → Nat) (rg : Nat → Int64) (hd : Nat → Int32) (od : Nat → Int32) (tx : Nat → Int32) (ty : Int32) (sm : Nat → Int64) (pa : Nat → Int64) (pr : Nat → Int64) (fl : Nat → Int64) (op : Int32) (du : Int32) (qa : Nat) (ab : Nat → Int64) (ac : Int32) (qb : Nat) (be : Nat → Int64) (bc : Int32) (wd : Nat → Int32) (fa : Nat) (fb : Nat) : va_W := [(ad 0, .inr (3, [.ref (ad 1), .ref (ad 4), .ref (ad 5), .int ty, .ref (ad 6), .ref (ad 11)])), (ad 1, .inr (2, [.ref (ad 2), .ref (ad 3)])), (ad 2, aJ g 8 rg), (ad 3, aZ g 8 hd), (ad 4, aI g 6 od), (ad 5, aC g 40 tx), (ad 6, .inr (0, [.ref (ad 7), .ref (ad 8), .ref (ad 9), .ref (ad 10), .int op, .int du])), (ad 7, aJ g 6 sm), (ad 8, aJ g 6 pa), (ad 9, aJ g 6 pr), (ad 10, aJ g 6 fl), (ad 11, .inr (1, [.ref fa, .int ac, .ref fb, .int bc, .ref (ad 12)])), (ad 12, aI g 6 wd), (qa, aJ g 64 ab), (qb, aJ g 64 be)]
abbrev MW (g : Gx) (ma : Nat → Nat) (cd : Int32) (tb : Nat → Int64) (hm : Nat → Int32) (oo : Nat → Int32) (kp : Nat → Int32) (td : Int32) (tt : Nat → Int32) (ct : Int32) (fd : Nat → Int64) (os : Int32) (oq : Nat → Int32) (vs : Int32) (sk : Nat → Int64) : va_W := [(ma 0, .inr (4, [.int cd, .ref (ma 1), .ref (ma 2), .ref (ma 3), .ref (ma 4), .int td, .ref (ma 5), .int ct, .ref (ma 6), .int os, .ref (ma 7), .int vs, .ref (ma 8)])), (ma 1, aJ g 8 tb), (ma 2, aZ g 8 hm), (ma 3, aI g 6 oo), (ma 4, aI g 6 kp), (ma 5, aI g 40 tt), (ma 6, aJ g 256 fd), (ma 7, aI g 48 oq), (ma 8, aJ g 48 sk)]
abbrev rm_SG_init : Room := { frames := 2, cells := 0, slots := 0, locals := 40 }
abbrev rm_RG_init : Room := { frames := 1, cells := 0, slots := 0, locals := 20 }
abbrev rm_FR_init : Room := { frames := 1, cells := 0, slots := 0, locals := 20 }
abbrev rm_NC_init : Room := { frames := 1, cells := 0, slots := 0, locals := 20 }
abbrev rm_SG_shared : Room := { frames := 5, cells := 0, slots := 0, locals := 115 }
abbrev rm_SG_nodesOfAll : Room := { frames := 4, cells := 0, slots := 0, locals := 94 }
abbrev rm_NC_begin : Room := { frames := 0, cells := 0, slots := 0, locals := 0 }
abbrev rm_RG_isHeld : Room := { frames := 0, cells := 0, slots := 0, locals := 0 }
abbrev rm_RG_table : Room := { frames := 0, cells := 0, slots := 0, locals := 0 }
abbrev rm_NC_add : Room := { frames := 0, cells := 0, slots := 0, locals := 0 }
abbrev rm_NC_total : Room := { frames := 3, cells := 0, slots := 0, locals := 71 }
abbrev rm_NC_goDown : Room := { frames := 0, cells := 0, slots := 0, locals := 0 }
abbrev rm_NC_branch : Room := { frames := 2, cells := 0, slots := 0, locals := 44 }
abbrev rm_TB_withZero : Room := { frames := 1, cells := 0, slots := 0, locals := 20 }
abbrev rm_TB_weight : Room := { frames := 0, cells := 0, slots := 0, locals := 0 }
abbrev rm_TB_withOne : Room := { frames := 1, cells := 0, slots := 0, locals := 20 }
abbrev rm_LW_set : Room := { frames := 3, cells := 0, slots := 0, locals := 65 }
abbrev rx_LW_set : Room := { frames := 8, cells := 1, slots := 6, locals := 134 }
abbrev rm_SG_set : Room := { frames := 2, cells := 0, slots := 0, locals := 41 }
abbrev rx_SG_set : Room := { frames := 7, cells := 1, slots := 6, locals := 110 }
abbrev rm_SG_checkBelow : Room := { frames := 1, cells := 0, slots := 0, locals := 20 }
abbrev rx_SG_checkBelow : Room := { frames := 6, cells := 1, slots := 6, locals := 89 }
abbrev rm_TB_ofVariable : Room := { frames := 0, cells := 0, slots := 0, locals := 0 }
abbrev rm_RG_put : Room := { frames := 0, cells := 0, slots := 0, locals := 0 }
abbrev rm_LW_apply : Room := { frames := 3, cells := 0, slots := 0, locals := 66 }
abbrev rx_LW_apply : Room := { frames := 8, cells := 1, slots := 6, locals := 134 }
abbrev rm_SG_apply : Room := { frames := 2, cells := 0, slots := 0, locals := 42 }
abbrev rx_SG_apply : Room := { frames := 7, cells := 1, slots := 6, locals := 110 }
abbrev rm_SG_look : Room := { frames := 1, cells := 0, slots := 0, locals := 21 }
abbrev rx_SG_look : Room := { frames := 6, cells := 1, slots := 6, locals := 89 }
abbrev rm_TB_connected : Room := { frames := 0, cells := 0, slots := 0, locals := 0 }
abbrev rm_LW_choose : Room := { frames := 3, cells := 0, slots := 0, locals := 66 }
abbrev rx_LW_choose : Room := { frames := 8, cells := 1, slots := 6, locals := 134 }
abbrev rm_SG_choose : Room := { frames := 2, cells := 0, slots := 0, locals := 42 }
abbrev rx_SG_choose : Room := { frames := 7, cells := 1, slots := 6, locals := 110 }
abbrev rm_TB_chosen : Room := { frames := 0, cells := 0, slots := 0, locals := 0 }
abbrev rm_LW_restrict : Room := { frames := 3, cells := 0, slots := 0, locals := 70 }
abbrev rx_LW_restrict : Room := { frames := 8, cells := 1, slots := 6, locals := 136 }
abbrev rm_SG_restrict : Room := { frames := 2, cells := 0, slots := 0, locals := 44 }
abbrev rx_SG_restrict : Room := { frames := 7, cells := 1, slots := 6, locals := 110 }
abbrev rm_LW_compose : Room := { frames := 3, cells := 0, slots := 0, locals := 72 }
abbrev rx_LW_compose : Room := { frames := 8, cells := 1, slots := 6, locals := 138 }
abbrev rm_SG_compose : Room := { frames := 2, cells := 0, slots := 0, locals := 44 }
abbrev rx_SG_compose : Room := { frames := 7, cells := 1, slots := 6, locals := 110 }
abbrev rm_LW_quantify : Room := { frames := 3, cells := 0, slots := 0, locals := 75 }
abbrev rx_LW_quantify : Room := { frames := 8, cells := 1, slots := 6, locals := 141 }
abbrev rm_SG_quantify : Room := { frames := 2, cells := 0, slots := 0, locals := 44 }
abbrev rx_SG_quantify : Room := { frames := 7, cells := 1, slots := 6, locals := 110 }
abbrev rm_LW_type : Room := { frames := 2, cells := 0, slots := 0, locals := 44 }
abbrev rx_LW_type : Room := { frames := 7, cells := 1, slots := 6, locals := 113 }
abbrev rm_SG_type : Room := { frames := 1, cells := 0, slots := 0, locals := 20 }
abbrev rx_SG_type : Room := { frames := 6, cells := 1, slots := 6, locals := 89 }
abbrev rm_LW_read : Room := { frames := 6, cells := 0, slots := 0, locals := 130 }
abbrev rx_LW_read : Room := { frames := 8, cells := 1, slots := 6, locals := 132 }
abbrev rm_SG_read : Room := { frames := 5, cells := 0, slots := 0, locals := 108 }
abbrev rx_SG_read : Room := { frames := 7, cells := 1, slots := 6, locals := 110 }
abbrev rm_FR_failurePlace : Room := { frames := 4, cells := 0, slots := 0, locals := 82 }
abbrev rm_FR_beginFormula : Room := { frames := 1, cells := 0, slots := 0, locals := 20 }
abbrev rm_FR_beginFactor : Room := { frames := 0, cells := 0, slots := 0, locals := 0 }
abbrev rm_FR_takeInOperand : Room := { frames := 3, cells := 0, slots := 0, locals := 60 }
abbrev rm_FR_openParenthesis : Room := { frames := 2, cells := 0, slots := 0, locals := 40 }
abbrev rm_FR_endFactor : Room := { frames := 0, cells := 0, slots := 0, locals := 0 }
abbrev rm_FR_takeBehindOperand : Room := { frames := 2, cells := 0, slots := 0, locals := 44 }
abbrev rm_FR_meaning : Room := { frames := 0, cells := 0, slots := 0, locals := 0 }
abbrev rm_FR_closeParenthesis : Room := { frames := 1, cells := 0, slots := 0, locals := 22 }
abbrev rm_LW_release : Room := { frames := 3, cells := 0, slots := 0, locals := 63 }
abbrev rx_LW_release : Room := { frames := 8, cells := 1, slots := 6, locals := 132 }
abbrev rm_SG_release : Room := { frames := 2, cells := 0, slots := 0, locals := 41 }
abbrev rx_SG_release : Room := { frames := 7, cells := 1, slots := 6, locals := 110 }
abbrev rm_RG_clear : Room := { frames := 0, cells := 0, slots := 0, locals := 0 }
abbrev rm_LW_equal : Room := { frames := 3, cells := 0, slots := 0, locals := 64 }
abbrev rx_LW_equal : Room := { frames := 8, cells := 1, slots := 6, locals := 132 }
abbrev rm_SG_equal : Room := { frames := 2, cells := 0, slots := 0, locals := 42 }
abbrev rx_SG_equal : Room := { frames := 7, cells := 1, slots := 6, locals := 110 }
abbrev rm_LW_value : Room := { frames := 3, cells := 0, slots := 0, locals := 64 }
abbrev rx_LW_value : Room := { frames := 8, cells := 1, slots := 6, locals := 132 }
abbrev rm_SG_value : Room := { frames := 2, cells := 0, slots := 0, locals := 42 }
abbrev rx_SG_value : Room := { frames := 7, cells := 1, slots := 6, locals := 110 }
abbrev rm_TB_at : Room := { frames := 0, cells := 0, slots := 0, locals := 0 }
abbrev rm_LW_count : Room := { frames := 3, cells := 0, slots := 0, locals := 63 }
abbrev rx_LW_count : Room := { frames := 8, cells := 1, slots := 6, locals := 131 }
abbrev rm_SG_count : Room := { frames := 2, cells := 0, slots := 0, locals := 42 }
abbrev rx_SG_count : Room := { frames := 7, cells := 1, slots := 6, locals := 110 }
abbrev rm_JL_bitCount : Room := { frames := 0, cells := 0, slots := 0, locals := 0 }
abbrev rm_LW_least : Room := { frames := 3, cells := 0, slots := 0, locals := 66 }
abbrev rx_LW_least : Room := { frames := 8, cells := 1, slots := 6, locals := 134 }
abbrev rm_SG_least : Room := { frames := 2, cells := 0, slots := 0, locals := 42 }
abbrev rx_SG_least : Room := { frames := 7, cells := 1, slots := 6, locals := 110 }
abbrev rm_LW_support : Room := { frames := 4, cells := 0, slots := 0, locals := 91 }
abbrev rx_LW_support : Room := { frames := 8, cells := 1, slots := 6, locals := 135 }
abbrev rm_SG_support : Room := { frames := 3, cells := 0, slots := 0, locals := 66 }
abbrev rx_SG_support : Room := { frames := 7, cells := 1, slots := 6, locals := 110 }
abbrev rm_TB_dependsOn : Room := { frames := 2, cells := 0, slots := 0, locals := 44 }
abbrev rm_LW_size : Room := { frames := 5, cells := 0, slots := 0, locals := 115 }
abbrev rx_LW_size : Room := { frames := 8, cells := 1, slots := 6, locals := 131 }
abbrev rm_SG_size : Room := { frames := 4, cells := 0, slots := 0, locals := 94 }
abbrev rx_SG_size : Room := { frames := 7, cells := 1, slots := 6, locals := 110 }
abbrev rm_LW_width : Room := { frames := 6, cells := 0, slots := 0, locals := 136 }
abbrev rx_LW_width : Room := { frames := 8, cells := 1, slots := 6, locals := 136 }
abbrev rm_SG_width : Room := { frames := 5, cells := 0, slots := 0, locals := 115 }
abbrev rx_SG_width : Room := { frames := 7, cells := 1, slots := 6, locals := 115 }
abbrev rm_NC_onLevel : Room := { frames := 0, cells := 0, slots := 0, locals := 0 }
abbrev rm_LW_variable : Room := { frames := 3, cells := 0, slots := 0, locals := 62 }
abbrev rx_LW_variable : Room := { frames := 8, cells := 1, slots := 6, locals := 131 }
abbrev rm_SG_variable : Room := { frames := 2, cells := 0, slots := 0, locals := 41 }
abbrev rx_SG_variable : Room := { frames := 7, cells := 1, slots := 6, locals := 110 }
abbrev rm_LW_swap : Room := { frames := 6, cells := 0, slots := 0, locals := 136 }
abbrev rx_LW_swap : Room := { frames := 8, cells := 1, slots := 6, locals := 136 }
abbrev rm_SG_swap : Room := { frames := 5, cells := 0, slots := 0, locals := 115 }
abbrev rx_SG_swap : Room := { frames := 7, cells := 1, slots := 6, locals := 115 }
abbrev rm_SG_exchange : Room := { frames := 0, cells := 0, slots := 0, locals := 0 }
abbrev rm_LW_sift : Room := { frames := 6, cells := 0, slots := 0, locals := 140 }
abbrev rx_LW_sift : Room := { frames := 8, cells := 1, slots := 6, locals := 140 }
abbrev rm_SG_sift : Room := { frames := 5, cells := 0, slots := 0, locals := 115 }
abbrev rx_SG_sift : Room := { frames := 7, cells := 1, slots := 6, locals := 115 }
abbrev rm_SG_levelOf : Room := { frames := 0, cells := 0, slots := 0, locals := 0 }
abbrev rm_SG_raise : Room := { frames := 1, cells := 0, slots := 0, locals := 22 }
abbrev rm_MD_init : Room := { frames := 1, cells := 0, slots := 0, locals := 20 }
abbrev rm_MD_thrown : Room := { frames := 0, cells := 0, slots := 0, locals := 0 }
abbrev rm_MD_set : Room := { frames := 2, cells := 0, slots := 0, locals := 42 }
abbrev rm_MD_isRegister : Room := { frames := 1, cells := 0, slots := 0, locals := 22 }
abbrev rm_MD_within : Room := { frames := 0, cells := 0, slots := 0, locals := 0 }
abbrev rm_MD_variableTable : Room := { frames := 0, cells := 0, slots := 0, locals := 0 }
abbrev rm_MD_put : Room := { frames := 0, cells := 0, slots := 0, locals := 0 }
abbrev rm_MD_apply : Room := { frames := 2, cells := 0, slots := 0, locals := 42 }
abbrev rm_MD_at : Room := { frames := 0, cells := 0, slots := 0, locals := 0 }
abbrev rm_MD_choose : Room := { frames := 2, cells := 0, slots := 0, locals := 42 }
abbrev rm_MD_restrict : Room := { frames := 2, cells := 0, slots := 0, locals := 51 }
abbrev rm_MD_with : Room := { frames := 1, cells := 0, slots := 0, locals := 22 }
abbrev rm_MD_compose : Room := { frames := 2, cells := 0, slots := 0, locals := 51 }
abbrev rm_MD_quantify : Room := { frames := 2, cells := 0, slots := 0, locals := 51 }
abbrev rm_MD_release : Room := { frames := 2, cells := 0, slots := 0, locals := 42 }
abbrev rm_MD_type : Room := { frames := 1, cells := 0, slots := 0, locals := 22 }
abbrev rm_MD_read : Room := { frames := 2, cells := 0, slots := 0, locals := 46 }
abbrev rm_MD_begin : Room := { frames := 1, cells := 0, slots := 0, locals := 23 }
abbrev rm_MD_later : Room := { frames := 0, cells := 0, slots := 0, locals := 0 }
abbrev rm_MD_push : Room := { frames := 0, cells := 0, slots := 0, locals := 0 }
abbrev rm_MD_reduce : Room := { frames := 1, cells := 0, slots := 0, locals := 20 }
abbrev rm_MD_strength : Room := { frames := 0, cells := 0, slots := 0, locals := 0 }
abbrev rm_MD_equal : Room := { frames := 2, cells := 0, slots := 0, locals := 42 }
abbrev rm_MD_value : Room := { frames := 2, cells := 0, slots := 0, locals := 42 }
abbrev rm_MD_count : Room := { frames := 3, cells := 0, slots := 0, locals := 63 }
abbrev rm_MD_lack : Room := { frames := 2, cells := 0, slots := 0, locals := 42 }
abbrev rm_MD_least : Room := { frames := 3, cells := 0, slots := 0, locals := 63 }
abbrev rm_MD_support : Room := { frames := 3, cells := 0, slots := 0, locals := 73 }
abbrev rm_MD_depends : Room := { frames := 2, cells := 0, slots := 0, locals := 51 }
abbrev rm_MD_size : Room := { frames := 4, cells := 0, slots := 0, locals := 100 }
abbrev rm_MD_findAll : Room := { frames := 3, cells := 0, slots := 0, locals := 73 }
abbrev rm_MD_find : Room := { frames := 0, cells := 0, slots := 0, locals := 0 }
abbrev rm_MD_shared : Room := { frames := 6, cells := 0, slots := 0, locals := 144 }
abbrev rm_MD_all : Room := { frames := 5, cells := 0, slots := 0, locals := 122 }
abbrev rm_MD_widthOf : Room := { frames := 4, cells := 0, slots := 0, locals := 100 }
abbrev rm_MD_width : Room := { frames := 5, cells := 0, slots := 0, locals := 122 }
abbrev rm_MD_variable : Room := { frames := 1, cells := 0, slots := 0, locals := 22 }
abbrev rm_MD_swap : Room := { frames := 6, cells := 0, slots := 0, locals := 144 }
abbrev rm_MD_sift : Room := { frames := 6, cells := 0, slots := 0, locals := 144 }
abbrev rm_MD_arrange : Room := { frames := 0, cells := 0, slots := 0, locals := 0 }
theorem v_SG_shared : cm_V y_SG_shared w_SG_shared 0 := ⟨⟨tw_105, tw_106, tw_1, tw_107⟩, ⟨by decide, by decide, by decide⟩⟩
theorem v_SG_nodesOfAll : cm_V y_SG_nodesOfAll w_SG_nodesOfAll 0 := ⟨⟨tw_110, ts_0, tw_1, tw_111⟩, ⟨by decide, by decide, by decide⟩⟩
theorem v_NC_begin : cm_V y_NC_begin w_NC_begin 0 := ⟨⟨tw_113, tw_114, tw_4, tw_115⟩, ⟨by decide, by decide, by decide⟩⟩
theorem v_RG_isHeld : cm_V y_RG_isHeld w_RG_isHeld 1 := ⟨⟨tw_117, tw_118, tw_2, tw_119⟩, ⟨by decide, by decide, by decide⟩⟩
theorem v_RG_table : cm_V y_RG_table w_RG_table 1 := ⟨⟨tw_121, tw_122, tw_2, tw_123⟩, ⟨by decide, by decide, by decide⟩⟩
theorem v_NC_add : cm_V y_NC_add w_NC_add 1 := ⟨⟨tw_125, tw_126, tw_4, tw_127⟩, ⟨by decide, by decide, by decide⟩⟩
theorem v_NC_total : cm_V y_NC_total w_NC_total 1 := ⟨⟨tw_129, tw_130, tw_4, tw_131⟩, ⟨by decide, by decide, by decide⟩⟩
theorem v_NC_goDown : cm_V y_NC_goDown w_NC_goDown 0 := ⟨⟨tw_134, ts_1, tw_4, tw_135⟩, ⟨by decide, by decide, by decide⟩⟩
theorem v_NC_branch : cm_V y_NC_branch w_NC_branch 1 := ⟨⟨tw_138, ts_2, tw_4, tw_139⟩, ⟨by decide, by decide, by decide⟩⟩
theorem v_TB_withZero : cm_S y_TB_withZero w_TB_withZero 2 := ⟨⟨tw_141, tw_10, tw_142⟩, ⟨by decide, by decide, by decide⟩⟩
theorem v_TB_weight : cm_S y_TB_weight w_TB_weight 1 := ⟨⟨tw_147, tw_10, tw_148⟩, ⟨by decide, by decide, by decide⟩⟩
theorem v_TB_withOne : cm_S y_TB_withOne w_TB_withOne 2 := ⟨⟨tw_150, tw_10, tw_151⟩, ⟨by decide, by decide, by decide⟩⟩
theorem v_SG_set : cm_V y_SG_set w_SG_set 2 := ⟨⟨tw_158, tw_159, tw_1, tw_160⟩, ⟨by decide, by decide, by decide⟩⟩
theorem v_SG_checkBelow : cm_S y_SG_checkBelow w_SG_checkBelow 2 := ⟨⟨tw_162, tw_1, tw_163⟩, ⟨by decide, by decide, by decide⟩⟩
theorem v_TB_ofVariable : cm_S y_TB_ofVariable w_TB_ofVariable 1 := ⟨⟨tw_227, tw_10, tw_228⟩, ⟨by decide, by decide, by decide⟩⟩
theorem v_RG_put : cm_V y_RG_put w_RG_put 2 := ⟨⟨tw_231, tw_232, tw_2, tw_233⟩, ⟨by decide, by decide, by decide⟩⟩
theorem v_SG_apply : cm_V y_SG_apply w_SG_apply 4 := ⟨⟨tw_239, tw_240, tw_1, tw_241⟩, ⟨by decide, by decide, by decide⟩⟩
theorem v_SG_look : cm_V y_SG_look w_SG_look 1 := ⟨⟨tw_244, ts_4, tw_1, tw_245⟩, ⟨by decide, by decide, by decide⟩⟩
theorem v_TB_connected : cm_S y_TB_connected w_TB_connected 3 := ⟨⟨tw_262, tw_10, tw_263⟩, ⟨by decide, by decide, by decide⟩⟩
theorem v_SG_choose : cm_V y_SG_choose w_SG_choose 4 := ⟨⟨tw_268, tw_269, tw_1, tw_270⟩, ⟨by decide, by decide, by decide⟩⟩
theorem v_TB_chosen : cm_S y_TB_chosen w_TB_chosen 3 := ⟨⟨tw_272, tw_10, tw_273⟩, ⟨by decide, by decide, by decide⟩⟩
theorem v_SG_restrict : cm_V y_SG_restrict w_SG_restrict 4 := ⟨⟨tw_278, tw_279, tw_1, tw_280⟩, ⟨by decide, by decide, by decide⟩⟩
theorem v_SG_compose : cm_V y_SG_compose w_SG_compose 4 := ⟨⟨tw_287, tw_288, tw_1, tw_289⟩, ⟨by decide, by decide, by decide⟩⟩
theorem v_SG_quantify : cm_V y_SG_quantify w_SG_quantify 4 := ⟨⟨tw_294, tw_295, tw_1, tw_296⟩, ⟨by decide, by decide, by decide⟩⟩
theorem v_SG_type : cm_V y_SG_type w_SG_type 2 := ⟨⟨tw_301, tw_302, tw_1, tw_303⟩, ⟨by decide, by decide, by decide⟩⟩
theorem v_SG_read : cm_V y_SG_read w_SG_read 1 := ⟨⟨tw_309, tw_310, tw_1, tw_311⟩, ⟨by decide, by decide, by decide⟩⟩
theorem v_FR_failurePlace : cm_V y_FR_failurePlace w_FR_failurePlace 3 := ⟨⟨tw_313, tw_314, tw_3, tw_315⟩, ⟨by decide, by decide, by decide⟩⟩
theorem v_FR_beginFormula : cm_V y_FR_beginFormula w_FR_beginFormula 0 := ⟨⟨tw_318, ts_5, tw_3, tw_319⟩, ⟨by decide, by decide, by decide⟩⟩
theorem v_FR_beginFactor : cm_V y_FR_beginFactor w_FR_beginFactor 0 := ⟨⟨tw_323, ts_6, tw_3, tw_324⟩, ⟨by decide, by decide, by decide⟩⟩
theorem v_FR_takeInOperand : cm_V y_FR_takeInOperand w_FR_takeInOperand 2 := ⟨⟨tw_327, ts_7, tw_3, tw_328⟩, ⟨by decide, by decide, by decide⟩⟩
theorem v_FR_openParenthesis : cm_V y_FR_openParenthesis w_FR_openParenthesis 0 := ⟨⟨tw_331, ts_8, tw_3, tw_332⟩, ⟨by decide, by decide, by decide⟩⟩
theorem v_FR_endFactor : cm_V y_FR_endFactor w_FR_endFactor 1 := ⟨⟨tw_335, ts_9, tw_3, tw_336⟩, ⟨by decide, by decide, by decide⟩⟩
theorem v_FR_takeBehindOperand : cm_V y_FR_takeBehindOperand w_FR_takeBehindOperand 1 := ⟨⟨tw_342, ts_10, tw_3, tw_343⟩, ⟨by decide, by decide, by decide⟩⟩
theorem v_FR_meaning : cm_V y_FR_meaning w_FR_meaning 0 := ⟨⟨tw_345, tw_346, tw_3, tw_347⟩, ⟨by decide, by decide, by decide⟩⟩
theorem v_FR_closeParenthesis : cm_V y_FR_closeParenthesis w_FR_closeParenthesis 0 := ⟨⟨tw_350, ts_11, tw_3, tw_351⟩, ⟨by decide, by decide, by decide⟩⟩
theorem v_SG_release : cm_V y_SG_release w_SG_release 1 := ⟨⟨tw_357, tw_358, tw_1, tw_359⟩, ⟨by decide, by decide, by decide⟩⟩
theorem v_RG_clear : cm_V y_RG_clear w_RG_clear 1 := ⟨⟨tw_361, tw_362, tw_2, tw_363⟩, ⟨by decide, by decide, by decide⟩⟩
theorem v_SG_equal : cm_V y_SG_equal w_SG_equal 2 := ⟨⟨tw_368, tw_369, tw_1, tw_370⟩, ⟨by decide, by decide, by decide⟩⟩
theorem v_SG_value : cm_V y_SG_value w_SG_value 2 := ⟨⟨tw_375, tw_376, tw_1, tw_377⟩, ⟨by decide, by decide, by decide⟩⟩
theorem v_TB_at : cm_S y_TB_at w_TB_at 2 := ⟨⟨tw_379, tw_10, tw_380⟩, ⟨by decide, by decide, by decide⟩⟩
theorem v_SG_count : cm_V y_SG_count w_SG_count 1 := ⟨⟨tw_385, tw_386, tw_1, tw_387⟩, ⟨by decide, by decide, by decide⟩⟩
theorem v_JL_bitCount : cm_S y_JL_bitCount w_JL_bitCount 1 := ⟨⟨tw_389, tw_12, tw_390⟩, ⟨by decide, by decide, by decide⟩⟩
theorem v_SG_least : cm_V y_SG_least w_SG_least 1 := ⟨⟨tw_398, tw_399, tw_1, tw_400⟩, ⟨by decide, by decide, by decide⟩⟩
theorem v_SG_support : cm_V y_SG_support w_SG_support 1 := ⟨⟨tw_405, tw_406, tw_1, tw_407⟩, ⟨by decide, by decide, by decide⟩⟩
theorem v_TB_dependsOn : cm_S y_TB_dependsOn w_TB_dependsOn 2 := ⟨⟨tw_409, tw_10, tw_410⟩, ⟨by decide, by decide, by decide⟩⟩
theorem v_SG_size : cm_V y_SG_size w_SG_size 1 := ⟨⟨tw_417, tw_418, tw_1, tw_419⟩, ⟨by decide, by decide, by decide⟩⟩
theorem v_SG_width : cm_V y_SG_width w_SG_width 1 := ⟨⟨tw_424, tw_425, tw_1, tw_426⟩, ⟨by decide, by decide, by decide⟩⟩
theorem v_NC_onLevel : cm_V y_NC_onLevel w_NC_onLevel 1 := ⟨⟨tw_428, tw_429, tw_4, tw_430⟩, ⟨by decide, by decide, by decide⟩⟩
theorem v_SG_variable : cm_V y_SG_variable w_SG_variable 1 := ⟨⟨tw_435, tw_436, tw_1, tw_437⟩, ⟨by decide, by decide, by decide⟩⟩
theorem v_SG_swap : cm_V y_SG_swap w_SG_swap 1 := ⟨⟨tw_442, tw_443, tw_1, tw_444⟩, ⟨by decide, by decide, by decide⟩⟩
theorem v_SG_exchange : cm_V y_SG_exchange w_SG_exchange 1 := ⟨⟨tw_447, ts_12, tw_1, tw_448⟩, ⟨by decide, by decide, by decide⟩⟩
theorem v_SG_sift : cm_V y_SG_sift w_SG_sift 1 := ⟨⟨tw_453, tw_454, tw_1, tw_455⟩, ⟨by decide, by decide, by decide⟩⟩
theorem v_SG_levelOf : cm_V y_SG_levelOf w_SG_levelOf 1 := ⟨⟨tw_458, ts_13, tw_1, tw_459⟩, ⟨by decide, by decide, by decide⟩⟩
theorem v_SG_raise : cm_V y_SG_raise w_SG_raise 2 := ⟨⟨tw_462, ts_14, tw_1, tw_463⟩, ⟨by decide, by decide, by decide⟩⟩
theorem v_MD_thrown : cm_V y_MD_thrown w_MD_thrown 0 := ⟨⟨tw_511, tw_512, tw_5, tw_513⟩, ⟨by decide, by decide, by decide⟩⟩
theorem v_MD_set : cm_V y_MD_set w_MD_set 2 := ⟨⟨tw_515, tw_516, tw_5, tw_517⟩, ⟨by decide, by decide, by decide⟩⟩
theorem v_MD_isRegister : cm_S y_MD_isRegister w_MD_isRegister 1 := ⟨⟨tw_519, tw_5, tw_520⟩, ⟨by decide, by decide, by decide⟩⟩
theorem v_MD_within : cm_S y_MD_within w_MD_within 3 := ⟨⟨tw_522, tw_5, tw_523⟩, ⟨by decide, by decide, by decide⟩⟩
theorem v_MD_variableTable : cm_S y_MD_variableTable w_MD_variableTable 1 := ⟨⟨tw_525, tw_5, tw_526⟩, ⟨by decide, by decide, by decide⟩⟩
theorem v_MD_put : cm_V y_MD_put w_MD_put 2 := ⟨⟨tw_530, ts_15, tw_5, tw_531⟩, ⟨by decide, by decide, by decide⟩⟩
theorem v_MD_apply : cm_V y_MD_apply w_MD_apply 4 := ⟨⟨tw_533, tw_534, tw_5, tw_535⟩, ⟨by decide, by decide, by decide⟩⟩
theorem v_MD_at : cm_S y_MD_at w_MD_at 2 := ⟨⟨tw_537, tw_5, tw_538⟩, ⟨by decide, by decide, by decide⟩⟩
theorem v_MD_choose : cm_V y_MD_choose w_MD_choose 4 := ⟨⟨tw_540, tw_541, tw_5, tw_542⟩, ⟨by decide, by decide, by decide⟩⟩
theorem v_MD_restrict : cm_V y_MD_restrict w_MD_restrict 4 := ⟨⟨tw_544, tw_545, tw_5, tw_546⟩, ⟨by decide, by decide, by decide⟩⟩
theorem v_MD_with : cm_S y_MD_with w_MD_with 3 := ⟨⟨tw_548, tw_5, tw_549⟩, ⟨by decide, by decide, by decide⟩⟩
theorem v_MD_compose : cm_V y_MD_compose w_MD_compose 4 := ⟨⟨tw_551, tw_552, tw_5, tw_553⟩, ⟨by decide, by decide, by decide⟩⟩
theorem v_MD_quantify : cm_V y_MD_quantify w_MD_quantify 4 := ⟨⟨tw_555, tw_556, tw_5, tw_557⟩, ⟨by decide, by decide, by decide⟩⟩
theorem v_MD_release : cm_V y_MD_release w_MD_release 1 := ⟨⟨tw_559, tw_560, tw_5, tw_561⟩, ⟨by decide, by decide, by decide⟩⟩
theorem v_MD_type : cm_V y_MD_type w_MD_type 2 := ⟨⟨tw_563, tw_564, tw_5, tw_565⟩, ⟨by decide, by decide, by decide⟩⟩
theorem v_MD_read : cm_V y_MD_read w_MD_read 1 := ⟨⟨tw_567, tw_568, tw_5, tw_569⟩, ⟨by decide, by decide, by decide⟩⟩
theorem v_MD_begin : cm_V y_MD_begin w_MD_begin 2 := ⟨⟨tw_572, ts_16, tw_5, tw_573⟩, ⟨by decide, by decide, by decide⟩⟩
theorem v_MD_later : cm_V y_MD_later w_MD_later 1 := ⟨⟨tw_576, ts_17, tw_5, tw_577⟩, ⟨by decide, by decide, by decide⟩⟩
theorem v_MD_push : cm_V y_MD_push w_MD_push 1 := ⟨⟨tw_580, ts_18, tw_5, tw_581⟩, ⟨by decide, by decide, by decide⟩⟩
theorem v_MD_reduce : cm_V y_MD_reduce w_MD_reduce 1 := ⟨⟨tw_584, ts_19, tw_5, tw_585⟩, ⟨by decide, by decide, by decide⟩⟩
theorem v_MD_strength : cm_S y_MD_strength w_MD_strength 1 := ⟨⟨tw_587, tw_5, tw_588⟩, ⟨by decide, by decide, by decide⟩⟩
theorem v_MD_equal : cm_V y_MD_equal w_MD_equal 2 := ⟨⟨tw_590, tw_591, tw_5, tw_592⟩, ⟨by decide, by decide, by decide⟩⟩
theorem v_MD_value : cm_V y_MD_value w_MD_value 2 := ⟨⟨tw_594, tw_595, tw_5, tw_596⟩, ⟨by decide, by decide, by decide⟩⟩
theorem v_MD_count : cm_V y_MD_count w_MD_count 1 := ⟨⟨tw_598, tw_599, tw_5, tw_600⟩, ⟨by decide, by decide, by decide⟩⟩
theorem v_MD_lack : cm_V y_MD_lack w_MD_lack 1 := ⟨⟨tw_603, ts_20, tw_5, tw_604⟩, ⟨by decide, by decide, by decide⟩⟩
theorem v_MD_least : cm_V y_MD_least w_MD_least 1 := ⟨⟨tw_606, tw_607, tw_5, tw_608⟩, ⟨by decide, by decide, by decide⟩⟩
theorem v_MD_support : cm_V y_MD_support w_MD_support 1 := ⟨⟨tw_610, tw_611, tw_5, tw_612⟩, ⟨by decide, by decide, by decide⟩⟩
theorem v_MD_depends : cm_S y_MD_depends w_MD_depends 2 := ⟨⟨tw_614, tw_5, tw_615⟩, ⟨by decide, by decide, by decide⟩⟩
theorem v_MD_size : cm_V y_MD_size w_MD_size 1 := ⟨⟨tw_617, tw_618, tw_5, tw_619⟩, ⟨by decide, by decide, by decide⟩⟩
theorem v_MD_findAll : cm_V y_MD_findAll w_MD_findAll 2 := ⟨⟨tw_622, ts_21, tw_5, tw_623⟩, ⟨by decide, by decide, by decide⟩⟩
theorem v_MD_find : cm_V y_MD_find w_MD_find 1 := ⟨⟨tw_626, ts_22, tw_5, tw_627⟩, ⟨by decide, by decide, by decide⟩⟩
theorem v_MD_shared : cm_V y_MD_shared w_MD_shared 0 := ⟨⟨tw_629, tw_630, tw_5, tw_631⟩, ⟨by decide, by decide, by decide⟩⟩
theorem v_MD_all : cm_V y_MD_all w_MD_all 0 := ⟨⟨tw_634, ts_23, tw_5, tw_635⟩, ⟨by decide, by decide, by decide⟩⟩
theorem v_MD_widthOf : cm_V y_MD_widthOf w_MD_widthOf 1 := ⟨⟨tw_638, ts_24, tw_5, tw_639⟩, ⟨by decide, by decide, by decide⟩⟩
theorem v_MD_width : cm_V y_MD_width w_MD_width 1 := ⟨⟨tw_641, tw_642, tw_5, tw_643⟩, ⟨by decide, by decide, by decide⟩⟩
theorem v_MD_variable : cm_V y_MD_variable w_MD_variable 1 := ⟨⟨tw_645, tw_646, tw_5, tw_647⟩, ⟨by decide, by decide, by decide⟩⟩
theorem v_MD_swap : cm_V y_MD_swap w_MD_swap 1 := ⟨⟨tw_649, tw_650, tw_5, tw_651⟩, ⟨by decide, by decide, by decide⟩⟩
theorem v_MD_sift : cm_V y_MD_sift w_MD_sift 1 := ⟨⟨tw_653, tw_654, tw_5, tw_655⟩, ⟨by decide, by decide, by decide⟩⟩
theorem v_MD_arrange : cm_V y_MD_arrange w_MD_arrange 2 := ⟨⟨tw_658, ts_25, tw_5, tw_659⟩, ⟨by decide, by decide, by decide⟩⟩
