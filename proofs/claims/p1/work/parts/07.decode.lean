
theorem dX0_init_5 : decode cX0_init 5 = .ok (.new 9, 3) := by decide +kernel
theorem dX0_init_16 : decode cX0_init 16 = .ok (.aload_n 0, 1) := by decide +kernel
theorem dX0_init_25 : decode cX0_init 25 = .ok (.putfield 20, 3) := by decide +kernel
theorem dX0_init_34 : decode cX0_init 34 = .ok (.invokespecial 11, 3) := by decide +kernel
theorem dX0_init_45 : decode cX0_init 45 = .ok (.iconst 4, 1) := by decide +kernel
theorem dX0_init_56 : decode cX0_init 56 = .ok (.dup, 1) := by decide +kernel
theorem dX0_init_65 : decode cX0_init 65 = .ok (.new 9, 3) := by decide +kernel
theorem dX0_init_76 : decode cX0_init 76 = .ok (.aload_n 0, 1) := by decide +kernel
theorem dX0_init_86 : decode cX0_init 86 = .ok (.putfield 35, 3) := by decide +kernel
theorem dX0_init_95 : decode cX0_init 95 = .ok (.iconst 0, 1) := by decide +kernel
theorem dX0_init_104 : decode cX0_init 104 = .ok (.aload_n 0, 1) := by decide +kernel
theorem dX0_faultOf_1 : decode cX0_faultOf 1 = .ok (.aload_n 1, 1) := by decide +kernel
theorem dX0_faultOf_10 : decode cX0_faultOf 10 = .ok (.istore_n 3, 1) := by decide +kernel
theorem dX0_faultOf_102 : decode cX0_faultOf 102 = .ok (.aload_n 0, 1) := by decide +kernel
theorem dX0_faultOf_113 : decode cX0_faultOf 113 = .ok (.invokevirtual 87, 3) := by decide +kernel
theorem dX0_begin_0 : decode cX0_begin 0 = .ok (.aload_n 0, 1) := by decide +kernel
theorem dX0_begin_11 : decode cX0_begin 11 = .ok (.invokevirtual 100, 3) := by decide +kernel
theorem dX0_begin_22 : decode cX0_begin 22 = .ok (.getfield 26, 3) := by decide +kernel
theorem dX0_begin_35 : decode cX0_begin 35 = .ok (.aload_n 0, 1) := by decide +kernel
theorem dX0_begin_46 : decode cX0_begin 46 = .ok (.invokevirtual 100, 3) := by decide +kernel
theorem dX0_begin_55 : decode cX0_begin 55 = .ok (.invokevirtual 103, 3) := by decide +kernel
theorem dX0_startSum_5 : decode cX0_startSum 5 = .ok (.invokevirtual 60, 3) := by decide +kernel
theorem dX0_startSum_16 : decode cX0_startSum 16 = .ok (.invokevirtual 60, 3) := by decide +kernel
theorem dX0_isBehindFactor_4 : decode cX0_isBehindFactor 4 = .ok (.iconst 2, 1) := by decide +kernel
theorem dX0_isBehindFactor_13 : decode cX0_isBehindFactor 13 = .ok (.if_icmp .ne 7, 3) := by decide +kernel
theorem dX1_init_4 : decode cX1_init 4 = .ok (.aload_n 0, 1) := by decide +kernel
theorem dX1_init_13 : decode cX1_init 13 = .ok (.putfield 14, 3) := by decide +kernel
theorem dX1_init_22 : decode cX1_init 22 = .ok (.invokespecial 11, 3) := by decide +kernel
theorem dX1_init_33 : decode cX1_init 33 = .ok (.bipush 61, 2) := by decide +kernel
theorem dX1_faultOf_1 : decode cX1_faultOf 1 = .ok (.getfield 14, 3) := by decide +kernel
theorem dX1_faultOf_10 : decode cX1_faultOf 10 = .ok (.aload_n 1, 1) := by decide +kernel
theorem dX1_faultOf_119 : decode cX1_faultOf 119 = .ok (.invokevirtual 41, 3) := by decide +kernel
theorem dX1_build_0 : decode cX1_build 0 = .ok (.aload_n 0, 1) := by decide +kernel
theorem dX1_build_11 : decode cX1_build 11 = .ok (.invokevirtual 38, 3) := by decide +kernel
theorem dX1_build_19 : decode cX1_build 19 = .ok (.iload 4, 2) := by decide +kernel
theorem dX1_build_102 : decode cX1_build 102 = .ok (.iconst 0, 1) := by decide +kernel
theorem dX1_gathered_1 : decode cX1_gathered 1 = .ok (.getfield 23, 3) := by decide +kernel
theorem dX1_gathered_10 : decode cX1_gathered 10 = .ok (.iload_n 3, 1) := by decide +kernel
theorem dX1_gathered_19 : decode cX1_gathered 19 = .ok (.ireturn, 1) := by decide +kernel
theorem dX2_init_8 : decode cX2_init 8 = .ok (.dup, 1) := by decide +kernel
theorem dX2_init_19 : decode cX2_init 19 = .ok (.dup, 1) := by decide +kernel
theorem dX2_init_30 : decode cX2_init 30 = .ok (.new 18, 3) := by decide +kernel
theorem dX2_init_43 : decode cX2_init 43 = .ok (.aload_n 0, 1) := by decide +kernel
theorem dX2_init_53 : decode cX2_init 53 = .ok (.putfield 30, 3) := by decide +kernel
theorem dX2_init_63 : decode cX2_init 63 = .ok (.invokespecial 20, 3) := by decide +kernel
theorem dX2_init_74 : decode cX2_init 74 = .ok (.bipush 100, 2) := by decide +kernel
theorem dX2_init_86 : decode cX2_init 86 = .ok (.dup, 1) := by decide +kernel
theorem dX2_init_96 : decode cX2_init 96 = .ok (.new 18, 3) := by decide +kernel
theorem dX2_init_109 : decode cX2_init 109 = .ok (.aload_n 0, 1) := by decide +kernel
theorem dX2_init_116 : decode cX2_init 116 = .ok (.putfield 49, 3) := by decide +kernel
theorem dX2_init_125 : decode cX2_init 125 = .ok (.iconst 1, 1) := by decide +kernel
theorem dX2_init_134 : decode cX2_init 134 = .ok (.aload_n 0, 1) := by decide +kernel
theorem dX2_init_141 : decode cX2_init 141 = .ok (.putfield 64, 3) := by decide +kernel
theorem dX2_init_150 : decode cX2_init 150 = .ok (.iconst (-1), 1) := by decide +kernel
theorem dX2_init_159 : decode cX2_init 159 = .ok (.aload_n 1, 1) := by decide +kernel
theorem dX3_init_1 : decode cX3_init 1 = .ok (.invokespecial 3, 3) := by decide +kernel
theorem dX3_init_11 : decode cX3_init 11 = .ok (.invokespecial 11, 3) := by decide +kernel
theorem dX3_init_22 : decode cX3_init 22 = .ok (.sipush 4960, 3) := by decide +kernel
theorem dX3_init_35 : decode cX3_init 35 = .ok (.dup, 1) := by decide +kernel
theorem dX3_init_46 : decode cX3_init 46 = .ok (.new 9, 3) := by decide +kernel
theorem dX3_init_59 : decode cX3_init 59 = .ok (.aload_n 0, 1) := by decide +kernel
theorem dX3_init_70 : decode cX3_init 70 = .ok (.putfield 29, 3) := by decide +kernel
theorem dX3_init_81 : decode cX3_init 81 = .ok (.invokespecial 11, 3) := by decide +kernel
theorem dX3_init_92 : decode cX3_init 92 = .ok (.sipush 4960, 3) := by decide +kernel
theorem dX3_init_105 : decode cX3_init 105 = .ok (.dup, 1) := by decide +kernel
theorem dX3_init_116 : decode cX3_init 116 = .ok (.new 9, 3) := by decide +kernel
theorem dX3_init_129 : decode cX3_init 129 = .ok (.return_, 1) := by decide +kernel
theorem dX3_has_0 : decode cX3_has 0 = .ok (.iload_n 1, 1) := by decide +kernel
theorem dX3_has_9 : decode cX3_has 9 = .ok (.invokevirtual 44, 3) := by decide +kernel
theorem dX3_signs_1 : decode cX3_signs 1 = .ok (.getfield 41, 3) := by decide +kernel
theorem dX3_weightOfAll_3 : decode cX3_weightOfAll 3 = .ok (.istore_n 2, 1) := by decide +kernel
theorem dX3_weightOfAll_12 : decode cX3_weightOfAll 12 = .ok (.if_icmp .ge 17, 3) := by decide +kernel
theorem dX3_clear_4 : decode cX3_clear 4 = .ok (.invokevirtual 55, 3) := by decide +kernel
theorem dX3_clear_15 : decode cX3_clear 15 = .ok (.getfield 23, 3) := by decide +kernel
theorem dX3_clear_28 : decode cX3_clear 28 = .ok (.aload_n 0, 1) := by decide +kernel
theorem dX3_clear_39 : decode cX3_clear 39 = .ok (.invokevirtual 55, 3) := by decide +kernel
theorem dX3_clear_50 : decode cX3_clear 50 = .ok (.getfield 38, 3) := by decide +kernel
theorem dX3_clear_63 : decode cX3_clear 63 = .ok (.return_, 1) := by decide +kernel
theorem dX3_number_8 : decode cX3_number 8 = .ok (.aload_n 0, 1) := by decide +kernel
theorem dX3_number_17 : decode cX3_number 17 = .ok (.ireturn, 1) := by decide +kernel
theorem dX3_addSign_8 : decode cX3_addSign 8 = .ok (.return_, 1) := by decide +kernel
theorem dX3_addText_6 : decode cX3_addText 6 = .ok (.invokevirtual 44, 3) := by decide +kernel
theorem dX3_addText_13 : decode cX3_addText 13 = .ok (.iconst 1, 1) := by decide +kernel
theorem dX3_addMark_1 : decode cX3_addMark 1 = .ok (.iload_n 1, 1) := by decide +kernel
theorem dX3_addMark_6 : decode cX3_addMark 6 = .ok (.iconst 1, 1) := by decide +kernel
theorem dX3_addPlace_4 : decode cX3_addPlace 4 = .ok (.iload_n 1, 1) := by decide +kernel
theorem dX3_addPlace_13 : decode cX3_addPlace 13 = .ok (.invokevirtual 58, 3) := by decide +kernel
theorem dX3_addPlace_24 : decode cX3_addPlace 24 = .ok (.aload_n 0, 1) := by decide +kernel
theorem dX3_addPlace_34 : decode cX3_addPlace 34 = .ok (.getfield 32, 3) := by decide +kernel
theorem dX3_addPlace_46 : decode cX3_addPlace 46 = .ok (.iload 6, 2) := by decide +kernel
theorem dX3_addPlace_58 : decode cX3_addPlace 58 = .ok (.iconst 1, 1) := by decide +kernel
theorem dX4_init_4 : decode cX4_init 4 = .ok (.aload_n 0, 1) := by decide +kernel
theorem dX4_init_11 : decode cX4_init 11 = .ok (.ifCond .le 7, 3) := by decide +kernel
theorem dX4_init_24 : decode cX4_init 24 = .ok (.return_, 1) := by decide +kernel
theorem dX4_get_1 : decode cX4_get 1 = .ok (.ifCond .lt 29, 3) := by decide +kernel
theorem dX4_get_12 : decode cX4_get 12 = .ok (.iload_n 1, 1) := by decide +kernel
theorem dX4_get_21 : decode cX4_get 21 = .ok (.aload_n 0, 1) := by decide +kernel
theorem dX4_get_31 : decode cX4_get 31 = .ok (.ireturn, 1) := by decide +kernel
theorem dX4_add_8 : decode cX4_add 8 = .ok (.getfield 7, 3) := by decide +kernel
theorem dX4_add_19 : decode cX4_add 19 = .ok (.aload_n 0, 1) := by decide +kernel
theorem dX4_add_28 : decode cX4_add 28 = .ok (.iastore, 1) := by decide +kernel
theorem dX4_add_35 : decode cX4_add 35 = .ok (.iadd, 1) := by decide +kernel
theorem dX4_cut_4 : decode cX4_cut 4 = .ok (.iload_n 1, 1) := by decide +kernel
theorem dX4_cut_13 : decode cX4_cut 13 = .ok (.iload_n 1, 1) := by decide +kernel
theorem dX4_clear_2 : decode cX4_clear 2 = .ok (.putfield 7, 3) := by decide +kernel
theorem dX4_copy_5 : decode cX4_copy 5 = .ok (.iconst 0, 1) := by decide +kernel
theorem dX4_copy_12 : decode cX4_copy 12 = .ok (.if_icmp .ge 18, 3) := by decide +kernel
theorem dX5_init_5 : decode cX5_init 5 = .ok (.new 9, 3) := by decide +kernel
theorem dX5_init_18 : decode cX5_init 18 = .ok (.aload_n 0, 1) := by decide +kernel
theorem dX5_init_29 : decode cX5_init 29 = .ok (.putfield 20, 3) := by decide +kernel
theorem dX5_init_40 : decode cX5_init 40 = .ok (.invokespecial 11, 3) := by decide +kernel
theorem dX5_init_51 : decode cX5_init 51 = .ok (.sipush 2500, 3) := by decide +kernel
theorem dX5_init_64 : decode cX5_init 64 = .ok (.dup, 1) := by decide +kernel
theorem dX5_init_74 : decode cX5_init 74 = .ok (.new 9, 3) := by decide +kernel
theorem dX5_init_87 : decode cX5_init 87 = .ok (.aload_n 0, 1) := by decide +kernel
theorem dX5_init_98 : decode cX5_init 98 = .ok (.putfield 35, 3) := by decide +kernel
theorem dX5_init_109 : decode cX5_init 109 = .ok (.invokespecial 11, 3) := by decide +kernel
theorem dX5_init_120 : decode cX5_init 120 = .ok (.sipush 2501, 3) := by decide +kernel
theorem dX5_init_131 : decode cX5_init 131 = .ok (.putfield 44, 3) := by decide +kernel
theorem dX6_init_5 : decode cX6_init 5 = .ok (.new 9, 3) := by decide +kernel
theorem dX6_init_18 : decode cX6_init 18 = .ok (.aload_n 0, 1) := by decide +kernel
theorem dX6_init_25 : decode cX6_init 25 = .ok (.putfield 24, 3) := by decide +kernel
theorem dX6_init_34 : decode cX6_init 34 = .ok (.aload 4, 2) := by decide +kernel
theorem dX6_holds_3 : decode cX6_holds 3 = .ok (.iconst 0, 1) := by decide +kernel
theorem dX6_holds_12 : decode cX6_holds 12 = .ok (.isub, 1) := by decide +kernel
theorem dX6_holds_21 : decode cX6_holds 21 = .ok (.getfield 20, 3) := by decide +kernel
theorem dX6_holds_88 : decode cX6_holds 88 = .ok (.ifCond .ne 6, 3) := by decide +kernel
theorem dX7_init_4 : decode cX7_init 4 = .ok (.aload_n 0, 1) := by decide +kernel
theorem dX7_init_14 : decode cX7_init 14 = .ok (.putfield 14, 3) := by decide +kernel
theorem dX7_init_24 : decode cX7_init 24 = .ok (.invokespecial 11, 3) := by decide +kernel
theorem dX7_init_35 : decode cX7_init 35 = .ok (.bipush 120, 2) := by decide +kernel
theorem dX7_init_47 : decode cX7_init 47 = .ok (.dup, 1) := by decide +kernel
theorem dX7_init_57 : decode cX7_init 57 = .ok (.new 9, 3) := by decide +kernel
theorem dX7_init_69 : decode cX7_init 69 = .ok (.aload_n 0, 1) := by decide +kernel
theorem dX7_init_79 : decode cX7_init 79 = .ok (.putfield 32, 3) := by decide +kernel
theorem dX7_init_89 : decode cX7_init 89 = .ok (.invokespecial 11, 3) := by decide +kernel
theorem dX7_init_100 : decode cX7_init 100 = .ok (.bipush 60, 2) := by decide +kernel
theorem dX7_init_112 : decode cX7_init 112 = .ok (.dup, 1) := by decide +kernel
theorem dX7_init_122 : decode cX7_init 122 = .ok (.iconst (-1), 1) := by decide +kernel
theorem dX7_start_4 : decode cX7_start 4 = .ok (.invokevirtual 48, 3) := by decide +kernel
theorem dX7_start_15 : decode cX7_start 15 = .ok (.getfield 23, 3) := by decide +kernel
theorem dX7_start_28 : decode cX7_start 28 = .ok (.aload_n 0, 1) := by decide +kernel
theorem dX7_start_39 : decode cX7_start 39 = .ok (.invokevirtual 48, 3) := by decide +kernel
theorem dX7_start_50 : decode cX7_start 50 = .ok (.getfield 38, 3) := by decide +kernel
theorem dX7_start_61 : decode cX7_start 61 = .ok (.invokevirtual 48, 3) := by decide +kernel
theorem dX7_isThere_0 : decode cX7_isThere 0 = .ok (.aload_n 0, 1) := by decide +kernel
theorem dX7_isThere_13 : decode cX7_isThere 13 = .ok (.ireturn, 1) := by decide +kernel
theorem dX8_init_1 : decode cX8_init 1 = .ok (.invokespecial 3, 3) := by decide +kernel
theorem dX8_init_12 : decode cX8_init 12 = .ok (.invokespecial 11, 3) := by decide +kernel
theorem dX8_init_23 : decode cX8_init 23 = .ok (.sipush 300, 3) := by decide +kernel
theorem dX8_init_34 : decode cX8_init 34 = .ok (.putfield 23, 3) := by decide +kernel
theorem dX9_init_5 : decode cX9_init 5 = .ok (.new 9, 3) := by decide +kernel
theorem dX9_init_16 : decode cX9_init 16 = .ok (.new 16, 3) := by decide +kernel
theorem dX9_init_28 : decode cX9_init 28 = .ok (.aload_n 0, 1) := by decide +kernel
theorem dX9_init_38 : decode cX9_init 38 = .ok (.putfield 25, 3) := by decide +kernel
theorem dX9_init_49 : decode cX9_init 49 = .ok (.putfield 31, 3) := by decide +kernel
theorem dX9_init_60 : decode cX9_init 60 = .ok (.putfield 38, 3) := by decide +kernel
theorem dX9_init_69 : decode cX9_init 69 = .ok (.getfield 12, 3) := by decide +kernel
theorem dX9_init_82 : decode cX9_init 82 = .ok (.new 42, 3) := by decide +kernel
theorem dX9_init_93 : decode cX9_init 93 = .ok (.invokespecial 48, 3) := by decide +kernel
theorem dX9_init_104 : decode cX9_init 104 = .ok (.aload_n 0, 1) := by decide +kernel
theorem dX9_init_113 : decode cX9_init 113 = .ok (.getfield 51, 3) := by decide +kernel
theorem dX9_init_126 : decode cX9_init 126 = .ok (.aload_n 0, 1) := by decide +kernel
theorem dX9_init_137 : decode cX9_init 137 = .ok (.aload_n 0, 1) := by decide +kernel
theorem dX9_init_148 : decode cX9_init 148 = .ok (.aload_n 0, 1) := by decide +kernel
theorem dX9_init_159 : decode cX9_init 159 = .ok (.aload_n 0, 1) := by decide +kernel
theorem dX9_init_168 : decode cX9_init 168 = .ok (.putfield 88, 3) := by decide +kernel
theorem dX9_init_177 : decode cX9_init 177 = .ok (.iconst 0, 1) := by decide +kernel
theorem dX9_init_186 : decode cX9_init 186 = .ok (.return_, 1) := by decide +kernel
theorem dX9_word_7 : decode cX9_word 7 = .ok (.if_icmp .le 13, 3) := by decide +kernel
theorem dX9_word_19 : decode cX9_word 19 = .ok (.athrow, 1) := by decide +kernel
theorem dX9_word_26 : decode cX9_word 26 = .ok (.bipush 9, 2) := by decide +kernel
theorem dX9_word_37 : decode cX9_word 37 = .ok (.invokespecial 104, 3) := by decide +kernel
theorem dX9_word_46 : decode cX9_word 46 = .ok (.istore_n 3, 1) := by decide +kernel
theorem dX9_word_53 : decode cX9_word 53 = .ok (.getfield 12, 3) := by decide +kernel
theorem dX9_word_63 : decode cX9_word 63 = .ok (.iinc 3 1, 3) := by decide +kernel
theorem dX9_word_74 : decode cX9_word 74 = .ok (.iload_n 2, 1) := by decide +kernel
theorem dX9_mark_1 : decode cX9_mark 1 = .ok (.iconst 1, 1) := by decide +kernel
theorem dX9_mark_10 : decode cX9_mark 10 = .ok (.new 100, 3) := by decide +kernel
theorem dX9_mark_20 : decode cX9_mark 20 = .ok (.aload_n 0, 1) := by decide +kernel
theorem dX9_mark_29 : decode cX9_mark 29 = .ok (.iload_n 1, 1) := by decide +kernel
theorem dX9_join_1 : decode cX9_join 1 = .ok (.iload_n 1, 1) := by decide +kernel
theorem dX9_align_0 : decode cX9_align 0 = .ok (.aload_n 0, 1) := by decide +kernel
theorem dX9_group_2 : decode cX9_group 2 = .ok (.invokevirtual 127, 3) := by decide +kernel
theorem dX9_forget_1 : decode cX9_forget 1 = .ok (.getfield 12, 3) := by decide +kernel
theorem dX9_forget_12 : decode cX9_forget 12 = .ok (.invokevirtual 167, 3) := by decide +kernel
theorem dX9_width_2 : decode cX9_width 2 = .ok (.invokevirtual 170, 3) := by decide +kernel
theorem dX9_width_11 : decode cX9_width 11 = .ok (.iload_n 1, 1) := by decide +kernel
theorem dX9_ribbon_1 : decode cX9_ribbon 1 = .ok (.iconst 1, 1) := by decide +kernel
theorem dX9_ribbon_11 : decode cX9_ribbon 11 = .ok (.new 100, 3) := by decide +kernel
theorem dX9_ribbon_21 : decode cX9_ribbon 21 = .ok (.aload_n 0, 1) := by decide +kernel
theorem dX9_ribbon_28 : decode cX9_ribbon 28 = .ok (.putfield 88, 3) := by decide +kernel
theorem dX9_say_4 : decode cX9_say 4 = .ok (.invokevirtual 175, 3) := by decide +kernel
theorem dX9_say_15 : decode cX9_say 15 = .ok (.aload_n 0, 1) := by decide +kernel
theorem dX9_say_24 : decode cX9_say 24 = .ok (.getfield 25, 3) := by decide +kernel
theorem dX9_say_35 : decode cX9_say 35 = .ok (.iload 4, 2) := by decide +kernel
theorem dX9_say_46 : decode cX9_say 46 = .ok (.invokevirtual 176, 3) := by decide +kernel
theorem dX9_say_58 : decode cX9_say 58 = .ok (.aload_n 0, 1) := by decide +kernel
theorem dX9_say_67 : decode cX9_say 67 = .ok (.aload_n 0, 1) := by decide +kernel
theorem dX9_say_78 : decode cX9_say 78 = .ok (.aload_n 0, 1) := by decide +kernel
theorem dX9_say_90 : decode cX9_say 90 = .ok (.iinc 7 1, 3) := by decide +kernel
theorem dX9_say_103 : decode cX9_say 103 = .ok (.ireturn, 1) := by decide +kernel
theorem dX9_read_8 : decode cX9_read 8 = .ok (.aload_n 0, 1) := by decide +kernel
theorem dX9_read_21 : decode cX9_read 21 = .ok (.aload_n 0, 1) := by decide +kernel
theorem dX9_read_30 : decode cX9_read 30 = .ok (.aload_n 0, 1) := by decide +kernel
theorem dX9_code_0 : decode cX9_code 0 = .ok (.aload_n 0, 1) := by decide +kernel
theorem dX9_code_9 : decode cX9_code 9 = .ok (.getfield 81, 3) := by decide +kernel
theorem dX9_code_20 : decode cX9_code 20 = .ok (.ireturn, 1) := by decide +kernel
theorem dX9_blank_6 : decode cX9_blank 6 = .ok (.iadd, 1) := by decide +kernel
theorem dX9_knock_1 : decode cX9_knock 1 = .ok (.dup, 1) := by decide +kernel
theorem dX9_knock_10 : decode cX9_knock 10 = .ok (.aload_n 0, 1) := by decide +kernel
theorem dX9_ofNode_2 : decode cX9_ofNode 2 = .ok (.invokevirtual 127, 3) := by decide +kernel
theorem dX9_line_1 : decode cX9_line 1 = .ok (.iload_n 1, 1) := by decide +kernel
theorem dX9_at_0 : decode cX9_at 0 = .ok (.aload_n 0, 1) := by decide +kernel
theorem dX9_where_2 : decode cX9_where 2 = .ok (.invokevirtual 127, 3) := by decide +kernel
theorem dX9_differ_1 : decode cX9_differ 1 = .ok (.iload_n 1, 1) := by decide +kernel
theorem dX9_typed_5 : decode cX9_typed 5 = .ok (.invokevirtual 290, 3) := by decide +kernel
theorem dX9_fault_5 : decode cX9_fault 5 = .ok (.getfield 38, 3) := by decide +kernel
theorem dX9_fault_16 : decode cX9_fault 16 = .ok (.invokevirtual 199, 3) := by decide +kernel
theorem dX9_fault_27 : decode cX9_fault 27 = .ok (.getfield 21, 3) := by decide +kernel
theorem dX9_ofCode_4 : decode cX9_ofCode 4 = .ok (.iload_n 1, 1) := by decide +kernel
theorem dX9_ofCode_14 : decode cX9_ofCode 14 = .ok (.ldc_w 294, 3) := by decide +kernel
theorem dX9_ofCode_25 : decode cX9_ofCode 25 = .ok (.invokevirtual 296, 3) := by decide +kernel
theorem dX9_plain_1 : decode cX9_plain 1 = .ok (.aload_n 0, 1) := by decide +kernel
theorem dX9_codeLine_0 : decode cX9_codeLine 0 = .ok (.aload_n 0, 1) := by decide +kernel
theorem dX9_codeLine_9 : decode cX9_codeLine 9 = .ok (.invokevirtual 296, 3) := by decide +kernel
theorem dX9_house_1 : decode cX9_house 1 = .ok (.ifCond .lt 9, 3) := by decide +kernel
theorem dX9_house_13 : decode cX9_house 13 = .ok (.dup, 1) := by decide +kernel
theorem dX9_house_21 : decode cX9_house 21 = .ok (.iload_n 1, 1) := by decide +kernel
theorem dX9_fits_2 : decode cX9_fits 2 = .ok (.invokevirtual 127, 3) := by decide +kernel
theorem dX9_narrowest_1 : decode cX9_narrowest 1 = .ok (.iload_n 1, 1) := by decide +kernel
theorem dX9_leastLine_0 : decode cX9_leastLine 0 = .ok (.aload_n 0, 1) := by decide +kernel
theorem dX9_isSound_4 : decode cX9_isSound 4 = .ok (.aload_n 0, 1) := by decide +kernel
theorem dX9_isSound_13 : decode cX9_isSound 13 = .ok (.getfield 84, 3) := by decide +kernel
theorem dX9_digest_0 : decode cX9_digest 0 = .ok (.ldc2_w 328, 3) := by decide +kernel
theorem dX9_digest_7 : decode cX9_digest 7 = .ok (.bipush 7, 2) := by decide +kernel
theorem dX9_digest_17 : decode cX9_digest 17 = .ok (.aload_n 0, 1) := by decide +kernel
theorem dX9_digest_24 : decode cX9_digest 24 = .ok (.lstore_n 1, 1) := by decide +kernel
theorem dX9_digest_35 : decode cX9_digest 35 = .ok (.invokevirtual 163, 3) := by decide +kernel
theorem dX9_digest_42 : decode cX9_digest 42 = .ok (.istore 4, 2) := by decide +kernel
theorem dX9_digest_129 : decode cX9_digest 129 = .ok (.lload_n 1, 1) := by decide +kernel
theorem dX9_digest_138 : decode cX9_digest 138 = .ok (.invokevirtual 182, 3) := by decide +kernel
theorem dX9_digest_145 : decode cX9_digest 145 = .ok (.ldc2_w 330, 3) := by decide +kernel
theorem dX9_digest_154 : decode cX9_digest 154 = .ok (.getfield 21, 3) := by decide +kernel
theorem dX9_digest_163 : decode cX9_digest 163 = .ok (.lload_n 1, 1) := by decide +kernel
theorem dX9_digest_172 : decode cX9_digest 172 = .ok (.aload_n 0, 1) := by decide +kernel
theorem dX9_digest_183 : decode cX9_digest 183 = .ok (.i2l, 1) := by decide +kernel
theorem dX9_digest_188 : decode cX9_digest 188 = .ok (.invokevirtual 336, 3) := by decide +kernel
theorem dX9_digest_197 : decode cX9_digest 197 = .ok (.aload_n 0, 1) := by decide +kernel
theorem dX9_digest_206 : decode cX9_digest 206 = .ok (.getfield 81, 3) := by decide +kernel
theorem dX9_digest_217 : decode cX9_digest 217 = .ok (.invokevirtual 324, 3) := by decide +kernel
theorem dX9_digest_229 : decode cX9_digest 229 = .ok (.ladd, 1) := by decide +kernel
theorem dX9_needNode_5 : decode cX9_needNode 5 = .ok (.invokevirtual 340, 3) := by decide +kernel
theorem dX9_needNode_18 : decode cX9_needNode 18 = .ok (.invokespecial 348, 3) := by decide +kernel
theorem dX9_needNumber_7 : decode cX9_needNumber 7 = .ok (.bipush 80, 2) := by decide +kernel
theorem dX9_needWidth_2 : decode cX9_needWidth 2 = .ok (.if_icmp .lt 9, 3) := by decide +kernel
theorem dX9_needWidth_14 : decode cX9_needWidth 14 = .ok (.dup, 1) := by decide +kernel
theorem dX9_needNth_0 : decode cX9_needNth 0 = .ok (.iload_n 1, 1) := by decide +kernel
theorem dX9_needNth_11 : decode cX9_needNth 11 = .ok (.invokespecial 104, 3) := by decide +kernel
theorem dX9_needCodes_2 : decode cX9_needCodes 2 = .ok (.iload_n 1, 1) := by decide +kernel
theorem dX9_needCodes_13 : decode cX9_needCodes 13 = .ok (.aload_n 0, 1) := by decide +kernel
theorem dX9_needCodes_22 : decode cX9_needCodes 22 = .ok (.if_icmp .lt 16, 3) := by decide +kernel
theorem dX9_needCodes_33 : decode cX9_needCodes 33 = .ok (.bipush 21, 2) := by decide +kernel
theorem dX9_needCodes_45 : decode cX9_needCodes 45 = .ok (.invokespecial 104, 3) := by decide +kernel
theorem dX9_needCodes_56 : decode cX9_needCodes 56 = .ok (.getfield 21, 3) := by decide +kernel
theorem dX9_needCodes_65 : decode cX9_needCodes 65 = .ok (.iload_n 2, 1) := by decide +kernel
theorem dX9_needCodes_76 : decode cX9_needCodes 76 = .ok (.iload_n 1, 1) := by decide +kernel
theorem dX9_needCodes_85 : decode cX9_needCodes 85 = .ok (.invokestatic 368, 3) := by decide +kernel
theorem dX9_needCodes_106 : decode cX9_needCodes 106 = .ok (.iinc 2 1, 3) := by decide +kernel
theorem dX9_lengthAfter_2 : decode cX9_lengthAfter 2 = .ok (.if_icmp .ne 5, 3) := by decide +kernel
theorem dX9_lengthAfter_10 : decode cX9_lengthAfter 10 = .ok (.if_icmp .ne 5, 3) := by decide +kernel
theorem dX9_lengthAfter_18 : decode cX9_lengthAfter 18 = .ok (.if_icmp .ne 15, 3) := by decide +kernel
theorem dX9_lengthAfter_27 : decode cX9_lengthAfter 27 = .ok (.isub, 1) := by decide +kernel
theorem dX9_lengthAfter_34 : decode cX9_lengthAfter 34 = .ok (.iconst 1, 1) := by decide +kernel
theorem dX9_type_4 : decode cX9_type 4 = .ok (.iload_n 1, 1) := by decide +kernel
theorem dX9_type_15 : decode cX9_type 15 = .ok (.getfield 21, 3) := by decide +kernel
theorem dX9_type_28 : decode cX9_type 28 = .ok (.goto 21, 3) := by decide +kernel
theorem dX9_type_39 : decode cX9_type 39 = .ok (.invokevirtual 182, 3) := by decide +kernel
theorem dX9_numbered_0 : decode cX9_numbered 0 = .ok (.aload_n 0, 1) := by decide +kernel
theorem dX9_numbered_7 : decode cX9_numbered 7 = .ok (.putfield 97, 3) := by decide +kernel
theorem dX9_numbered_18 : decode cX9_numbered 18 = .ok (.ireturn, 1) := by decide +kernel
theorem dX9_textOf_8 : decode cX9_textOf 8 = .ok (.iconst 0, 1) := by decide +kernel
theorem dX9_textOf_15 : decode cX9_textOf 15 = .ok (.if_icmp .ge 23, 3) := by decide +kernel
theorem dX9_stateOf_0 : decode cX9_stateOf 0 = .ok (.iload_n 1, 1) := by decide +kernel
theorem dX9_stateOf_51 : decode cX9_stateOf 51 = .ok (.ireturn, 1) := by decide +kernel
theorem dX9_stateOf_58 : decode cX9_stateOf 58 = .ok (.getfield 88, 3) := by decide +kernel
theorem dX9_stateOf_69 : decode cX9_stateOf 69 = .ok (.ireturn, 1) := by decide +kernel
theorem dX9_stateOf_76 : decode cX9_stateOf 76 = .ok (.getfield 94, 3) := by decide +kernel
theorem dX9_stateOf_85 : decode cX9_stateOf 85 = .ok (.aload_n 0, 1) := by decide +kernel
theorem dX9_withCode_1 : decode cX9_withCode 1 = .ok (.lstore_n 3, 1) := by decide +kernel
theorem dX9_withCode_12 : decode cX9_withCode 12 = .ok (.iconst 0, 1) := by decide +kernel
theorem dX9_withCode_22 : decode cX9_withCode 22 = .ok (.lload_n 3, 1) := by decide +kernel
theorem dX9_withCode_31 : decode cX9_withCode 31 = .ok (.goto (-16), 3) := by decide +kernel
theorem dX10_init_4 : decode cX10_init 4 = .ok (.return_, 1) := by decide +kernel
theorem dX11_init_8 : decode cX11_init 8 = .ok (.dup, 1) := by decide +kernel
theorem dX11_init_17 : decode cX11_init 17 = .ok (.putfield 18, 3) := by decide +kernel
theorem dX11_init_26 : decode cX11_init 26 = .ok (.iload_n 3, 1) := by decide +kernel
theorem dX11_weight_4 : decode cX11_weight 4 = .ok (.iconst 5, 1) := by decide +kernel
theorem dX11_weight_16 : decode cX11_weight 16 = .ok (.istore_n 1, 1) := by decide +kernel
theorem dX11_weight_25 : decode cX11_weight 25 = .ok (.aload_n 2, 1) := by decide +kernel
theorem dX11_depth_0 : decode cX11_depth 0 = .ok (.iconst 0, 1) := by decide +kernel
theorem dX11_depth_9 : decode cX11_depth 9 = .ok (.astore_n 2, 1) := by decide +kernel
theorem dX11_depth_42 : decode cX11_depth 42 = .ok (.iconst 1, 1) := by decide +kernel
theorem dX13_init_4 : decode cX13_init 4 = .ok (.aload_n 0, 1) := by decide +kernel
theorem dX13_document_3 : decode cX13_document 3 = .ok (.dup, 1) := by decide +kernel
theorem dX13_document_12 : decode cX13_document 12 = .ok (.aload_n 0, 1) := by decide +kernel
theorem dX13_document_47 : decode cX13_document 47 = .ok (.invokevirtual 65, 3) := by decide +kernel
theorem dX13_document_58 : decode cX13_document 58 = .ok (.ldc 71, 2) := by decide +kernel
theorem dX16_init_1 : decode cX16_init 1 = .ok (.invokespecial 1, 3) := by decide +kernel
theorem dX16_init_12 : decode cX16_init 12 = .ok (.putfield 10, 3) := by decide +kernel
theorem dX16_init_22 : decode cX16_init 22 = .ok (.bipush 60, 2) := by decide +kernel
theorem dX16_init_33 : decode cX16_init 33 = .ok (.return_, 1) := by decide +kernel
theorem dX16_isIn_6 : decode cX16_isIn 6 = .ok (.iload_n 2, 1) := by decide +kernel
theorem dX16_isIn_15 : decode cX16_isIn 15 = .ok (.ireturn, 1) := by decide +kernel
theorem dX16_one_8 : decode cX16_one 8 = .ok (.iconst 0, 1) := by decide +kernel
theorem dX16_documented_4 : decode cX16_documented 4 = .ok (.istore_n 2, 1) := by decide +kernel
theorem dX16_documented_133 : decode cX16_documented 133 = .ok (.aload_n 0, 1) := by decide +kernel
theorem dX16_documented_144 : decode cX16_documented 144 = .ok (.iadd, 1) := by decide +kernel
theorem dX16_coded_4 : decode cX16_coded 4 = .ok (.istore_n 2, 1) := by decide +kernel
theorem dX16_coded_9 : decode cX16_coded 9 = .ok (.invokevirtual 74, 3) := by decide +kernel
theorem dX16_coded_321 : decode cX16_coded 321 = .ok (.invokevirtual 157, 3) := by decide +kernel
theorem dX16_coded_336 : decode cX16_coded 336 = .ok (.iconst 0, 1) := by decide +kernel
theorem dX16_thrown_1 : decode cX16_thrown 1 = .ok (.getfield 176, 3) := by decide +kernel
theorem dX16_refuse_5 : decode cX16_refuse 5 = .ok (.getfield 176, 3) := by decide +kernel
theorem dX16_refuse_16 : decode cX16_refuse 16 = .ok (.aload_n 0, 1) := by decide +kernel
theorem dX16_refuse_27 : decode cX16_refuse 27 = .ok (.iconst 0, 1) := by decide +kernel
theorem dX16_start_5 : decode cX16_start 5 = .ok (.aload_n 0, 1) := by decide +kernel
theorem dX16_isNoNode_0 : decode cX16_isNoNode 0 = .ok (.iload_n 1, 1) := by decide +kernel
theorem dX16_isNoNode_9 : decode cX16_isNoNode 9 = .ok (.iconst 1, 1) := by decide +kernel
theorem dX16_isNoNode_18 : decode cX16_isNoNode 18 = .ok (.goto 4, 3) := by decide +kernel
theorem dX16_isFull_7 : decode cX16_isFull 7 = .ok (.bipush 80, 2) := by decide +kernel
theorem dX16_isGreat_1 : decode cX16_isGreat 1 = .ok (.invokevirtual 187, 3) := by decide +kernel
theorem dX16_isGreat_13 : decode cX16_isGreat 13 = .ok (.bipush 20, 2) := by decide +kernel
theorem dX16_made_1 : decode cX16_made 1 = .ok (.getfield 10, 3) := by decide +kernel
theorem dX16_made_10 : decode cX16_made 10 = .ok (.dup, 1) := by decide +kernel
theorem dX16_made_19 : decode cX16_made 19 = .ok (.aload_n 0, 1) := by decide +kernel
theorem dX16_made_28 : decode cX16_made 28 = .ok (.ireturn, 1) := by decide +kernel
theorem dX16_word_5 : decode cX16_word 5 = .ok (.invokestatic 183, 3) := by decide +kernel
theorem dX16_word_15 : decode cX16_word 15 = .ok (.invokestatic 183, 3) := by decide +kernel
theorem dX16_word_26 : decode cX16_word 26 = .ok (.iconst 1, 1) := by decide +kernel
theorem dX16_word_35 : decode cX16_word 35 = .ok (.invokevirtual 199, 3) := by decide +kernel
theorem dX16_word_46 : decode cX16_word 46 = .ok (.ireturn, 1) := by decide +kernel
theorem dX16_word_55 : decode cX16_word 55 = .ok (.iconst 0, 1) := by decide +kernel
theorem dX16_word_64 : decode cX16_word 64 = .ok (.aload_n 3, 1) := by decide +kernel
theorem dX16_word_70 : decode cX16_word 70 = .ok (.invokevirtual 32, 3) := by decide +kernel
theorem dX16_word_81 : decode cX16_word 81 = .ok (.new 70, 3) := by decide +kernel
theorem dX16_word_90 : decode cX16_word 90 = .ok (.iconst 0, 1) := by decide +kernel
theorem dX16_mark_1 : decode cX16_mark 1 = .ok (.iload_n 1, 1) := by decide +kernel
theorem dX16_mark_10 : decode cX16_mark 10 = .ok (.iconst 1, 1) := by decide +kernel
theorem dX16_mark_19 : decode cX16_mark 19 = .ok (.ifCond .ne 15, 3) := by decide +kernel
theorem dX16_mark_28 : decode cX16_mark 28 = .ok (.invokevirtual 179, 3) := by decide +kernel
theorem dX16_mark_39 : decode cX16_mark 39 = .ok (.new 70, 3) := by decide +kernel
theorem dX16_mark_47 : decode cX16_mark 47 = .ok (.invokespecial 202, 3) := by decide +kernel
theorem dX16_join_2 : decode cX16_join 2 = .ok (.iload_n 1, 1) := by decide +kernel
theorem dX16_join_22 : decode cX16_join 22 = .ok (.iconst 1, 1) := by decide +kernel
theorem dX16_join_77 : decode cX16_join 77 = .ok (.ireturn, 1) := by decide +kernel
theorem dX16_nest_6 : decode cX16_nest 6 = .ok (.iconst 1, 1) := by decide +kernel
theorem dX16_nest_71 : decode cX16_nest 71 = .ok (.ireturn, 1) := by decide +kernel
theorem dX16_align_6 : decode cX16_align 6 = .ok (.iconst 1, 1) := by decide +kernel
theorem dX16_align_48 : decode cX16_align 48 = .ok (.ireturn, 1) := by decide +kernel
theorem dX16_group_6 : decode cX16_group 6 = .ok (.iconst 1, 1) := by decide +kernel
theorem dX16_group_48 : decode cX16_group 48 = .ok (.ireturn, 1) := by decide +kernel
theorem dX16_fill_6 : decode cX16_fill 6 = .ok (.ifCond .ne 11, 3) := by decide +kernel
theorem dX16_fill_26 : decode cX16_fill 26 = .ok (.ifCond .ne 21, 3) := by decide +kernel
theorem dX16_forget_2 : decode cX16_forget 2 = .ok (.putfield 176, 3) := by decide +kernel
theorem dX16_forget_13 : decode cX16_forget 13 = .ok (.aload_n 0, 1) := by decide +kernel
theorem dX16_forget_44 : decode cX16_forget 44 = .ok (.ireturn, 1) := by decide +kernel
theorem dX16_width_5 : decode cX16_width 5 = .ok (.invokestatic 183, 3) := by decide +kernel
theorem dX16_width_16 : decode cX16_width 16 = .ok (.iconst 1, 1) := by decide +kernel
theorem dX16_width_25 : decode cX16_width 25 = .ok (.aload_n 0, 1) := by decide +kernel
theorem dX16_width_32 : decode cX16_width 32 = .ok (.putfield 16, 3) := by decide +kernel
theorem dX16_ribbon_2 : decode cX16_ribbon 2 = .ok (.iconst 1, 1) := by decide +kernel
theorem dX16_ribbon_12 : decode cX16_ribbon 12 = .ok (.goto 4, 3) := by decide +kernel
theorem dX16_ribbon_23 : decode cX16_ribbon 23 = .ok (.iconst 0, 1) := by decide +kernel
theorem dX16_ribbon_30 : decode cX16_ribbon 30 = .ok (.aload_n 0, 1) := by decide +kernel
theorem dX16_said_0 : decode cX16_said 0 = .ok (.iload_n 1, 1) := by decide +kernel
theorem dX16_said_7 : decode cX16_said 7 = .ok (.iload_n 1, 1) := by decide +kernel
theorem dX16_said_17 : decode cX16_said 17 = .ok (.invokespecial 31, 3) := by decide +kernel
theorem dX16_said_27 : decode cX16_said 27 = .ok (.invokevirtual 145, 3) := by decide +kernel
theorem dX16_said_38 : decode cX16_said 38 = .ok (.bipush 21, 2) := by decide +kernel
theorem dX16_said_50 : decode cX16_said 50 = .ok (.ldc 23, 2) := by decide +kernel
theorem dX16_said_58 : decode cX16_said 58 = .ok (.invokevirtual 74, 3) := by decide +kernel
theorem dX16_say_0 : decode cX16_say 0 = .ok (.bipush 6, 2) := by decide +kernel
theorem dX16_say_7 : decode cX16_say 7 = .ok (.iastore, 1) := by decide +kernel
theorem dX16_say_12 : decode cX16_say 12 = .ok (.dup, 1) := by decide +kernel
theorem dX16_say_17 : decode cX16_say 17 = .ok (.iconst 3, 1) := by decide +kernel
theorem dX16_say_23 : decode cX16_say 23 = .ok (.iload 5, 2) := by decide +kernel
theorem dX16_say_30 : decode cX16_say 30 = .ok (.iastore, 1) := by decide +kernel
theorem dX16_say_38 : decode cX16_say 38 = .ok (.astore 9, 2) := by decide +kernel
theorem dX16_say_46 : decode cX16_say 46 = .ok (.istore 11, 2) := by decide +kernel
theorem dX16_say_57 : decode cX16_say 57 = .ok (.iload 11, 2) := by decide +kernel
theorem dX16_say_66 : decode cX16_say 66 = .ok (.iconst (-1), 1) := by decide +kernel
theorem dX16_say_76 : decode cX16_say 76 = .ok (.goto 4, 3) := by decide +kernel
theorem dX16_say_86 : decode cX16_say 86 = .ok (.goto (-38), 3) := by decide +kernel
theorem dX16_say_96 : decode cX16_say 96 = .ok (.ifCond .eq 5, 3) := by decide +kernel
theorem dX16_say_105 : decode cX16_say 105 = .ok (.astore 9, 2) := by decide +kernel
theorem dX16_say_114 : decode cX16_say 114 = .ok (.istore 11, 2) := by decide +kernel
theorem dX16_say_123 : decode cX16_say 123 = .ok (.if_icmp .ge 50, 3) := by decide +kernel
theorem dX16_say_133 : decode cX16_say 133 = .ok (.aload 9, 2) := by decide +kernel
theorem dX16_say_143 : decode cX16_say 143 = .ok (.aload 9, 2) := by decide +kernel
theorem dX16_say_158 : decode cX16_say 158 = .ok (.iconst 2, 1) := by decide +kernel
theorem dX16_say_173 : decode cX16_say 173 = .ok (.aload_n 0, 1) := by decide +kernel
theorem dX16_say_183 : decode cX16_say 183 = .ok (.invokevirtual 74, 3) := by decide +kernel
theorem dX16_isDocument_7 : decode cX16_isDocument 7 = .ok (.aload_n 0, 1) := by decide +kernel
theorem dX16_isDocument_18 : decode cX16_isDocument 18 = .ok (.goto 4, 3) := by decide +kernel
theorem dX16_isCode_7 : decode cX16_isCode 7 = .ok (.aload_n 0, 1) := by decide +kernel
theorem dX16_isCode_22 : decode cX16_isCode 22 = .ok (.ireturn, 1) := by decide +kernel
theorem dX16_read_6 : decode cX16_read 6 = .ok (.invokevirtual 196, 3) := by decide +kernel
theorem dX16_read_23 : decode cX16_read 23 = .ok (.new 248, 3) := by decide +kernel
theorem dX16_read_34 : decode cX16_read 34 = .ok (.invokevirtual 251, 3) := by decide +kernel
theorem dX16_read_49 : decode cX16_read 49 = .ok (.aload_n 0, 1) := by decide +kernel
theorem dX16_code_1 : decode cX16_code 1 = .ok (.iconst 0, 1) := by decide +kernel
theorem dX16_code_12 : decode cX16_code 12 = .ok (.iconst (-1), 1) := by decide +kernel
theorem dX16_blank_5 : decode cX16_blank 5 = .ok (.aload_n 0, 1) := by decide +kernel
theorem dX16_blank_12 : decode cX16_blank 12 = .ok (.putfield 272, 3) := by decide +kernel
theorem dX16_knock_2 : decode cX16_knock 2 = .ok (.putfield 176, 3) := by decide +kernel
theorem dX16_knock_11 : decode cX16_knock 11 = .ok (.iadd, 1) := by decide +kernel
theorem dX16_ofNode_0 : decode cX16_ofNode 0 = .ok (.aload_n 0, 1) := by decide +kernel
theorem dX16_ofNode_7 : decode cX16_ofNode 7 = .ok (.invokevirtual 196, 3) := by decide +kernel
theorem dX16_flat_0 : decode cX16_flat 0 = .ok (.aload_n 0, 1) := by decide +kernel
theorem dX16_flat_7 : decode cX16_flat 7 = .ok (.invokevirtual 196, 3) := by decide +kernel
theorem dX16_line_0 : decode cX16_line 0 = .ok (.aload_n 0, 1) := by decide +kernel
theorem dX16_line_7 : decode cX16_line 7 = .ok (.invokevirtual 196, 3) := by decide +kernel
theorem dX16_measure_0 : decode cX16_measure 0 = .ok (.aload_n 0, 1) := by decide +kernel
theorem dX16_measure_7 : decode cX16_measure 7 = .ok (.invokevirtual 196, 3) := by decide +kernel
theorem dX16_at_0 : decode cX16_at 0 = .ok (.aload_n 0, 1) := by decide +kernel
theorem dX16_at_7 : decode cX16_at 7 = .ok (.invokevirtual 196, 3) := by decide +kernel
theorem dX16_where_1 : decode cX16_where 1 = .ok (.aload_n 0, 1) := by decide +kernel
theorem dX16_where_10 : decode cX16_where 10 = .ok (.ifCond .ne 20, 3) := by decide +kernel
theorem dX16_isOne_2 : decode cX16_isOne 2 = .ok (.iload_n 1, 1) := by decide +kernel
theorem dX16_isOne_30 : decode cX16_isOne 30 = .ok (.iconst 0, 1) := by decide +kernel
theorem dX16_differ_3 : decode cX16_differ 3 = .ok (.invokevirtual 213, 3) := by decide +kernel
theorem dX16_differ_23 : decode cX16_differ 23 = .ok (.invokevirtual 196, 3) := by decide +kernel
theorem dX16_typed_1 : decode cX16_typed 1 = .ok (.iconst 0, 1) := by decide +kernel
theorem dX16_faulty_0 : decode cX16_faulty 0 = .ok (.iload_n 1, 1) := by decide +kernel
theorem dX16_faulty_11 : decode cX16_faulty 11 = .ok (.goto 10, 3) := by decide +kernel
theorem dX16_faulty_22 : decode cX16_faulty 22 = .ok (.iload_n 2, 1) := by decide +kernel
theorem dX16_faulty_33 : decode cX16_faulty 33 = .ok (.iconst (-1), 1) := by decide +kernel
theorem dX16_fault_1 : decode cX16_fault 1 = .ok (.iconst 0, 1) := by decide +kernel
theorem dX16_fault_10 : decode cX16_fault 10 = .ok (.ireturn, 1) := by decide +kernel
theorem dX16_codeTold_8 : decode cX16_codeTold 8 = .ok (.ireturn, 1) := by decide +kernel
theorem dX16_ofCode_5 : decode cX16_ofCode 5 = .ok (.invokestatic 183, 3) := by decide +kernel
theorem dX16_ofCode_16 : decode cX16_ofCode 16 = .ok (.iconst 1, 1) := by decide +kernel
theorem dX16_ofCode_27 : decode cX16_ofCode 27 = .ok (.aload_n 0, 1) := by decide +kernel
theorem dX16_plain_1 : decode cX16_plain 1 = .ok (.iconst 0, 1) := by decide +kernel
theorem dX16_plain_12 : decode cX16_plain 12 = .ok (.ldc 23, 2) := by decide +kernel
theorem dX16_codeLine_2 : decode cX16_codeLine 2 = .ok (.ifCond .ge 7, 3) := by decide +kernel
theorem dX16_codeLine_11 : decode cX16_codeLine 11 = .ok (.invokevirtual 196, 3) := by decide +kernel
theorem dX16_codeLine_23 : decode cX16_codeLine 23 = .ok (.getfield 262, 3) := by decide +kernel
theorem dX16_houseTold_0 : decode cX16_houseTold 0 = .ok (.iconst 0, 1) := by decide +kernel
theorem dX16_houseTold_9 : decode cX16_houseTold 9 = .ok (.astore_n 3, 1) := by decide +kernel
theorem dX16_houseTold_43 : decode cX16_houseTold 43 = .ok (.newarray .int, 2) := by decide +kernel
theorem dX16_houseTold_51 : decode cX16_houseTold 51 = .ok (.invokevirtual 44, 3) := by decide +kernel
theorem dX16_houseTold_58 : decode cX16_houseTold 58 = .ok (.getfield 16, 3) := by decide +kernel
theorem dX16_houseTold_65 : decode cX16_houseTold 65 = .ok (.getfield 20, 3) := by decide +kernel
theorem dX16_houseTold_72 : decode cX16_houseTold 72 = .ok (.getfield 25, 3) := by decide +kernel
theorem dX16_houseTold_81 : decode cX16_houseTold 81 = .ok (.aload_n 0, 1) := by decide +kernel
theorem dX16_houseTold_88 : decode cX16_houseTold 88 = .ok (.aload_n 0, 1) := by decide +kernel
theorem dX16_houseTold_96 : decode cX16_houseTold 96 = .ok (.aload_n 0, 1) := by decide +kernel
theorem dX16_houseTold_104 : decode cX16_houseTold 104 = .ok (.iload_n 2, 1) := by decide +kernel
theorem dX16_houseTold_109 : decode cX16_houseTold 109 = .ok (.iaload, 1) := by decide +kernel
theorem dX16_house_3 : decode cX16_house 3 = .ok (.bipush 7, 2) := by decide +kernel
theorem dX16_house_15 : decode cX16_house 15 = .ok (.iconst 0, 1) := by decide +kernel
theorem dX16_house_24 : decode cX16_house 24 = .ok (.goto 8, 3) := by decide +kernel
theorem dX16_fits_0 : decode cX16_fits 0 = .ok (.aload_n 0, 1) := by decide +kernel
theorem dX16_fits_7 : decode cX16_fits 7 = .ok (.invokevirtual 196, 3) := by decide +kernel
theorem dX16_would_1 : decode cX16_would 1 = .ok (.aload_n 0, 1) := by decide +kernel
theorem dX16_would_10 : decode cX16_would 10 = .ok (.ifCond .ne 36, 3) := by decide +kernel
theorem dX16_narrowest_1 : decode cX16_narrowest 1 = .ok (.aload_n 0, 1) := by decide +kernel
theorem dX16_narrowest_10 : decode cX16_narrowest 10 = .ok (.ifCond .eq 5, 3) := by decide +kernel
theorem dX16_least__2 : decode cX16_least_ 2 = .ok (.iload_n 1, 1) := by decide +kernel
theorem dX16_least__57 : decode cX16_least_ 57 = .ok (.iconst 0, 1) := by decide +kernel
theorem dX16_leastLine_2 : decode cX16_leastLine 2 = .ok (.iload_n 1, 1) := by decide +kernel
theorem dX16_leastLine_52 : decode cX16_leastLine 52 = .ok (.ldc 23, 2) := by decide +kernel
theorem dX16_isWhole_2 : decode cX16_isWhole 2 = .ok (.getfield 10, 3) := by decide +kernel
theorem dX16_isWhole_13 : decode cX16_isWhole 13 = .ok (.istore_n 1, 1) := by decide +kernel
theorem dX16_isWhole_22 : decode cX16_isWhole 22 = .ok (.if_icmp .ge 268, 3) := by decide +kernel
theorem dX16_isSound_2 : decode cX16_isSound 2 = .ok (.putfield 176, 3) := by decide +kernel
theorem dX16_add_1 : decode cX16_add 1 = .ok (.ldc2_w 368, 3) := by decide +kernel
theorem dX16_digest_0 : decode cX16_digest 0 = .ok (.aload_n 0, 1) := by decide +kernel
theorem dX16_digest_9 : decode cX16_digest 9 = .ok (.iconst 0, 1) := by decide +kernel
theorem dX16_digest_17 : decode cX16_digest 17 = .ok (.lload_n 1, 1) := by decide +kernel
theorem dX16_digest_24 : decode cX16_digest 24 = .ok (.invokestatic 372, 3) := by decide +kernel
theorem dX16_digest_35 : decode cX16_digest 35 = .ok (.getfield 10, 3) := by decide +kernel
theorem dX16_digest_44 : decode cX16_digest 44 = .ok (.iload_n 3, 1) := by decide +kernel
theorem dX16_digest_208 : decode cX16_digest 208 = .ok (.ifCond .ne 71, 3) := by decide +kernel
theorem dX16_digest_287 : decode cX16_digest 287 = .ok (.i2l, 1) := by decide +kernel
theorem dX16_digest_296 : decode cX16_digest 296 = .ok (.i2l, 1) := by decide +kernel
theorem dX16_digest_305 : decode cX16_digest 305 = .ok (.i2l, 1) := by decide +kernel
theorem dX16_digest_312 : decode cX16_digest 312 = .ok (.iload_n 3, 1) := by decide +kernel
theorem dX16_digest_320 : decode cX16_digest 320 = .ok (.iload_n 3, 1) := by decide +kernel
theorem dX16_digest_329 : decode cX16_digest 329 = .ok (.iinc 3 1, 3) := by decide +kernel
theorem dX16_digest_394 : decode cX16_digest 394 = .ok (.lload_n 1, 1) := by decide +kernel
theorem dX16_digest_403 : decode cX16_digest 403 = .ok (.invokestatic 372, 3) := by decide +kernel
theorem dJ5_init_d00df_7 : decode cJ5_init_d00df 7 = .ok (.ifCond .eq 18, 3) := by decide +kernel
theorem dJ5_init_d00df_17 : decode cJ5_init_d00df 17 = .ok (.aload_n 0, 1) := by decide +kernel
theorem dJ5_length_8abf5_0 : decode cJ5_length_8abf5 0 = .ok (.aload_n 0, 1) := by decide +kernel
theorem dJ5_ensureCapacityInternal_d00df_4 : decode cJ5_ensureCapacityInternal_d00df 4 = .ok (.arraylength, 1) := by decide +kernel
theorem dJ5_ensureCapacityInternal_d00df_11 : decode cJ5_ensureCapacityInternal_d00df 11 = .ok (.iload_n 1, 1) := by decide +kernel
theorem dJ5_setLength_d00df_0 : decode cJ5_setLength_d00df 0 = .ok (.iload_n 1, 1) := by decide +kernel
theorem dJ5_setLength_d00df_18 : decode cJ5_setLength_d00df 18 = .ok (.aload_n 0, 1) := by decide +kernel
theorem dJ5_setLength_d00df_64 : decode cJ5_setLength_d00df 64 = .ok (.getfield 79, 3) := by decide +kernel
theorem dJ5_setLength_d00df_78 : decode cJ5_setLength_d00df 78 = .ok (.putfield 79, 3) := by decide +kernel
theorem dJ5_append_cf1ce_10 : decode cJ5_append_cf1ce 10 = .ok (.invokevirtual 32, 3) := by decide +kernel
theorem dJ5_append_cf1ce_19 : decode cJ5_append_cf1ce 19 = .ok (.iload_n 2, 1) := by decide +kernel
theorem dJ5_append_cf1ce_26 : decode cJ5_append_cf1ce 26 = .ok (.getfield 79, 3) := by decide +kernel
theorem dJ5_append_cf1ce_35 : decode cJ5_append_cf1ce 35 = .ok (.getfield 79, 3) := by decide +kernel
theorem dJ5_append_cf1ce_44 : decode cJ5_append_cf1ce 44 = .ok (.areturn, 1) := by decide +kernel
theorem dJ5_append_3fe6f_6 : decode cJ5_append_3fe6f 6 = .ok (.iadd, 1) := by decide +kernel
theorem dJ5_append_3fe6f_17 : decode cJ5_append_3fe6f 17 = .ok (.iload_n 1, 1) := by decide +kernel
theorem dJ5_append_3fe6f_28 : decode cJ5_append_3fe6f 28 = .ok (.aload_n 0, 1) := by decide +kernel
theorem dJ5_append_3fe6f_35 : decode cJ5_append_3fe6f 35 = .ok (.iadd, 1) := by decide +kernel
theorem dJ5_append_3fe6f_42 : decode cJ5_append_3fe6f 42 = .ok (.goto 33, 3) := by decide +kernel
theorem dJ5_getValue_6d5f1_4 : decode cJ5_getValue_6d5f1 4 = .ok (.areturn, 1) := by decide +kernel
theorem dJ5_isLatin1_aae02_10 : decode cJ5_isLatin1_aae02 10 = .ok (.ifCond .ne 7, 3) := by decide +kernel
theorem dJ5_inflateIfNeededFor_a7421_3 : decode cJ5_inflateIfNeededFor_a7421 3 = .ok (.ifCond .eq 18, 3) := by decide +kernel
theorem dJ5_inflateIfNeededFor_a7421_14 : decode cJ5_inflateIfNeededFor_a7421 14 = .ok (.if_icmp .eq 7, 3) := by decide +kernel
theorem dJ5_putStringAt_47b60_5 : decode cJ5_putStringAt_47b60 5 = .ok (.aload_n 2, 1) := by decide +kernel
theorem dJ5_putStringAt_47b60_12 : decode cJ5_putStringAt_47b60 12 = .ok (.getfield 22, 3) := by decide +kernel
theorem dJ0_init_81219_2 : decode cJ0_init_81219 2 = .ok (.aconst_null, 1) := by decide +kernel
theorem dJ0_length_8abf5_4 : decode cJ0_length_8abf5 4 = .ok (.arraylength, 1) := by decide +kernel
theorem dJ0_isEmpty_aae02_0 : decode cJ0_isEmpty_aae02 0 = .ok (.aload_n 0, 1) := by decide +kernel
theorem dJ0_isEmpty_aae02_9 : decode cJ0_isEmpty_aae02 9 = .ok (.goto 4, 3) := by decide +kernel
theorem dJ0_charAt_5068e_4 : decode cJ0_charAt_5068e 4 = .ok (.ifCond .eq 12, 3) := by decide +kernel
theorem dJ0_charAt_5068e_15 : decode cJ0_charAt_5068e 15 = .ok (.ireturn, 1) := by decide +kernel
theorem dJ0_equals_9ea2d_6 : decode cJ0_equals_9ea2d 6 = .ok (.ireturn, 1) := by decide +kernel
theorem dJ0_equals_9ea2d_15 : decode cJ0_equals_9ea2d 15 = .ok (.checkcast 10, 3) := by decide +kernel
theorem dJ0_equals_9ea2d_26 : decode cJ0_equals_9ea2d 26 = .ok (.getfield 15, 3) := by decide +kernel
theorem dJ0_equals_9ea2d_37 : decode cJ0_equals_9ea2d 37 = .ok (.getfield 9, 3) := by decide +kernel
theorem dJ0_equals_9ea2d_50 : decode cJ0_equals_9ea2d 50 = .ok (.iconst 1, 1) := by decide +kernel
theorem dJ0_substring_37a41_4 : decode cJ0_substring_37a41 4 = .ok (.istore_n 3, 1) := by decide +kernel
theorem dJ0_substring_37a41_11 : decode cJ0_substring_37a41 11 = .ok (.iload_n 1, 1) := by decide +kernel
theorem dJ0_substring_37a41_22 : decode cJ0_substring_37a41 22 = .ok (.iload_n 2, 1) := by decide +kernel
theorem dJ0_substring_37a41_28 : decode cJ0_substring_37a41 28 = .ok (.invokevirtual 492, 3) := by decide +kernel
theorem dJ0_substring_37a41_39 : decode cJ0_substring_37a41 39 = .ok (.iload 4, 2) := by decide +kernel
theorem dJ0_getBytes_840e7_1 : decode cJ0_getBytes_840e7 1 = .ok (.invokevirtual 335, 3) := by decide +kernel
theorem dJ0_getBytes_840e7_12 : decode cJ0_getBytes_840e7 12 = .ok (.iconst 0, 1) := by decide +kernel
theorem dJ0_getBytes_840e7_17 : decode cJ0_getBytes_840e7 17 = .ok (.aload_n 0, 1) := by decide +kernel
theorem dJ0_getBytes_840e7_43 : decode cJ0_getBytes_840e7 43 = .ok (.return_, 1) := by decide +kernel
theorem dJ0_init_db425_8 : decode cJ0_init_db425 8 = .ok (.astore_n 3, 1) := by decide +kernel
theorem dJ0_init_db425_16 : decode cJ0_init_db425 16 = .ok (.invokevirtual 1047, 3) := by decide +kernel
theorem dJ0_init_db425_27 : decode cJ0_init_db425 27 = .ok (.aload_n 0, 1) := by decide +kernel
theorem dJ0_init_db425_35 : decode cJ0_init_db425 35 = .ok (.putfield 9, 3) := by decide +kernel
theorem dJ0_init_031fb_4 : decode cJ0_init_031fb 4 = .ok (.aload_n 0, 1) := by decide +kernel
theorem dJ0_init_031fb_11 : decode cJ0_init_031fb 11 = .ok (.putfield 15, 3) := by decide +kernel
theorem dJ0_coder_7d493_7 : decode cJ0_coder_7d493 7 = .ok (.getfield 15, 3) := by decide +kernel
theorem dJ0_isLatin1_aae02_6 : decode cJ0_isLatin1_aae02 6 = .ok (.aload_n 0, 1) := by decide +kernel
theorem dJ0_isLatin1_aae02_18 : decode cJ0_isLatin1_aae02 18 = .ok (.ireturn, 1) := by decide +kernel
theorem dJ0_checkIndex_df160_8 : decode cJ0_checkIndex_df160 8 = .ok (.pop, 1) := by decide +kernel
theorem dJ0_checkBoundsBeginEnd_23922_3 : decode cJ0_checkBoundsBeginEnd_23922 3 = .ok (.getstatic 1053, 3) := by decide +kernel
theorem dJ4_init_da8c8_1 : decode cJ4_init_da8c8 1 = .ok (.bipush 16, 2) := by decide +kernel
theorem dJ4_append_15ec4_2 : decode cJ4_append_15ec4 2 = .ok (.invokespecial 29, 3) := by decide +kernel
theorem dJ4_append_cf468_1 : decode cJ4_append_cf468 1 = .ok (.iload_n 1, 1) := by decide +kernel
theorem dJ4_toString_0e30d_0 : decode cJ4_toString_0e30d 0 = .ok (.new 18, 3) := by decide +kernel
theorem dJ4_setLength_d00df_0 : decode cJ4_setLength_d00df 0 = .ok (.aload_n 0, 1) := by decide +kernel
theorem dJ4_length_8abf5_1 : decode cJ4_length_8abf5 1 = .ok (.invokespecial 343, 3) := by decide +kernel
theorem dJ1_charAt_3b067_3 : decode cJ1_charAt_3b067 3 = .ok (.invokestatic 9, 3) := by decide +kernel
theorem dJ1_charAt_3b067_12 : decode cJ1_charAt_3b067 12 = .ok (.iand, 1) := by decide +kernel
theorem dJ1_canEncode_fc78d_4 : decode cJ1_canEncode_fc78d 4 = .ok (.if_icmp .gt 7, 3) := by decide +kernel
theorem dJ1_equals_b5fdf_1 : decode cJ1_equals_b5fdf 1 = .ok (.arraylength, 1) := by decide +kernel
theorem dJ1_equals_b5fdf_8 : decode cJ1_equals_b5fdf 8 = .ok (.istore_n 2, 1) := by decide +kernel
theorem dJ1_equals_b5fdf_32 : decode cJ1_equals_b5fdf 32 = .ok (.iconst 1, 1) := by decide +kernel
theorem dJ1_newString_b4f7a_6 : decode cJ1_newString_b4f7a 6 = .ok (.areturn, 1) := by decide +kernel
theorem dJ1_newString_b4f7a_13 : decode cJ1_newString_b4f7a 13 = .ok (.iload_n 1, 1) := by decide +kernel
theorem dJ1_newString_b4f7a_20 : decode cJ1_newString_b4f7a 20 = .ok (.invokespecial 112, 3) := by decide +kernel
theorem dJxc12de_init_da8c8_0 : decode cJxc12de_init_da8c8 0 = .ok (.aload_n 0, 1) := by decide +kernel
theorem dJxc12de_init_da8c8_9 : decode cJxc12de_init_da8c8 9 = .ok (.return_, 1) := by decide +kernel
theorem dJx35411_init_45d68_6 : decode cJx35411_init_45d68 6 = .ok (.invokespecial 7, 3) := by decide +kernel
theorem dJx35411_init_45d68_15 : decode cJx35411_init_45d68 15 = .ok (.aload_n 0, 1) := by decide +kernel
theorem dJx35411_hasNext_aae02_0 : decode cJx35411_hasNext_aae02 0 = .ok (.aload_n 0, 1) := by decide +kernel
theorem dJx35411_hasNext_aae02_11 : decode cJx35411_hasNext_aae02 11 = .ok (.if_icmp .eq 7, 3) := by decide +kernel
theorem dJx4a65c_init_da8c8_4 : decode cJx4a65c_init_da8c8 4 = .ok (.aload_n 0, 1) := by decide +kernel
theorem dJx4a65c_grow_92f84_1 : decode cJx4a65c_grow_92f84 1 = .ok (.getfield 9, 3) := by decide +kernel
theorem dJx4a65c_grow_92f84_10 : decode cJx4a65c_grow_92f84 10 = .ok (.aload_n 0, 1) := by decide +kernel
theorem dJx4a65c_grow_92f84_46 : decode cJx4a65c_grow_92f84 46 = .ok (.bipush 10, 2) := by decide +kernel
theorem dJx4a65c_grow_92f84_56 : decode cJx4a65c_grow_92f84 56 = .ok (.putfield 9, 3) := by decide +kernel
theorem dJx4a65c_grow_d5877_5 : decode cJx4a65c_grow_d5877 5 = .ok (.iconst 1, 1) := by decide +kernel
theorem dJx4a65c_size_8abf5_1 : decode cJx4a65c_size_8abf5 1 = .ok (.getfield 48, 3) := by decide +kernel
theorem dJx4a65c_isEmpty_aae02_7 : decode cJx4a65c_isEmpty_aae02 7 = .ok (.iconst 1, 1) := by decide +kernel
theorem dJx4a65c_add_72be8_2 : decode cJx4a65c_add_72be8 2 = .ok (.arraylength, 1) := by decide +kernel
theorem dJx4a65c_add_72be8_11 : decode cJx4a65c_add_72be8 11 = .ok (.aload_n 2, 1) := by decide +kernel
theorem dJx4a65c_add_72be8_16 : decode cJx4a65c_add_72be8 16 = .ok (.iload_n 3, 1) := by decide +kernel
theorem dJx4a65c_add_9ea2d_0 : decode cJx4a65c_add_9ea2d 0 = .ok (.aload_n 0, 1) := by decide +kernel
theorem dJx4a65c_add_9ea2d_7 : decode cJx4a65c_add_9ea2d 7 = .ok (.putfield 63, 3) := by decide +kernel
theorem dJx4a65c_add_9ea2d_16 : decode cJx4a65c_add_9ea2d 16 = .ok (.aload_n 0, 1) := by decide +kernel
theorem dJx4a65c_iterator_32c93_0 : decode cJx4a65c_iterator_32c93 0 = .ok (.new 267, 3) := by decide +kernel
theorem dJ7_checkLength_df160_0 : decode cJ7_checkLength_df160 0 = .ok (.iload_n 1, 1) := by decide +kernel
theorem dJ7_copyOfRange_39247_1 : decode cJ7_copyOfRange_39247 1 = .ok (.ifCond .ne 9, 3) := by decide +kernel
theorem dJ7_copyOfRange_39247_10 : decode cJ7_copyOfRange_39247 10 = .ok (.aload_n 0, 1) := by decide +kernel
theorem dJ7_copyOfRangeByte_39247_0 : decode cJ7_copyOfRangeByte_39247 0 = .ok (.iload_n 1, 1) := by decide +kernel
theorem dJ7_copyOfRangeByte_39247_7 : decode cJ7_copyOfRangeByte_39247 7 = .ok (.isub, 1) := by decide +kernel
theorem dJ7_copyOfRangeByte_39247_14 : decode cJ7_copyOfRangeByte_39247 14 = .ok (.aload_n 0, 1) := by decide +kernel
theorem dJ7_copyOfRangeByte_39247_20 : decode cJ7_copyOfRangeByte_39247 20 = .ok (.arraylength, 1) := by decide +kernel
theorem dJ7_copyOfRangeByte_39247_27 : decode cJ7_copyOfRangeByte_39247 27 = .ok (.invokestatic 150, 3) := by decide +kernel
theorem dJ3_checkIndex_8e157_4 : decode cJ3_checkIndex_8e157 4 = .ok (.iload_n 0, 1) := by decide +kernel
theorem dJ3_checkFromToIndex_8c36e_0 : decode cJ3_checkFromToIndex_8c36e 0 = .ok (.iload_n 0, 1) := by decide +kernel
theorem dJ3_checkFromToIndex_8c36e_9 : decode cJ3_checkFromToIndex_8c36e 9 = .ok (.iload_n 1, 1) := by decide +kernel
theorem dL_word_0 : decode cL_word 0 = .ok (.aload_n 3, 1) := by decide +kernel
theorem dL_word_7 : decode cL_word 7 = .ok (.i2l, 1) := by decide +kernel
theorem dL_word_17 : decode cL_word 17 = .ok (.ireturn, 1) := by decide +kernel
theorem dL_mark_2 : decode cL_mark 2 = .ok (.iload_n 1, 1) := by decide +kernel
theorem dL_mark_13 : decode cL_mark 13 = .ok (.astore_n 3, 1) := by decide +kernel
theorem dL_join_0 : decode cL_join 0 = .ok (.aload_n 3, 1) := by decide +kernel
theorem dL_join_14 : decode cL_join 14 = .ok (.astore 4, 2) := by decide +kernel
theorem dL_nest_2 : decode cL_nest 2 = .ok (.iload_n 1, 1) := by decide +kernel
theorem dL_nest_17 : decode cL_nest 17 = .ok (.ireturn, 1) := by decide +kernel
theorem dL_align_13 : decode cL_align 13 = .ok (.astore_n 3, 1) := by decide +kernel
theorem dL_group_2 : decode cL_group 2 = .ok (.iload_n 1, 1) := by decide +kernel
theorem dL_fill_0 : decode cL_fill 0 = .ok (.aload_n 3, 1) := by decide +kernel
theorem dL_fill_14 : decode cL_fill 14 = .ok (.astore 4, 2) := by decide +kernel
theorem dL_width_2 : decode cL_width 2 = .ok (.iload_n 1, 1) := by decide +kernel
theorem dL_width_13 : decode cL_width 13 = .ok (.astore_n 3, 1) := by decide +kernel
theorem dL_ribbon_0 : decode cL_ribbon 0 = .ok (.aload_n 2, 1) := by decide +kernel
theorem dL_ribbon_7 : decode cL_ribbon 7 = .ok (.putfield 13, 3) := by decide +kernel
theorem dL_ribbon_16 : decode cL_ribbon 16 = .ok (.iconst 0, 1) := by decide +kernel
theorem dL_say_4 : decode cL_say 4 = .ok (.iload_n 2, 1) := by decide +kernel
theorem dL_say_12 : decode cL_say 12 = .ok (.invokevirtual 50, 3) := by decide +kernel
theorem dL_say_24 : decode cL_say 24 = .ok (.iconst 1, 1) := by decide +kernel
theorem dL_read_1 : decode cL_read 1 = .ok (.aload_n 0, 1) := by decide +kernel
theorem dL_read_15 : decode cL_read 15 = .ok (.iconst 0, 1) := by decide +kernel
theorem dL_ofNode_3 : decode cL_ofNode 3 = .ok (.iload_n 2, 1) := by decide +kernel
theorem dL_flat_0 : decode cL_flat 0 = .ok (.aload_n 2, 1) := by decide +kernel
theorem dL_flat_13 : decode cL_flat 13 = .ok (.iconst 1, 1) := by decide +kernel
theorem dL_line_3 : decode cL_line 3 = .ok (.iload_n 2, 1) := by decide +kernel
theorem dL_measure_0 : decode cL_measure 0 = .ok (.aload_n 3, 1) := by decide +kernel
theorem dL_measure_14 : decode cL_measure 14 = .ok (.astore 4, 2) := by decide +kernel
theorem dL_at_3 : decode cL_at 3 = .ok (.iload_n 1, 1) := by decide +kernel
theorem dL_at_18 : decode cL_at 18 = .ok (.iconst 1, 1) := by decide +kernel
theorem dL_where_4 : decode cL_where 4 = .ok (.iload_n 2, 1) := by decide +kernel
theorem dL_where_19 : decode cL_where 19 = .ok (.ireturn, 1) := by decide +kernel
theorem dL_isOne_4 : decode cL_isOne 4 = .ok (.invokevirtual 84, 3) := by decide +kernel
theorem dL_differ_2 : decode cL_differ 2 = .ok (.aload_n 0, 1) := by decide +kernel
theorem dL_differ_16 : decode cL_differ 16 = .ok (.astore 5, 2) := by decide +kernel
theorem dL_ofCode_2 : decode cL_ofCode 2 = .ok (.iload_n 1, 1) := by decide +kernel
theorem dL_ofCode_13 : decode cL_ofCode 13 = .ok (.astore_n 3, 1) := by decide +kernel
theorem dL_codeLine_0 : decode cL_codeLine 0 = .ok (.aload_n 2, 1) := by decide +kernel
theorem dL_codeLine_9 : decode cL_codeLine 9 = .ok (.goto 6, 3) := by decide +kernel
theorem dL_codeLine_16 : decode cL_codeLine 16 = .ok (.ireturn, 1) := by decide +kernel
theorem dL_house_6 : decode cL_house 6 = .ok (.i2l, 1) := by decide +kernel
theorem dL_house_15 : decode cL_house 15 = .ok (.ireturn, 1) := by decide +kernel
theorem dL_fits_2 : decode cL_fits 2 = .ok (.iload_n 1, 1) := by decide +kernel
theorem dL_fits_24 : decode cL_fits 24 = .ok (.ireturn, 1) := by decide +kernel
theorem dL_would_5 : decode cL_would 5 = .ok (.iload_n 3, 1) := by decide +kernel
theorem dL_narrowest_0 : decode cL_narrowest 0 = .ok (.aload_n 2, 1) := by decide +kernel
theorem dL_narrowest_14 : decode cL_narrowest 14 = .ok (.iconst 1, 1) := by decide +kernel
theorem dL_least_3 : decode cL_least 3 = .ok (.iload_n 2, 1) := by decide +kernel
theorem dL_leastLine_0 : decode cL_leastLine 0 = .ok (.aload_n 3, 1) := by decide +kernel
theorem dL_leastLine_13 : decode cL_leastLine 13 = .ok (.astore 4, 2) := by decide +kernel
theorem dL_law_4 : decode cL_law 4 = .ok (.invokespecial 115, 3) := by decide +kernel
theorem dL_law_15 : decode cL_law 15 = .ok (.astore_n 2, 1) := by decide +kernel
theorem dL_law_24 : decode cL_law 24 = .ok (.iconst 0, 1) := by decide +kernel
theorem dL_law_31 : decode cL_law 31 = .ok (.bipush 7, 2) := by decide +kernel
theorem dL_law_40 : decode cL_law 40 = .ok (.iaload, 1) := by decide +kernel
theorem dL_law_205 : decode cL_law 205 = .ok (.aload_n 0, 1) := by decide +kernel
theorem dL_law_211 : decode cL_law 211 = .ok (.aload_n 0, 1) := by decide +kernel
theorem dL_law_217 : decode cL_law 217 = .ok (.aload_n 3, 1) := by decide +kernel
theorem dL_law_225 : decode cL_law 225 = .ok (.iload 4, 2) := by decide +kernel
theorem dL_law_231 : decode cL_law 231 = .ok (.iload 4, 2) := by decide +kernel
theorem dL_law_239 : decode cL_law 239 = .ok (.istore 6, 2) := by decide +kernel
theorem dL_law_252 : decode cL_law 252 = .ok (.iload 5, 2) := by decide +kernel
theorem dL_law_263 : decode cL_law 263 = .ok (.i2l, 1) := by decide +kernel
theorem dL_law_274 : decode cL_law 274 = .ok (.aload_n 0, 1) := by decide +kernel
theorem dL_law_280 : decode cL_law 280 = .ok (.aload_n 3, 1) := by decide +kernel
theorem dL_law_288 : decode cL_law 288 = .ok (.iload 4, 2) := by decide +kernel
theorem dL_law_296 : decode cL_law 296 = .ok (.istore 6, 2) := by decide +kernel
theorem dL_law_309 : decode cL_law 309 = .ok (.iload 5, 2) := by decide +kernel
theorem dL_law_320 : decode cL_law 320 = .ok (.i2l, 1) := by decide +kernel
theorem dL_law_331 : decode cL_law 331 = .ok (.aload_n 0, 1) := by decide +kernel
theorem dL_law_337 : decode cL_law 337 = .ok (.aload_n 0, 1) := by decide +kernel
theorem dL_law_343 : decode cL_law 343 = .ok (.aload_n 3, 1) := by decide +kernel
theorem dL_law_351 : decode cL_law 351 = .ok (.iload 4, 2) := by decide +kernel
theorem dL_law_357 : decode cL_law 357 = .ok (.iload 4, 2) := by decide +kernel
theorem dL_law_365 : decode cL_law 365 = .ok (.istore 6, 2) := by decide +kernel
theorem dL_law_378 : decode cL_law 378 = .ok (.iload 5, 2) := by decide +kernel
theorem dL_law_401 : decode cL_law 401 = .ok (.iload 4, 2) := by decide +kernel
theorem dL_law_407 : decode cL_law 407 = .ok (.iload 4, 2) := by decide +kernel
theorem dL_law_413 : decode cL_law 413 = .ok (.invokestatic 136, 3) := by decide +kernel
theorem dL_law_422 : decode cL_law 422 = .ok (.iconst 1, 1) := by decide +kernel
theorem dL_law_428 : decode cL_law 428 = .ok (.iconst 2, 1) := by decide +kernel
theorem dL_law_436 : decode cL_law 436 = .ok (.aload_n 2, 1) := by decide +kernel
theorem dL_law_449 : decode cL_law 449 = .ok (.ifCond .ne 16, 3) := by decide +kernel
theorem dL_law_472 : decode cL_law 472 = .ok (.iconst 1, 1) := by decide +kernel
theorem dL_law_479 : decode cL_law 479 = .ok (.istore 5, 2) := by decide +kernel
theorem dL_law_486 : decode cL_law 486 = .ok (.iadd, 1) := by decide +kernel
theorem dL_law_494 : decode cL_law 494 = .ok (.invokevirtual 126, 3) := by decide +kernel
theorem dL_law_522 : decode cL_law 522 = .ok (.goto 1694, 3) := by decide +kernel
theorem dL_law_530 : decode cL_law 530 = .ok (.iadd, 1) := by decide +kernel
theorem dL_law_538 : decode cL_law 538 = .ok (.aload_n 2, 1) := by decide +kernel
theorem dL_law_544 : decode cL_law 544 = .ok (.iaload, 1) := by decide +kernel
theorem dL_law_554 : decode cL_law 554 = .ok (.iload 5, 2) := by decide +kernel
theorem dL_law_582 : decode cL_law 582 = .ok (.aload_n 1, 1) := by decide +kernel
theorem dL_law_588 : decode cL_law 588 = .ok (.iaload, 1) := by decide +kernel
theorem dL_law_594 : decode cL_law 594 = .ok (.iaload, 1) := by decide +kernel
theorem dL_law_602 : decode cL_law 602 = .ok (.aload_n 0, 1) := by decide +kernel
theorem dL_law_608 : decode cL_law 608 = .ok (.aload_n 0, 1) := by decide +kernel
theorem dL_law_614 : decode cL_law 614 = .ok (.invokevirtual 147, 3) := by decide +kernel
theorem dL_law_625 : decode cL_law 625 = .ok (.if_icmp .eq 5, 3) := by decide +kernel
theorem dL_law_652 : decode cL_law 652 = .ok (.invokevirtual 148, 3) := by decide +kernel
theorem dL_law_665 : decode cL_law 665 = .ok (.aload_n 0, 1) := by decide +kernel
theorem dL_law_671 : decode cL_law 671 = .ok (.aload_n 3, 1) := by decide +kernel
theorem dL_law_679 : decode cL_law 679 = .ok (.iload 4, 2) := by decide +kernel
theorem dL_law_687 : decode cL_law 687 = .ok (.istore 6, 2) := by decide +kernel
theorem dL_law_700 : decode cL_law 700 = .ok (.iload 5, 2) := by decide +kernel
theorem dL_law_711 : decode cL_law 711 = .ok (.i2l, 1) := by decide +kernel
theorem dL_law_722 : decode cL_law 722 = .ok (.aload_n 0, 1) := by decide +kernel
theorem dL_law_728 : decode cL_law 728 = .ok (.aload_n 3, 1) := by decide +kernel
theorem dL_law_736 : decode cL_law 736 = .ok (.iload 4, 2) := by decide +kernel
theorem dL_law_744 : decode cL_law 744 = .ok (.istore 6, 2) := by decide +kernel
theorem dL_law_757 : decode cL_law 757 = .ok (.iload 5, 2) := by decide +kernel
theorem dL_law_768 : decode cL_law 768 = .ok (.i2l, 1) := by decide +kernel
theorem dL_law_779 : decode cL_law 779 = .ok (.aload_n 0, 1) := by decide +kernel
theorem dL_law_785 : decode cL_law 785 = .ok (.aload_n 0, 1) := by decide +kernel
theorem dL_law_791 : decode cL_law 791 = .ok (.aload_n 0, 1) := by decide +kernel
theorem dL_law_797 : decode cL_law 797 = .ok (.aload_n 0, 1) := by decide +kernel
theorem dL_law_803 : decode cL_law 803 = .ok (.aload_n 0, 1) := by decide +kernel
theorem dL_law_809 : decode cL_law 809 = .ok (.aload_n 0, 1) := by decide +kernel
theorem dL_law_816 : decode cL_law 816 = .ok (.aload_n 3, 1) := by decide +kernel
theorem dL_law_824 : decode cL_law 824 = .ok (.iload 4, 2) := by decide +kernel
theorem dL_law_830 : decode cL_law 830 = .ok (.iload 4, 2) := by decide +kernel
theorem dL_law_836 : decode cL_law 836 = .ok (.iload 4, 2) := by decide +kernel
theorem dL_law_842 : decode cL_law 842 = .ok (.iload 4, 2) := by decide +kernel
theorem dL_law_848 : decode cL_law 848 = .ok (.iload 4, 2) := by decide +kernel
theorem dL_law_854 : decode cL_law 854 = .ok (.iload 4, 2) := by decide +kernel
theorem dL_law_863 : decode cL_law 863 = .ok (.istore 6, 2) := by decide +kernel
theorem dL_law_876 : decode cL_law 876 = .ok (.iload 5, 2) := by decide +kernel
theorem dL_law_887 : decode cL_law 887 = .ok (.i2l, 1) := by decide +kernel
theorem dL_law_898 : decode cL_law 898 = .ok (.aload_n 3, 1) := by decide +kernel
theorem dL_law_908 : decode cL_law 908 = .ok (.istore 6, 2) := by decide +kernel
theorem dL_law_921 : decode cL_law 921 = .ok (.iload 5, 2) := by decide +kernel
theorem dL_law_932 : decode cL_law 932 = .ok (.i2l, 1) := by decide +kernel
theorem dL_law_943 : decode cL_law 943 = .ok (.invokevirtual 166, 3) := by decide +kernel
theorem dL_law_956 : decode cL_law 956 = .ok (.invokevirtual 170, 3) := by decide +kernel
theorem dL_law_969 : decode cL_law 969 = .ok (.invokevirtual 174, 3) := by decide +kernel
theorem dL_law_982 : decode cL_law 982 = .ok (.aload_n 0, 1) := by decide +kernel
theorem dL_law_988 : decode cL_law 988 = .ok (.aload_n 0, 1) := by decide +kernel
theorem dL_law_994 : decode cL_law 994 = .ok (.aload_n 3, 1) := by decide +kernel
theorem dL_law_1002 : decode cL_law 1002 = .ok (.iload 4, 2) := by decide +kernel
theorem dL_law_1008 : decode cL_law 1008 = .ok (.iload 4, 2) := by decide +kernel
theorem dL_law_1016 : decode cL_law 1016 = .ok (.istore 6, 2) := by decide +kernel
theorem dL_law_1029 : decode cL_law 1029 = .ok (.iload 5, 2) := by decide +kernel
theorem dL_law_1052 : decode cL_law 1052 = .ok (.iload 4, 2) := by decide +kernel
theorem dL_law_1058 : decode cL_law 1058 = .ok (.invokestatic 181, 3) := by decide +kernel
theorem dL_law_1067 : decode cL_law 1067 = .ok (.iconst 1, 1) := by decide +kernel
theorem dL_law_1075 : decode cL_law 1075 = .ok (.aload_n 2, 1) := by decide +kernel
theorem dL_law_1088 : decode cL_law 1088 = .ok (.ifCond .ne 17, 3) := by decide +kernel
theorem dL_law_1112 : decode cL_law 1112 = .ok (.iconst 1, 1) := by decide +kernel
theorem dL_law_1118 : decode cL_law 1118 = .ok (.iconst 2, 1) := by decide +kernel
theorem dL_law_1125 : decode cL_law 1125 = .ok (.istore 5, 2) := by decide +kernel
theorem dL_law_1132 : decode cL_law 1132 = .ok (.iadd, 1) := by decide +kernel
theorem dL_law_1138 : decode cL_law 1138 = .ok (.iadd, 1) := by decide +kernel
theorem dL_law_1146 : decode cL_law 1146 = .ok (.invokevirtual 126, 3) := by decide +kernel
theorem dL_law_1175 : decode cL_law 1175 = .ok (.goto 1041, 3) := by decide +kernel
theorem dL_law_1183 : decode cL_law 1183 = .ok (.iadd, 1) := by decide +kernel
theorem dL_law_1189 : decode cL_law 1189 = .ok (.iadd, 1) := by decide +kernel
theorem dL_law_1197 : decode cL_law 1197 = .ok (.aload_n 2, 1) := by decide +kernel
theorem dL_law_1203 : decode cL_law 1203 = .ok (.iaload, 1) := by decide +kernel
theorem dL_law_1209 : decode cL_law 1209 = .ok (.iaload, 1) := by decide +kernel
theorem dL_law_1219 : decode cL_law 1219 = .ok (.iload 5, 2) := by decide +kernel
theorem dL_law_1247 : decode cL_law 1247 = .ok (.aload_n 1, 1) := by decide +kernel
theorem dL_law_1253 : decode cL_law 1253 = .ok (.iaload, 1) := by decide +kernel
theorem dL_law_1259 : decode cL_law 1259 = .ok (.iaload, 1) := by decide +kernel
theorem dL_law_1265 : decode cL_law 1265 = .ok (.iaload, 1) := by decide +kernel
theorem dL_law_1273 : decode cL_law 1273 = .ok (.aload_n 0, 1) := by decide +kernel
theorem dL_law_1279 : decode cL_law 1279 = .ok (.aload_n 0, 1) := by decide +kernel
theorem dL_law_1285 : decode cL_law 1285 = .ok (.aload_n 0, 1) := by decide +kernel
theorem dL_law_1291 : decode cL_law 1291 = .ok (.invokevirtual 199, 3) := by decide +kernel
theorem dL_law_1302 : decode cL_law 1302 = .ok (.if_icmp .eq 5, 3) := by decide +kernel
theorem dL_law_1329 : decode cL_law 1329 = .ok (.aload_n 0, 1) := by decide +kernel
theorem dL_law_1335 : decode cL_law 1335 = .ok (.aload_n 0, 1) := by decide +kernel
theorem dL_law_1341 : decode cL_law 1341 = .ok (.aload_n 0, 1) := by decide +kernel
theorem dL_law_1347 : decode cL_law 1347 = .ok (.ifCond .eq 7, 3) := by decide +kernel
theorem dL_law_1356 : decode cL_law 1356 = .ok (.invokestatic 200, 3) := by decide +kernel
theorem dL_law_1365 : decode cL_law 1365 = .ok (.iconst 1, 1) := by decide +kernel
theorem dL_law_1371 : decode cL_law 1371 = .ok (.iconst 2, 1) := by decide +kernel
theorem dL_law_1377 : decode cL_law 1377 = .ok (.iconst 3, 1) := by decide +kernel
theorem dL_law_1384 : decode cL_law 1384 = .ok (.goto 4, 3) := by decide +kernel
theorem dL_law_1394 : decode cL_law 1394 = .ok (.invokevirtual 126, 3) := by decide +kernel
theorem dL_law_1422 : decode cL_law 1422 = .ok (.goto 794, 3) := by decide +kernel
theorem dL_law_1430 : decode cL_law 1430 = .ok (.iadd, 1) := by decide +kernel
theorem dL_law_1436 : decode cL_law 1436 = .ok (.iadd, 1) := by decide +kernel
theorem dL_law_1444 : decode cL_law 1444 = .ok (.aload_n 2, 1) := by decide +kernel
theorem dL_law_1450 : decode cL_law 1450 = .ok (.iaload, 1) := by decide +kernel
theorem dL_law_1456 : decode cL_law 1456 = .ok (.iaload, 1) := by decide +kernel
theorem dL_law_1466 : decode cL_law 1466 = .ok (.iload 5, 2) := by decide +kernel
theorem dL_law_1494 : decode cL_law 1494 = .ok (.aload_n 1, 1) := by decide +kernel
theorem dL_law_1500 : decode cL_law 1500 = .ok (.iaload, 1) := by decide +kernel
theorem dL_law_1506 : decode cL_law 1506 = .ok (.iaload, 1) := by decide +kernel
theorem dL_law_1512 : decode cL_law 1512 = .ok (.iaload, 1) := by decide +kernel
theorem dL_law_1521 : decode cL_law 1521 = .ok (.aload_n 3, 1) := by decide +kernel
theorem dL_law_1529 : decode cL_law 1529 = .ok (.iload 4, 2) := by decide +kernel
theorem dL_law_1535 : decode cL_law 1535 = .ok (.iload 4, 2) := by decide +kernel
theorem dL_law_1541 : decode cL_law 1541 = .ok (.iload 4, 2) := by decide +kernel
theorem dL_law_1549 : decode cL_law 1549 = .ok (.iconst 1, 1) := by decide +kernel
theorem dL_law_1559 : decode cL_law 1559 = .ok (.aload_n 2, 1) := by decide +kernel
theorem dL_law_1572 : decode cL_law 1572 = .ok (.ifCond .ne 16, 3) := by decide +kernel
theorem dL_law_1596 : decode cL_law 1596 = .ok (.invokevirtual 214, 3) := by decide +kernel
theorem dL_law_1609 : decode cL_law 1609 = .ok (.iload 4, 2) := by decide +kernel
theorem dL_law_1617 : decode cL_law 1617 = .ok (.iconst 1, 1) := by decide +kernel
theorem dL_law_1626 : decode cL_law 1626 = .ok (.aload_n 0, 1) := by decide +kernel
theorem dL_law_1632 : decode cL_law 1632 = .ok (.ifCond .eq 7, 3) := by decide +kernel
theorem dL_law_1643 : decode cL_law 1643 = .ok (.if_icmp .eq 573, 3) := by decide +kernel
theorem dL_law_1653 : decode cL_law 1653 = .ok (.iadd, 1) := by decide +kernel
theorem dL_law_1661 : decode cL_law 1661 = .ok (.aload_n 2, 1) := by decide +kernel
theorem dL_law_1667 : decode cL_law 1667 = .ok (.iaload, 1) := by decide +kernel
theorem dL_law_1677 : decode cL_law 1677 = .ok (.iload 5, 2) := by decide +kernel
theorem dL_law_1690 : decode cL_law 1690 = .ok (.getfield 13, 3) := by decide +kernel
theorem dL_law_1702 : decode cL_law 1702 = .ok (.goto 514, 3) := by decide +kernel
theorem dL_law_1713 : decode cL_law 1713 = .ok (.invokevirtual 184, 3) := by decide +kernel
theorem dL_law_1725 : decode cL_law 1725 = .ok (.iconst 1, 1) := by decide +kernel
theorem dL_law_1732 : decode cL_law 1732 = .ok (.istore 5, 2) := by decide +kernel
theorem dL_law_1739 : decode cL_law 1739 = .ok (.iadd, 1) := by decide +kernel
theorem dL_law_1747 : decode cL_law 1747 = .ok (.invokevirtual 126, 3) := by decide +kernel
theorem dL_law_1762 : decode cL_law 1762 = .ok (.aload_n 3, 1) := by decide +kernel
theorem dL_law_1776 : decode cL_law 1776 = .ok (.goto 440, 3) := by decide +kernel
theorem dL_law_1784 : decode cL_law 1784 = .ok (.iadd, 1) := by decide +kernel
theorem dL_law_1792 : decode cL_law 1792 = .ok (.aload_n 2, 1) := by decide +kernel
theorem dL_law_1798 : decode cL_law 1798 = .ok (.iaload, 1) := by decide +kernel
theorem dL_law_1808 : decode cL_law 1808 = .ok (.iload 5, 2) := by decide +kernel
theorem dL_law_1821 : decode cL_law 1821 = .ok (.getfield 13, 3) := by decide +kernel
theorem dL_law_1833 : decode cL_law 1833 = .ok (.goto 383, 3) := by decide +kernel
theorem dL_law_1841 : decode cL_law 1841 = .ok (.iadd, 1) := by decide +kernel
theorem dL_law_1847 : decode cL_law 1847 = .ok (.iadd, 1) := by decide +kernel
theorem dL_law_1855 : decode cL_law 1855 = .ok (.aload_n 2, 1) := by decide +kernel
theorem dL_law_1861 : decode cL_law 1861 = .ok (.iaload, 1) := by decide +kernel
theorem dL_law_1867 : decode cL_law 1867 = .ok (.iaload, 1) := by decide +kernel
theorem dL_law_1877 : decode cL_law 1877 = .ok (.iload 5, 2) := by decide +kernel
theorem dL_law_1912 : decode cL_law 1912 = .ok (.aload_n 1, 1) := by decide +kernel
theorem dL_law_1918 : decode cL_law 1918 = .ok (.iaload, 1) := by decide +kernel
theorem dL_law_1924 : decode cL_law 1924 = .ok (.iaload, 1) := by decide +kernel
theorem dL_law_1930 : decode cL_law 1930 = .ok (.iaload, 1) := by decide +kernel
theorem dL_law_1938 : decode cL_law 1938 = .ok (.aload_n 0, 1) := by decide +kernel
theorem dL_law_1944 : decode cL_law 1944 = .ok (.aload_n 0, 1) := by decide +kernel
theorem dL_law_1950 : decode cL_law 1950 = .ok (.aload_n 0, 1) := by decide +kernel
theorem dL_law_1956 : decode cL_law 1956 = .ok (.invokevirtual 238, 3) := by decide +kernel
theorem dL_law_1967 : decode cL_law 1967 = .ok (.if_icmp .eq 5, 3) := by decide +kernel
theorem dL_law_1994 : decode cL_law 1994 = .ok (.aload_n 0, 1) := by decide +kernel
theorem dL_law_2000 : decode cL_law 2000 = .ok (.aload_n 3, 1) := by decide +kernel
theorem dL_law_2008 : decode cL_law 2008 = .ok (.iload 4, 2) := by decide +kernel
theorem dL_law_2016 : decode cL_law 2016 = .ok (.istore 6, 2) := by decide +kernel
theorem dL_law_2029 : decode cL_law 2029 = .ok (.iload 5, 2) := by decide +kernel
theorem dL_law_2052 : decode cL_law 2052 = .ok (.iload 4, 2) := by decide +kernel
theorem dL_law_2058 : decode cL_law 2058 = .ok (.iload 4, 2) := by decide +kernel
theorem dL_law_2064 : decode cL_law 2064 = .ok (.invokestatic 242, 3) := by decide +kernel
theorem dL_law_2073 : decode cL_law 2073 = .ok (.iconst 1, 1) := by decide +kernel
theorem dL_law_2079 : decode cL_law 2079 = .ok (.iconst 2, 1) := by decide +kernel
theorem dL_law_2087 : decode cL_law 2087 = .ok (.aload_n 2, 1) := by decide +kernel
theorem dL_law_2100 : decode cL_law 2100 = .ok (.ifCond .ne 16, 3) := by decide +kernel
theorem dL_law_2123 : decode cL_law 2123 = .ok (.iconst 1, 1) := by decide +kernel
theorem dL_law_2129 : decode cL_law 2129 = .ok (.iconst 2, 1) := by decide +kernel
theorem dL_law_2136 : decode cL_law 2136 = .ok (.istore 5, 2) := by decide +kernel
theorem dL_law_2143 : decode cL_law 2143 = .ok (.iadd, 1) := by decide +kernel
theorem dL_law_2149 : decode cL_law 2149 = .ok (.iadd, 1) := by decide +kernel
theorem dL_law_2157 : decode cL_law 2157 = .ok (.invokevirtual 126, 3) := by decide +kernel
theorem dL_law_2186 : decode cL_law 2186 = .ok (.goto 30, 3) := by decide +kernel
theorem dL_law_2197 : decode cL_law 2197 = .ok (.if_icmp .eq 19, 3) := by decide +kernel
theorem dL_law_2210 : decode cL_law 2210 = .ok (.lcmp, 1) := by decide +kernel
theorem dL_law_2223 : decode cL_law 2223 = .ok (.ireturn, 1) := by decide +kernel
