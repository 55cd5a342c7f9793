
theorem dX0_init_4 : decode cX0_init 4 = .ok (.aload_n 0, 1) := by decide +kernel
theorem dX0_init_13 : decode cX0_init 13 = .ok (.putfield 14, 3) := by decide +kernel
theorem dX0_init_22 : decode cX0_init 22 = .ok (.invokespecial 11, 3) := by decide +kernel
theorem dX0_init_33 : decode cX0_init 33 = .ok (.iconst 4, 1) := by decide +kernel
theorem dX0_init_44 : decode cX0_init 44 = .ok (.dup, 1) := by decide +kernel
theorem dX0_init_53 : decode cX0_init 53 = .ok (.new 9, 3) := by decide +kernel
theorem dX0_init_64 : decode cX0_init 64 = .ok (.aload_n 0, 1) := by decide +kernel
theorem dX0_init_73 : decode cX0_init 73 = .ok (.putfield 32, 3) := by decide +kernel
theorem dX0_init_83 : decode cX0_init 83 = .ok (.invokespecial 11, 3) := by decide +kernel
theorem dX0_init_94 : decode cX0_init 94 = .ok (.aload_n 0, 1) := by decide +kernel
theorem dX0_init_101 : decode cX0_init 101 = .ok (.putfield 45, 3) := by decide +kernel
theorem dX0_faultOf_0 : decode cX0_faultOf 0 = .ok (.aload_n 2, 1) := by decide +kernel
theorem dX0_faultOf_9 : decode cX0_faultOf 9 = .ok (.iconst 0, 1) := by decide +kernel
theorem dX0_faultOf_16 : decode cX0_faultOf 16 = .ok (.if_icmp .ge 86, 3) := by decide +kernel
theorem dX0_faultOf_112 : decode cX0_faultOf 112 = .ok (.aload_n 0, 1) := by decide +kernel
theorem dX0_faultOf_123 : decode cX0_faultOf 123 = .ok (.ireturn, 1) := by decide +kernel
theorem dX0_begin_8 : decode cX0_begin 8 = .ok (.getfield 20, 3) := by decide +kernel
theorem dX0_begin_21 : decode cX0_begin 21 = .ok (.aload_n 0, 1) := by decide +kernel
theorem dX0_begin_32 : decode cX0_begin 32 = .ok (.invokevirtual 100, 3) := by decide +kernel
theorem dX0_begin_43 : decode cX0_begin 43 = .ok (.getfield 35, 3) := by decide +kernel
theorem dX0_begin_54 : decode cX0_begin 54 = .ok (.aload_n 0, 1) := by decide +kernel
theorem dX0_startSum_2 : decode cX0_startSum 2 = .ok (.getfield 35, 3) := by decide +kernel
theorem dX0_startSum_13 : decode cX0_startSum 13 = .ok (.getfield 35, 3) := by decide +kernel
theorem dX0_isBehindFactor_1 : decode cX0_isBehindFactor 1 = .ok (.getfield 38, 3) := by decide +kernel
theorem dX0_isBehindFactor_12 : decode cX0_isBehindFactor 12 = .ok (.iconst 3, 1) := by decide +kernel
theorem dX1_init_1 : decode cX1_init 1 = .ok (.invokespecial 3, 3) := by decide +kernel
theorem dX1_init_10 : decode cX1_init 10 = .ok (.invokespecial 11, 3) := by decide +kernel
theorem dX1_init_21 : decode cX1_init 21 = .ok (.iconst 4, 1) := by decide +kernel
theorem dX1_init_32 : decode cX1_init 32 = .ok (.dup, 1) := by decide +kernel
theorem dX1_faultOf_0 : decode cX1_faultOf 0 = .ok (.aload_n 0, 1) := by decide +kernel
theorem dX1_faultOf_9 : decode cX1_faultOf 9 = .ok (.iload_n 2, 1) := by decide +kernel
theorem dX1_faultOf_116 : decode cX1_faultOf 116 = .ok (.getfield 14, 3) := by decide +kernel
theorem dX1_faultOf_133 : decode cX1_faultOf 133 = .ok (.ireturn, 1) := by decide +kernel
theorem dX1_build_8 : decode cX1_build 8 = .ok (.getfield 23, 3) := by decide +kernel
theorem dX1_build_17 : decode cX1_build 17 = .ok (.istore 4, 2) := by decide +kernel
theorem dX1_build_101 : decode cX1_build 101 = .ok (.aload_n 0, 1) := by decide +kernel
theorem dX1_gathered_0 : decode cX1_gathered 0 = .ok (.aload_n 0, 1) := by decide +kernel
theorem dX1_gathered_9 : decode cX1_gathered 9 = .ok (.istore_n 3, 1) := by decide +kernel
theorem dX1_gathered_16 : decode cX1_gathered 16 = .ok (.invokevirtual 76, 3) := by decide +kernel
theorem dX2_init_5 : decode cX2_init 5 = .ok (.new 9, 3) := by decide +kernel
theorem dX2_init_16 : decode cX2_init 16 = .ok (.new 18, 3) := by decide +kernel
theorem dX2_init_29 : decode cX2_init 29 = .ok (.aload_n 0, 1) := by decide +kernel
theorem dX2_init_40 : decode cX2_init 40 = .ok (.putfield 27, 3) := by decide +kernel
theorem dX2_init_50 : decode cX2_init 50 = .ok (.invokespecial 20, 3) := by decide +kernel
theorem dX2_init_61 : decode cX2_init 61 = .ok (.bipush 100, 2) := by decide +kernel
theorem dX2_init_73 : decode cX2_init 73 = .ok (.dup, 1) := by decide +kernel
theorem dX2_init_83 : decode cX2_init 83 = .ok (.new 18, 3) := by decide +kernel
theorem dX2_init_95 : decode cX2_init 95 = .ok (.aload_n 0, 1) := by decide +kernel
theorem dX2_init_106 : decode cX2_init 106 = .ok (.putfield 42, 3) := by decide +kernel
theorem dX2_init_115 : decode cX2_init 115 = .ok (.iconst 1, 1) := by decide +kernel
theorem dX2_init_124 : decode cX2_init 124 = .ok (.aload_n 0, 1) := by decide +kernel
theorem dX2_init_131 : decode cX2_init 131 = .ok (.putfield 58, 3) := by decide +kernel
theorem dX2_init_140 : decode cX2_init 140 = .ok (.iconst 0, 1) := by decide +kernel
theorem dX2_init_149 : decode cX2_init 149 = .ok (.aload_n 0, 1) := by decide +kernel
theorem dX2_init_158 : decode cX2_init 158 = .ok (.dup, 1) := by decide +kernel
theorem dX3_init_0 : decode cX3_init 0 = .ok (.aload_n 0, 1) := by decide +kernel
theorem dX3_init_9 : decode cX3_init 9 = .ok (.bipush 80, 2) := by decide +kernel
theorem dX3_init_21 : decode cX3_init 21 = .ok (.dup, 1) := by decide +kernel
theorem dX3_init_32 : decode cX3_init 32 = .ok (.new 9, 3) := by decide +kernel
theorem dX3_init_45 : decode cX3_init 45 = .ok (.aload_n 0, 1) := by decide +kernel
theorem dX3_init_56 : decode cX3_init 56 = .ok (.putfield 26, 3) := by decide +kernel
theorem dX3_init_67 : decode cX3_init 67 = .ok (.invokespecial 11, 3) := by decide +kernel
theorem dX3_init_78 : decode cX3_init 78 = .ok (.sipush 4960, 3) := by decide +kernel
theorem dX3_init_91 : decode cX3_init 91 = .ok (.dup, 1) := by decide +kernel
theorem dX3_init_102 : decode cX3_init 102 = .ok (.new 9, 3) := by decide +kernel
theorem dX3_init_115 : decode cX3_init 115 = .ok (.aload_n 0, 1) := by decide +kernel
theorem dX3_init_126 : decode cX3_init 126 = .ok (.putfield 41, 3) := by decide +kernel
theorem dX3_count_7 : decode cX3_count 7 = .ok (.ireturn, 1) := by decide +kernel
theorem dX3_has_6 : decode cX3_has 6 = .ok (.getfield 14, 3) := by decide +kernel
theorem dX3_signs_0 : decode cX3_signs 0 = .ok (.aload_n 0, 1) := by decide +kernel
theorem dX3_weightOfAll_2 : decode cX3_weightOfAll 2 = .ok (.iconst 0, 1) := by decide +kernel
theorem dX3_weightOfAll_9 : decode cX3_weightOfAll 9 = .ok (.invokevirtual 44, 3) := by decide +kernel
theorem dX3_clear_1 : decode cX3_clear 1 = .ok (.getfield 14, 3) := by decide +kernel
theorem dX3_clear_14 : decode cX3_clear 14 = .ok (.aload_n 0, 1) := by decide +kernel
theorem dX3_clear_25 : decode cX3_clear 25 = .ok (.invokevirtual 55, 3) := by decide +kernel
theorem dX3_clear_36 : decode cX3_clear 36 = .ok (.getfield 32, 3) := by decide +kernel
theorem dX3_clear_49 : decode cX3_clear 49 = .ok (.aload_n 0, 1) := by decide +kernel
theorem dX3_clear_60 : decode cX3_clear 60 = .ok (.invokevirtual 55, 3) := by decide +kernel
theorem dX3_number_5 : decode cX3_number 5 = .ok (.invokevirtual 58, 3) := by decide +kernel
theorem dX3_number_16 : decode cX3_number 16 = .ok (.isub, 1) := by decide +kernel
theorem dX3_addSign_5 : decode cX3_addSign 5 = .ok (.invokevirtual 58, 3) := by decide +kernel
theorem dX3_addText_3 : decode cX3_addText 3 = .ok (.getfield 41, 3) := by decide +kernel
theorem dX3_addText_12 : decode cX3_addText 12 = .ok (.iconst 0, 1) := by decide +kernel
theorem dX3_addMark_0 : decode cX3_addMark 0 = .ok (.aload_n 0, 1) := by decide +kernel
theorem dX3_addMark_5 : decode cX3_addMark 5 = .ok (.iconst 1, 1) := by decide +kernel
theorem dX3_addPlace_1 : decode cX3_addPlace 1 = .ok (.getfield 20, 3) := by decide +kernel
theorem dX3_addPlace_12 : decode cX3_addPlace 12 = .ok (.iload_n 2, 1) := by decide +kernel
theorem dX3_addPlace_21 : decode cX3_addPlace 21 = .ok (.invokevirtual 58, 3) := by decide +kernel
theorem dX3_addPlace_33 : decode cX3_addPlace 33 = .ok (.aload_n 0, 1) := by decide +kernel
theorem dX3_addPlace_43 : decode cX3_addPlace 43 = .ok (.getfield 35, 3) := by decide +kernel
theorem dX3_addPlace_55 : decode cX3_addPlace 55 = .ok (.invokevirtual 44, 3) := by decide +kernel
theorem dX4_init_1 : decode cX4_init 1 = .ok (.invokespecial 1, 3) := by decide +kernel
theorem dX4_init_10 : decode cX4_init 10 = .ok (.iload_n 1, 1) := by decide +kernel
theorem dX4_init_21 : decode cX4_init 21 = .ok (.putfield 13, 3) := by decide +kernel
theorem dX4_get_0 : decode cX4_get 0 = .ok (.iload_n 1, 1) := by decide +kernel
theorem dX4_get_9 : decode cX4_get 9 = .ok (.if_icmp .ge 21, 3) := by decide +kernel
theorem dX4_get_18 : decode cX4_get 18 = .ok (.if_icmp .ge 12, 3) := by decide +kernel
theorem dX4_get_27 : decode cX4_get 27 = .ok (.goto 4, 3) := by decide +kernel
theorem dX4_add_7 : decode cX4_add 7 = .ok (.aload_n 0, 1) := by decide +kernel
theorem dX4_add_16 : decode cX4_add 16 = .ok (.if_icmp .ge 23, 3) := by decide +kernel
theorem dX4_add_27 : decode cX4_add 27 = .ok (.iload_n 1, 1) := by decide +kernel
theorem dX4_add_34 : decode cX4_add 34 = .ok (.iconst 1, 1) := by decide +kernel
theorem dX4_cut_1 : decode cX4_cut 1 = .ok (.ifCond .lt 16, 3) := by decide +kernel
theorem dX4_cut_12 : decode cX4_cut 12 = .ok (.aload_n 0, 1) := by decide +kernel
theorem dX4_clear_1 : decode cX4_clear 1 = .ok (.iconst 0, 1) := by decide +kernel
theorem dX4_copy_2 : decode cX4_copy 2 = .ok (.putfield 7, 3) := by decide +kernel
theorem dX4_copy_9 : decode cX4_copy 9 = .ok (.getfield 7, 3) := by decide +kernel
theorem dX5_init_4 : decode cX5_init 4 = .ok (.aload_n 0, 1) := by decide +kernel
theorem dX5_init_15 : decode cX5_init 15 = .ok (.putfield 14, 3) := by decide +kernel
theorem dX5_init_26 : decode cX5_init 26 = .ok (.invokespecial 11, 3) := by decide +kernel
theorem dX5_init_37 : decode cX5_init 37 = .ok (.sipush 2500, 3) := by decide +kernel
theorem dX5_init_50 : decode cX5_init 50 = .ok (.dup, 1) := by decide +kernel
theorem dX5_init_61 : decode cX5_init 61 = .ok (.new 9, 3) := by decide +kernel
theorem dX5_init_73 : decode cX5_init 73 = .ok (.aload_n 0, 1) := by decide +kernel
theorem dX5_init_84 : decode cX5_init 84 = .ok (.putfield 32, 3) := by decide +kernel
theorem dX5_init_95 : decode cX5_init 95 = .ok (.invokespecial 11, 3) := by decide +kernel
theorem dX5_init_106 : decode cX5_init 106 = .ok (.sipush 2501, 3) := by decide +kernel
theorem dX5_init_119 : decode cX5_init 119 = .ok (.dup, 1) := by decide +kernel
theorem dX5_init_130 : decode cX5_init 130 = .ok (.aload_n 1, 1) := by decide +kernel
theorem dX6_init_4 : decode cX6_init 4 = .ok (.aload_n 0, 1) := by decide +kernel
theorem dX6_init_15 : decode cX6_init 15 = .ok (.putfield 14, 3) := by decide +kernel
theorem dX6_init_24 : decode cX6_init 24 = .ok (.aload_n 2, 1) := by decide +kernel
theorem dX6_init_33 : decode cX6_init 33 = .ok (.aload_n 0, 1) := by decide +kernel
theorem dX6_holds_1 : decode cX6_holds 1 = .ok (.istore 5, 2) := by decide +kernel
theorem dX6_holds_11 : decode cX6_holds 11 = .ok (.iconst 2, 1) := by decide +kernel
theorem dX6_holds_20 : decode cX6_holds 20 = .ok (.aload_n 0, 1) := by decide +kernel
theorem dX6_holds_85 : decode cX6_holds 85 = .ok (.invokevirtual 57, 3) := by decide +kernel
theorem dX7_init_1 : decode cX7_init 1 = .ok (.invokespecial 3, 3) := by decide +kernel
theorem dX7_init_11 : decode cX7_init 11 = .ok (.invokespecial 11, 3) := by decide +kernel
theorem dX7_init_22 : decode cX7_init 22 = .ok (.bipush 120, 2) := by decide +kernel
theorem dX7_init_34 : decode cX7_init 34 = .ok (.dup, 1) := by decide +kernel
theorem dX7_init_44 : decode cX7_init 44 = .ok (.new 9, 3) := by decide +kernel
theorem dX7_init_56 : decode cX7_init 56 = .ok (.aload_n 0, 1) := by decide +kernel
theorem dX7_init_66 : decode cX7_init 66 = .ok (.putfield 29, 3) := by decide +kernel
theorem dX7_init_76 : decode cX7_init 76 = .ok (.invokespecial 11, 3) := by decide +kernel
theorem dX7_init_87 : decode cX7_init 87 = .ok (.bipush 120, 2) := by decide +kernel
theorem dX7_init_99 : decode cX7_init 99 = .ok (.dup, 1) := by decide +kernel
theorem dX7_init_109 : decode cX7_init 109 = .ok (.new 9, 3) := by decide +kernel
theorem dX7_init_121 : decode cX7_init 121 = .ok (.aload_n 0, 1) := by decide +kernel
theorem dX7_start_1 : decode cX7_start 1 = .ok (.getfield 14, 3) := by decide +kernel
theorem dX7_start_14 : decode cX7_start 14 = .ok (.aload_n 0, 1) := by decide +kernel
theorem dX7_start_25 : decode cX7_start 25 = .ok (.invokevirtual 48, 3) := by decide +kernel
theorem dX7_start_36 : decode cX7_start 36 = .ok (.getfield 32, 3) := by decide +kernel
theorem dX7_start_49 : decode cX7_start 49 = .ok (.aload_n 0, 1) := by decide +kernel
theorem dX7_start_58 : decode cX7_start 58 = .ok (.getfield 41, 3) := by decide +kernel
theorem dX7_start_69 : decode cX7_start 69 = .ok (.return_, 1) := by decide +kernel
theorem dX7_isThere_12 : decode cX7_isThere 12 = .ok (.iconst 0, 1) := by decide +kernel
theorem dX8_init_0 : decode cX8_init 0 = .ok (.aload_n 0, 1) := by decide +kernel
theorem dX8_init_9 : decode cX8_init 9 = .ok (.sipush 300, 3) := by decide +kernel
theorem dX8_init_22 : decode cX8_init 22 = .ok (.dup, 1) := by decide +kernel
theorem dX8_init_33 : decode cX8_init 33 = .ok (.iconst 0, 1) := by decide +kernel
theorem dX9_init_4 : decode cX9_init 4 = .ok (.aload_n 0, 1) := by decide +kernel
theorem dX9_init_15 : decode cX9_init 15 = .ok (.aload_n 0, 1) := by decide +kernel
theorem dX9_init_25 : decode cX9_init 25 = .ok (.putfield 21, 3) := by decide +kernel
theorem dX9_init_35 : decode cX9_init 35 = .ok (.invokespecial 18, 3) := by decide +kernel
theorem dX9_init_46 : decode cX9_init 46 = .ok (.invokespecial 30, 3) := by decide +kernel
theorem dX9_init_57 : decode cX9_init 57 = .ok (.invokespecial 37, 3) := by decide +kernel
theorem dX9_init_68 : decode cX9_init 68 = .ok (.aload_n 0, 1) := by decide +kernel
theorem dX9_init_81 : decode cX9_init 81 = .ok (.aload_n 0, 1) := by decide +kernel
theorem dX9_init_90 : decode cX9_init 90 = .ok (.invokevirtual 44, 3) := by decide +kernel
theorem dX9_init_103 : decode cX9_init 103 = .ok (.dup, 1) := by decide +kernel
theorem dX9_init_112 : decode cX9_init 112 = .ok (.aload_n 0, 1) := by decide +kernel
theorem dX9_init_123 : decode cX9_init 123 = .ok (.putfield 63, 3) := by decide +kernel
theorem dX9_init_134 : decode cX9_init 134 = .ok (.putfield 70, 3) := by decide +kernel
theorem dX9_init_145 : decode cX9_init 145 = .ok (.putfield 77, 3) := by decide +kernel
theorem dX9_init_156 : decode cX9_init 156 = .ok (.putfield 81, 3) := by decide +kernel
theorem dX9_init_166 : decode cX9_init 166 = .ok (.bipush 60, 2) := by decide +kernel
theorem dX9_init_176 : decode cX9_init 176 = .ok (.aload_n 0, 1) := by decide +kernel
theorem dX9_init_183 : decode cX9_init 183 = .ok (.putfield 97, 3) := by decide +kernel
theorem dX9_word_5 : decode cX9_word 5 = .ok (.bipush 25, 2) := by decide +kernel
theorem dX9_word_16 : decode cX9_word 16 = .ok (.invokespecial 104, 3) := by decide +kernel
theorem dX9_word_25 : decode cX9_word 25 = .ok (.iload_n 2, 1) := by decide +kernel
theorem dX9_word_35 : decode cX9_word 35 = .ok (.ldc 107, 2) := by decide +kernel
theorem dX9_word_45 : decode cX9_word 45 = .ok (.iconst 0, 1) := by decide +kernel
theorem dX9_word_52 : decode cX9_word 52 = .ok (.aload_n 0, 1) := by decide +kernel
theorem dX9_word_60 : decode cX9_word 60 = .ok (.invokevirtual 112, 3) := by decide +kernel
theorem dX9_word_71 : decode cX9_word 71 = .ok (.getfield 12, 3) := by decide +kernel
theorem dX9_mark_0 : decode cX9_mark 0 = .ok (.iload_n 1, 1) := by decide +kernel
theorem dX9_mark_7 : decode cX9_mark 7 = .ok (.if_icmp .le 13, 3) := by decide +kernel
theorem dX9_mark_19 : decode cX9_mark 19 = .ok (.athrow, 1) := by decide +kernel
theorem dX9_mark_26 : decode cX9_mark 26 = .ok (.getfield 12, 3) := by decide +kernel
theorem dX9_join_0 : decode cX9_join 0 = .ok (.aload_n 0, 1) := by decide +kernel
theorem dX9_nest_2 : decode cX9_nest 2 = .ok (.invokevirtual 127, 3) := by decide +kernel
theorem dX9_group_1 : decode cX9_group 1 = .ok (.iload_n 1, 1) := by decide +kernel
theorem dX9_forget_0 : decode cX9_forget 0 = .ok (.aload_n 0, 1) := by decide +kernel
theorem dX9_forget_9 : decode cX9_forget 9 = .ok (.getfield 12, 3) := by decide +kernel
theorem dX9_width_1 : decode cX9_width 1 = .ok (.iload_n 1, 1) := by decide +kernel
theorem dX9_width_10 : decode cX9_width 10 = .ok (.aload_n 0, 1) := by decide +kernel
theorem dX9_ribbon_0 : decode cX9_ribbon 0 = .ok (.iload_n 1, 1) := by decide +kernel
theorem dX9_ribbon_8 : decode cX9_ribbon 8 = .ok (.if_icmp .le 13, 3) := by decide +kernel
theorem dX9_ribbon_20 : decode cX9_ribbon 20 = .ok (.athrow, 1) := by decide +kernel
theorem dX9_ribbon_27 : decode cX9_ribbon 27 = .ok (.iload_n 1, 1) := by decide +kernel
theorem dX9_say_1 : decode cX9_say 1 = .ok (.getfield 25, 3) := by decide +kernel
theorem dX9_say_12 : decode cX9_say 12 = .ok (.invokevirtual 176, 3) := by decide +kernel
theorem dX9_say_23 : decode cX9_say 23 = .ok (.aload_n 0, 1) := by decide +kernel
theorem dX9_say_32 : decode cX9_say 32 = .ok (.getfield 25, 3) := by decide +kernel
theorem dX9_say_44 : decode cX9_say 44 = .ok (.iload 5, 2) := by decide +kernel
theorem dX9_say_55 : decode cX9_say 55 = .ok (.invokevirtual 176, 3) := by decide +kernel
theorem dX9_say_65 : decode cX9_say 65 = .ok (.iload 7, 2) := by decide +kernel
theorem dX9_say_77 : decode cX9_say 77 = .ok (.aload_n 0, 1) := by decide +kernel
theorem dX9_say_87 : decode cX9_say 87 = .ok (.invokevirtual 188, 3) := by decide +kernel
theorem dX9_say_100 : decode cX9_say 100 = .ok (.invokevirtual 182, 3) := by decide +kernel
theorem dX9_read_5 : decode cX9_read 5 = .ok (.getfield 31, 3) := by decide +kernel
theorem dX9_read_16 : decode cX9_read 16 = .ok (.if_icmp .eq 5, 3) := by decide +kernel
theorem dX9_read_27 : decode cX9_read 27 = .ok (.getfield 21, 3) := by decide +kernel
theorem dX9_read_40 : decode cX9_read 40 = .ok (.ireturn, 1) := by decide +kernel
theorem dX9_code_8 : decode cX9_code 8 = .ok (.aload_n 0, 1) := by decide +kernel
theorem dX9_code_19 : decode cX9_code 19 = .ok (.iconst (-1), 1) := by decide +kernel
theorem dX9_blank_5 : decode cX9_blank 5 = .ok (.iconst 1, 1) := by decide +kernel
theorem dX9_knock_0 : decode cX9_knock 0 = .ok (.aload_n 0, 1) := by decide +kernel
theorem dX9_knock_7 : decode cX9_knock 7 = .ok (.putfield 94, 3) := by decide +kernel
theorem dX9_ofNode_1 : decode cX9_ofNode 1 = .ok (.iload_n 1, 1) := by decide +kernel
theorem dX9_line_0 : decode cX9_line 0 = .ok (.aload_n 0, 1) := by decide +kernel
theorem dX9_measure_2 : decode cX9_measure 2 = .ok (.invokevirtual 127, 3) := by decide +kernel
theorem dX9_where_1 : decode cX9_where 1 = .ok (.iload_n 1, 1) := by decide +kernel
theorem dX9_differ_0 : decode cX9_differ 0 = .ok (.aload_n 0, 1) := by decide +kernel
theorem dX9_typed_2 : decode cX9_typed 2 = .ok (.getfield 21, 3) := by decide +kernel
theorem dX9_fault_4 : decode cX9_fault 4 = .ok (.aload_n 0, 1) := by decide +kernel
theorem dX9_fault_13 : decode cX9_fault 13 = .ok (.getfield 81, 3) := by decide +kernel
theorem dX9_fault_26 : decode cX9_fault 26 = .ok (.aload_n 0, 1) := by decide +kernel
theorem dX9_ofCode_1 : decode cX9_ofCode 1 = .ok (.ifCond .lt 9, 3) := by decide +kernel
theorem dX9_ofCode_13 : decode cX9_ofCode 13 = .ok (.dup, 1) := by decide +kernel
theorem dX9_ofCode_22 : decode cX9_ofCode 22 = .ok (.getfield 77, 3) := by decide +kernel
theorem dX9_plain_0 : decode cX9_plain 0 = .ok (.aload_n 0, 1) := by decide +kernel
theorem dX9_plain_11 : decode cX9_plain 11 = .ok (.areturn, 1) := by decide +kernel
theorem dX9_codeLine_6 : decode cX9_codeLine 6 = .ok (.getfield 77, 3) := by decide +kernel
theorem dX9_house_0 : decode cX9_house 0 = .ok (.iload_n 1, 1) := by decide +kernel
theorem dX9_house_10 : decode cX9_house 10 = .ok (.new 100, 3) := by decide +kernel
theorem dX9_house_20 : decode cX9_house 20 = .ok (.aload_n 0, 1) := by decide +kernel
theorem dX9_fits_1 : decode cX9_fits 1 = .ok (.iload_n 1, 1) := by decide +kernel
theorem dX9_narrowest_0 : decode cX9_narrowest 0 = .ok (.aload_n 0, 1) := by decide +kernel
theorem dX9_least_2 : decode cX9_least 2 = .ok (.invokevirtual 127, 3) := by decide +kernel
theorem dX9_isSound_1 : decode cX9_isSound 1 = .ok (.getfield 63, 3) := by decide +kernel
theorem dX9_isSound_12 : decode cX9_isSound 12 = .ok (.aload_n 0, 1) := by decide +kernel
theorem dX9_isSound_23 : decode cX9_isSound 23 = .ok (.ireturn, 1) := by decide +kernel
theorem dX9_digest_6 : decode cX9_digest 6 = .ok (.iload_n 3, 1) := by decide +kernel
theorem dX9_digest_16 : decode cX9_digest 16 = .ok (.lmul, 1) := by decide +kernel
theorem dX9_digest_23 : decode cX9_digest 23 = .ok (.ladd, 1) := by decide +kernel
theorem dX9_digest_32 : decode cX9_digest 32 = .ok (.getfield 12, 3) := by decide +kernel
theorem dX9_digest_41 : decode cX9_digest 41 = .ok (.iload_n 3, 1) := by decide +kernel
theorem dX9_digest_72 : decode cX9_digest 72 = .ok (.ifCond .lt 57, 3) := by decide +kernel
theorem dX9_digest_135 : decode cX9_digest 135 = .ok (.getfield 21, 3) := by decide +kernel
theorem dX9_digest_144 : decode cX9_digest 144 = .ok (.lload_n 1, 1) := by decide +kernel
theorem dX9_digest_153 : decode cX9_digest 153 = .ok (.aload_n 0, 1) := by decide +kernel
theorem dX9_digest_162 : decode cX9_digest 162 = .ok (.lstore_n 1, 1) := by decide +kernel
theorem dX9_digest_169 : decode cX9_digest 169 = .ok (.getfield 38, 3) := by decide +kernel
theorem dX9_digest_180 : decode cX9_digest 180 = .ok (.invokevirtual 199, 3) := by decide +kernel
theorem dX9_digest_187 : decode cX9_digest 187 = .ok (.lload_n 1, 1) := by decide +kernel
theorem dX9_digest_196 : decode cX9_digest 196 = .ok (.lmul, 1) := by decide +kernel
theorem dX9_digest_205 : decode cX9_digest 205 = .ok (.aload_n 0, 1) := by decide +kernel
theorem dX9_digest_214 : decode cX9_digest 214 = .ok (.getfield 88, 3) := by decide +kernel
theorem dX9_digest_228 : decode cX9_digest 228 = .ok (.i2l, 1) := by decide +kernel
theorem dX9_needNode_4 : decode cX9_needNode 4 = .ok (.iload_n 1, 1) := by decide +kernel
theorem dX9_needNode_15 : decode cX9_needNode 15 = .ok (.ldc_w 346, 3) := by decide +kernel
theorem dX9_needNumber_4 : decode cX9_needNumber 4 = .ok (.invokevirtual 163, 3) := by decide +kernel
theorem dX9_needWidth_1 : decode cX9_needWidth 1 = .ok (.iconst 1, 1) := by decide +kernel
theorem dX9_needWidth_11 : decode cX9_needWidth 11 = .ok (.new 100, 3) := by decide +kernel
theorem dX9_needWidth_22 : decode cX9_needWidth 22 = .ok (.return_, 1) := by decide +kernel
theorem dX9_needNth_8 : decode cX9_needNth 8 = .ok (.ldc_w 364, 3) := by decide +kernel
theorem dX9_needCodes_1 : decode cX9_needCodes 1 = .ok (.istore_n 1, 1) := by decide +kernel
theorem dX9_needCodes_10 : decode cX9_needCodes 10 = .ok (.if_icmp .ge 45, 3) := by decide +kernel
theorem dX9_needCodes_21 : decode cX9_needCodes 21 = .ok (.iconst (-1), 1) := by decide +kernel
theorem dX9_needCodes_30 : decode cX9_needCodes 30 = .ok (.invokevirtual 185, 3) := by decide +kernel
theorem dX9_needCodes_42 : decode cX9_needCodes 42 = .ok (.ldc_w 366, 3) := by decide +kernel
theorem dX9_needCodes_55 : decode cX9_needCodes 55 = .ok (.aload_n 0, 1) := by decide +kernel
theorem dX9_needCodes_64 : decode cX9_needCodes 64 = .ok (.istore_n 2, 1) := by decide +kernel
theorem dX9_needCodes_73 : decode cX9_needCodes 73 = .ok (.if_icmp .ge 39, 3) := by decide +kernel
theorem dX9_needCodes_82 : decode cX9_needCodes 82 = .ok (.invokevirtual 185, 3) := by decide +kernel
theorem dX9_needCodes_92 : decode cX9_needCodes 92 = .ok (.if_icmp .le 14, 3) := by decide +kernel
theorem dX9_lengthAfter_1 : decode cX9_lengthAfter 1 = .ok (.iconst (-1), 1) := by decide +kernel
theorem dX9_lengthAfter_8 : decode cX9_lengthAfter 8 = .ok (.bipush 21, 2) := by decide +kernel
theorem dX9_lengthAfter_16 : decode cX9_lengthAfter 16 = .ok (.bipush 20, 2) := by decide +kernel
theorem dX9_lengthAfter_26 : decode cX9_lengthAfter 26 = .ok (.iconst 1, 1) := by decide +kernel
theorem dX9_lengthAfter_33 : decode cX9_lengthAfter 33 = .ok (.iload_n 0, 1) := by decide +kernel
theorem dX9_type_1 : decode cX9_type 1 = .ok (.ifCond .lt 30, 3) := by decide +kernel
theorem dX9_type_14 : decode cX9_type 14 = .ok (.aload_n 0, 1) := by decide +kernel
theorem dX9_type_25 : decode cX9_type 25 = .ok (.invokevirtual 176, 3) := by decide +kernel
theorem dX9_type_36 : decode cX9_type 36 = .ok (.getfield 21, 3) := by decide +kernel
theorem dX9_type_49 : decode cX9_type 49 = .ok (.return_, 1) := by decide +kernel
theorem dX9_numbered_6 : decode cX9_numbered 6 = .ok (.iadd, 1) := by decide +kernel
theorem dX9_numbered_15 : decode cX9_numbered 15 = .ok (.invokevirtual 387, 3) := by decide +kernel
theorem dX9_textOf_5 : decode cX9_textOf 5 = .ok (.invokevirtual 393, 3) := by decide +kernel
theorem dX9_textOf_12 : decode cX9_textOf 12 = .ok (.invokevirtual 182, 3) := by decide +kernel
theorem dX9_textOf_45 : decode cX9_textOf 45 = .ok (.areturn, 1) := by decide +kernel
theorem dX9_stateOf_48 : decode cX9_stateOf 48 = .ok (.invokevirtual 163, 3) := by decide +kernel
theorem dX9_stateOf_57 : decode cX9_stateOf 57 = .ok (.aload_n 0, 1) := by decide +kernel
theorem dX9_stateOf_66 : decode cX9_stateOf 66 = .ok (.invokevirtual 182, 3) := by decide +kernel
theorem dX9_stateOf_75 : decode cX9_stateOf 75 = .ok (.aload_n 0, 1) := by decide +kernel
theorem dX9_stateOf_84 : decode cX9_stateOf 84 = .ok (.ireturn, 1) := by decide +kernel
theorem dX9_withCode_0 : decode cX9_withCode 0 = .ok (.lload_n 1, 1) := by decide +kernel
theorem dX9_withCode_9 : decode cX9_withCode 9 = .ok (.ifCond .ne 27, 3) := by decide +kernel
theorem dX9_withCode_19 : decode cX9_withCode 19 = .ok (.if_icmp .gt 15, 3) := by decide +kernel
theorem dX9_withCode_28 : decode cX9_withCode 28 = .ok (.iinc 5 1, 3) := by decide +kernel
theorem dX10_init_1 : decode cX10_init 1 = .ok (.invokespecial 1, 3) := by decide +kernel
theorem dX11_init_5 : decode cX11_init 5 = .ok (.new 9, 3) := by decide +kernel
theorem dX11_init_16 : decode cX11_init 16 = .ok (.iload_n 1, 1) := by decide +kernel
theorem dX11_init_25 : decode cX11_init 25 = .ok (.aload_n 0, 1) := by decide +kernel
theorem dX11_weight_1 : decode cX11_weight 1 = .ok (.getfield 18, 3) := by decide +kernel
theorem dX11_weight_13 : decode cX11_weight 13 = .ok (.invokestatic 33, 3) := by decide +kernel
theorem dX11_weight_24 : decode cX11_weight 24 = .ok (.astore_n 2, 1) := by decide +kernel
theorem dX11_weight_55 : decode cX11_weight 55 = .ok (.ireturn, 1) := by decide +kernel
theorem dX11_depth_6 : decode cX11_depth 6 = .ok (.invokevirtual 37, 3) := by decide +kernel
theorem dX11_depth_41 : decode cX11_depth 41 = .ok (.iload_n 1, 1) := by decide +kernel
theorem dX13_init_1 : decode cX13_init 1 = .ok (.invokespecial 3, 3) := by decide +kernel
theorem dX13_document_0 : decode cX13_document 0 = .ok (.new 48, 3) := by decide +kernel
theorem dX13_document_9 : decode cX13_document 9 = .ok (.getfield 15, 3) := by decide +kernel
theorem dX13_document_46 : decode cX13_document 46 = .ok (.aload_n 1, 1) := by decide +kernel
theorem dX13_document_57 : decode cX13_document 57 = .ok (.iconst 0, 1) := by decide +kernel
theorem dX16_init_0 : decode cX16_init 0 = .ok (.aload_n 0, 1) := by decide +kernel
theorem dX16_init_9 : decode cX16_init 9 = .ok (.invokespecial 9, 3) := by decide +kernel
theorem dX16_init_21 : decode cX16_init 21 = .ok (.aload_n 0, 1) := by decide +kernel
theorem dX16_init_30 : decode cX16_init 30 = .ok (.putfield 25, 3) := by decide +kernel
theorem dX16_isIn_5 : decode cX16_isIn 5 = .ok (.iload_n 0, 1) := by decide +kernel
theorem dX16_isIn_14 : decode cX16_isIn 14 = .ok (.iconst 0, 1) := by decide +kernel
theorem dX16_one_5 : decode cX16_one 5 = .ok (.goto 4, 3) := by decide +kernel
theorem dX16_documented_3 : decode cX16_documented 3 = .ok (.iconst 0, 1) := by decide +kernel
theorem dX16_documented_10 : decode cX16_documented 10 = .ok (.if_icmp .ge 123, 3) := by decide +kernel
theorem dX16_documented_141 : decode cX16_documented 141 = .ok (.invokestatic 40, 3) := by decide +kernel
theorem dX16_coded_3 : decode cX16_coded 3 = .ok (.iconst 0, 1) := by decide +kernel
theorem dX16_coded_8 : decode cX16_coded 8 = .ok (.aload_n 0, 1) := by decide +kernel
theorem dX16_coded_320 : decode cX16_coded 320 = .ok (.aload_n 1, 1) := by decide +kernel
theorem dX16_coded_329 : decode cX16_coded 329 = .ok (.if_icmp .le 7, 3) := by decide +kernel
theorem dX16_thrown_0 : decode cX16_thrown 0 = .ok (.aload_n 0, 1) := by decide +kernel
theorem dX16_refuse_4 : decode cX16_refuse 4 = .ok (.aload_n 0, 1) := by decide +kernel
theorem dX16_refuse_13 : decode cX16_refuse 13 = .ok (.putfield 176, 3) := by decide +kernel
theorem dX16_refuse_24 : decode cX16_refuse 24 = .ok (.goto 4, 3) := by decide +kernel
theorem dX16_start_2 : decode cX16_start 2 = .ok (.putfield 176, 3) := by decide +kernel
theorem dX16_start_11 : decode cX16_start 11 = .ok (.ireturn, 1) := by decide +kernel
theorem dX16_isNoNode_6 : decode cX16_isNoNode 6 = .ok (.invokevirtual 44, 3) := by decide +kernel
theorem dX16_isNoNode_17 : decode cX16_isNoNode 17 = .ok (.iconst 1, 1) := by decide +kernel
theorem dX16_isFull_4 : decode cX16_isFull 4 = .ok (.invokevirtual 44, 3) := by decide +kernel
theorem dX16_isGreat_0 : decode cX16_isGreat 0 = .ok (.aload_n 0, 1) := by decide +kernel
theorem dX16_isGreat_10 : decode cX16_isGreat 10 = .ok (.invokevirtual 190, 3) := by decide +kernel
theorem dX16_made_0 : decode cX16_made 0 = .ok (.aload_n 0, 1) := by decide +kernel
theorem dX16_made_9 : decode cX16_made 9 = .ok (.aload_n 0, 1) := by decide +kernel
theorem dX16_made_16 : decode cX16_made 16 = .ok (.putfield 193, 3) := by decide +kernel
theorem dX16_made_27 : decode cX16_made 27 = .ok (.isub, 1) := by decide +kernel
theorem dX16_word_3 : decode cX16_word 3 = .ok (.bipush 25, 2) := by decide +kernel
theorem dX16_word_13 : decode cX16_word 13 = .ok (.bipush 9, 2) := by decide +kernel
theorem dX16_word_25 : decode cX16_word 25 = .ok (.iconst 0, 1) := by decide +kernel
theorem dX16_word_34 : decode cX16_word 34 = .ok (.aload_n 0, 1) := by decide +kernel
theorem dX16_word_45 : decode cX16_word 45 = .ok (.iconst 0, 1) := by decide +kernel
theorem dX16_word_54 : decode cX16_word 54 = .ok (.astore_n 3, 1) := by decide +kernel
theorem dX16_word_61 : decode cX16_word 61 = .ok (.if_icmp .ge 19, 3) := by decide +kernel
theorem dX16_word_69 : decode cX16_word 69 = .ok (.i2c, 1) := by decide +kernel
theorem dX16_word_80 : decode cX16_word 80 = .ok (.aload_n 0, 1) := by decide +kernel
theorem dX16_word_87 : decode cX16_word 87 = .ok (.invokevirtual 36, 3) := by decide +kernel
theorem dX16_mark_0 : decode cX16_mark 0 = .ok (.aload_n 0, 1) := by decide +kernel
theorem dX16_mark_7 : decode cX16_mark 7 = .ok (.ifCond .ne 7, 3) := by decide +kernel
theorem dX16_mark_16 : decode cX16_mark 16 = .ok (.invokevirtual 196, 3) := by decide +kernel
theorem dX16_mark_27 : decode cX16_mark 27 = .ok (.iconst 2, 1) := by decide +kernel
theorem dX16_mark_38 : decode cX16_mark 38 = .ok (.aload_n 0, 1) := by decide +kernel
theorem dX16_mark_46 : decode cX16_mark 46 = .ok (.iconst 0, 1) := by decide +kernel
theorem dX16_join_1 : decode cX16_join 1 = .ok (.aload_n 0, 1) := by decide +kernel
theorem dX16_join_18 : decode cX16_join 18 = .ok (.goto 4, 3) := by decide +kernel
theorem dX16_join_30 : decode cX16_join 30 = .ok (.goto 47, 3) := by decide +kernel
theorem dX16_nest_3 : decode cX16_nest 3 = .ok (.invokevirtual 213, 3) := by decide +kernel
theorem dX16_nest_37 : decode cX16_nest 37 = .ok (.goto 34, 3) := by decide +kernel
theorem dX16_align_3 : decode cX16_align 3 = .ok (.invokevirtual 213, 3) := by decide +kernel
theorem dX16_align_14 : decode cX16_align 14 = .ok (.goto 34, 3) := by decide +kernel
theorem dX16_group_3 : decode cX16_group 3 = .ok (.invokevirtual 213, 3) := by decide +kernel
theorem dX16_group_14 : decode cX16_group 14 = .ok (.goto 34, 3) := by decide +kernel
theorem dX16_fill_3 : decode cX16_fill 3 = .ok (.invokevirtual 213, 3) := by decide +kernel
theorem dX16_fill_23 : decode cX16_fill 23 = .ok (.invokevirtual 196, 3) := by decide +kernel
theorem dX16_forget_1 : decode cX16_forget 1 = .ok (.iconst 0, 1) := by decide +kernel
theorem dX16_forget_12 : decode cX16_forget 12 = .ok (.istore_n 1, 1) := by decide +kernel
theorem dX16_forget_43 : decode cX16_forget 43 = .ok (.iload_n 1, 1) := by decide +kernel
theorem dX16_width_3 : decode cX16_width 3 = .ok (.bipush 60, 2) := by decide +kernel
theorem dX16_width_15 : decode cX16_width 15 = .ok (.iconst 0, 1) := by decide +kernel
theorem dX16_width_24 : decode cX16_width 24 = .ok (.ireturn, 1) := by decide +kernel
theorem dX16_width_31 : decode cX16_width 31 = .ok (.iload_n 1, 1) := by decide +kernel
theorem dX16_ribbon_1 : decode cX16_ribbon 1 = .ok (.iload_n 1, 1) := by decide +kernel
theorem dX16_ribbon_11 : decode cX16_ribbon 11 = .ok (.iconst 1, 1) := by decide +kernel
theorem dX16_ribbon_20 : decode cX16_ribbon 20 = .ok (.ifCond .eq 5, 3) := by decide +kernel
theorem dX16_ribbon_29 : decode cX16_ribbon 29 = .ok (.istore_n 2, 1) := by decide +kernel
theorem dX16_ribbon_36 : decode cX16_ribbon 36 = .ok (.ireturn, 1) := by decide +kernel
theorem dX16_said_6 : decode cX16_said 6 = .ok (.areturn, 1) := by decide +kernel
theorem dX16_said_16 : decode cX16_said 16 = .ok (.dup, 1) := by decide +kernel
theorem dX16_said_26 : decode cX16_said 26 = .ok (.iload_n 1, 1) := by decide +kernel
theorem dX16_said_37 : decode cX16_said 37 = .ok (.iload_n 1, 1) := by decide +kernel
theorem dX16_said_47 : decode cX16_said 47 = .ok (.ifCond .eq 8, 3) := by decide +kernel
theorem dX16_said_57 : decode cX16_said 57 = .ok (.aload_n 0, 1) := by decide +kernel
theorem dX16_said_66 : decode cX16_said 66 = .ok (.areturn, 1) := by decide +kernel
theorem dX16_say_6 : decode cX16_say 6 = .ok (.iload_n 1, 1) := by decide +kernel
theorem dX16_say_11 : decode cX16_say 11 = .ok (.iastore, 1) := by decide +kernel
theorem dX16_say_16 : decode cX16_say 16 = .ok (.dup, 1) := by decide +kernel
theorem dX16_say_22 : decode cX16_say 22 = .ok (.iconst 4, 1) := by decide +kernel
theorem dX16_say_28 : decode cX16_say 28 = .ok (.iload 6, 2) := by decide +kernel
theorem dX16_say_36 : decode cX16_say 36 = .ok (.aload 7, 2) := by decide +kernel
theorem dX16_say_45 : decode cX16_say 45 = .ok (.iconst 0, 1) := by decide +kernel
theorem dX16_say_55 : decode cX16_say 55 = .ok (.aload 9, 2) := by decide +kernel
theorem dX16_say_64 : decode cX16_say 64 = .ok (.iload 12, 2) := by decide +kernel
theorem dX16_say_75 : decode cX16_say 75 = .ok (.iconst 1, 1) := by decide +kernel
theorem dX16_say_83 : decode cX16_say 83 = .ok (.iinc 11 1, 3) := by decide +kernel
theorem dX16_say_93 : decode cX16_say 93 = .ok (.invokevirtual 196, 3) := by decide +kernel
theorem dX16_say_102 : decode cX16_say 102 = .ok (.getfield 25, 3) := by decide +kernel
theorem dX16_say_113 : decode cX16_say 113 = .ok (.arraylength, 1) := by decide +kernel
theorem dX16_say_121 : decode cX16_say 121 = .ok (.iload 11, 2) := by decide +kernel
theorem dX16_say_131 : decode cX16_say 131 = .ok (.istore 13, 2) := by decide +kernel
theorem dX16_say_142 : decode cX16_say 142 = .ok (.aload_n 0, 1) := by decide +kernel
theorem dX16_say_157 : decode cX16_say 157 = .ok (.iconst 0, 1) := by decide +kernel
theorem dX16_say_170 : decode cX16_say 170 = .ok (.goto (-51), 3) := by decide +kernel
theorem dX16_say_180 : decode cX16_say 180 = .ok (.getfield 25, 3) := by decide +kernel
theorem dX16_isDocument_4 : decode cX16_isDocument 4 = .ok (.invokestatic 238, 3) := by decide +kernel
theorem dX16_isDocument_17 : decode cX16_isDocument 17 = .ok (.iconst 1, 1) := by decide +kernel
theorem dX16_isCode_4 : decode cX16_isCode 4 = .ok (.invokestatic 242, 3) := by decide +kernel
theorem dX16_isCode_21 : decode cX16_isCode 21 = .ok (.iconst 0, 1) := by decide +kernel
theorem dX16_read_5 : decode cX16_read 5 = .ok (.iconst 1, 1) := by decide +kernel
theorem dX16_read_18 : decode cX16_read 18 = .ok (.ifCond .ne 5, 3) := by decide +kernel
theorem dX16_read_31 : decode cX16_read 31 = .ok (.invokespecial 250, 3) := by decide +kernel
theorem dX16_read_42 : decode cX16_read 42 = .ok (.ifCond .eq 7, 3) := by decide +kernel
theorem dX16_code_0 : decode cX16_code 0 = .ok (.aload_n 0, 1) := by decide +kernel
theorem dX16_code_9 : decode cX16_code 9 = .ok (.ifCond .ne 5, 3) := by decide +kernel
theorem dX16_blank_2 : decode cX16_blank 2 = .ok (.putfield 176, 3) := by decide +kernel
theorem dX16_blank_11 : decode cX16_blank 11 = .ok (.iadd, 1) := by decide +kernel
theorem dX16_knock_1 : decode cX16_knock 1 = .ok (.iconst 0, 1) := by decide +kernel
theorem dX16_knock_10 : decode cX16_knock 10 = .ok (.iconst 1, 1) := by decide +kernel
theorem dX16_knock_19 : decode cX16_knock 19 = .ok (.ireturn, 1) := by decide +kernel
theorem dX16_ofNode_6 : decode cX16_ofNode 6 = .ok (.iconst 1, 1) := by decide +kernel
theorem dX16_ofNode_55 : decode cX16_ofNode 55 = .ok (.ireturn, 1) := by decide +kernel
theorem dX16_flat_6 : decode cX16_flat 6 = .ok (.iconst 1, 1) := by decide +kernel
theorem dX16_flat_55 : decode cX16_flat 55 = .ok (.areturn, 1) := by decide +kernel
theorem dX16_line_6 : decode cX16_line 6 = .ok (.iconst 1, 1) := by decide +kernel
theorem dX16_line_54 : decode cX16_line 54 = .ok (.areturn, 1) := by decide +kernel
theorem dX16_measure_6 : decode cX16_measure 6 = .ok (.iconst 1, 1) := by decide +kernel
theorem dX16_measure_63 : decode cX16_measure 63 = .ok (.ireturn, 1) := by decide +kernel
theorem dX16_at_6 : decode cX16_at 6 = .ok (.iconst 1, 1) := by decide +kernel
theorem dX16_where_0 : decode cX16_where 0 = .ok (.aload_n 0, 1) := by decide +kernel
theorem dX16_where_7 : decode cX16_where 7 = .ok (.invokevirtual 196, 3) := by decide +kernel
theorem dX16_isOne_1 : decode cX16_isOne 1 = .ok (.aload_n 0, 1) := by decide +kernel
theorem dX16_isOne_10 : decode cX16_isOne 10 = .ok (.ifCond .ne 20, 3) := by decide +kernel
theorem dX16_differ_2 : decode cX16_differ 2 = .ok (.iload_n 1, 1) := by decide +kernel
theorem dX16_differ_22 : decode cX16_differ 22 = .ok (.iconst 1, 1) := by decide +kernel
theorem dX16_typed_0 : decode cX16_typed 0 = .ok (.aload_n 0, 1) := by decide +kernel
theorem dX16_typed_9 : decode cX16_typed 9 = .ok (.areturn, 1) := by decide +kernel
theorem dX16_faulty_8 : decode cX16_faulty 8 = .ok (.invokestatic 242, 3) := by decide +kernel
theorem dX16_faulty_21 : decode cX16_faulty 21 = .ok (.istore_n 2, 1) := by decide +kernel
theorem dX16_faulty_30 : decode cX16_faulty 30 = .ok (.if_icmp .le 7, 3) := by decide +kernel
theorem dX16_fault_0 : decode cX16_fault 0 = .ok (.aload_n 0, 1) := by decide +kernel
theorem dX16_fault_7 : decode cX16_fault 7 = .ok (.invokevirtual 329, 3) := by decide +kernel
theorem dX16_codeTold_7 : decode cX16_codeTold 7 = .ok (.iconst 0, 1) := by decide +kernel
theorem dX16_ofCode_3 : decode cX16_ofCode 3 = .ok (.bipush 9, 2) := by decide +kernel
theorem dX16_ofCode_15 : decode cX16_ofCode 15 = .ok (.iconst 0, 1) := by decide +kernel
theorem dX16_ofCode_24 : decode cX16_ofCode 24 = .ok (.goto 8, 3) := by decide +kernel
theorem dX16_plain_0 : decode cX16_plain 0 = .ok (.aload_n 0, 1) := by decide +kernel
theorem dX16_plain_9 : decode cX16_plain 9 = .ok (.ifnonnull 8, 3) := by decide +kernel
theorem dX16_codeLine_1 : decode cX16_codeLine 1 = .ok (.iload_n 1, 1) := by decide +kernel
theorem dX16_codeLine_10 : decode cX16_codeLine 10 = .ok (.iconst 1, 1) := by decide +kernel
theorem dX16_codeLine_22 : decode cX16_codeLine 22 = .ok (.aload_n 0, 1) := by decide +kernel
theorem dX16_codeLine_50 : decode cX16_codeLine 50 = .ok (.areturn, 1) := by decide +kernel
theorem dX16_houseTold_6 : decode cX16_houseTold 6 = .ok (.invokevirtual 129, 3) := by decide +kernel
theorem dX16_houseTold_41 : decode cX16_houseTold 41 = .ok (.bipush 8, 2) := by decide +kernel
theorem dX16_houseTold_48 : decode cX16_houseTold 48 = .ok (.getfield 10, 3) := by decide +kernel
theorem dX16_houseTold_57 : decode cX16_houseTold 57 = .ok (.aload_n 0, 1) := by decide +kernel
theorem dX16_houseTold_64 : decode cX16_houseTold 64 = .ok (.aload_n 0, 1) := by decide +kernel
theorem dX16_houseTold_71 : decode cX16_houseTold 71 = .ok (.aload_n 0, 1) := by decide +kernel
theorem dX16_houseTold_80 : decode cX16_houseTold 80 = .ok (.iconst 4, 1) := by decide +kernel
theorem dX16_houseTold_87 : decode cX16_houseTold 87 = .ok (.iconst 5, 1) := by decide +kernel
theorem dX16_houseTold_94 : decode cX16_houseTold 94 = .ok (.bipush 6, 2) := by decide +kernel
theorem dX16_houseTold_102 : decode cX16_houseTold 102 = .ok (.bipush 7, 2) := by decide +kernel
theorem dX16_houseTold_108 : decode cX16_houseTold 108 = .ok (.iload_n 1, 1) := by decide +kernel
theorem dX16_house_2 : decode cX16_house 2 = .ok (.iconst 0, 1) := by decide +kernel
theorem dX16_house_12 : decode cX16_house 12 = .ok (.goto 4, 3) := by decide +kernel
theorem dX16_house_23 : decode cX16_house 23 = .ok (.iconst 0, 1) := by decide +kernel
theorem dX16_house_32 : decode cX16_house 32 = .ok (.ireturn, 1) := by decide +kernel
theorem dX16_fits_6 : decode cX16_fits 6 = .ok (.iconst 1, 1) := by decide +kernel
theorem dX16_would_0 : decode cX16_would 0 = .ok (.aload_n 0, 1) := by decide +kernel
theorem dX16_would_7 : decode cX16_would 7 = .ok (.invokevirtual 196, 3) := by decide +kernel
theorem dX16_narrowest_0 : decode cX16_narrowest 0 = .ok (.aload_n 0, 1) := by decide +kernel
theorem dX16_narrowest_7 : decode cX16_narrowest 7 = .ok (.invokevirtual 196, 3) := by decide +kernel
theorem dX16_least__1 : decode cX16_least_ 1 = .ok (.aload_n 0, 1) := by decide +kernel
theorem dX16_least__10 : decode cX16_least_ 10 = .ok (.ifCond .ne 47, 3) := by decide +kernel
theorem dX16_leastLine_1 : decode cX16_leastLine 1 = .ok (.aload_n 0, 1) := by decide +kernel
theorem dX16_leastLine_10 : decode cX16_leastLine 10 = .ok (.ifCond .ne 42, 3) := by decide +kernel
theorem dX16_isWhole_1 : decode cX16_isWhole 1 = .ok (.aload_n 0, 1) := by decide +kernel
theorem dX16_isWhole_10 : decode cX16_isWhole 10 = .ok (.invokestatic 353, 3) := by decide +kernel
theorem dX16_isWhole_19 : decode cX16_isWhole 19 = .ok (.invokevirtual 44, 3) := by decide +kernel
theorem dX16_isSound_1 : decode cX16_isSound 1 = .ok (.iconst 0, 1) := by decide +kernel
theorem dX16_add_0 : decode cX16_add 0 = .ok (.lload_n 0, 1) := by decide +kernel
theorem dX16_add_7 : decode cX16_add 7 = .ok (.lreturn, 1) := by decide +kernel
theorem dX16_digest_8 : decode cX16_digest 8 = .ok (.lstore_n 1, 1) := by decide +kernel
theorem dX16_digest_14 : decode cX16_digest 14 = .ok (.if_icmp .ge 20, 3) := by decide +kernel
theorem dX16_digest_23 : decode cX16_digest 23 = .ok (.i2l, 1) := by decide +kernel
theorem dX16_digest_34 : decode cX16_digest 34 = .ok (.aload_n 0, 1) := by decide +kernel
theorem dX16_digest_43 : decode cX16_digest 43 = .ok (.istore_n 3, 1) := by decide +kernel
theorem dX16_digest_205 : decode cX16_digest 205 = .ok (.invokevirtual 225, 3) := by decide +kernel
theorem dX16_digest_284 : decode cX16_digest 284 = .ok (.invokevirtual 74, 3) := by decide +kernel
theorem dX16_digest_293 : decode cX16_digest 293 = .ok (.invokevirtual 329, 3) := by decide +kernel
theorem dX16_digest_302 : decode cX16_digest 302 = .ok (.invokevirtual 329, 3) := by decide +kernel
theorem dX16_digest_311 : decode cX16_digest 311 = .ok (.istore_n 3, 1) := by decide +kernel
theorem dX16_digest_319 : decode cX16_digest 319 = .ok (.aload_n 0, 1) := by decide +kernel
theorem dX16_digest_328 : decode cX16_digest 328 = .ok (.lstore_n 1, 1) := by decide +kernel
theorem dX16_digest_339 : decode cX16_digest 339 = .ok (.ifnull 55, 3) := by decide +kernel
theorem dX16_digest_402 : decode cX16_digest 402 = .ok (.i2l, 1) := by decide +kernel
theorem dJ5_init_d00df_4 : decode cJ5_init_d00df 4 = .ok (.getstatic 18, 3) := by decide +kernel
theorem dJ5_init_d00df_14 : decode cJ5_init_d00df 14 = .ok (.putfield 15, 3) := by decide +kernel
theorem dJ5_init_d00df_38 : decode cJ5_init_d00df 38 = .ok (.return_, 1) := by decide +kernel
theorem dJ5_ensureCapacityInternal_d00df_1 : decode cJ5_ensureCapacityInternal_d00df 1 = .ok (.getfield 15, 3) := by decide +kernel
theorem dJ5_ensureCapacityInternal_d00df_10 : decode cJ5_ensureCapacityInternal_d00df 10 = .ok (.istore_n 2, 1) := by decide +kernel
theorem dJ5_ensureCapacityInternal_d00df_38 : decode cJ5_ensureCapacityInternal_d00df 38 = .ok (.return_, 1) := by decide +kernel
theorem dJ5_setLength_d00df_15 : decode cJ5_setLength_d00df 15 = .ok (.invokevirtual 100, 3) := by decide +kernel
theorem dJ5_setLength_d00df_63 : decode cJ5_setLength_d00df 63 = .ok (.aload_n 0, 1) := by decide +kernel
theorem dJ5_setLength_d00df_77 : decode cJ5_setLength_d00df 77 = .ok (.iload_n 1, 1) := by decide +kernel
theorem dJ5_append_cf1ce_9 : decode cJ5_append_cf1ce 9 = .ok (.aload_n 1, 1) := by decide +kernel
theorem dJ5_append_cf1ce_16 : decode cJ5_append_cf1ce 16 = .ok (.getfield 79, 3) := by decide +kernel
theorem dJ5_append_cf1ce_25 : decode cJ5_append_cf1ce 25 = .ok (.aload_n 0, 1) := by decide +kernel
theorem dJ5_append_cf1ce_34 : decode cJ5_append_cf1ce 34 = .ok (.dup, 1) := by decide +kernel
theorem dJ5_append_cf1ce_43 : decode cJ5_append_cf1ce 43 = .ok (.aload_n 0, 1) := by decide +kernel
theorem dJ5_append_3fe6f_5 : decode cJ5_append_3fe6f 5 = .ok (.iconst 1, 1) := by decide +kernel
theorem dJ5_append_3fe6f_14 : decode cJ5_append_3fe6f 14 = .ok (.ifCond .eq 31, 3) := by decide +kernel
theorem dJ5_append_3fe6f_25 : decode cJ5_append_3fe6f 25 = .ok (.getfield 15, 3) := by decide +kernel
theorem dJ5_append_3fe6f_34 : decode cJ5_append_3fe6f 34 = .ok (.iconst 1, 1) := by decide +kernel
theorem dJ5_append_3fe6f_41 : decode cJ5_append_3fe6f 41 = .ok (.bastore, 1) := by decide +kernel
theorem dJ5_getValue_6d5f1_1 : decode cJ5_getValue_6d5f1 1 = .ok (.getfield 15, 3) := by decide +kernel
theorem dJ5_isLatin1_aae02_7 : decode cJ5_isLatin1_aae02 7 = .ok (.getfield 22, 3) := by decide +kernel
theorem dJ5_inflateIfNeededFor_a7421_0 : decode cJ5_inflateIfNeededFor_a7421 0 = .ok (.getstatic 18, 3) := by decide +kernel
theorem dJ5_inflateIfNeededFor_a7421_11 : decode cJ5_inflateIfNeededFor_a7421 11 = .ok (.invokevirtual 40, 3) := by decide +kernel
theorem dJ5_putStringAt_47b60_2 : decode cJ5_putStringAt_47b60 2 = .ok (.invokevirtual 397, 3) := by decide +kernel
theorem dJ5_putStringAt_47b60_11 : decode cJ5_putStringAt_47b60 11 = .ok (.aload_n 0, 1) := by decide +kernel
theorem dJ0_init_81219_1 : decode cJ0_init_81219 1 = .ok (.aload_n 1, 1) := by decide +kernel
theorem dJ0_length_8abf5_1 : decode cJ0_length_8abf5 1 = .ok (.getfield 9, 3) := by decide +kernel
theorem dJ0_length_8abf5_10 : decode cJ0_length_8abf5 10 = .ok (.ireturn, 1) := by decide +kernel
theorem dJ0_isEmpty_aae02_8 : decode cJ0_isEmpty_aae02 8 = .ok (.iconst 1, 1) := by decide +kernel
theorem dJ0_charAt_5068e_1 : decode cJ0_charAt_5068e 1 = .ok (.invokevirtual 492, 3) := by decide +kernel
theorem dJ0_charAt_5068e_12 : decode cJ0_charAt_5068e 12 = .ok (.invokestatic 495, 3) := by decide +kernel
theorem dJ0_equals_9ea2d_5 : decode cJ0_equals_9ea2d 5 = .ok (.iconst 1, 1) := by decide +kernel
theorem dJ0_equals_9ea2d_14 : decode cJ0_equals_9ea2d 14 = .ok (.aload_n 1, 1) := by decide +kernel
theorem dJ0_equals_9ea2d_25 : decode cJ0_equals_9ea2d 25 = .ok (.aload_n 0, 1) := by decide +kernel
theorem dJ0_equals_9ea2d_36 : decode cJ0_equals_9ea2d 36 = .ok (.aload_n 0, 1) := by decide +kernel
theorem dJ0_equals_9ea2d_47 : decode cJ0_equals_9ea2d 47 = .ok (.ifCond .eq 7, 3) := by decide +kernel
theorem dJ0_substring_37a41_1 : decode cJ0_substring_37a41 1 = .ok (.invokevirtual 505, 3) := by decide +kernel
theorem dJ0_substring_37a41_8 : decode cJ0_substring_37a41 8 = .ok (.invokestatic 521, 3) := by decide +kernel
theorem dJ0_substring_37a41_17 : decode cJ0_substring_37a41 17 = .ok (.if_icmp .ne 5, 3) := by decide +kernel
theorem dJ0_substring_37a41_27 : decode cJ0_substring_37a41 27 = .ok (.aload_n 0, 1) := by decide +kernel
theorem dJ0_substring_37a41_38 : decode cJ0_substring_37a41 38 = .ok (.iload_n 1, 1) := by decide +kernel
theorem dJ0_getBytes_840e7_0 : decode cJ0_getBytes_840e7 0 = .ok (.aload_n 0, 1) := by decide +kernel
theorem dJ0_getBytes_840e7_9 : decode cJ0_getBytes_840e7 9 = .ok (.getfield 9, 3) := by decide +kernel
theorem dJ0_getBytes_840e7_16 : decode cJ0_getBytes_840e7 16 = .ok (.ishl, 1) := by decide +kernel
theorem dJ0_getBytes_840e7_25 : decode cJ0_getBytes_840e7 25 = .ok (.goto 18, 3) := by decide +kernel
theorem dJ0_init_db425_5 : decode cJ0_init_db425 5 = .ok (.invokevirtual 552, 3) := by decide +kernel
theorem dJ0_init_db425_15 : decode cJ0_init_db425 15 = .ok (.aload_n 1, 1) := by decide +kernel
theorem dJ0_init_db425_24 : decode cJ0_init_db425 24 = .ok (.putfield 15, 3) := by decide +kernel
theorem dJ0_init_db425_32 : decode cJ0_init_db425 32 = .ok (.invokestatic 54, 3) := by decide +kernel
theorem dJ0_init_031fb_1 : decode cJ0_init_031fb 1 = .ok (.invokespecial 1, 3) := by decide +kernel
theorem dJ0_init_031fb_10 : decode cJ0_init_031fb 10 = .ok (.iload_n 2, 1) := by decide +kernel
theorem dJ0_coder_7d493_6 : decode cJ0_coder_7d493 6 = .ok (.aload_n 0, 1) := by decide +kernel
theorem dJ0_isLatin1_aae02_3 : decode cJ0_isLatin1_aae02 3 = .ok (.ifCond .eq 14, 3) := by decide +kernel
theorem dJ0_isLatin1_aae02_14 : decode cJ0_isLatin1_aae02 14 = .ok (.goto 4, 3) := by decide +kernel
theorem dJ0_checkIndex_df160_5 : decode cJ0_checkIndex_df160 5 = .ok (.invokestatic 1059, 3) := by decide +kernel
theorem dJ0_checkBoundsBeginEnd_23922_2 : decode cJ0_checkBoundsBeginEnd_23922 2 = .ok (.iload_n 2, 1) := by decide +kernel
theorem dJ4_init_da8c8_0 : decode cJ4_init_da8c8 0 = .ok (.aload_n 0, 1) := by decide +kernel
theorem dJ4_append_15ec4_1 : decode cJ4_append_15ec4 1 = .ok (.aload_n 1, 1) := by decide +kernel
theorem dJ4_append_cf468_0 : decode cJ4_append_cf468 0 = .ok (.aload_n 0, 1) := by decide +kernel
theorem dJ4_append_cf468_7 : decode cJ4_append_cf468 7 = .ok (.areturn, 1) := by decide +kernel
theorem dJ4_toString_0e30d_8 : decode cJ4_toString_0e30d 8 = .ok (.areturn, 1) := by decide +kernel
theorem dJ4_length_8abf5_0 : decode cJ4_length_8abf5 0 = .ok (.aload_n 0, 1) := by decide +kernel
theorem dJ1_charAt_3b067_2 : decode cJ1_charAt_3b067 2 = .ok (.arraylength, 1) := by decide +kernel
theorem dJ1_charAt_3b067_9 : decode cJ1_charAt_3b067 9 = .ok (.sipush 255, 3) := by decide +kernel
theorem dJ1_canEncode_fc78d_1 : decode cJ1_canEncode_fc78d 1 = .ok (.sipush 255, 3) := by decide +kernel
theorem dJ1_equals_b5fdf_0 : decode cJ1_equals_b5fdf 0 = .ok (.aload_n 0, 1) := by decide +kernel
theorem dJ1_equals_b5fdf_7 : decode cJ1_equals_b5fdf 7 = .ok (.iconst 0, 1) := by decide +kernel
theorem dJ1_equals_b5fdf_12 : decode cJ1_equals_b5fdf 12 = .ok (.if_icmp .ge 20, 3) := by decide +kernel
theorem dJ1_newString_b4f7a_4 : decode cJ1_newString_b4f7a 4 = .ok (.ldc 151, 2) := by decide +kernel
theorem dJ1_newString_b4f7a_12 : decode cJ1_newString_b4f7a 12 = .ok (.iload_n 1, 1) := by decide +kernel
theorem dJ1_newString_b4f7a_19 : decode cJ1_newString_b4f7a 19 = .ok (.iconst 0, 1) := by decide +kernel
theorem dJxa1e45_init_da8c8_4 : decode cJxa1e45_init_da8c8 4 = .ok (.return_, 1) := by decide +kernel
theorem dJxc12de_init_da8c8_6 : decode cJxc12de_init_da8c8 6 = .ok (.putfield 7, 3) := by decide +kernel
theorem dJx35411_init_45d68_5 : decode cJx35411_init_45d68 5 = .ok (.aload_n 0, 1) := by decide +kernel
theorem dJx35411_init_45d68_14 : decode cJx35411_init_45d68 14 = .ok (.aload_n 0, 1) := by decide +kernel
theorem dJx35411_init_45d68_25 : decode cJx35411_init_45d68 25 = .ok (.return_, 1) := by decide +kernel
theorem dJx35411_hasNext_aae02_8 : decode cJx35411_hasNext_aae02 8 = .ok (.getfield 28, 3) := by decide +kernel
theorem dJx4a65c_init_da8c8_1 : decode cJx4a65c_init_da8c8 1 = .ok (.invokespecial 1, 3) := by decide +kernel
theorem dJx4a65c_grow_92f84_0 : decode cJx4a65c_grow_92f84 0 = .ok (.aload_n 0, 1) := by decide +kernel
theorem dJx4a65c_grow_92f84_7 : decode cJx4a65c_grow_92f84 7 = .ok (.ifCond .gt 13, 3) := by decide +kernel
theorem dJx4a65c_grow_92f84_45 : decode cJx4a65c_grow_92f84 45 = .ok (.aload_n 0, 1) := by decide +kernel
theorem dJx4a65c_grow_92f84_55 : decode cJx4a65c_grow_92f84 55 = .ok (.dup_x1, 1) := by decide +kernel
theorem dJx4a65c_grow_d5877_2 : decode cJx4a65c_grow_d5877 2 = .ok (.getfield 48, 3) := by decide +kernel
theorem dJx4a65c_size_8abf5_0 : decode cJx4a65c_size_8abf5 0 = .ok (.aload_n 0, 1) := by decide +kernel
theorem dJx4a65c_isEmpty_aae02_4 : decode cJx4a65c_isEmpty_aae02 4 = .ok (.ifCond .ne 7, 3) := by decide +kernel
theorem dJx4a65c_add_72be8_1 : decode cJx4a65c_add_72be8 1 = .ok (.aload_n 2, 1) := by decide +kernel
theorem dJx4a65c_add_72be8_10 : decode cJx4a65c_add_72be8 10 = .ok (.astore_n 2, 1) := by decide +kernel
theorem dJx4a65c_add_72be8_15 : decode cJx4a65c_add_72be8 15 = .ok (.aload_n 0, 1) := by decide +kernel
theorem dJx4a65c_add_72be8_22 : decode cJx4a65c_add_72be8 22 = .ok (.return_, 1) := by decide +kernel
theorem dJx4a65c_add_9ea2d_6 : decode cJx4a65c_add_9ea2d 6 = .ok (.iadd, 1) := by decide +kernel
theorem dJx4a65c_add_9ea2d_13 : decode cJx4a65c_add_9ea2d 13 = .ok (.getfield 9, 3) := by decide +kernel
theorem dJx4a65c_add_9ea2d_24 : decode cJx4a65c_add_9ea2d 24 = .ok (.ireturn, 1) := by decide +kernel
theorem dJx4a65c_iterator_32c93_8 : decode cJx4a65c_iterator_32c93 8 = .ok (.areturn, 1) := by decide +kernel
theorem dJ7_copyOfRange_39247_0 : decode cJ7_copyOfRange_39247 0 = .ok (.iload_n 1, 1) := by decide +kernel
theorem dJ7_copyOfRange_39247_7 : decode cJ7_copyOfRange_39247 7 = .ok (.if_icmp .eq 10, 3) := by decide +kernel
theorem dJ7_copyOfRange_39247_16 : decode cJ7_copyOfRange_39247 16 = .ok (.areturn, 1) := by decide +kernel
theorem dJ7_copyOfRangeByte_39247_6 : decode cJ7_copyOfRangeByte_39247 6 = .ok (.iload_n 1, 1) := by decide +kernel
theorem dJ7_copyOfRangeByte_39247_12 : decode cJ7_copyOfRangeByte_39247 12 = .ok (.astore 4, 2) := by decide +kernel
theorem dJ7_copyOfRangeByte_39247_19 : decode cJ7_copyOfRangeByte_39247 19 = .ok (.aload_n 0, 1) := by decide +kernel
theorem dJ7_copyOfRangeByte_39247_24 : decode cJ7_copyOfRangeByte_39247 24 = .ok (.invokestatic 304, 3) := by decide +kernel
theorem dJ3_checkIndex_8e157_1 : decode cJ3_checkIndex_8e157 1 = .ok (.ifCond .lt 8, 3) := by decide +kernel
theorem dJ3_checkIndex_8e157_17 : decode cJ3_checkIndex_8e157 17 = .ok (.ireturn, 1) := by decide +kernel
theorem dJ3_checkFromToIndex_8c36e_6 : decode cJ3_checkFromToIndex_8c36e 6 = .ok (.if_icmp .gt 8, 3) := by decide +kernel
theorem dJ3_checkFromToIndex_8c36e_23 : decode cJ3_checkFromToIndex_8c36e 23 = .ok (.ireturn, 1) := by decide +kernel
theorem dL_word_4 : decode cL_word 4 = .ok (.invokevirtual 7, 3) := by decide +kernel
theorem dL_word_16 : decode cL_word 16 = .ok (.iconst 1, 1) := by decide +kernel
theorem dL_mark_1 : decode cL_mark 1 = .ok (.aload_n 0, 1) := by decide +kernel
theorem dL_mark_10 : decode cL_mark 10 = .ok (.goto 9, 3) := by decide +kernel
theorem dL_mark_20 : decode cL_mark 20 = .ok (.ireturn, 1) := by decide +kernel
theorem dL_join_4 : decode cL_join 4 = .ok (.invokevirtual 27, 3) := by decide +kernel
theorem dL_nest_1 : decode cL_nest 1 = .ok (.aload_n 0, 1) := by decide +kernel
theorem dL_nest_16 : decode cL_nest 16 = .ok (.iconst 1, 1) := by decide +kernel
theorem dL_align_3 : decode cL_align 3 = .ok (.invokevirtual 35, 3) := by decide +kernel
theorem dL_group_1 : decode cL_group 1 = .ok (.aload_n 0, 1) := by decide +kernel
theorem dL_group_15 : decode cL_group 15 = .ok (.ireturn, 1) := by decide +kernel
theorem dL_fill_4 : decode cL_fill 4 = .ok (.invokevirtual 41, 3) := by decide +kernel
theorem dL_width_1 : decode cL_width 1 = .ok (.aload_n 0, 1) := by decide +kernel
theorem dL_width_10 : decode cL_width 10 = .ok (.goto 6, 3) := by decide +kernel
theorem dL_width_17 : decode cL_width 17 = .ok (.ireturn, 1) := by decide +kernel
theorem dL_ribbon_6 : decode cL_ribbon 6 = .ok (.i2l, 1) := by decide +kernel
theorem dL_ribbon_15 : decode cL_ribbon 15 = .ok (.ireturn, 1) := by decide +kernel
theorem dL_say_3 : decode cL_say 3 = .ok (.iload_n 1, 1) := by decide +kernel
theorem dL_say_10 : decode cL_say 10 = .ok (.iload 6, 2) := by decide +kernel
theorem dL_say_22 : decode cL_say 22 = .ok (.astore 8, 2) := by decide +kernel
theorem dL_read_0 : decode cL_read 0 = .ok (.aload_n 1, 1) := by decide +kernel
theorem dL_read_9 : decode cL_read 9 = .ok (.goto 6, 3) := by decide +kernel
theorem dL_ofNode_2 : decode cL_ofNode 2 = .ok (.iload_n 1, 1) := by decide +kernel
theorem dL_ofNode_17 : decode cL_ofNode 17 = .ok (.ireturn, 1) := by decide +kernel
theorem dL_flat_12 : decode cL_flat 12 = .ok (.astore_n 3, 1) := by decide +kernel
theorem dL_line_2 : decode cL_line 2 = .ok (.iload_n 1, 1) := by decide +kernel
theorem dL_line_16 : decode cL_line 16 = .ok (.ireturn, 1) := by decide +kernel
theorem dL_measure_4 : decode cL_measure 4 = .ok (.invokevirtual 73, 3) := by decide +kernel
theorem dL_at_2 : decode cL_at 2 = .ok (.aload_n 0, 1) := by decide +kernel
theorem dL_at_16 : decode cL_at 16 = .ok (.astore 5, 2) := by decide +kernel
theorem dL_where_3 : decode cL_where 3 = .ok (.iload_n 1, 1) := by decide +kernel
theorem dL_where_18 : decode cL_where 18 = .ok (.iconst 1, 1) := by decide +kernel
theorem dL_isOne_3 : decode cL_isOne 3 = .ok (.iload_n 2, 1) := by decide +kernel
theorem dL_differ_0 : decode cL_differ 0 = .ok (.aload 4, 2) := by decide +kernel
theorem dL_differ_6 : decode cL_differ 6 = .ok (.invokevirtual 87, 3) := by decide +kernel
theorem dL_ofCode_1 : decode cL_ofCode 1 = .ok (.aload_n 0, 1) := by decide +kernel
theorem dL_ofCode_10 : decode cL_ofCode 10 = .ok (.goto 6, 3) := by decide +kernel
theorem dL_ofCode_17 : decode cL_ofCode 17 = .ok (.ireturn, 1) := by decide +kernel
theorem dL_codeLine_6 : decode cL_codeLine 6 = .ok (.putfield 65, 3) := by decide +kernel
theorem dL_codeLine_15 : decode cL_codeLine 15 = .ok (.iconst 0, 1) := by decide +kernel
theorem dL_house_3 : decode cL_house 3 = .ok (.invokevirtual 96, 3) := by decide +kernel
theorem dL_house_14 : decode cL_house 14 = .ok (.iconst 1, 1) := by decide +kernel
theorem dL_fits_1 : decode cL_fits 1 = .ok (.aload_n 0, 1) := by decide +kernel
theorem dL_fits_23 : decode cL_fits 23 = .ok (.iconst 1, 1) := by decide +kernel
theorem dL_would_4 : decode cL_would 4 = .ok (.iload_n 2, 1) := by decide +kernel
theorem dL_would_19 : decode cL_would 19 = .ok (.ireturn, 1) := by decide +kernel
theorem dL_narrowest_13 : decode cL_narrowest 13 = .ok (.astore_n 3, 1) := by decide +kernel
theorem dL_least_2 : decode cL_least 2 = .ok (.iload_n 1, 1) := by decide +kernel
theorem dL_least_17 : decode cL_least 17 = .ok (.ireturn, 1) := by decide +kernel
theorem dL_leastLine_4 : decode cL_leastLine 4 = .ok (.invokevirtual 112, 3) := by decide +kernel
theorem dL_law_3 : decode cL_law 3 = .ok (.dup, 1) := by decide +kernel
theorem dL_law_12 : decode cL_law 12 = .ok (.invokespecial 118, 3) := by decide +kernel
theorem dL_law_23 : decode cL_law 23 = .ok (.astore_n 3, 1) := by decide +kernel
theorem dL_law_30 : decode cL_law 30 = .ok (.arraylength, 1) := by decide +kernel
theorem dL_law_38 : decode cL_law 38 = .ok (.iload 4, 2) := by decide +kernel
theorem dL_law_204 : decode cL_law 204 = .ok (.aload_n 1, 1) := by decide +kernel
theorem dL_law_210 : decode cL_law 210 = .ok (.iaload, 1) := by decide +kernel
theorem dL_law_216 : decode cL_law 216 = .ok (.iaload, 1) := by decide +kernel
theorem dL_law_224 : decode cL_law 224 = .ok (.aload_n 0, 1) := by decide +kernel
theorem dL_law_230 : decode cL_law 230 = .ok (.aload_n 0, 1) := by decide +kernel
theorem dL_law_236 : decode cL_law 236 = .ok (.invokevirtual 125, 3) := by decide +kernel
theorem dL_law_247 : decode cL_law 247 = .ok (.if_icmp .eq 5, 3) := by decide +kernel
theorem dL_law_261 : decode cL_law 261 = .ok (.iload 6, 2) := by decide +kernel
theorem dL_law_273 : decode cL_law 273 = .ok (.aload_n 1, 1) := by decide +kernel
theorem dL_law_279 : decode cL_law 279 = .ok (.iaload, 1) := by decide +kernel
theorem dL_law_287 : decode cL_law 287 = .ok (.aload_n 0, 1) := by decide +kernel
theorem dL_law_293 : decode cL_law 293 = .ok (.invokevirtual 132, 3) := by decide +kernel
theorem dL_law_304 : decode cL_law 304 = .ok (.if_icmp .eq 5, 3) := by decide +kernel
theorem dL_law_318 : decode cL_law 318 = .ok (.iload 6, 2) := by decide +kernel
theorem dL_law_330 : decode cL_law 330 = .ok (.aload_n 1, 1) := by decide +kernel
theorem dL_law_336 : decode cL_law 336 = .ok (.iaload, 1) := by decide +kernel
theorem dL_law_342 : decode cL_law 342 = .ok (.iaload, 1) := by decide +kernel
theorem dL_law_350 : decode cL_law 350 = .ok (.aload_n 0, 1) := by decide +kernel
theorem dL_law_356 : decode cL_law 356 = .ok (.aload_n 0, 1) := by decide +kernel
theorem dL_law_362 : decode cL_law 362 = .ok (.invokevirtual 135, 3) := by decide +kernel
theorem dL_law_373 : decode cL_law 373 = .ok (.if_icmp .eq 5, 3) := by decide +kernel
theorem dL_law_400 : decode cL_law 400 = .ok (.aload_n 0, 1) := by decide +kernel
theorem dL_law_406 : decode cL_law 406 = .ok (.aload_n 0, 1) := by decide +kernel
theorem dL_law_412 : decode cL_law 412 = .ok (.aload_n 3, 1) := by decide +kernel
theorem dL_law_420 : decode cL_law 420 = .ok (.iload 4, 2) := by decide +kernel
theorem dL_law_426 : decode cL_law 426 = .ok (.iload 4, 2) := by decide +kernel
theorem dL_law_434 : decode cL_law 434 = .ok (.istore 6, 2) := by decide +kernel
theorem dL_law_447 : decode cL_law 447 = .ok (.iload 5, 2) := by decide +kernel
theorem dL_law_470 : decode cL_law 470 = .ok (.iload 4, 2) := by decide +kernel
theorem dL_law_476 : decode cL_law 476 = .ok (.invokestatic 139, 3) := by decide +kernel
theorem dL_law_485 : decode cL_law 485 = .ok (.iconst 1, 1) := by decide +kernel
theorem dL_law_493 : decode cL_law 493 = .ok (.aload_n 2, 1) := by decide +kernel
theorem dL_law_506 : decode cL_law 506 = .ok (.ifCond .ne 16, 3) := by decide +kernel
theorem dL_law_529 : decode cL_law 529 = .ok (.iconst 1, 1) := by decide +kernel
theorem dL_law_536 : decode cL_law 536 = .ok (.istore 5, 2) := by decide +kernel
theorem dL_law_543 : decode cL_law 543 = .ok (.iadd, 1) := by decide +kernel
theorem dL_law_551 : decode cL_law 551 = .ok (.invokevirtual 126, 3) := by decide +kernel
theorem dL_law_579 : decode cL_law 579 = .ok (.goto 1637, 3) := by decide +kernel
theorem dL_law_587 : decode cL_law 587 = .ok (.iadd, 1) := by decide +kernel
theorem dL_law_593 : decode cL_law 593 = .ok (.iadd, 1) := by decide +kernel
theorem dL_law_601 : decode cL_law 601 = .ok (.aload_n 2, 1) := by decide +kernel
theorem dL_law_607 : decode cL_law 607 = .ok (.iaload, 1) := by decide +kernel
theorem dL_law_613 : decode cL_law 613 = .ok (.iaload, 1) := by decide +kernel
theorem dL_law_623 : decode cL_law 623 = .ok (.iload 5, 2) := by decide +kernel
theorem dL_law_651 : decode cL_law 651 = .ok (.aload_n 1, 1) := by decide +kernel
theorem dL_law_664 : decode cL_law 664 = .ok (.aload_n 1, 1) := by decide +kernel
theorem dL_law_670 : decode cL_law 670 = .ok (.iaload, 1) := by decide +kernel
theorem dL_law_678 : decode cL_law 678 = .ok (.aload_n 0, 1) := by decide +kernel
theorem dL_law_684 : decode cL_law 684 = .ok (.invokevirtual 154, 3) := by decide +kernel
theorem dL_law_695 : decode cL_law 695 = .ok (.if_icmp .eq 5, 3) := by decide +kernel
theorem dL_law_709 : decode cL_law 709 = .ok (.iload 6, 2) := by decide +kernel
theorem dL_law_721 : decode cL_law 721 = .ok (.aload_n 1, 1) := by decide +kernel
theorem dL_law_727 : decode cL_law 727 = .ok (.iaload, 1) := by decide +kernel
theorem dL_law_735 : decode cL_law 735 = .ok (.aload_n 0, 1) := by decide +kernel
theorem dL_law_741 : decode cL_law 741 = .ok (.invokevirtual 157, 3) := by decide +kernel
theorem dL_law_752 : decode cL_law 752 = .ok (.if_icmp .eq 5, 3) := by decide +kernel
theorem dL_law_766 : decode cL_law 766 = .ok (.iload 6, 2) := by decide +kernel
theorem dL_law_778 : decode cL_law 778 = .ok (.aload_n 1, 1) := by decide +kernel
theorem dL_law_784 : decode cL_law 784 = .ok (.iaload, 1) := by decide +kernel
theorem dL_law_790 : decode cL_law 790 = .ok (.iaload, 1) := by decide +kernel
theorem dL_law_796 : decode cL_law 796 = .ok (.iaload, 1) := by decide +kernel
theorem dL_law_802 : decode cL_law 802 = .ok (.iaload, 1) := by decide +kernel
theorem dL_law_808 : decode cL_law 808 = .ok (.iaload, 1) := by decide +kernel
theorem dL_law_815 : decode cL_law 815 = .ok (.iaload, 1) := by decide +kernel
theorem dL_law_823 : decode cL_law 823 = .ok (.aload_n 0, 1) := by decide +kernel
theorem dL_law_829 : decode cL_law 829 = .ok (.aload_n 0, 1) := by decide +kernel
theorem dL_law_835 : decode cL_law 835 = .ok (.aload_n 0, 1) := by decide +kernel
theorem dL_law_841 : decode cL_law 841 = .ok (.aload_n 0, 1) := by decide +kernel
theorem dL_law_847 : decode cL_law 847 = .ok (.aload_n 0, 1) := by decide +kernel
theorem dL_law_853 : decode cL_law 853 = .ok (.aload_n 0, 1) := by decide +kernel
theorem dL_law_860 : decode cL_law 860 = .ok (.invokevirtual 161, 3) := by decide +kernel
theorem dL_law_871 : decode cL_law 871 = .ok (.if_icmp .eq 5, 3) := by decide +kernel
theorem dL_law_885 : decode cL_law 885 = .ok (.iload 6, 2) := by decide +kernel
theorem dL_law_897 : decode cL_law 897 = .ok (.aload_n 1, 1) := by decide +kernel
theorem dL_law_905 : decode cL_law 905 = .ok (.invokevirtual 165, 3) := by decide +kernel
theorem dL_law_916 : decode cL_law 916 = .ok (.if_icmp .eq 5, 3) := by decide +kernel
theorem dL_law_930 : decode cL_law 930 = .ok (.iload 6, 2) := by decide +kernel
theorem dL_law_942 : decode cL_law 942 = .ok (.aload_n 1, 1) := by decide +kernel
theorem dL_law_955 : decode cL_law 955 = .ok (.aload_n 1, 1) := by decide +kernel
theorem dL_law_968 : decode cL_law 968 = .ok (.aload_n 1, 1) := by decide +kernel
theorem dL_law_981 : decode cL_law 981 = .ok (.aload_n 1, 1) := by decide +kernel
theorem dL_law_987 : decode cL_law 987 = .ok (.iaload, 1) := by decide +kernel
theorem dL_law_993 : decode cL_law 993 = .ok (.iaload, 1) := by decide +kernel
theorem dL_law_1001 : decode cL_law 1001 = .ok (.aload_n 0, 1) := by decide +kernel
theorem dL_law_1007 : decode cL_law 1007 = .ok (.aload_n 0, 1) := by decide +kernel
theorem dL_law_1013 : decode cL_law 1013 = .ok (.invokevirtual 180, 3) := by decide +kernel
theorem dL_law_1024 : decode cL_law 1024 = .ok (.if_icmp .eq 5, 3) := by decide +kernel
theorem dL_law_1051 : decode cL_law 1051 = .ok (.aload_n 0, 1) := by decide +kernel
theorem dL_law_1057 : decode cL_law 1057 = .ok (.aload_n 3, 1) := by decide +kernel
theorem dL_law_1065 : decode cL_law 1065 = .ok (.iload 4, 2) := by decide +kernel
theorem dL_law_1073 : decode cL_law 1073 = .ok (.astore 6, 2) := by decide +kernel
theorem dL_law_1086 : decode cL_law 1086 = .ok (.iload 5, 2) := by decide +kernel
theorem dL_law_1110 : decode cL_law 1110 = .ok (.iload 4, 2) := by decide +kernel
theorem dL_law_1116 : decode cL_law 1116 = .ok (.iload 4, 2) := by decide +kernel
theorem dL_law_1122 : decode cL_law 1122 = .ok (.invokestatic 190, 3) := by decide +kernel
theorem dL_law_1131 : decode cL_law 1131 = .ok (.iconst 1, 1) := by decide +kernel
theorem dL_law_1137 : decode cL_law 1137 = .ok (.iconst 2, 1) := by decide +kernel
theorem dL_law_1145 : decode cL_law 1145 = .ok (.aload_n 2, 1) := by decide +kernel
theorem dL_law_1158 : decode cL_law 1158 = .ok (.ifCond .ne 17, 3) := by decide +kernel
theorem dL_law_1182 : decode cL_law 1182 = .ok (.iconst 1, 1) := by decide +kernel
theorem dL_law_1188 : decode cL_law 1188 = .ok (.iconst 2, 1) := by decide +kernel
theorem dL_law_1195 : decode cL_law 1195 = .ok (.istore 5, 2) := by decide +kernel
theorem dL_law_1202 : decode cL_law 1202 = .ok (.iadd, 1) := by decide +kernel
theorem dL_law_1208 : decode cL_law 1208 = .ok (.iadd, 1) := by decide +kernel
theorem dL_law_1216 : decode cL_law 1216 = .ok (.invokevirtual 126, 3) := by decide +kernel
theorem dL_law_1244 : decode cL_law 1244 = .ok (.goto 972, 3) := by decide +kernel
theorem dL_law_1252 : decode cL_law 1252 = .ok (.iadd, 1) := by decide +kernel
theorem dL_law_1258 : decode cL_law 1258 = .ok (.iadd, 1) := by decide +kernel
theorem dL_law_1264 : decode cL_law 1264 = .ok (.iadd, 1) := by decide +kernel
theorem dL_law_1272 : decode cL_law 1272 = .ok (.aload_n 2, 1) := by decide +kernel
theorem dL_law_1278 : decode cL_law 1278 = .ok (.iaload, 1) := by decide +kernel
theorem dL_law_1284 : decode cL_law 1284 = .ok (.iaload, 1) := by decide +kernel
theorem dL_law_1290 : decode cL_law 1290 = .ok (.iaload, 1) := by decide +kernel
theorem dL_law_1300 : decode cL_law 1300 = .ok (.iload 5, 2) := by decide +kernel
theorem dL_law_1328 : decode cL_law 1328 = .ok (.aload_n 1, 1) := by decide +kernel
theorem dL_law_1334 : decode cL_law 1334 = .ok (.iaload, 1) := by decide +kernel
theorem dL_law_1340 : decode cL_law 1340 = .ok (.iaload, 1) := by decide +kernel
theorem dL_law_1346 : decode cL_law 1346 = .ok (.iaload, 1) := by decide +kernel
theorem dL_law_1355 : decode cL_law 1355 = .ok (.aload_n 3, 1) := by decide +kernel
theorem dL_law_1363 : decode cL_law 1363 = .ok (.iload 4, 2) := by decide +kernel
theorem dL_law_1369 : decode cL_law 1369 = .ok (.iload 4, 2) := by decide +kernel
theorem dL_law_1375 : decode cL_law 1375 = .ok (.iload 4, 2) := by decide +kernel
theorem dL_law_1383 : decode cL_law 1383 = .ok (.iconst 1, 1) := by decide +kernel
theorem dL_law_1393 : decode cL_law 1393 = .ok (.aload_n 2, 1) := by decide +kernel
theorem dL_law_1406 : decode cL_law 1406 = .ok (.ifCond .ne 16, 3) := by decide +kernel
theorem dL_law_1429 : decode cL_law 1429 = .ok (.iconst 1, 1) := by decide +kernel
theorem dL_law_1435 : decode cL_law 1435 = .ok (.iconst 2, 1) := by decide +kernel
theorem dL_law_1442 : decode cL_law 1442 = .ok (.istore 5, 2) := by decide +kernel
theorem dL_law_1449 : decode cL_law 1449 = .ok (.iadd, 1) := by decide +kernel
theorem dL_law_1455 : decode cL_law 1455 = .ok (.iadd, 1) := by decide +kernel
theorem dL_law_1463 : decode cL_law 1463 = .ok (.invokevirtual 126, 3) := by decide +kernel
theorem dL_law_1491 : decode cL_law 1491 = .ok (.goto 725, 3) := by decide +kernel
theorem dL_law_1499 : decode cL_law 1499 = .ok (.iadd, 1) := by decide +kernel
theorem dL_law_1505 : decode cL_law 1505 = .ok (.iadd, 1) := by decide +kernel
theorem dL_law_1511 : decode cL_law 1511 = .ok (.iadd, 1) := by decide +kernel
theorem dL_law_1520 : decode cL_law 1520 = .ok (.iconst 0, 1) := by decide +kernel
theorem dL_law_1528 : decode cL_law 1528 = .ok (.aload_n 0, 1) := by decide +kernel
theorem dL_law_1534 : decode cL_law 1534 = .ok (.aload_n 0, 1) := by decide +kernel
theorem dL_law_1540 : decode cL_law 1540 = .ok (.aload_n 0, 1) := by decide +kernel
theorem dL_law_1546 : decode cL_law 1546 = .ok (.ifCond .eq 7, 3) := by decide +kernel
theorem dL_law_1557 : decode cL_law 1557 = .ok (.istore 6, 2) := by decide +kernel
theorem dL_law_1570 : decode cL_law 1570 = .ok (.iload 5, 2) := by decide +kernel
theorem dL_law_1595 : decode cL_law 1595 = .ok (.aload_n 2, 1) := by decide +kernel
theorem dL_law_1608 : decode cL_law 1608 = .ok (.aload_n 0, 1) := by decide +kernel
theorem dL_law_1614 : decode cL_law 1614 = .ok (.ifCond .eq 7, 3) := by decide +kernel
theorem dL_law_1625 : decode cL_law 1625 = .ok (.aload_n 2, 1) := by decide +kernel
theorem dL_law_1631 : decode cL_law 1631 = .ok (.iaload, 1) := by decide +kernel
theorem dL_law_1640 : decode cL_law 1640 = .ok (.invokevirtual 219, 3) := by decide +kernel
theorem dL_law_1652 : decode cL_law 1652 = .ok (.iconst 1, 1) := by decide +kernel
theorem dL_law_1659 : decode cL_law 1659 = .ok (.istore 5, 2) := by decide +kernel
theorem dL_law_1666 : decode cL_law 1666 = .ok (.iadd, 1) := by decide +kernel
theorem dL_law_1674 : decode cL_law 1674 = .ok (.invokevirtual 126, 3) := by decide +kernel
theorem dL_law_1689 : decode cL_law 1689 = .ok (.aload_n 3, 1) := by decide +kernel
theorem dL_law_1697 : decode cL_law 1697 = .ok (.ifCond .eq 5, 3) := by decide +kernel
theorem dL_law_1710 : decode cL_law 1710 = .ok (.invokevirtual 226, 3) := by decide +kernel
theorem dL_law_1723 : decode cL_law 1723 = .ok (.iload 4, 2) := by decide +kernel
theorem dL_law_1729 : decode cL_law 1729 = .ok (.invokestatic 227, 3) := by decide +kernel
theorem dL_law_1738 : decode cL_law 1738 = .ok (.iconst 1, 1) := by decide +kernel
theorem dL_law_1746 : decode cL_law 1746 = .ok (.aload_n 2, 1) := by decide +kernel
theorem dL_law_1759 : decode cL_law 1759 = .ok (.ifCond .ne 17, 3) := by decide +kernel
theorem dL_law_1771 : decode cL_law 1771 = .ok (.ifCond .ne 5, 3) := by decide +kernel
theorem dL_law_1783 : decode cL_law 1783 = .ok (.iconst 1, 1) := by decide +kernel
theorem dL_law_1790 : decode cL_law 1790 = .ok (.istore 5, 2) := by decide +kernel
theorem dL_law_1797 : decode cL_law 1797 = .ok (.iadd, 1) := by decide +kernel
theorem dL_law_1805 : decode cL_law 1805 = .ok (.invokevirtual 126, 3) := by decide +kernel
theorem dL_law_1820 : decode cL_law 1820 = .ok (.aload_n 3, 1) := by decide +kernel
theorem dL_law_1828 : decode cL_law 1828 = .ok (.ifCond .eq 5, 3) := by decide +kernel
theorem dL_law_1840 : decode cL_law 1840 = .ok (.iconst 1, 1) := by decide +kernel
theorem dL_law_1846 : decode cL_law 1846 = .ok (.iconst 2, 1) := by decide +kernel
theorem dL_law_1853 : decode cL_law 1853 = .ok (.istore 5, 2) := by decide +kernel
theorem dL_law_1860 : decode cL_law 1860 = .ok (.iadd, 1) := by decide +kernel
theorem dL_law_1866 : decode cL_law 1866 = .ok (.iadd, 1) := by decide +kernel
theorem dL_law_1874 : decode cL_law 1874 = .ok (.invokevirtual 126, 3) := by decide +kernel
theorem dL_law_1909 : decode cL_law 1909 = .ok (.goto 307, 3) := by decide +kernel
theorem dL_law_1917 : decode cL_law 1917 = .ok (.iadd, 1) := by decide +kernel
theorem dL_law_1923 : decode cL_law 1923 = .ok (.iadd, 1) := by decide +kernel
theorem dL_law_1929 : decode cL_law 1929 = .ok (.iadd, 1) := by decide +kernel
theorem dL_law_1937 : decode cL_law 1937 = .ok (.aload_n 2, 1) := by decide +kernel
theorem dL_law_1943 : decode cL_law 1943 = .ok (.iaload, 1) := by decide +kernel
theorem dL_law_1949 : decode cL_law 1949 = .ok (.iaload, 1) := by decide +kernel
theorem dL_law_1955 : decode cL_law 1955 = .ok (.iaload, 1) := by decide +kernel
theorem dL_law_1965 : decode cL_law 1965 = .ok (.iload 5, 2) := by decide +kernel
theorem dL_law_1993 : decode cL_law 1993 = .ok (.aload_n 1, 1) := by decide +kernel
theorem dL_law_1999 : decode cL_law 1999 = .ok (.iaload, 1) := by decide +kernel
theorem dL_law_2007 : decode cL_law 2007 = .ok (.aload_n 0, 1) := by decide +kernel
theorem dL_law_2013 : decode cL_law 2013 = .ok (.invokevirtual 241, 3) := by decide +kernel
theorem dL_law_2024 : decode cL_law 2024 = .ok (.if_icmp .eq 5, 3) := by decide +kernel
theorem dL_law_2051 : decode cL_law 2051 = .ok (.aload_n 0, 1) := by decide +kernel
theorem dL_law_2057 : decode cL_law 2057 = .ok (.aload_n 0, 1) := by decide +kernel
theorem dL_law_2063 : decode cL_law 2063 = .ok (.aload_n 3, 1) := by decide +kernel
theorem dL_law_2071 : decode cL_law 2071 = .ok (.iload 4, 2) := by decide +kernel
theorem dL_law_2077 : decode cL_law 2077 = .ok (.iload 4, 2) := by decide +kernel
theorem dL_law_2085 : decode cL_law 2085 = .ok (.istore 6, 2) := by decide +kernel
theorem dL_law_2098 : decode cL_law 2098 = .ok (.iload 5, 2) := by decide +kernel
theorem dL_law_2121 : decode cL_law 2121 = .ok (.iload 4, 2) := by decide +kernel
theorem dL_law_2127 : decode cL_law 2127 = .ok (.iload 4, 2) := by decide +kernel
theorem dL_law_2133 : decode cL_law 2133 = .ok (.invokestatic 245, 3) := by decide +kernel
theorem dL_law_2142 : decode cL_law 2142 = .ok (.iconst 1, 1) := by decide +kernel
theorem dL_law_2148 : decode cL_law 2148 = .ok (.iconst 2, 1) := by decide +kernel
theorem dL_law_2156 : decode cL_law 2156 = .ok (.aload_n 2, 1) := by decide +kernel
theorem dL_law_2169 : decode cL_law 2169 = .ok (.ifCond .ne 17, 3) := by decide +kernel
theorem dL_law_2194 : decode cL_law 2194 = .ok (.invokevirtual 252, 3) := by decide +kernel
theorem dL_law_2207 : decode cL_law 2207 = .ok (.invokevirtual 257, 3) := by decide +kernel
theorem dL_law_2222 : decode cL_law 2222 = .ok (.iconst 1, 1) := by decide +kernel
