
theorem dX0_init_1 : decode cX0_init 1 = .ok (.invokespecial 3, 3) := by decide +kernel
theorem dX0_init_10 : decode cX0_init 10 = .ok (.invokespecial 11, 3) := by decide +kernel
theorem dX0_init_21 : decode cX0_init 21 = .ok (.iconst 4, 1) := by decide +kernel
theorem dX0_init_32 : decode cX0_init 32 = .ok (.dup, 1) := by decide +kernel
theorem dX0_init_41 : decode cX0_init 41 = .ok (.new 9, 3) := by decide +kernel
theorem dX0_init_52 : decode cX0_init 52 = .ok (.aload_n 0, 1) := by decide +kernel
theorem dX0_init_61 : decode cX0_init 61 = .ok (.putfield 29, 3) := by decide +kernel
theorem dX0_init_70 : decode cX0_init 70 = .ok (.invokespecial 11, 3) := by decide +kernel
theorem dX0_init_81 : decode cX0_init 81 = .ok (.bipush 60, 2) := by decide +kernel
theorem dX0_init_91 : decode cX0_init 91 = .ok (.putfield 38, 3) := by decide +kernel
theorem dX0_init_100 : decode cX0_init 100 = .ok (.iconst 0, 1) := by decide +kernel
theorem dX0_init_109 : decode cX0_init 109 = .ok (.return_, 1) := by decide +kernel
theorem dX0_faultOf_6 : decode cX0_faultOf 6 = .ok (.invokevirtual 57, 3) := by decide +kernel
theorem dX0_faultOf_13 : decode cX0_faultOf 13 = .ok (.invokevirtual 60, 3) := by decide +kernel
theorem dX0_faultOf_109 : decode cX0_faultOf 109 = .ok (.ifCond .gt 10, 3) := by decide +kernel
theorem dX0_faultOf_120 : decode cX0_faultOf 120 = .ok (.invokevirtual 60, 3) := by decide +kernel
theorem dX0_begin_7 : decode cX0_begin 7 = .ok (.aload_n 0, 1) := by decide +kernel
theorem dX0_begin_18 : decode cX0_begin 18 = .ok (.invokevirtual 100, 3) := by decide +kernel
theorem dX0_begin_29 : decode cX0_begin 29 = .ok (.getfield 29, 3) := by decide +kernel
theorem dX0_begin_42 : decode cX0_begin 42 = .ok (.aload_n 0, 1) := by decide +kernel
theorem dX0_begin_51 : decode cX0_begin 51 = .ok (.putfield 38, 3) := by decide +kernel
theorem dX0_startSum_1 : decode cX0_startSum 1 = .ok (.aload_n 0, 1) := by decide +kernel
theorem dX0_startSum_12 : decode cX0_startSum 12 = .ok (.aload_n 0, 1) := by decide +kernel
theorem dX0_isBehindFactor_0 : decode cX0_isBehindFactor 0 = .ok (.aload_n 0, 1) := by decide +kernel
theorem dX0_isBehindFactor_9 : decode cX0_isBehindFactor 9 = .ok (.getfield 38, 3) := by decide +kernel
theorem dX1_init_0 : decode cX1_init 0 = .ok (.aload_n 0, 1) := by decide +kernel
theorem dX1_init_9 : decode cX1_init 9 = .ok (.iconst 4, 1) := by decide +kernel
theorem dX1_init_20 : decode cX1_init 20 = .ok (.dup, 1) := by decide +kernel
theorem dX1_init_29 : decode cX1_init 29 = .ok (.new 9, 3) := by decide +kernel
theorem dX1_init_41 : decode cX1_init 41 = .ok (.return_, 1) := by decide +kernel
theorem dX1_faultOf_8 : decode cX1_faultOf 8 = .ok (.istore_n 2, 1) := by decide +kernel
theorem dX1_faultOf_115 : decode cX1_faultOf 115 = .ok (.aload_n 0, 1) := by decide +kernel
theorem dX1_faultOf_126 : decode cX1_faultOf 126 = .ok (.goto 7, 3) := by decide +kernel
theorem dX1_build_7 : decode cX1_build 7 = .ok (.aload_n 0, 1) := by decide +kernel
theorem dX1_build_16 : decode cX1_build 16 = .ok (.iconst 0, 1) := by decide +kernel
theorem dX1_build_25 : decode cX1_build 25 = .ok (.if_icmp .ge 76, 3) := by decide +kernel
theorem dX1_build_107 : decode cX1_build 107 = .ok (.ireturn, 1) := by decide +kernel
theorem dX1_gathered_8 : decode cX1_gathered 8 = .ok (.isub, 1) := by decide +kernel
theorem dX1_gathered_15 : decode cX1_gathered 15 = .ok (.iconst 0, 1) := by decide +kernel
theorem dX2_init_4 : decode cX2_init 4 = .ok (.aload_n 0, 1) := by decide +kernel
theorem dX2_init_15 : decode cX2_init 15 = .ok (.aload_n 0, 1) := by decide +kernel
theorem dX2_init_26 : decode cX2_init 26 = .ok (.putfield 23, 3) := by decide +kernel
theorem dX2_init_37 : decode cX2_init 37 = .ok (.invokespecial 20, 3) := by decide +kernel
theorem dX2_init_48 : decode cX2_init 48 = .ok (.bipush 100, 2) := by decide +kernel
theorem dX2_init_60 : decode cX2_init 60 = .ok (.dup, 1) := by decide +kernel
theorem dX2_init_70 : decode cX2_init 70 = .ok (.new 18, 3) := by decide +kernel
theorem dX2_init_82 : decode cX2_init 82 = .ok (.aload_n 0, 1) := by decide +kernel
theorem dX2_init_92 : decode cX2_init 92 = .ok (.putfield 39, 3) := by decide +kernel
theorem dX2_init_103 : decode cX2_init 103 = .ok (.invokespecial 20, 3) := by decide +kernel
theorem dX2_init_114 : decode cX2_init 114 = .ok (.aload_n 0, 1) := by decide +kernel
theorem dX2_init_121 : decode cX2_init 121 = .ok (.putfield 52, 3) := by decide +kernel
theorem dX2_init_130 : decode cX2_init 130 = .ok (.iconst 0, 1) := by decide +kernel
theorem dX2_init_139 : decode cX2_init 139 = .ok (.aload_n 0, 1) := by decide +kernel
theorem dX2_init_146 : decode cX2_init 146 = .ok (.putfield 67, 3) := by decide +kernel
theorem dX2_init_155 : decode cX2_init 155 = .ok (.new 73, 3) := by decide +kernel
theorem dX2_init_166 : decode cX2_init 166 = .ok (.return_, 1) := by decide +kernel
theorem dX3_init_8 : decode cX3_init 8 = .ok (.dup, 1) := by decide +kernel
theorem dX3_init_18 : decode cX3_init 18 = .ok (.new 9, 3) := by decide +kernel
theorem dX3_init_31 : decode cX3_init 31 = .ok (.aload_n 0, 1) := by decide +kernel
theorem dX3_init_42 : decode cX3_init 42 = .ok (.putfield 23, 3) := by decide +kernel
theorem dX3_init_53 : decode cX3_init 53 = .ok (.invokespecial 11, 3) := by decide +kernel
theorem dX3_init_64 : decode cX3_init 64 = .ok (.sipush 4960, 3) := by decide +kernel
theorem dX3_init_77 : decode cX3_init 77 = .ok (.dup, 1) := by decide +kernel
theorem dX3_init_88 : decode cX3_init 88 = .ok (.new 9, 3) := by decide +kernel
theorem dX3_init_101 : decode cX3_init 101 = .ok (.aload_n 0, 1) := by decide +kernel
theorem dX3_init_112 : decode cX3_init 112 = .ok (.putfield 38, 3) := by decide +kernel
theorem dX3_init_123 : decode cX3_init 123 = .ok (.invokespecial 11, 3) := by decide +kernel
theorem dX3_count_4 : decode cX3_count 4 = .ok (.invokevirtual 44, 3) := by decide +kernel
theorem dX3_has_5 : decode cX3_has 5 = .ok (.aload_n 0, 1) := by decide +kernel
theorem dX3_has_20 : decode cX3_has 20 = .ok (.ireturn, 1) := by decide +kernel
theorem dX3_weightOfAll_1 : decode cX3_weightOfAll 1 = .ok (.istore_n 1, 1) := by decide +kernel
theorem dX3_weightOfAll_6 : decode cX3_weightOfAll 6 = .ok (.getfield 14, 3) := by decide +kernel
theorem dX3_clear_0 : decode cX3_clear 0 = .ok (.aload_n 0, 1) := by decide +kernel
theorem dX3_clear_11 : decode cX3_clear 11 = .ok (.invokevirtual 55, 3) := by decide +kernel
theorem dX3_clear_22 : decode cX3_clear 22 = .ok (.getfield 26, 3) := by decide +kernel
theorem dX3_clear_35 : decode cX3_clear 35 = .ok (.aload_n 0, 1) := by decide +kernel
theorem dX3_clear_46 : decode cX3_clear 46 = .ok (.invokevirtual 55, 3) := by decide +kernel
theorem dX3_clear_57 : decode cX3_clear 57 = .ok (.getfield 41, 3) := by decide +kernel
theorem dX3_number_4 : decode cX3_number 4 = .ok (.iload_n 1, 1) := by decide +kernel
theorem dX3_number_15 : decode cX3_number 15 = .ok (.iconst 1, 1) := by decide +kernel
theorem dX3_addSign_4 : decode cX3_addSign 4 = .ok (.iload_n 1, 1) := by decide +kernel
theorem dX3_addText_2 : decode cX3_addText 2 = .ok (.aload_n 0, 1) := by decide +kernel
theorem dX3_addText_11 : decode cX3_addText 11 = .ok (.iload_n 1, 1) := by decide +kernel
theorem dX3_addText_18 : decode cX3_addText 18 = .ok (.ireturn, 1) := by decide +kernel
theorem dX3_addMark_4 : decode cX3_addMark 4 = .ok (.iconst 0, 1) := by decide +kernel
theorem dX3_addPlace_0 : decode cX3_addPlace 0 = .ok (.aload_n 0, 1) := by decide +kernel
theorem dX3_addPlace_9 : decode cX3_addPlace 9 = .ok (.getfield 23, 3) := by decide +kernel
theorem dX3_addPlace_20 : decode cX3_addPlace 20 = .ok (.iload_n 3, 1) := by decide +kernel
theorem dX3_addPlace_30 : decode cX3_addPlace 30 = .ok (.invokevirtual 58, 3) := by decide +kernel
theorem dX3_addPlace_42 : decode cX3_addPlace 42 = .ok (.aload_n 0, 1) := by decide +kernel
theorem dX3_addPlace_52 : decode cX3_addPlace 52 = .ok (.getfield 20, 3) := by decide +kernel
theorem dX4_init_0 : decode cX4_init 0 = .ok (.aload_n 0, 1) := by decide +kernel
theorem dX4_init_9 : decode cX4_init 9 = .ok (.aload_n 0, 1) := by decide +kernel
theorem dX4_init_19 : decode cX4_init 19 = .ok (.newarray .int, 2) := by decide +kernel
theorem dX4_size_4 : decode cX4_size 4 = .ok (.ireturn, 1) := by decide +kernel
theorem dX4_get_6 : decode cX4_get 6 = .ok (.getfield 7, 3) := by decide +kernel
theorem dX4_get_17 : decode cX4_get 17 = .ok (.arraylength, 1) := by decide +kernel
theorem dX4_get_26 : decode cX4_get 26 = .ok (.iaload, 1) := by decide +kernel
theorem dX4_add_4 : decode cX4_add 4 = .ok (.ifCond .lt 35, 3) := by decide +kernel
theorem dX4_add_15 : decode cX4_add 15 = .ok (.arraylength, 1) := by decide +kernel
theorem dX4_add_24 : decode cX4_add 24 = .ok (.getfield 7, 3) := by decide +kernel
theorem dX4_add_31 : decode cX4_add 31 = .ok (.getfield 7, 3) := by decide +kernel
theorem dX4_cut_0 : decode cX4_cut 0 = .ok (.iload_n 1, 1) := by decide +kernel
theorem dX4_cut_9 : decode cX4_cut 9 = .ok (.if_icmp .ge 8, 3) := by decide +kernel
theorem dX4_clear_0 : decode cX4_clear 0 = .ok (.aload_n 0, 1) := by decide +kernel
theorem dX4_copy_1 : decode cX4_copy 1 = .ok (.iconst 0, 1) := by decide +kernel
theorem dX4_copy_8 : decode cX4_copy 8 = .ok (.aload_n 1, 1) := by decide +kernel
theorem dX5_init_1 : decode cX5_init 1 = .ok (.invokespecial 3, 3) := by decide +kernel
theorem dX5_init_12 : decode cX5_init 12 = .ok (.invokespecial 11, 3) := by decide +kernel
theorem dX5_init_23 : decode cX5_init 23 = .ok (.sipush 2500, 3) := by decide +kernel
theorem dX5_init_36 : decode cX5_init 36 = .ok (.dup, 1) := by decide +kernel
theorem dX5_init_47 : decode cX5_init 47 = .ok (.new 9, 3) := by decide +kernel
theorem dX5_init_60 : decode cX5_init 60 = .ok (.aload_n 0, 1) := by decide +kernel
theorem dX5_init_70 : decode cX5_init 70 = .ok (.putfield 29, 3) := by decide +kernel
theorem dX5_init_81 : decode cX5_init 81 = .ok (.invokespecial 11, 3) := by decide +kernel
theorem dX5_init_92 : decode cX5_init 92 = .ok (.sipush 2501, 3) := by decide +kernel
theorem dX5_init_105 : decode cX5_init 105 = .ok (.dup, 1) := by decide +kernel
theorem dX5_init_116 : decode cX5_init 116 = .ok (.new 9, 3) := by decide +kernel
theorem dX5_init_129 : decode cX5_init 129 = .ok (.aload_n 0, 1) := by decide +kernel
theorem dX6_init_1 : decode cX6_init 1 = .ok (.invokespecial 3, 3) := by decide +kernel
theorem dX6_init_12 : decode cX6_init 12 = .ok (.invokespecial 11, 3) := by decide +kernel
theorem dX6_init_23 : decode cX6_init 23 = .ok (.aload_n 0, 1) := by decide +kernel
theorem dX6_init_30 : decode cX6_init 30 = .ok (.putfield 28, 3) := by decide +kernel
theorem dX6_holds_0 : decode cX6_holds 0 = .ok (.iconst 1, 1) := by decide +kernel
theorem dX6_holds_8 : decode cX6_holds 8 = .ok (.invokevirtual 35, 3) := by decide +kernel
theorem dX6_holds_18 : decode cX6_holds 18 = .ok (.iload 6, 2) := by decide +kernel
theorem dX6_holds_84 : decode cX6_holds 84 = .ok (.aload_n 1, 1) := by decide +kernel
theorem dX7_init_0 : decode cX7_init 0 = .ok (.aload_n 0, 1) := by decide +kernel
theorem dX7_init_9 : decode cX7_init 9 = .ok (.bipush 120, 2) := by decide +kernel
theorem dX7_init_21 : decode cX7_init 21 = .ok (.dup, 1) := by decide +kernel
theorem dX7_init_31 : decode cX7_init 31 = .ok (.new 9, 3) := by decide +kernel
theorem dX7_init_43 : decode cX7_init 43 = .ok (.aload_n 0, 1) := by decide +kernel
theorem dX7_init_53 : decode cX7_init 53 = .ok (.putfield 26, 3) := by decide +kernel
theorem dX7_init_63 : decode cX7_init 63 = .ok (.invokespecial 11, 3) := by decide +kernel
theorem dX7_init_74 : decode cX7_init 74 = .ok (.bipush 120, 2) := by decide +kernel
theorem dX7_init_86 : decode cX7_init 86 = .ok (.dup, 1) := by decide +kernel
theorem dX7_init_96 : decode cX7_init 96 = .ok (.new 9, 3) := by decide +kernel
theorem dX7_init_108 : decode cX7_init 108 = .ok (.aload_n 0, 1) := by decide +kernel
theorem dX7_init_118 : decode cX7_init 118 = .ok (.putfield 41, 3) := by decide +kernel
theorem dX7_start_0 : decode cX7_start 0 = .ok (.aload_n 0, 1) := by decide +kernel
theorem dX7_start_11 : decode cX7_start 11 = .ok (.invokevirtual 48, 3) := by decide +kernel
theorem dX7_start_22 : decode cX7_start 22 = .ok (.getfield 26, 3) := by decide +kernel
theorem dX7_start_35 : decode cX7_start 35 = .ok (.aload_n 0, 1) := by decide +kernel
theorem dX7_start_46 : decode cX7_start 46 = .ok (.invokevirtual 48, 3) := by decide +kernel
theorem dX7_start_57 : decode cX7_start 57 = .ok (.aload_n 0, 1) := by decide +kernel
theorem dX7_start_66 : decode cX7_start 66 = .ok (.putfield 44, 3) := by decide +kernel
theorem dX7_isThere_5 : decode cX7_isThere 5 = .ok (.if_icmp .eq 7, 3) := by decide +kernel
theorem dX7_signsOfPlain_4 : decode cX7_signsOfPlain 4 = .ok (.areturn, 1) := by decide +kernel
theorem dX8_init_8 : decode cX8_init 8 = .ok (.dup, 1) := by decide +kernel
theorem dX8_init_19 : decode cX8_init 19 = .ok (.new 9, 3) := by decide +kernel
theorem dX8_init_32 : decode cX8_init 32 = .ok (.aload_n 0, 1) := by decide +kernel
theorem dX9_init_1 : decode cX9_init 1 = .ok (.invokespecial 3, 3) := by decide +kernel
theorem dX9_init_12 : decode cX9_init 12 = .ok (.putfield 12, 3) := by decide +kernel
theorem dX9_init_22 : decode cX9_init 22 = .ok (.invokespecial 18, 3) := by decide +kernel
theorem dX9_init_33 : decode cX9_init 33 = .ok (.bipush 6, 2) := by decide +kernel
theorem dX9_init_45 : decode cX9_init 45 = .ok (.dup, 1) := by decide +kernel
theorem dX9_init_56 : decode cX9_init 56 = .ok (.dup, 1) := by decide +kernel
theorem dX9_init_67 : decode cX9_init 67 = .ok (.dup, 1) := by decide +kernel
theorem dX9_init_78 : decode cX9_init 78 = .ok (.putfield 51, 3) := by decide +kernel
theorem dX9_init_87 : decode cX9_init 87 = .ok (.getfield 12, 3) := by decide +kernel
theorem dX9_init_100 : decode cX9_init 100 = .ok (.new 58, 3) := by decide +kernel
theorem dX9_init_109 : decode cX9_init 109 = .ok (.getfield 38, 3) := by decide +kernel
theorem dX9_init_120 : decode cX9_init 120 = .ok (.invokespecial 60, 3) := by decide +kernel
theorem dX9_init_131 : decode cX9_init 131 = .ok (.invokespecial 69, 3) := by decide +kernel
theorem dX9_init_142 : decode cX9_init 142 = .ok (.invokespecial 76, 3) := by decide +kernel
theorem dX9_init_153 : decode cX9_init 153 = .ok (.invokespecial 76, 3) := by decide +kernel
theorem dX9_init_165 : decode cX9_init 165 = .ok (.aload_n 0, 1) := by decide +kernel
theorem dX9_init_173 : decode cX9_init 173 = .ok (.putfield 91, 3) := by decide +kernel
theorem dX9_init_182 : decode cX9_init 182 = .ok (.iconst 0, 1) := by decide +kernel
theorem dX9_word_4 : decode cX9_word 4 = .ok (.iload_n 1, 1) := by decide +kernel
theorem dX9_word_14 : decode cX9_word 14 = .ok (.ldc 102, 2) := by decide +kernel
theorem dX9_word_22 : decode cX9_word 22 = .ok (.if_icmp .lt 9, 3) := by decide +kernel
theorem dX9_word_34 : decode cX9_word 34 = .ok (.dup, 1) := by decide +kernel
theorem dX9_word_42 : decode cX9_word 42 = .ok (.invokevirtual 109, 3) := by decide +kernel
theorem dX9_word_49 : decode cX9_word 49 = .ok (.if_icmp .ge 20, 3) := by decide +kernel
theorem dX9_word_59 : decode cX9_word 59 = .ok (.iadd, 1) := by decide +kernel
theorem dX9_word_70 : decode cX9_word 70 = .ok (.aload_n 0, 1) := by decide +kernel
theorem dX9_word_81 : decode cX9_word 81 = .ok (.ireturn, 1) := by decide +kernel
theorem dX9_mark_6 : decode cX9_mark 6 = .ok (.iconst 4, 1) := by decide +kernel
theorem dX9_mark_16 : decode cX9_mark 16 = .ok (.invokespecial 104, 3) := by decide +kernel
theorem dX9_mark_25 : decode cX9_mark 25 = .ok (.aload_n 0, 1) := by decide +kernel
theorem dX9_mark_36 : decode cX9_mark 36 = .ok (.ireturn, 1) := by decide +kernel
theorem dX9_nest_1 : decode cX9_nest 1 = .ok (.iload_n 1, 1) := by decide +kernel
theorem dX9_group_0 : decode cX9_group 0 = .ok (.aload_n 0, 1) := by decide +kernel
theorem dX9_fill_2 : decode cX9_fill 2 = .ok (.invokevirtual 127, 3) := by decide +kernel
theorem dX9_forget_8 : decode cX9_forget 8 = .ok (.aload_n 0, 1) := by decide +kernel
theorem dX9_width_0 : decode cX9_width 0 = .ok (.aload_n 0, 1) := by decide +kernel
theorem dX9_width_9 : decode cX9_width 9 = .ok (.istore_n 2, 1) := by decide +kernel
theorem dX9_width_16 : decode cX9_width 16 = .ok (.ireturn, 1) := by decide +kernel
theorem dX9_ribbon_6 : decode cX9_ribbon 6 = .ok (.bipush 60, 2) := by decide +kernel
theorem dX9_ribbon_17 : decode cX9_ribbon 17 = .ok (.invokespecial 104, 3) := by decide +kernel
theorem dX9_ribbon_26 : decode cX9_ribbon 26 = .ok (.aload_n 0, 1) := by decide +kernel
theorem dX9_say_0 : decode cX9_say 0 = .ok (.aload_n 0, 1) := by decide +kernel
theorem dX9_say_11 : decode cX9_say 11 = .ok (.iload_n 1, 1) := by decide +kernel
theorem dX9_say_20 : decode cX9_say 20 = .ok (.invokevirtual 176, 3) := by decide +kernel
theorem dX9_say_31 : decode cX9_say 31 = .ok (.aload_n 0, 1) := by decide +kernel
theorem dX9_say_41 : decode cX9_say 41 = .ok (.getfield 25, 3) := by decide +kernel
theorem dX9_say_53 : decode cX9_say 53 = .ok (.iload 6, 2) := by decide +kernel
theorem dX9_say_63 : decode cX9_say 63 = .ok (.istore 7, 2) := by decide +kernel
theorem dX9_say_74 : decode cX9_say 74 = .ok (.if_icmp .ge 22, 3) := by decide +kernel
theorem dX9_say_84 : decode cX9_say 84 = .ok (.invokevirtual 185, 3) := by decide +kernel
theorem dX9_say_97 : decode cX9_say 97 = .ok (.getfield 21, 3) := by decide +kernel
theorem dX9_read_4 : decode cX9_read 4 = .ok (.aload_n 0, 1) := by decide +kernel
theorem dX9_read_15 : decode cX9_read 15 = .ok (.iconst (-1), 1) := by decide +kernel
theorem dX9_read_26 : decode cX9_read 26 = .ok (.aload_n 0, 1) := by decide +kernel
theorem dX9_read_37 : decode cX9_read 37 = .ok (.invokevirtual 119, 3) := by decide +kernel
theorem dX9_code_5 : decode cX9_code 5 = .ok (.getfield 21, 3) := by decide +kernel
theorem dX9_code_16 : decode cX9_code 16 = .ok (.if_icmp .eq 5, 3) := by decide +kernel
theorem dX9_blank_2 : decode cX9_blank 2 = .ok (.getfield 91, 3) := by decide +kernel
theorem dX9_blank_12 : decode cX9_blank 12 = .ok (.ireturn, 1) := by decide +kernel
theorem dX9_knock_6 : decode cX9_knock 6 = .ok (.iadd, 1) := by decide +kernel
theorem dX9_ofNode_0 : decode cX9_ofNode 0 = .ok (.aload_n 0, 1) := by decide +kernel
theorem dX9_flat_2 : decode cX9_flat 2 = .ok (.invokevirtual 127, 3) := by decide +kernel
theorem dX9_measure_1 : decode cX9_measure 1 = .ok (.iload_n 1, 1) := by decide +kernel
theorem dX9_where_0 : decode cX9_where 0 = .ok (.aload_n 0, 1) := by decide +kernel
theorem dX9_isOne_2 : decode cX9_isOne 2 = .ok (.invokevirtual 127, 3) := by decide +kernel
theorem dX9_typed_1 : decode cX9_typed 1 = .ok (.aload_n 0, 1) := by decide +kernel
theorem dX9_fault_1 : decode cX9_fault 1 = .ok (.ifCond .eq 21, 3) := by decide +kernel
theorem dX9_fault_12 : decode cX9_fault 12 = .ok (.aload_n 0, 1) := by decide +kernel
theorem dX9_fault_23 : decode cX9_fault 23 = .ok (.getfield 31, 3) := by decide +kernel
theorem dX9_ofCode_0 : decode cX9_ofCode 0 = .ok (.iload_n 1, 1) := by decide +kernel
theorem dX9_ofCode_10 : decode cX9_ofCode 10 = .ok (.new 100, 3) := by decide +kernel
theorem dX9_ofCode_21 : decode cX9_ofCode 21 = .ok (.aload_n 0, 1) := by decide +kernel
theorem dX9_ofCode_32 : decode cX9_ofCode 32 = .ok (.ireturn, 1) := by decide +kernel
theorem dX9_plain_8 : decode cX9_plain 8 = .ok (.invokevirtual 290, 3) := by decide +kernel
theorem dX9_codeLine_5 : decode cX9_codeLine 5 = .ok (.aload_n 0, 1) := by decide +kernel
theorem dX9_codeLine_17 : decode cX9_codeLine 17 = .ok (.areturn, 1) := by decide +kernel
theorem dX9_house_7 : decode cX9_house 7 = .ok (.if_icmp .le 13, 3) := by decide +kernel
theorem dX9_house_19 : decode cX9_house 19 = .ok (.athrow, 1) := by decide +kernel
theorem dX9_fits_0 : decode cX9_fits 0 = .ok (.aload_n 0, 1) := by decide +kernel
theorem dX9_would_2 : decode cX9_would 2 = .ok (.invokevirtual 127, 3) := by decide +kernel
theorem dX9_least_1 : decode cX9_least 1 = .ok (.iload_n 1, 1) := by decide +kernel
theorem dX9_isSound_0 : decode cX9_isSound 0 = .ok (.aload_n 0, 1) := by decide +kernel
theorem dX9_isSound_9 : decode cX9_isSound 9 = .ok (.getfield 81, 3) := by decide +kernel
theorem dX9_isSound_20 : decode cX9_isSound 20 = .ok (.invokevirtual 324, 3) := by decide +kernel
theorem dX9_digest_5 : decode cX9_digest 5 = .ok (.istore_n 3, 1) := by decide +kernel
theorem dX9_digest_13 : decode cX9_digest 13 = .ok (.ldc2_w 330, 3) := by decide +kernel
theorem dX9_digest_22 : decode cX9_digest 22 = .ok (.i2l, 1) := by decide +kernel
theorem dX9_digest_31 : decode cX9_digest 31 = .ok (.aload_n 0, 1) := by decide +kernel
theorem dX9_digest_40 : decode cX9_digest 40 = .ok (.istore_n 3, 1) := by decide +kernel
theorem dX9_digest_71 : decode cX9_digest 71 = .ok (.iload_n 3, 1) := by decide +kernel
theorem dX9_digest_134 : decode cX9_digest 134 = .ok (.aload_n 0, 1) := by decide +kernel
theorem dX9_digest_143 : decode cX9_digest 143 = .ok (.lstore_n 1, 1) := by decide +kernel
theorem dX9_digest_150 : decode cX9_digest 150 = .ok (.getfield 31, 3) := by decide +kernel
theorem dX9_digest_161 : decode cX9_digest 161 = .ok (.ladd, 1) := by decide +kernel
theorem dX9_digest_168 : decode cX9_digest 168 = .ok (.aload_n 0, 1) := by decide +kernel
theorem dX9_digest_177 : decode cX9_digest 177 = .ok (.getfield 81, 3) := by decide +kernel
theorem dX9_digest_186 : decode cX9_digest 186 = .ok (.aload_n 0, 1) := by decide +kernel
theorem dX9_digest_193 : decode cX9_digest 193 = .ok (.ldc2_w 330, 3) := by decide +kernel
theorem dX9_digest_202 : decode cX9_digest 202 = .ok (.getfield 77, 3) := by decide +kernel
theorem dX9_digest_213 : decode cX9_digest 213 = .ok (.aload_n 0, 1) := by decide +kernel
theorem dX9_digest_224 : decode cX9_digest 224 = .ok (.goto 4, 3) := by decide +kernel
theorem dX9_needNode_1 : decode cX9_needNode 1 = .ok (.getfield 12, 3) := by decide +kernel
theorem dX9_needNode_14 : decode cX9_needNode 14 = .ok (.dup, 1) := by decide +kernel
theorem dX9_needNumber_1 : decode cX9_needNumber 1 = .ok (.getfield 12, 3) := by decide +kernel
theorem dX9_needWidth_0 : decode cX9_needWidth 0 = .ok (.iload_n 1, 1) := by decide +kernel
theorem dX9_needWidth_8 : decode cX9_needWidth 8 = .ok (.if_icmp .le 14, 3) := by decide +kernel
theorem dX9_needWidth_21 : decode cX9_needWidth 21 = .ok (.athrow, 1) := by decide +kernel
theorem dX9_needNth_7 : decode cX9_needNth 7 = .ok (.dup, 1) := by decide +kernel
theorem dX9_needCodes_0 : decode cX9_needCodes 0 = .ok (.iconst 0, 1) := by decide +kernel
theorem dX9_needCodes_7 : decode cX9_needCodes 7 = .ok (.invokevirtual 182, 3) := by decide +kernel
theorem dX9_needCodes_18 : decode cX9_needCodes 18 = .ok (.invokevirtual 185, 3) := by decide +kernel
theorem dX9_needCodes_29 : decode cX9_needCodes 29 = .ok (.iload_n 1, 1) := by decide +kernel
theorem dX9_needCodes_41 : decode cX9_needCodes 41 = .ok (.dup, 1) := by decide +kernel
theorem dX9_needCodes_52 : decode cX9_needCodes 52 = .ok (.goto (-50), 3) := by decide +kernel
theorem dX9_needCodes_63 : decode cX9_needCodes 63 = .ok (.iconst 0, 1) := by decide +kernel
theorem dX9_needCodes_70 : decode cX9_needCodes 70 = .ok (.invokevirtual 182, 3) := by decide +kernel
theorem dX9_needCodes_81 : decode cX9_needCodes 81 = .ok (.iload_n 2, 1) := by decide +kernel
theorem dX9_needCodes_90 : decode cX9_needCodes 90 = .ok (.bipush 60, 2) := by decide +kernel
theorem dX9_lengthAfter_0 : decode cX9_lengthAfter 0 = .ok (.iload_n 1, 1) := by decide +kernel
theorem dX9_lengthAfter_7 : decode cX9_lengthAfter 7 = .ok (.iload_n 1, 1) := by decide +kernel
theorem dX9_lengthAfter_15 : decode cX9_lengthAfter 15 = .ok (.iload_n 1, 1) := by decide +kernel
theorem dX9_lengthAfter_25 : decode cX9_lengthAfter 25 = .ok (.iload_n 0, 1) := by decide +kernel
theorem dX9_lengthAfter_32 : decode cX9_lengthAfter 32 = .ok (.ireturn, 1) := by decide +kernel
theorem dX9_type_0 : decode cX9_type 0 = .ok (.iload_n 1, 1) := by decide +kernel
theorem dX9_type_11 : decode cX9_type 11 = .ok (.if_icmp .ge 20, 3) := by decide +kernel
theorem dX9_type_22 : decode cX9_type 22 = .ok (.invokevirtual 380, 3) := by decide +kernel
theorem dX9_type_35 : decode cX9_type 35 = .ok (.aload_n 0, 1) := by decide +kernel
theorem dX9_type_46 : decode cX9_type 46 = .ok (.invokevirtual 384, 3) := by decide +kernel
theorem dX9_numbered_5 : decode cX9_numbered 5 = .ok (.iconst 1, 1) := by decide +kernel
theorem dX9_numbered_14 : decode cX9_numbered 14 = .ok (.iload_n 1, 1) := by decide +kernel
theorem dX9_textOf_4 : decode cX9_textOf 4 = .ok (.iconst 0, 1) := by decide +kernel
theorem dX9_textOf_11 : decode cX9_textOf 11 = .ok (.aload_n 1, 1) := by decide +kernel
theorem dX9_textOf_42 : decode cX9_textOf 42 = .ok (.invokevirtual 400, 3) := by decide +kernel
theorem dX9_stateOf_45 : decode cX9_stateOf 45 = .ok (.getfield 12, 3) := by decide +kernel
theorem dX9_stateOf_56 : decode cX9_stateOf 56 = .ok (.ireturn, 1) := by decide +kernel
theorem dX9_stateOf_63 : decode cX9_stateOf 63 = .ok (.getfield 21, 3) := by decide +kernel
theorem dX9_stateOf_74 : decode cX9_stateOf 74 = .ok (.ireturn, 1) := by decide +kernel
theorem dX9_stateOf_81 : decode cX9_stateOf 81 = .ok (.getfield 97, 3) := by decide +kernel
theorem dX9_stateOf_92 : decode cX9_stateOf 92 = .ok (.ireturn, 1) := by decide +kernel
theorem dX9_withCode_6 : decode cX9_withCode 6 = .ok (.invokevirtual 296, 3) := by decide +kernel
theorem dX9_withCode_17 : decode cX9_withCode 17 = .ok (.bipush 9, 2) := by decide +kernel
theorem dX9_withCode_27 : decode cX9_withCode 27 = .ok (.lstore_n 3, 1) := by decide +kernel
theorem dX10_init_0 : decode cX10_init 0 = .ok (.aload_n 0, 1) := by decide +kernel
theorem dX11_init_4 : decode cX11_init 4 = .ok (.aload_n 0, 1) := by decide +kernel
theorem dX11_init_15 : decode cX11_init 15 = .ok (.aload_n 0, 1) := by decide +kernel
theorem dX11_init_22 : decode cX11_init 22 = .ok (.putfield 22, 3) := by decide +kernel
theorem dX11_weight_0 : decode cX11_weight 0 = .ok (.aload_n 0, 1) := by decide +kernel
theorem dX11_weight_9 : decode cX11_weight 9 = .ok (.goto 4, 3) := by decide +kernel
theorem dX11_weight_21 : decode cX11_weight 21 = .ok (.invokevirtual 37, 3) := by decide +kernel
theorem dX11_weight_54 : decode cX11_weight 54 = .ok (.iload_n 1, 1) := by decide +kernel
theorem dX11_depth_3 : decode cX11_depth 3 = .ok (.getfield 12, 3) := by decide +kernel
theorem dX11_depth_16 : decode cX11_depth 16 = .ok (.ifCond .eq 25, 3) := by decide +kernel
theorem dX13_init_0 : decode cX13_init 0 = .ok (.aload_n 0, 1) := by decide +kernel
theorem dX13_init_9 : decode cX13_init 9 = .ok (.return_, 1) := by decide +kernel
theorem dX13_document_8 : decode cX13_document 8 = .ok (.aload_n 0, 1) := by decide +kernel
theorem dX13_document_19 : decode cX13_document 19 = .ok (.if_icmp .ge 27, 3) := by decide +kernel
theorem dX13_document_56 : decode cX13_document 56 = .ok (.dup, 1) := by decide +kernel
theorem dX13_document_64 : decode cX13_document 64 = .ok (.areturn, 1) := by decide +kernel
theorem dX16_init_8 : decode cX16_init 8 = .ok (.dup, 1) := by decide +kernel
theorem dX16_init_18 : decode cX16_init 18 = .ok (.putfield 16, 3) := by decide +kernel
theorem dX16_init_28 : decode cX16_init 28 = .ok (.ldc 23, 2) := by decide +kernel
theorem dX16_isIn_2 : decode cX16_isIn 2 = .ok (.if_icmp .lt 12, 3) := by decide +kernel
theorem dX16_isIn_11 : decode cX16_isIn 11 = .ok (.goto 4, 3) := by decide +kernel
theorem dX16_one_4 : decode cX16_one 4 = .ok (.iconst 1, 1) := by decide +kernel
theorem dX16_documented_2 : decode cX16_documented 2 = .ok (.astore_n 1, 1) := by decide +kernel
theorem dX16_documented_7 : decode cX16_documented 7 = .ok (.invokevirtual 74, 3) := by decide +kernel
theorem dX16_documented_138 : decode cX16_documented 138 = .ok (.invokevirtual 157, 3) := by decide +kernel
theorem dX16_coded_2 : decode cX16_coded 2 = .ok (.astore_n 1, 1) := by decide +kernel
theorem dX16_coded_7 : decode cX16_coded 7 = .ok (.iload_n 3, 1) := by decide +kernel
theorem dX16_coded_317 : decode cX16_coded 317 = .ok (.invokevirtual 74, 3) := by decide +kernel
theorem dX16_coded_328 : decode cX16_coded 328 = .ok (.iconst 1, 1) := by decide +kernel
theorem dX16_coded_341 : decode cX16_coded 341 = .ok (.ireturn, 1) := by decide +kernel
theorem dX16_refuse_1 : decode cX16_refuse 1 = .ok (.ifCond .eq 15, 3) := by decide +kernel
theorem dX16_refuse_12 : decode cX16_refuse 12 = .ok (.iload_n 2, 1) := by decide +kernel
theorem dX16_refuse_23 : decode cX16_refuse 23 = .ok (.iconst 1, 1) := by decide +kernel
theorem dX16_start_1 : decode cX16_start 1 = .ok (.iconst 0, 1) := by decide +kernel
theorem dX16_start_8 : decode cX16_start 8 = .ok (.invokevirtual 179, 3) := by decide +kernel
theorem dX16_isNoNode_3 : decode cX16_isNoNode 3 = .ok (.getfield 10, 3) := by decide +kernel
theorem dX16_isNoNode_14 : decode cX16_isNoNode 14 = .ok (.ifCond .ne 7, 3) := by decide +kernel
theorem dX16_isFull_1 : decode cX16_isFull 1 = .ok (.getfield 10, 3) := by decide +kernel
theorem dX16_isFull_17 : decode cX16_isFull 17 = .ok (.ireturn, 1) := by decide +kernel
theorem dX16_isGreat_9 : decode cX16_isGreat 9 = .ok (.aload_n 0, 1) := by decide +kernel
theorem dX16_isGreat_23 : decode cX16_isGreat 23 = .ok (.ireturn, 1) := by decide +kernel
theorem dX16_made_8 : decode cX16_made 8 = .ok (.pop, 1) := by decide +kernel
theorem dX16_made_15 : decode cX16_made 15 = .ok (.iadd, 1) := by decide +kernel
theorem dX16_made_26 : decode cX16_made 26 = .ok (.iconst 1, 1) := by decide +kernel
theorem dX16_word_2 : decode cX16_word 2 = .ok (.iconst 0, 1) := by decide +kernel
theorem dX16_word_12 : decode cX16_word 12 = .ok (.iconst 1, 1) := by decide +kernel
theorem dX16_word_22 : decode cX16_word 22 = .ok (.goto 4, 3) := by decide +kernel
theorem dX16_word_33 : decode cX16_word 33 = .ok (.aload_n 0, 1) := by decide +kernel
theorem dX16_word_42 : decode cX16_word 42 = .ok (.ifCond .eq 5, 3) := by decide +kernel
theorem dX16_word_51 : decode cX16_word 51 = .ok (.invokespecial 31, 3) := by decide +kernel
theorem dX16_word_60 : decode cX16_word 60 = .ok (.iload_n 2, 1) := by decide +kernel
theorem dX16_word_68 : decode cX16_word 68 = .ok (.iadd, 1) := by decide +kernel
theorem dX16_word_77 : decode cX16_word 77 = .ok (.goto (-19), 3) := by decide +kernel
theorem dX16_word_86 : decode cX16_word 86 = .ok (.aload_n 3, 1) := by decide +kernel
theorem dX16_word_97 : decode cX16_word 97 = .ok (.ireturn, 1) := by decide +kernel
theorem dX16_mark_4 : decode cX16_mark 4 = .ok (.invokestatic 183, 3) := by decide +kernel
theorem dX16_mark_15 : decode cX16_mark 15 = .ok (.iconst 1, 1) := by decide +kernel
theorem dX16_mark_24 : decode cX16_mark 24 = .ok (.invokevirtual 199, 3) := by decide +kernel
theorem dX16_mark_35 : decode cX16_mark 35 = .ok (.goto 18, 3) := by decide +kernel
theorem dX16_mark_44 : decode cX16_mark 44 = .ok (.ldc 23, 2) := by decide +kernel
theorem dX16_join_0 : decode cX16_join 0 = .ok (.aload_n 0, 1) := by decide +kernel
theorem dX16_join_17 : decode cX16_join 17 = .ok (.iconst 1, 1) := by decide +kernel
theorem dX16_join_29 : decode cX16_join 29 = .ok (.iconst 0, 1) := by decide +kernel
theorem dX16_nest_2 : decode cX16_nest 2 = .ok (.iload_n 1, 1) := by decide +kernel
theorem dX16_nest_36 : decode cX16_nest 36 = .ok (.iconst 0, 1) := by decide +kernel
theorem dX16_align_2 : decode cX16_align 2 = .ok (.iload_n 1, 1) := by decide +kernel
theorem dX16_align_13 : decode cX16_align 13 = .ok (.iconst 0, 1) := by decide +kernel
theorem dX16_group_2 : decode cX16_group 2 = .ok (.iload_n 1, 1) := by decide +kernel
theorem dX16_group_13 : decode cX16_group 13 = .ok (.iconst 0, 1) := by decide +kernel
theorem dX16_fill_2 : decode cX16_fill 2 = .ok (.iload_n 1, 1) := by decide +kernel
theorem dX16_fill_22 : decode cX16_fill 22 = .ok (.iconst 1, 1) := by decide +kernel
theorem dX16_forget_0 : decode cX16_forget 0 = .ok (.aload_n 0, 1) := by decide +kernel
theorem dX16_forget_9 : decode cX16_forget 9 = .ok (.invokevirtual 44, 3) := by decide +kernel
theorem dX16_forget_20 : decode cX16_forget 20 = .ok (.ifCond .ne 23, 3) := by decide +kernel
theorem dX16_width_2 : decode cX16_width 2 = .ok (.iconst 1, 1) := by decide +kernel
theorem dX16_width_12 : decode cX16_width 12 = .ok (.goto 4, 3) := by decide +kernel
theorem dX16_width_23 : decode cX16_width 23 = .ok (.iconst 0, 1) := by decide +kernel
theorem dX16_width_30 : decode cX16_width 30 = .ok (.aload_n 0, 1) := by decide +kernel
theorem dX16_ribbon_0 : decode cX16_ribbon 0 = .ok (.aload_n 0, 1) := by decide +kernel
theorem dX16_ribbon_8 : decode cX16_ribbon 8 = .ok (.ifCond .ne 7, 3) := by decide +kernel
theorem dX16_ribbon_17 : decode cX16_ribbon 17 = .ok (.invokevirtual 196, 3) := by decide +kernel
theorem dX16_ribbon_26 : decode cX16_ribbon 26 = .ok (.getfield 20, 3) := by decide +kernel
theorem dX16_ribbon_35 : decode cX16_ribbon 35 = .ok (.iload_n 2, 1) := by decide +kernel
theorem dX16_said_5 : decode cX16_said 5 = .ok (.aload_n 0, 1) := by decide +kernel
theorem dX16_said_13 : decode cX16_said 13 = .ok (.new 29, 3) := by decide +kernel
theorem dX16_said_24 : decode cX16_said 24 = .ok (.ldc 229, 2) := by decide +kernel
theorem dX16_said_36 : decode cX16_said 36 = .ok (.areturn, 1) := by decide +kernel
theorem dX16_said_44 : decode cX16_said 44 = .ok (.invokevirtual 157, 3) := by decide +kernel
theorem dX16_said_56 : decode cX16_said 56 = .ok (.iconst 0, 1) := by decide +kernel
theorem dX16_said_63 : decode cX16_said 63 = .ok (.invokevirtual 231, 3) := by decide +kernel
theorem dX16_say_5 : decode cX16_say 5 = .ok (.iconst 0, 1) := by decide +kernel
theorem dX16_say_10 : decode cX16_say 10 = .ok (.iload_n 2, 1) := by decide +kernel
theorem dX16_say_15 : decode cX16_say 15 = .ok (.iastore, 1) := by decide +kernel
theorem dX16_say_21 : decode cX16_say 21 = .ok (.dup, 1) := by decide +kernel
theorem dX16_say_27 : decode cX16_say 27 = .ok (.iconst 5, 1) := by decide +kernel
theorem dX16_say_34 : decode cX16_say 34 = .ok (.istore 8, 2) := by decide +kernel
theorem dX16_say_43 : decode cX16_say 43 = .ok (.istore 10, 2) := by decide +kernel
theorem dX16_say_52 : decode cX16_say 52 = .ok (.if_icmp .ge 37, 3) := by decide +kernel
theorem dX16_say_62 : decode cX16_say 62 = .ok (.iload 8, 2) := by decide +kernel
theorem dX16_say_72 : decode cX16_say 72 = .ok (.ifCond .ne 7, 3) := by decide +kernel
theorem dX16_say_81 : decode cX16_say 81 = .ok (.istore 8, 2) := by decide +kernel
theorem dX16_say_92 : decode cX16_say 92 = .ok (.iconst 1, 1) := by decide +kernel
theorem dX16_say_101 : decode cX16_say 101 = .ok (.aload_n 0, 1) := by decide +kernel
theorem dX16_say_111 : decode cX16_say 111 = .ok (.aload 10, 2) := by decide +kernel
theorem dX16_say_119 : decode cX16_say 119 = .ok (.iload 12, 2) := by decide +kernel
theorem dX16_say_130 : decode cX16_say 130 = .ok (.iaload, 1) := by decide +kernel
theorem dX16_say_140 : decode cX16_say 140 = .ok (.astore 9, 2) := by decide +kernel
theorem dX16_say_150 : decode cX16_say 150 = .ok (.if_icmp .le 7, 3) := by decide +kernel
theorem dX16_say_167 : decode cX16_say 167 = .ok (.iinc 12 1, 3) := by decide +kernel
theorem dX16_say_179 : decode cX16_say 179 = .ok (.aload_n 0, 1) := by decide +kernel
theorem dX16_isDocument_1 : decode cX16_isDocument 1 = .ok (.getfield 25, 3) := by decide +kernel
theorem dX16_isDocument_14 : decode cX16_isDocument 14 = .ok (.if_icmp .le 7, 3) := by decide +kernel
theorem dX16_isCode_1 : decode cX16_isCode 1 = .ok (.getfield 25, 3) := by decide +kernel
theorem dX16_isCode_14 : decode cX16_isCode 14 = .ok (.if_icmp .le 7, 3) := by decide +kernel
theorem dX16_read_2 : decode cX16_read 2 = .ok (.invokevirtual 199, 3) := by decide +kernel
theorem dX16_read_15 : decode cX16_read 15 = .ok (.invokevirtual 245, 3) := by decide +kernel
theorem dX16_read_28 : decode cX16_read 28 = .ok (.getfield 25, 3) := by decide +kernel
theorem dX16_read_39 : decode cX16_read 39 = .ok (.invokestatic 209, 3) := by decide +kernel
theorem dX16_read_54 : decode cX16_read 54 = .ok (.ireturn, 1) := by decide +kernel
theorem dX16_code_6 : decode cX16_code 6 = .ok (.invokevirtual 255, 3) := by decide +kernel
theorem dX16_blank_1 : decode cX16_blank 1 = .ok (.iconst 0, 1) := by decide +kernel
theorem dX16_blank_10 : decode cX16_blank 10 = .ok (.iconst 1, 1) := by decide +kernel
theorem dX16_knock_0 : decode cX16_knock 0 = .ok (.aload_n 0, 1) := by decide +kernel
theorem dX16_knock_7 : decode cX16_knock 7 = .ok (.getfield 275, 3) := by decide +kernel
theorem dX16_knock_16 : decode cX16_knock 16 = .ok (.getfield 275, 3) := by decide +kernel
theorem dX16_ofNode_3 : decode cX16_ofNode 3 = .ok (.invokevirtual 213, 3) := by decide +kernel
theorem dX16_ofNode_37 : decode cX16_ofNode 37 = .ok (.goto 18, 3) := by decide +kernel
theorem dX16_flat_3 : decode cX16_flat 3 = .ok (.invokevirtual 213, 3) := by decide +kernel
theorem dX16_flat_15 : decode cX16_flat 15 = .ok (.goto 40, 3) := by decide +kernel
theorem dX16_line_3 : decode cX16_line 3 = .ok (.invokevirtual 213, 3) := by decide +kernel
theorem dX16_line_32 : decode cX16_line 32 = .ok (.goto 22, 3) := by decide +kernel
theorem dX16_measure_3 : decode cX16_measure 3 = .ok (.invokevirtual 213, 3) := by decide +kernel
theorem dX16_measure_37 : decode cX16_measure 37 = .ok (.goto 26, 3) := by decide +kernel
theorem dX16_at_3 : decode cX16_at 3 = .ok (.invokevirtual 213, 3) := by decide +kernel
theorem dX16_at_14 : decode cX16_at 14 = .ok (.ireturn, 1) := by decide +kernel
theorem dX16_where_6 : decode cX16_where 6 = .ok (.iconst 1, 1) := by decide +kernel
theorem dX16_isOne_0 : decode cX16_isOne 0 = .ok (.aload_n 0, 1) := by decide +kernel
theorem dX16_isOne_7 : decode cX16_isOne 7 = .ok (.invokevirtual 196, 3) := by decide +kernel
theorem dX16_differ_1 : decode cX16_differ 1 = .ok (.aload_n 0, 1) := by decide +kernel
theorem dX16_differ_18 : decode cX16_differ 18 = .ok (.goto 4, 3) := by decide +kernel
theorem dX16_differ_81 : decode cX16_differ 81 = .ok (.ireturn, 1) := by decide +kernel
theorem dX16_typed_6 : decode cX16_typed 6 = .ok (.getfield 25, 3) := by decide +kernel
theorem dX16_faulty_5 : decode cX16_faulty 5 = .ok (.getfield 25, 3) := by decide +kernel
theorem dX16_faulty_18 : decode cX16_faulty 18 = .ok (.invokestatic 238, 3) := by decide +kernel
theorem dX16_faulty_27 : decode cX16_faulty 27 = .ok (.invokevirtual 74, 3) := by decide +kernel
theorem dX16_faulty_38 : decode cX16_faulty 38 = .ok (.ireturn, 1) := by decide +kernel
theorem dX16_fault_6 : decode cX16_fault 6 = .ok (.iload_n 1, 1) := by decide +kernel
theorem dX16_codeTold_4 : decode cX16_codeTold 4 = .ok (.ifnonnull 5, 3) := by decide +kernel
theorem dX16_ofCode_2 : decode cX16_ofCode 2 = .ok (.iconst 0, 1) := by decide +kernel
theorem dX16_ofCode_12 : decode cX16_ofCode 12 = .ok (.goto 4, 3) := by decide +kernel
theorem dX16_ofCode_23 : decode cX16_ofCode 23 = .ok (.iconst 0, 1) := by decide +kernel
theorem dX16_ofCode_32 : decode cX16_ofCode 32 = .ok (.ireturn, 1) := by decide +kernel
theorem dX16_plain_6 : decode cX16_plain 6 = .ok (.getfield 262, 3) := by decide +kernel
theorem dX16_codeLine_0 : decode cX16_codeLine 0 = .ok (.aload_n 0, 1) := by decide +kernel
theorem dX16_codeLine_9 : decode cX16_codeLine 9 = .ok (.iconst 0, 1) := by decide +kernel
theorem dX16_codeLine_19 : decode cX16_codeLine 19 = .ok (.goto 31, 3) := by decide +kernel
theorem dX16_codeLine_32 : decode cX16_codeLine 32 = .ok (.goto 18, 3) := by decide +kernel
theorem dX16_houseTold_3 : decode cX16_houseTold 3 = .ok (.getfield 10, 3) := by decide +kernel
theorem dX16_houseTold_16 : decode cX16_houseTold 16 = .ok (.ifCond .eq 25, 3) := by decide +kernel
theorem dX16_houseTold_47 : decode cX16_houseTold 47 = .ok (.aload_n 0, 1) := by decide +kernel
theorem dX16_houseTold_56 : decode cX16_houseTold 56 = .ok (.iconst 1, 1) := by decide +kernel
theorem dX16_houseTold_63 : decode cX16_houseTold 63 = .ok (.iconst 2, 1) := by decide +kernel
theorem dX16_houseTold_70 : decode cX16_houseTold 70 = .ok (.iconst 3, 1) := by decide +kernel
theorem dX16_houseTold_79 : decode cX16_houseTold 79 = .ok (.dup, 1) := by decide +kernel
theorem dX16_houseTold_86 : decode cX16_houseTold 86 = .ok (.dup, 1) := by decide +kernel
theorem dX16_houseTold_93 : decode cX16_houseTold 93 = .ok (.dup, 1) := by decide +kernel
theorem dX16_houseTold_101 : decode cX16_houseTold 101 = .ok (.dup, 1) := by decide +kernel
theorem dX16_houseTold_107 : decode cX16_houseTold 107 = .ok (.aload_n 3, 1) := by decide +kernel
theorem dX16_house_1 : decode cX16_house 1 = .ok (.iload_n 1, 1) := by decide +kernel
theorem dX16_house_11 : decode cX16_house 11 = .ok (.iconst 1, 1) := by decide +kernel
theorem dX16_house_20 : decode cX16_house 20 = .ok (.ifCond .eq 7, 3) := by decide +kernel
theorem dX16_house_29 : decode cX16_house 29 = .ok (.invokevirtual 344, 3) := by decide +kernel
theorem dX16_fits_3 : decode cX16_fits 3 = .ok (.invokevirtual 213, 3) := by decide +kernel
theorem dX16_fits_37 : decode cX16_fits 37 = .ok (.ireturn, 1) := by decide +kernel
theorem dX16_would_6 : decode cX16_would 6 = .ok (.iconst 1, 1) := by decide +kernel
theorem dX16_would_79 : decode cX16_would 79 = .ok (.ireturn, 1) := by decide +kernel
theorem dX16_narrowest_6 : decode cX16_narrowest 6 = .ok (.iconst 1, 1) := by decide +kernel
theorem dX16_least__0 : decode cX16_least_ 0 = .ok (.aload_n 0, 1) := by decide +kernel
theorem dX16_least__7 : decode cX16_least_ 7 = .ok (.invokevirtual 196, 3) := by decide +kernel
theorem dX16_leastLine_0 : decode cX16_leastLine 0 = .ok (.aload_n 0, 1) := by decide +kernel
theorem dX16_leastLine_7 : decode cX16_leastLine 7 = .ok (.invokevirtual 196, 3) := by decide +kernel
theorem dX16_isWhole_0 : decode cX16_isWhole 0 = .ok (.iconst 0, 1) := by decide +kernel
theorem dX16_isWhole_9 : decode cX16_isWhole 9 = .ok (.isub, 1) := by decide +kernel
theorem dX16_isWhole_16 : decode cX16_isWhole 16 = .ok (.getfield 10, 3) := by decide +kernel
theorem dX16_isSound_0 : decode cX16_isSound 0 = .ok (.aload_n 0, 1) := by decide +kernel
theorem dX16_isSound_9 : decode cX16_isSound 9 = .ok (.ireturn, 1) := by decide +kernel
theorem dX16_add_6 : decode cX16_add 6 = .ok (.ladd, 1) := by decide +kernel
theorem dX16_digest_5 : decode cX16_digest 5 = .ok (.ldc2_w 370, 3) := by decide +kernel
theorem dX16_digest_12 : decode cX16_digest 12 = .ok (.bipush 8, 2) := by decide +kernel
theorem dX16_digest_20 : decode cX16_digest 20 = .ok (.invokevirtual 344, 3) := by decide +kernel
theorem dX16_digest_31 : decode cX16_digest 31 = .ok (.goto (-20), 3) := by decide +kernel
theorem dX16_digest_42 : decode cX16_digest 42 = .ok (.isub, 1) := by decide +kernel
theorem dX16_digest_202 : decode cX16_digest 202 = .ok (.getfield 10, 3) := by decide +kernel
theorem dX16_digest_281 : decode cX16_digest 281 = .ok (.getfield 25, 3) := by decide +kernel
theorem dX16_digest_292 : decode cX16_digest 292 = .ok (.iconst 0, 1) := by decide +kernel
theorem dX16_digest_301 : decode cX16_digest 301 = .ok (.iconst 1, 1) := by decide +kernel
theorem dX16_digest_310 : decode cX16_digest 310 = .ok (.iconst 0, 1) := by decide +kernel
theorem dX16_digest_318 : decode cX16_digest 318 = .ok (.lload_n 1, 1) := by decide +kernel
theorem dX16_digest_325 : decode cX16_digest 325 = .ok (.invokestatic 372, 3) := by decide +kernel
theorem dX16_digest_336 : decode cX16_digest 336 = .ok (.getfield 262, 3) := by decide +kernel
theorem dX16_digest_399 : decode cX16_digest 399 = .ok (.invokestatic 40, 3) := by decide +kernel
theorem dJ5_init_d00df_1 : decode cJ5_init_d00df 1 = .ok (.invokespecial 3, 3) := by decide +kernel
theorem dJ5_init_d00df_12 : decode cJ5_init_d00df 12 = .ok (.newarray .byte, 2) := by decide +kernel
theorem dJ5_init_d00df_22 : decode cJ5_init_d00df 22 = .ok (.goto 16, 3) := by decide +kernel
theorem dJ5_ensureCapacityInternal_d00df_0 : decode cJ5_ensureCapacityInternal_d00df 0 = .ok (.aload_n 0, 1) := by decide +kernel
theorem dJ5_ensureCapacityInternal_d00df_9 : decode cJ5_ensureCapacityInternal_d00df 9 = .ok (.ishr, 1) := by decide +kernel
theorem dJ5_ensureCapacityInternal_d00df_14 : decode cJ5_ensureCapacityInternal_d00df 14 = .ok (.ifCond .le 24, 3) := by decide +kernel
theorem dJ5_setLength_d00df_14 : decode cJ5_setLength_d00df 14 = .ok (.iload_n 1, 1) := by decide +kernel
theorem dJ5_setLength_d00df_23 : decode cJ5_setLength_d00df 23 = .ok (.if_icmp .ge 40, 3) := by decide +kernel
theorem dJ5_setLength_d00df_76 : decode cJ5_setLength_d00df 76 = .ok (.aload_n 0, 1) := by decide +kernel
theorem dJ5_append_cf1ce_1 : decode cJ5_append_cf1ce 1 = .ok (.ifnonnull 8, 3) := by decide +kernel
theorem dJ5_append_cf1ce_15 : decode cJ5_append_cf1ce 15 = .ok (.aload_n 0, 1) := by decide +kernel
theorem dJ5_append_cf1ce_24 : decode cJ5_append_cf1ce 24 = .ok (.aload_n 0, 1) := by decide +kernel
theorem dJ5_append_cf1ce_33 : decode cJ5_append_cf1ce 33 = .ok (.aload_n 0, 1) := by decide +kernel
theorem dJ5_append_cf1ce_40 : decode cJ5_append_cf1ce 40 = .ok (.putfield 79, 3) := by decide +kernel
theorem dJ5_append_3fe6f_2 : decode cJ5_append_3fe6f 2 = .ok (.getfield 79, 3) := by decide +kernel
theorem dJ5_append_3fe6f_11 : decode cJ5_append_3fe6f 11 = .ok (.invokevirtual 83, 3) := by decide +kernel
theorem dJ5_append_3fe6f_24 : decode cJ5_append_3fe6f 24 = .ok (.aload_n 0, 1) := by decide +kernel
theorem dJ5_append_3fe6f_33 : decode cJ5_append_3fe6f 33 = .ok (.dup_x1, 1) := by decide +kernel
theorem dJ5_append_3fe6f_40 : decode cJ5_append_3fe6f 40 = .ok (.i2b, 1) := by decide +kernel
theorem dJ5_getValue_6d5f1_0 : decode cJ5_getValue_6d5f1 0 = .ok (.aload_n 0, 1) := by decide +kernel
theorem dJ5_isLatin1_aae02_6 : decode cJ5_isLatin1_aae02 6 = .ok (.aload_n 0, 1) := by decide +kernel
theorem dJ5_isLatin1_aae02_18 : decode cJ5_isLatin1_aae02 18 = .ok (.ireturn, 1) := by decide +kernel
theorem dJ5_inflateIfNeededFor_a7421_10 : decode cJ5_inflateIfNeededFor_a7421 10 = .ok (.aload_n 1, 1) := by decide +kernel
theorem dJ5_putStringAt_47b60_1 : decode cJ5_putStringAt_47b60 1 = .ok (.aload_n 2, 1) := by decide +kernel
theorem dJ5_putStringAt_47b60_10 : decode cJ5_putStringAt_47b60 10 = .ok (.iload_n 1, 1) := by decide +kernel
theorem dJ0_init_81219_0 : decode cJ0_init_81219 0 = .ok (.aload_n 0, 1) := by decide +kernel
theorem dJ0_length_8abf5_0 : decode cJ0_length_8abf5 0 = .ok (.aload_n 0, 1) := by decide +kernel
theorem dJ0_length_8abf5_9 : decode cJ0_length_8abf5 9 = .ok (.ishr, 1) := by decide +kernel
theorem dJ0_isEmpty_aae02_5 : decode cJ0_isEmpty_aae02 5 = .ok (.ifCond .ne 7, 3) := by decide +kernel
theorem dJ0_charAt_5068e_0 : decode cJ0_charAt_5068e 0 = .ok (.aload_n 0, 1) := by decide +kernel
theorem dJ0_charAt_5068e_11 : decode cJ0_charAt_5068e 11 = .ok (.iload_n 1, 1) := by decide +kernel
theorem dJ0_equals_9ea2d_2 : decode cJ0_equals_9ea2d 2 = .ok (.if_acmp .ne 5, 3) := by decide +kernel
theorem dJ0_equals_9ea2d_11 : decode cJ0_equals_9ea2d 11 = .ok (.ifCond .eq 43, 3) := by decide +kernel
theorem dJ0_equals_9ea2d_22 : decode cJ0_equals_9ea2d 22 = .ok (.ifCond .eq 14, 3) := by decide +kernel
theorem dJ0_equals_9ea2d_33 : decode cJ0_equals_9ea2d 33 = .ok (.if_icmp .ne 21, 3) := by decide +kernel
theorem dJ0_equals_9ea2d_44 : decode cJ0_equals_9ea2d 44 = .ok (.invokestatic 541, 3) := by decide +kernel
theorem dJ0_substring_37a41_0 : decode cJ0_substring_37a41 0 = .ok (.aload_n 0, 1) := by decide +kernel
theorem dJ0_substring_37a41_7 : decode cJ0_substring_37a41 7 = .ok (.iload_n 3, 1) := by decide +kernel
theorem dJ0_substring_37a41_16 : decode cJ0_substring_37a41 16 = .ok (.iload_n 3, 1) := by decide +kernel
theorem dJ0_substring_37a41_25 : decode cJ0_substring_37a41 25 = .ok (.istore 4, 2) := by decide +kernel
theorem dJ0_substring_37a41_35 : decode cJ0_substring_37a41 35 = .ok (.getfield 9, 3) := by decide +kernel
theorem dJ0_substring_37a41_57 : decode cJ0_substring_37a41 57 = .ok (.areturn, 1) := by decide +kernel
theorem dJ0_getBytes_840e7_8 : decode cJ0_getBytes_840e7 8 = .ok (.aload_n 0, 1) := by decide +kernel
theorem dJ0_getBytes_840e7_15 : decode cJ0_getBytes_840e7 15 = .ok (.iload_n 3, 1) := by decide +kernel
theorem dJ0_getBytes_840e7_22 : decode cJ0_getBytes_840e7 22 = .ok (.invokestatic 212, 3) := by decide +kernel
theorem dJ0_init_db425_4 : decode cJ0_init_db425 4 = .ok (.aload_n 1, 1) := by decide +kernel
theorem dJ0_init_db425_13 : decode cJ0_init_db425 13 = .ok (.istore 4, 2) := by decide +kernel
theorem dJ0_init_db425_23 : decode cJ0_init_db425 23 = .ok (.iconst 0, 1) := by decide +kernel
theorem dJ0_init_db425_30 : decode cJ0_init_db425 30 = .ok (.iload 4, 2) := by decide +kernel
theorem dJ0_init_031fb_0 : decode cJ0_init_031fb 0 = .ok (.aload_n 0, 1) := by decide +kernel
theorem dJ0_init_031fb_9 : decode cJ0_init_031fb 9 = .ok (.aload_n 0, 1) := by decide +kernel
theorem dJ0_coder_7d493_3 : decode cJ0_coder_7d493 3 = .ok (.ifCond .eq 10, 3) := by decide +kernel
theorem dJ0_isLatin1_aae02_0 : decode cJ0_isLatin1_aae02 0 = .ok (.getstatic 38, 3) := by decide +kernel
theorem dJ0_isLatin1_aae02_13 : decode cJ0_isLatin1_aae02 13 = .ok (.iconst 1, 1) := by decide +kernel
theorem dJ0_checkIndex_df160_2 : decode cJ0_checkIndex_df160 2 = .ok (.getstatic 1053, 3) := by decide +kernel
theorem dJ0_checkBoundsBeginEnd_23922_1 : decode cJ0_checkBoundsBeginEnd_23922 1 = .ok (.iload_n 1, 1) := by decide +kernel
theorem dJ0_checkBoundsBeginEnd_23922_10 : decode cJ0_checkBoundsBeginEnd_23922 10 = .ok (.return_, 1) := by decide +kernel
theorem dJ4_append_15ec4_0 : decode cJ4_append_15ec4 0 = .ok (.aload_n 0, 1) := by decide +kernel
theorem dJ4_append_15ec4_7 : decode cJ4_append_15ec4 7 = .ok (.areturn, 1) := by decide +kernel
theorem dJ4_append_cf468_6 : decode cJ4_append_cf468 6 = .ok (.aload_n 0, 1) := by decide +kernel
theorem dJ4_toString_0e30d_5 : decode cJ4_toString_0e30d 5 = .ok (.invokespecial 137, 3) := by decide +kernel
theorem dJ4_setLength_d00df_5 : decode cJ4_setLength_d00df 5 = .ok (.return_, 1) := by decide +kernel
theorem dJ1_charAt_3b067_1 : decode cJ1_charAt_3b067 1 = .ok (.aload_n 0, 1) := by decide +kernel
theorem dJ1_charAt_3b067_8 : decode cJ1_charAt_3b067 8 = .ok (.baload, 1) := by decide +kernel
theorem dJ1_canEncode_fc78d_0 : decode cJ1_canEncode_fc78d 0 = .ok (.iload_n 0, 1) := by decide +kernel
theorem dJ1_canEncode_fc78d_12 : decode cJ1_canEncode_fc78d 12 = .ok (.ireturn, 1) := by decide +kernel
theorem dJ1_equals_b5fdf_4 : decode cJ1_equals_b5fdf 4 = .ok (.if_icmp .ne 30, 3) := by decide +kernel
theorem dJ1_equals_b5fdf_11 : decode cJ1_equals_b5fdf 11 = .ok (.arraylength, 1) := by decide +kernel
theorem dJ1_newString_b4f7a_1 : decode cJ1_newString_b4f7a 1 = .ok (.ifCond .ne 6, 3) := by decide +kernel
theorem dJ1_newString_b4f7a_11 : decode cJ1_newString_b4f7a 11 = .ok (.aload_n 0, 1) := by decide +kernel
theorem dJ1_newString_b4f7a_16 : decode cJ1_newString_b4f7a 16 = .ok (.invokestatic 232, 3) := by decide +kernel
theorem dJxa1e45_init_da8c8_1 : decode cJxa1e45_init_da8c8 1 = .ok (.invokespecial 1, 3) := by decide +kernel
theorem dJxc12de_init_da8c8_5 : decode cJxc12de_init_da8c8 5 = .ok (.iconst 0, 1) := by decide +kernel
theorem dJx35411_init_45d68_2 : decode cJx35411_init_45d68 2 = .ok (.putfield 1, 3) := by decide +kernel
theorem dJx35411_init_45d68_11 : decode cJx35411_init_45d68 11 = .ok (.putfield 13, 3) := by decide +kernel
theorem dJx35411_init_45d68_22 : decode cJx35411_init_45d68 22 = .ok (.putfield 22, 3) := by decide +kernel
theorem dJx35411_hasNext_aae02_5 : decode cJx35411_hasNext_aae02 5 = .ok (.getfield 1, 3) := by decide +kernel
theorem dJx4a65c_init_da8c8_0 : decode cJx4a65c_init_da8c8 0 = .ok (.aload_n 0, 1) := by decide +kernel
theorem dJx4a65c_init_da8c8_11 : decode cJx4a65c_init_da8c8 11 = .ok (.return_, 1) := by decide +kernel
theorem dJx4a65c_grow_92f84_6 : decode cJx4a65c_grow_92f84 6 = .ok (.iload_n 2, 1) := by decide +kernel
theorem dJx4a65c_grow_92f84_17 : decode cJx4a65c_grow_92f84 17 = .ok (.if_acmp .eq 28, 3) := by decide +kernel
theorem dJx4a65c_grow_92f84_52 : decode cJx4a65c_grow_92f84 52 = .ok (.anewarray 7, 3) := by decide +kernel
theorem dJx4a65c_grow_d5877_1 : decode cJx4a65c_grow_d5877 1 = .ok (.aload_n 0, 1) := by decide +kernel
theorem dJx4a65c_grow_d5877_10 : decode cJx4a65c_grow_d5877 10 = .ok (.areturn, 1) := by decide +kernel
theorem dJx4a65c_isEmpty_aae02_1 : decode cJx4a65c_isEmpty_aae02 1 = .ok (.getfield 48, 3) := by decide +kernel
theorem dJx4a65c_add_72be8_0 : decode cJx4a65c_add_72be8 0 = .ok (.iload_n 3, 1) := by decide +kernel
theorem dJx4a65c_add_72be8_7 : decode cJx4a65c_add_72be8 7 = .ok (.invokevirtual 129, 3) := by decide +kernel
theorem dJx4a65c_add_72be8_14 : decode cJx4a65c_add_72be8 14 = .ok (.aastore, 1) := by decide +kernel
theorem dJx4a65c_add_72be8_19 : decode cJx4a65c_add_72be8 19 = .ok (.putfield 48, 3) := by decide +kernel
theorem dJx4a65c_add_9ea2d_5 : decode cJx4a65c_add_9ea2d 5 = .ok (.iconst 1, 1) := by decide +kernel
theorem dJx4a65c_add_9ea2d_12 : decode cJx4a65c_add_9ea2d 12 = .ok (.aload_n 0, 1) := by decide +kernel
theorem dJx4a65c_add_9ea2d_23 : decode cJx4a65c_add_9ea2d 23 = .ok (.iconst 1, 1) := by decide +kernel
theorem dJx4a65c_iterator_32c93_5 : decode cJx4a65c_iterator_32c93 5 = .ok (.invokespecial 269, 3) := by decide +kernel
theorem dJ7_checkLength_df160_37 : decode cJ7_checkLength_df160 37 = .ok (.return_, 1) := by decide +kernel
theorem dJ7_copyOfRange_39247_6 : decode cJ7_copyOfRange_39247 6 = .ok (.arraylength, 1) := by decide +kernel
theorem dJ7_copyOfRange_39247_13 : decode cJ7_copyOfRange_39247 13 = .ok (.invokestatic 339, 3) := by decide +kernel
theorem dJ7_copyOfRangeByte_39247_5 : decode cJ7_copyOfRangeByte_39247 5 = .ok (.iload_n 2, 1) := by decide +kernel
theorem dJ7_copyOfRangeByte_39247_10 : decode cJ7_copyOfRangeByte_39247 10 = .ok (.newarray .byte, 2) := by decide +kernel
theorem dJ7_copyOfRangeByte_39247_18 : decode cJ7_copyOfRangeByte_39247 18 = .ok (.iconst 0, 1) := by decide +kernel
theorem dJ7_copyOfRangeByte_39247_23 : decode cJ7_copyOfRangeByte_39247 23 = .ok (.iload_n 3, 1) := by decide +kernel
theorem dJ3_checkIndex_8e157_0 : decode cJ3_checkIndex_8e157 0 = .ok (.iload_n 0, 1) := by decide +kernel
theorem dJ3_checkIndex_8e157_16 : decode cJ3_checkIndex_8e157 16 = .ok (.iload_n 0, 1) := by decide +kernel
theorem dJ3_checkFromToIndex_8c36e_5 : decode cJ3_checkFromToIndex_8c36e 5 = .ok (.iload_n 1, 1) := by decide +kernel
theorem dJ3_checkFromToIndex_8c36e_22 : decode cJ3_checkFromToIndex_8c36e 22 = .ok (.iload_n 0, 1) := by decide +kernel
theorem dL_word_3 : decode cL_word 3 = .ok (.iload_n 2, 1) := by decide +kernel
theorem dL_word_14 : decode cL_word 14 = .ok (.astore 4, 2) := by decide +kernel
theorem dL_mark_0 : decode cL_mark 0 = .ok (.aload_n 2, 1) := by decide +kernel
theorem dL_mark_7 : decode cL_mark 7 = .ok (.putfield 13, 3) := by decide +kernel
theorem dL_mark_19 : decode cL_mark 19 = .ok (.iconst 0, 1) := by decide +kernel
theorem dL_join_3 : decode cL_join 3 = .ok (.iload_n 2, 1) := by decide +kernel
theorem dL_nest_0 : decode cL_nest 0 = .ok (.aload_n 3, 1) := by decide +kernel
theorem dL_nest_14 : decode cL_nest 14 = .ok (.astore 4, 2) := by decide +kernel
theorem dL_align_2 : decode cL_align 2 = .ok (.iload_n 1, 1) := by decide +kernel
theorem dL_group_0 : decode cL_group 0 = .ok (.aload_n 2, 1) := by decide +kernel
theorem dL_group_14 : decode cL_group 14 = .ok (.iconst 1, 1) := by decide +kernel
theorem dL_fill_3 : decode cL_fill 3 = .ok (.iload_n 2, 1) := by decide +kernel
theorem dL_width_0 : decode cL_width 0 = .ok (.aload_n 2, 1) := by decide +kernel
theorem dL_width_7 : decode cL_width 7 = .ok (.putfield 13, 3) := by decide +kernel
theorem dL_width_16 : decode cL_width 16 = .ok (.iconst 0, 1) := by decide +kernel
theorem dL_ribbon_3 : decode cL_ribbon 3 = .ok (.invokevirtual 47, 3) := by decide +kernel
theorem dL_ribbon_14 : decode cL_ribbon 14 = .ok (.iconst 1, 1) := by decide +kernel
theorem dL_say_2 : decode cL_say 2 = .ok (.aload_n 0, 1) := by decide +kernel
theorem dL_say_8 : decode cL_say 8 = .ok (.iload 5, 2) := by decide +kernel
theorem dL_say_19 : decode cL_say 19 = .ok (.goto 11, 3) := by decide +kernel
theorem dL_say_31 : decode cL_say 31 = .ok (.ireturn, 1) := by decide +kernel
theorem dL_read_6 : decode cL_read 6 = .ok (.putfield 13, 3) := by decide +kernel
theorem dL_ofNode_1 : decode cL_ofNode 1 = .ok (.aload_n 0, 1) := by decide +kernel
theorem dL_ofNode_16 : decode cL_ofNode 16 = .ok (.iconst 1, 1) := by decide +kernel
theorem dL_flat_3 : decode cL_flat 3 = .ok (.invokevirtual 61, 3) := by decide +kernel
theorem dL_line_1 : decode cL_line 1 = .ok (.aload_n 0, 1) := by decide +kernel
theorem dL_line_15 : decode cL_line 15 = .ok (.iconst 1, 1) := by decide +kernel
theorem dL_measure_3 : decode cL_measure 3 = .ok (.iload_n 2, 1) := by decide +kernel
theorem dL_at_0 : decode cL_at 0 = .ok (.aload 4, 2) := by decide +kernel
theorem dL_at_6 : decode cL_at 6 = .ok (.invokevirtual 76, 3) := by decide +kernel
theorem dL_where_2 : decode cL_where 2 = .ok (.aload_n 0, 1) := by decide +kernel
theorem dL_where_16 : decode cL_where 16 = .ok (.astore 5, 2) := by decide +kernel
theorem dL_isOne_2 : decode cL_isOne 2 = .ok (.iload_n 1, 1) := by decide +kernel
theorem dL_isOne_17 : decode cL_isOne 17 = .ok (.ireturn, 1) := by decide +kernel
theorem dL_differ_5 : decode cL_differ 5 = .ok (.iload_n 3, 1) := by decide +kernel
theorem dL_ofCode_0 : decode cL_ofCode 0 = .ok (.aload_n 2, 1) := by decide +kernel
theorem dL_ofCode_7 : decode cL_ofCode 7 = .ok (.putfield 13, 3) := by decide +kernel
theorem dL_ofCode_16 : decode cL_ofCode 16 = .ok (.iconst 0, 1) := by decide +kernel
theorem dL_codeLine_3 : decode cL_codeLine 3 = .ok (.invokevirtual 93, 3) := by decide +kernel
theorem dL_codeLine_14 : decode cL_codeLine 14 = .ok (.ireturn, 1) := by decide +kernel
theorem dL_house_2 : decode cL_house 2 = .ok (.iload_n 1, 1) := by decide +kernel
theorem dL_house_13 : decode cL_house 13 = .ok (.astore_n 3, 1) := by decide +kernel
theorem dL_fits_0 : decode cL_fits 0 = .ok (.aload_n 3, 1) := by decide +kernel
theorem dL_fits_21 : decode cL_fits 21 = .ok (.astore 4, 2) := by decide +kernel
theorem dL_would_3 : decode cL_would 3 = .ok (.iload_n 1, 1) := by decide +kernel
theorem dL_would_18 : decode cL_would 18 = .ok (.iconst 1, 1) := by decide +kernel
theorem dL_narrowest_3 : decode cL_narrowest 3 = .ok (.invokevirtual 106, 3) := by decide +kernel
theorem dL_least_1 : decode cL_least 1 = .ok (.aload_n 0, 1) := by decide +kernel
theorem dL_least_16 : decode cL_least 16 = .ok (.iconst 1, 1) := by decide +kernel
theorem dL_leastLine_3 : decode cL_leastLine 3 = .ok (.iload_n 2, 1) := by decide +kernel
theorem dL_law_0 : decode cL_law 0 = .ok (.new 8, 3) := by decide +kernel
theorem dL_law_11 : decode cL_law 11 = .ok (.dup, 1) := by decide +kernel
theorem dL_law_20 : decode cL_law 20 = .ok (.invokespecial 119, 3) := by decide +kernel
theorem dL_law_29 : decode cL_law 29 = .ok (.aload_n 0, 1) := by decide +kernel
theorem dL_law_37 : decode cL_law 37 = .ok (.aload_n 0, 1) := by decide +kernel
theorem dL_law_44 : decode cL_law 44 = .ok (.tableswitch 2172 0 35 #[160, 229, 286, 355, 424, 481, 538, 607, 620, 677, 734, 853, 898, 911, 924, 937, 1006, 1064, 1134, 1203, 1284, 1381, 1450, 1547, 1563, 1604, 1661, 1677, 1735, 1792, 1868, 1949, 2006, 2075, 2145, 2158], 160) := by decide +kernel
theorem dL_law_209 : decode cL_law 209 = .ok (.iadd, 1) := by decide +kernel
theorem dL_law_215 : decode cL_law 215 = .ok (.iadd, 1) := by decide +kernel
theorem dL_law_223 : decode cL_law 223 = .ok (.aload_n 2, 1) := by decide +kernel
theorem dL_law_229 : decode cL_law 229 = .ok (.iaload, 1) := by decide +kernel
theorem dL_law_235 : decode cL_law 235 = .ok (.iaload, 1) := by decide +kernel
theorem dL_law_245 : decode cL_law 245 = .ok (.iload 5, 2) := by decide +kernel
theorem dL_law_258 : decode cL_law 258 = .ok (.getfield 13, 3) := by decide +kernel
theorem dL_law_270 : decode cL_law 270 = .ok (.goto 1946, 3) := by decide +kernel
theorem dL_law_278 : decode cL_law 278 = .ok (.iadd, 1) := by decide +kernel
theorem dL_law_286 : decode cL_law 286 = .ok (.aload_n 2, 1) := by decide +kernel
theorem dL_law_292 : decode cL_law 292 = .ok (.iaload, 1) := by decide +kernel
theorem dL_law_302 : decode cL_law 302 = .ok (.iload 5, 2) := by decide +kernel
theorem dL_law_315 : decode cL_law 315 = .ok (.getfield 13, 3) := by decide +kernel
theorem dL_law_327 : decode cL_law 327 = .ok (.goto 1889, 3) := by decide +kernel
theorem dL_law_335 : decode cL_law 335 = .ok (.iadd, 1) := by decide +kernel
theorem dL_law_341 : decode cL_law 341 = .ok (.iadd, 1) := by decide +kernel
theorem dL_law_349 : decode cL_law 349 = .ok (.aload_n 2, 1) := by decide +kernel
theorem dL_law_355 : decode cL_law 355 = .ok (.iaload, 1) := by decide +kernel
theorem dL_law_361 : decode cL_law 361 = .ok (.iaload, 1) := by decide +kernel
theorem dL_law_371 : decode cL_law 371 = .ok (.iload 5, 2) := by decide +kernel
theorem dL_law_399 : decode cL_law 399 = .ok (.aload_n 1, 1) := by decide +kernel
theorem dL_law_405 : decode cL_law 405 = .ok (.iaload, 1) := by decide +kernel
theorem dL_law_411 : decode cL_law 411 = .ok (.iaload, 1) := by decide +kernel
theorem dL_law_419 : decode cL_law 419 = .ok (.aload_n 0, 1) := by decide +kernel
theorem dL_law_425 : decode cL_law 425 = .ok (.aload_n 0, 1) := by decide +kernel
theorem dL_law_431 : decode cL_law 431 = .ok (.invokevirtual 138, 3) := by decide +kernel
theorem dL_law_442 : decode cL_law 442 = .ok (.if_icmp .eq 5, 3) := by decide +kernel
theorem dL_law_469 : decode cL_law 469 = .ok (.aload_n 0, 1) := by decide +kernel
theorem dL_law_475 : decode cL_law 475 = .ok (.aload_n 3, 1) := by decide +kernel
theorem dL_law_483 : decode cL_law 483 = .ok (.iload 4, 2) := by decide +kernel
theorem dL_law_491 : decode cL_law 491 = .ok (.istore 6, 2) := by decide +kernel
theorem dL_law_504 : decode cL_law 504 = .ok (.iload 5, 2) := by decide +kernel
theorem dL_law_527 : decode cL_law 527 = .ok (.iload 4, 2) := by decide +kernel
theorem dL_law_533 : decode cL_law 533 = .ok (.invokestatic 142, 3) := by decide +kernel
theorem dL_law_542 : decode cL_law 542 = .ok (.iconst 1, 1) := by decide +kernel
theorem dL_law_550 : decode cL_law 550 = .ok (.aload_n 2, 1) := by decide +kernel
theorem dL_law_563 : decode cL_law 563 = .ok (.ifCond .ne 16, 3) := by decide +kernel
theorem dL_law_586 : decode cL_law 586 = .ok (.iconst 1, 1) := by decide +kernel
theorem dL_law_592 : decode cL_law 592 = .ok (.iconst 2, 1) := by decide +kernel
theorem dL_law_599 : decode cL_law 599 = .ok (.istore 5, 2) := by decide +kernel
theorem dL_law_606 : decode cL_law 606 = .ok (.iadd, 1) := by decide +kernel
theorem dL_law_612 : decode cL_law 612 = .ok (.iadd, 1) := by decide +kernel
theorem dL_law_620 : decode cL_law 620 = .ok (.invokevirtual 126, 3) := by decide +kernel
theorem dL_law_648 : decode cL_law 648 = .ok (.goto 1568, 3) := by decide +kernel
theorem dL_law_659 : decode cL_law 659 = .ok (.if_icmp .eq 1557, 3) := by decide +kernel
theorem dL_law_669 : decode cL_law 669 = .ok (.iadd, 1) := by decide +kernel
theorem dL_law_677 : decode cL_law 677 = .ok (.aload_n 2, 1) := by decide +kernel
theorem dL_law_683 : decode cL_law 683 = .ok (.iaload, 1) := by decide +kernel
theorem dL_law_693 : decode cL_law 693 = .ok (.iload 5, 2) := by decide +kernel
theorem dL_law_706 : decode cL_law 706 = .ok (.getfield 13, 3) := by decide +kernel
theorem dL_law_718 : decode cL_law 718 = .ok (.goto 1498, 3) := by decide +kernel
theorem dL_law_726 : decode cL_law 726 = .ok (.iadd, 1) := by decide +kernel
theorem dL_law_734 : decode cL_law 734 = .ok (.aload_n 2, 1) := by decide +kernel
theorem dL_law_740 : decode cL_law 740 = .ok (.iaload, 1) := by decide +kernel
theorem dL_law_750 : decode cL_law 750 = .ok (.iload 5, 2) := by decide +kernel
theorem dL_law_763 : decode cL_law 763 = .ok (.getfield 13, 3) := by decide +kernel
theorem dL_law_775 : decode cL_law 775 = .ok (.goto 1441, 3) := by decide +kernel
theorem dL_law_783 : decode cL_law 783 = .ok (.iadd, 1) := by decide +kernel
theorem dL_law_789 : decode cL_law 789 = .ok (.iadd, 1) := by decide +kernel
theorem dL_law_795 : decode cL_law 795 = .ok (.iadd, 1) := by decide +kernel
theorem dL_law_801 : decode cL_law 801 = .ok (.iadd, 1) := by decide +kernel
theorem dL_law_807 : decode cL_law 807 = .ok (.iadd, 1) := by decide +kernel
theorem dL_law_814 : decode cL_law 814 = .ok (.iadd, 1) := by decide +kernel
theorem dL_law_822 : decode cL_law 822 = .ok (.aload_n 2, 1) := by decide +kernel
theorem dL_law_828 : decode cL_law 828 = .ok (.iaload, 1) := by decide +kernel
theorem dL_law_834 : decode cL_law 834 = .ok (.iaload, 1) := by decide +kernel
theorem dL_law_840 : decode cL_law 840 = .ok (.iaload, 1) := by decide +kernel
theorem dL_law_846 : decode cL_law 846 = .ok (.iaload, 1) := by decide +kernel
theorem dL_law_852 : decode cL_law 852 = .ok (.iaload, 1) := by decide +kernel
theorem dL_law_859 : decode cL_law 859 = .ok (.iaload, 1) := by decide +kernel
theorem dL_law_869 : decode cL_law 869 = .ok (.iload 5, 2) := by decide +kernel
theorem dL_law_882 : decode cL_law 882 = .ok (.getfield 13, 3) := by decide +kernel
theorem dL_law_894 : decode cL_law 894 = .ok (.goto 1322, 3) := by decide +kernel
theorem dL_law_904 : decode cL_law 904 = .ok (.aload_n 2, 1) := by decide +kernel
theorem dL_law_914 : decode cL_law 914 = .ok (.iload 5, 2) := by decide +kernel
theorem dL_law_927 : decode cL_law 927 = .ok (.getfield 13, 3) := by decide +kernel
theorem dL_law_939 : decode cL_law 939 = .ok (.goto 1277, 3) := by decide +kernel
theorem dL_law_950 : decode cL_law 950 = .ok (.if_icmp .eq 1266, 3) := by decide +kernel
theorem dL_law_963 : decode cL_law 963 = .ok (.if_icmp .eq 1253, 3) := by decide +kernel
theorem dL_law_976 : decode cL_law 976 = .ok (.if_icmp .eq 1240, 3) := by decide +kernel
theorem dL_law_986 : decode cL_law 986 = .ok (.iadd, 1) := by decide +kernel
theorem dL_law_992 : decode cL_law 992 = .ok (.iadd, 1) := by decide +kernel
theorem dL_law_1000 : decode cL_law 1000 = .ok (.aload_n 2, 1) := by decide +kernel
theorem dL_law_1006 : decode cL_law 1006 = .ok (.iaload, 1) := by decide +kernel
theorem dL_law_1012 : decode cL_law 1012 = .ok (.iaload, 1) := by decide +kernel
theorem dL_law_1022 : decode cL_law 1022 = .ok (.iload 5, 2) := by decide +kernel
theorem dL_law_1050 : decode cL_law 1050 = .ok (.aload_n 1, 1) := by decide +kernel
theorem dL_law_1056 : decode cL_law 1056 = .ok (.iaload, 1) := by decide +kernel
theorem dL_law_1064 : decode cL_law 1064 = .ok (.aload_n 0, 1) := by decide +kernel
theorem dL_law_1070 : decode cL_law 1070 = .ok (.invokevirtual 183, 3) := by decide +kernel
theorem dL_law_1081 : decode cL_law 1081 = .ok (.if_icmp .eq 5, 3) := by decide +kernel
theorem dL_law_1109 : decode cL_law 1109 = .ok (.aload_n 0, 1) := by decide +kernel
theorem dL_law_1115 : decode cL_law 1115 = .ok (.aload_n 0, 1) := by decide +kernel
theorem dL_law_1121 : decode cL_law 1121 = .ok (.aload_n 3, 1) := by decide +kernel
theorem dL_law_1129 : decode cL_law 1129 = .ok (.iload 4, 2) := by decide +kernel
theorem dL_law_1135 : decode cL_law 1135 = .ok (.iload 4, 2) := by decide +kernel
theorem dL_law_1143 : decode cL_law 1143 = .ok (.astore 6, 2) := by decide +kernel
theorem dL_law_1156 : decode cL_law 1156 = .ok (.iload 5, 2) := by decide +kernel
theorem dL_law_1180 : decode cL_law 1180 = .ok (.iload 4, 2) := by decide +kernel
theorem dL_law_1186 : decode cL_law 1186 = .ok (.iload 4, 2) := by decide +kernel
theorem dL_law_1192 : decode cL_law 1192 = .ok (.invokestatic 193, 3) := by decide +kernel
theorem dL_law_1201 : decode cL_law 1201 = .ok (.iconst 1, 1) := by decide +kernel
theorem dL_law_1207 : decode cL_law 1207 = .ok (.iconst 2, 1) := by decide +kernel
theorem dL_law_1215 : decode cL_law 1215 = .ok (.aload_n 2, 1) := by decide +kernel
theorem dL_law_1228 : decode cL_law 1228 = .ok (.ifCond .ne 16, 3) := by decide +kernel
theorem dL_law_1251 : decode cL_law 1251 = .ok (.iconst 1, 1) := by decide +kernel
theorem dL_law_1257 : decode cL_law 1257 = .ok (.iconst 2, 1) := by decide +kernel
theorem dL_law_1263 : decode cL_law 1263 = .ok (.iconst 3, 1) := by decide +kernel
theorem dL_law_1270 : decode cL_law 1270 = .ok (.istore 5, 2) := by decide +kernel
theorem dL_law_1277 : decode cL_law 1277 = .ok (.iadd, 1) := by decide +kernel
theorem dL_law_1283 : decode cL_law 1283 = .ok (.iadd, 1) := by decide +kernel
theorem dL_law_1289 : decode cL_law 1289 = .ok (.iadd, 1) := by decide +kernel
theorem dL_law_1297 : decode cL_law 1297 = .ok (.invokevirtual 126, 3) := by decide +kernel
theorem dL_law_1325 : decode cL_law 1325 = .ok (.goto 891, 3) := by decide +kernel
theorem dL_law_1333 : decode cL_law 1333 = .ok (.iadd, 1) := by decide +kernel
theorem dL_law_1339 : decode cL_law 1339 = .ok (.iadd, 1) := by decide +kernel
theorem dL_law_1345 : decode cL_law 1345 = .ok (.iadd, 1) := by decide +kernel
theorem dL_law_1354 : decode cL_law 1354 = .ok (.iconst 0, 1) := by decide +kernel
theorem dL_law_1362 : decode cL_law 1362 = .ok (.aload_n 0, 1) := by decide +kernel
theorem dL_law_1368 : decode cL_law 1368 = .ok (.aload_n 0, 1) := by decide +kernel
theorem dL_law_1374 : decode cL_law 1374 = .ok (.aload_n 0, 1) := by decide +kernel
theorem dL_law_1380 : decode cL_law 1380 = .ok (.ifCond .eq 7, 3) := by decide +kernel
theorem dL_law_1391 : decode cL_law 1391 = .ok (.istore 6, 2) := by decide +kernel
theorem dL_law_1404 : decode cL_law 1404 = .ok (.iload 5, 2) := by decide +kernel
theorem dL_law_1427 : decode cL_law 1427 = .ok (.iload 4, 2) := by decide +kernel
theorem dL_law_1433 : decode cL_law 1433 = .ok (.iload 4, 2) := by decide +kernel
theorem dL_law_1439 : decode cL_law 1439 = .ok (.invokestatic 204, 3) := by decide +kernel
theorem dL_law_1448 : decode cL_law 1448 = .ok (.iconst 1, 1) := by decide +kernel
theorem dL_law_1454 : decode cL_law 1454 = .ok (.iconst 2, 1) := by decide +kernel
theorem dL_law_1462 : decode cL_law 1462 = .ok (.aload_n 2, 1) := by decide +kernel
theorem dL_law_1475 : decode cL_law 1475 = .ok (.ifCond .ne 16, 3) := by decide +kernel
theorem dL_law_1498 : decode cL_law 1498 = .ok (.iconst 1, 1) := by decide +kernel
theorem dL_law_1504 : decode cL_law 1504 = .ok (.iconst 2, 1) := by decide +kernel
theorem dL_law_1510 : decode cL_law 1510 = .ok (.iconst 3, 1) := by decide +kernel
theorem dL_law_1517 : decode cL_law 1517 = .ok (.goto 4, 3) := by decide +kernel
theorem dL_law_1527 : decode cL_law 1527 = .ok (.aload_n 2, 1) := by decide +kernel
theorem dL_law_1533 : decode cL_law 1533 = .ok (.iaload, 1) := by decide +kernel
theorem dL_law_1539 : decode cL_law 1539 = .ok (.iaload, 1) := by decide +kernel
theorem dL_law_1545 : decode cL_law 1545 = .ok (.iaload, 1) := by decide +kernel
theorem dL_law_1554 : decode cL_law 1554 = .ok (.invokevirtual 209, 3) := by decide +kernel
theorem dL_law_1565 : decode cL_law 1565 = .ok (.if_icmp .eq 5, 3) := by decide +kernel
theorem dL_law_1592 : decode cL_law 1592 = .ok (.invokevirtual 210, 3) := by decide +kernel
theorem dL_law_1607 : decode cL_law 1607 = .ok (.aload_n 1, 1) := by decide +kernel
theorem dL_law_1613 : decode cL_law 1613 = .ok (.iaload, 1) := by decide +kernel
theorem dL_law_1622 : decode cL_law 1622 = .ok (.invokevirtual 215, 3) := by decide +kernel
theorem dL_law_1630 : decode cL_law 1630 = .ok (.iadd, 1) := by decide +kernel
theorem dL_law_1639 : decode cL_law 1639 = .ok (.iconst 0, 1) := by decide +kernel
theorem dL_law_1650 : decode cL_law 1650 = .ok (.iload 4, 2) := by decide +kernel
theorem dL_law_1656 : decode cL_law 1656 = .ok (.invokestatic 220, 3) := by decide +kernel
theorem dL_law_1665 : decode cL_law 1665 = .ok (.iconst 1, 1) := by decide +kernel
theorem dL_law_1673 : decode cL_law 1673 = .ok (.aload_n 2, 1) := by decide +kernel
theorem dL_law_1686 : decode cL_law 1686 = .ok (.ifCond .ne 16, 3) := by decide +kernel
theorem dL_law_1696 : decode cL_law 1696 = .ok (.lcmp, 1) := by decide +kernel
theorem dL_law_1709 : decode cL_law 1709 = .ok (.aload_n 2, 1) := by decide +kernel
theorem dL_law_1722 : decode cL_law 1722 = .ok (.aload_n 0, 1) := by decide +kernel
theorem dL_law_1728 : decode cL_law 1728 = .ok (.aload_n 3, 1) := by decide +kernel
theorem dL_law_1736 : decode cL_law 1736 = .ok (.iload 4, 2) := by decide +kernel
theorem dL_law_1744 : decode cL_law 1744 = .ok (.astore 6, 2) := by decide +kernel
theorem dL_law_1757 : decode cL_law 1757 = .ok (.iload 5, 2) := by decide +kernel
theorem dL_law_1768 : decode cL_law 1768 = .ok (.invokevirtual 184, 3) := by decide +kernel
theorem dL_law_1781 : decode cL_law 1781 = .ok (.iload 4, 2) := by decide +kernel
theorem dL_law_1787 : decode cL_law 1787 = .ok (.invokestatic 230, 3) := by decide +kernel
theorem dL_law_1796 : decode cL_law 1796 = .ok (.iconst 1, 1) := by decide +kernel
theorem dL_law_1804 : decode cL_law 1804 = .ok (.aload_n 2, 1) := by decide +kernel
theorem dL_law_1817 : decode cL_law 1817 = .ok (.ifCond .ne 16, 3) := by decide +kernel
theorem dL_law_1827 : decode cL_law 1827 = .ok (.lcmp, 1) := by decide +kernel
theorem dL_law_1838 : decode cL_law 1838 = .ok (.iload 4, 2) := by decide +kernel
theorem dL_law_1844 : decode cL_law 1844 = .ok (.iload 4, 2) := by decide +kernel
theorem dL_law_1850 : decode cL_law 1850 = .ok (.invokestatic 233, 3) := by decide +kernel
theorem dL_law_1859 : decode cL_law 1859 = .ok (.iconst 1, 1) := by decide +kernel
theorem dL_law_1865 : decode cL_law 1865 = .ok (.iconst 2, 1) := by decide +kernel
theorem dL_law_1873 : decode cL_law 1873 = .ok (.aload_n 2, 1) := by decide +kernel
theorem dL_law_1886 : decode cL_law 1886 = .ok (.ifCond .ne 23, 3) := by decide +kernel
theorem dL_law_1916 : decode cL_law 1916 = .ok (.iconst 1, 1) := by decide +kernel
theorem dL_law_1922 : decode cL_law 1922 = .ok (.iconst 2, 1) := by decide +kernel
theorem dL_law_1928 : decode cL_law 1928 = .ok (.iconst 3, 1) := by decide +kernel
theorem dL_law_1935 : decode cL_law 1935 = .ok (.istore 5, 2) := by decide +kernel
theorem dL_law_1942 : decode cL_law 1942 = .ok (.iadd, 1) := by decide +kernel
theorem dL_law_1948 : decode cL_law 1948 = .ok (.iadd, 1) := by decide +kernel
theorem dL_law_1954 : decode cL_law 1954 = .ok (.iadd, 1) := by decide +kernel
theorem dL_law_1962 : decode cL_law 1962 = .ok (.invokevirtual 126, 3) := by decide +kernel
theorem dL_law_1990 : decode cL_law 1990 = .ok (.goto 226, 3) := by decide +kernel
theorem dL_law_1998 : decode cL_law 1998 = .ok (.iadd, 1) := by decide +kernel
theorem dL_law_2006 : decode cL_law 2006 = .ok (.aload_n 2, 1) := by decide +kernel
theorem dL_law_2012 : decode cL_law 2012 = .ok (.iaload, 1) := by decide +kernel
theorem dL_law_2022 : decode cL_law 2022 = .ok (.iload 5, 2) := by decide +kernel
theorem dL_law_2050 : decode cL_law 2050 = .ok (.aload_n 1, 1) := by decide +kernel
theorem dL_law_2056 : decode cL_law 2056 = .ok (.iaload, 1) := by decide +kernel
theorem dL_law_2062 : decode cL_law 2062 = .ok (.iaload, 1) := by decide +kernel
theorem dL_law_2070 : decode cL_law 2070 = .ok (.aload_n 0, 1) := by decide +kernel
theorem dL_law_2076 : decode cL_law 2076 = .ok (.aload_n 0, 1) := by decide +kernel
theorem dL_law_2082 : decode cL_law 2082 = .ok (.invokevirtual 244, 3) := by decide +kernel
theorem dL_law_2093 : decode cL_law 2093 = .ok (.if_icmp .eq 5, 3) := by decide +kernel
theorem dL_law_2120 : decode cL_law 2120 = .ok (.aload_n 0, 1) := by decide +kernel
theorem dL_law_2126 : decode cL_law 2126 = .ok (.aload_n 0, 1) := by decide +kernel
theorem dL_law_2132 : decode cL_law 2132 = .ok (.aload_n 3, 1) := by decide +kernel
theorem dL_law_2140 : decode cL_law 2140 = .ok (.iload 4, 2) := by decide +kernel
theorem dL_law_2146 : decode cL_law 2146 = .ok (.iload 4, 2) := by decide +kernel
theorem dL_law_2154 : decode cL_law 2154 = .ok (.astore 6, 2) := by decide +kernel
theorem dL_law_2167 : decode cL_law 2167 = .ok (.iload 5, 2) := by decide +kernel
theorem dL_law_2193 : decode cL_law 2193 = .ok (.aload_n 2, 1) := by decide +kernel
theorem dL_law_2206 : decode cL_law 2206 = .ok (.aload_n 2, 1) := by decide +kernel
theorem dL_law_2219 : decode cL_law 2219 = .ok (.goto (-2192), 3) := by decide +kernel
