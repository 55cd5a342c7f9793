
theorem dX0_init_0 : decode cX0_init 0 = .ok (.aload_n 0, 1) := by decide +kernel
theorem dX0_init_9 : decode cX0_init 9 = .ok (.iconst 4, 1) := by decide +kernel
theorem dX0_init_20 : decode cX0_init 20 = .ok (.dup, 1) := by decide +kernel
theorem dX0_init_29 : decode cX0_init 29 = .ok (.new 9, 3) := by decide +kernel
theorem dX0_init_40 : decode cX0_init 40 = .ok (.aload_n 0, 1) := by decide +kernel
theorem dX0_init_49 : decode cX0_init 49 = .ok (.putfield 26, 3) := by decide +kernel
theorem dX0_init_58 : decode cX0_init 58 = .ok (.invokespecial 11, 3) := by decide +kernel
theorem dX0_init_69 : decode cX0_init 69 = .ok (.iconst 4, 1) := by decide +kernel
theorem dX0_init_80 : decode cX0_init 80 = .ok (.dup, 1) := by decide +kernel
theorem dX0_init_90 : decode cX0_init 90 = .ok (.iconst 0, 1) := by decide +kernel
theorem dX0_init_99 : decode cX0_init 99 = .ok (.aload_n 0, 1) := by decide +kernel
theorem dX0_init_106 : decode cX0_init 106 = .ok (.putfield 48, 3) := by decide +kernel
theorem dX0_faultOf_5 : decode cX0_faultOf 5 = .ok (.aload_n 0, 1) := by decide +kernel
theorem dX0_faultOf_12 : decode cX0_faultOf 12 = .ok (.aload_n 1, 1) := by decide +kernel
theorem dX0_faultOf_106 : decode cX0_faultOf 106 = .ok (.invokevirtual 60, 3) := by decide +kernel
theorem dX0_faultOf_119 : decode cX0_faultOf 119 = .ok (.aload_n 1, 1) := by decide +kernel
theorem dX0_begin_4 : decode cX0_begin 4 = .ok (.invokevirtual 100, 3) := by decide +kernel
theorem dX0_begin_15 : decode cX0_begin 15 = .ok (.getfield 23, 3) := by decide +kernel
theorem dX0_begin_28 : decode cX0_begin 28 = .ok (.aload_n 0, 1) := by decide +kernel
theorem dX0_begin_39 : decode cX0_begin 39 = .ok (.invokevirtual 100, 3) := by decide +kernel
theorem dX0_begin_50 : decode cX0_begin 50 = .ok (.iconst 0, 1) := by decide +kernel
theorem dX0_startSum_0 : decode cX0_startSum 0 = .ok (.aload_n 0, 1) := by decide +kernel
theorem dX0_startSum_11 : decode cX0_startSum 11 = .ok (.aload_n 0, 1) := by decide +kernel
theorem dX0_startSum_22 : decode cX0_startSum 22 = .ok (.return_, 1) := by decide +kernel
theorem dX0_isBehindFactor_8 : decode cX0_isBehindFactor 8 = .ok (.aload_n 0, 1) := by decide +kernel
theorem dX0_isBehindFactor_21 : decode cX0_isBehindFactor 21 = .ok (.ireturn, 1) := by decide +kernel
theorem dX1_init_8 : decode cX1_init 8 = .ok (.dup, 1) := by decide +kernel
theorem dX1_init_17 : decode cX1_init 17 = .ok (.new 9, 3) := by decide +kernel
theorem dX1_init_28 : decode cX1_init 28 = .ok (.aload_n 0, 1) := by decide +kernel
theorem dX1_init_38 : decode cX1_init 38 = .ok (.putfield 23, 3) := by decide +kernel
theorem dX1_faultOf_7 : decode cX1_faultOf 7 = .ok (.iconst 0, 1) := by decide +kernel
theorem dX1_faultOf_14 : decode cX1_faultOf 14 = .ok (.if_icmp .ge 101, 3) := by decide +kernel
theorem dX1_faultOf_125 : decode cX1_faultOf 125 = .ok (.iconst (-1), 1) := by decide +kernel
theorem dX1_build_4 : decode cX1_build 4 = .ok (.invokevirtual 38, 3) := by decide +kernel
theorem dX1_build_15 : decode cX1_build 15 = .ok (.istore_n 3, 1) := by decide +kernel
theorem dX1_build_22 : decode cX1_build 22 = .ok (.invokevirtual 41, 3) := by decide +kernel
theorem dX1_build_104 : decode cX1_build 104 = .ok (.invokevirtual 79, 3) := by decide +kernel
theorem dX1_gathered_7 : decode cX1_gathered 7 = .ok (.iload_n 1, 1) := by decide +kernel
theorem dX1_gathered_14 : decode cX1_gathered 14 = .ok (.aload_n 2, 1) := by decide +kernel
theorem dX2_init_1 : decode cX2_init 1 = .ok (.invokespecial 3, 3) := by decide +kernel
theorem dX2_init_12 : decode cX2_init 12 = .ok (.putfield 12, 3) := by decide +kernel
theorem dX2_init_23 : decode cX2_init 23 = .ok (.invokespecial 20, 3) := by decide +kernel
theorem dX2_init_34 : decode cX2_init 34 = .ok (.sipush 2500, 3) := by decide +kernel
theorem dX2_init_47 : decode cX2_init 47 = .ok (.dup, 1) := by decide +kernel
theorem dX2_init_57 : decode cX2_init 57 = .ok (.new 18, 3) := by decide +kernel
theorem dX2_init_69 : decode cX2_init 69 = .ok (.aload_n 0, 1) := by decide +kernel
theorem dX2_init_79 : decode cX2_init 79 = .ok (.putfield 36, 3) := by decide +kernel
theorem dX2_init_89 : decode cX2_init 89 = .ok (.invokespecial 20, 3) := by decide +kernel
theorem dX2_init_100 : decode cX2_init 100 = .ok (.sipush 6000, 3) := by decide +kernel
theorem dX2_init_111 : decode cX2_init 111 = .ok (.putfield 45, 3) := by decide +kernel
theorem dX2_init_120 : decode cX2_init 120 = .ok (.iconst 0, 1) := by decide +kernel
theorem dX2_init_129 : decode cX2_init 129 = .ok (.aload_n 0, 1) := by decide +kernel
theorem dX2_init_136 : decode cX2_init 136 = .ok (.putfield 61, 3) := by decide +kernel
theorem dX2_init_145 : decode cX2_init 145 = .ok (.iconst 0, 1) := by decide +kernel
theorem dX2_init_154 : decode cX2_init 154 = .ok (.aload_n 0, 1) := by decide +kernel
theorem dX2_init_163 : decode cX2_init 163 = .ok (.putfield 78, 3) := by decide +kernel
theorem dX3_init_5 : decode cX3_init 5 = .ok (.new 9, 3) := by decide +kernel
theorem dX3_init_17 : decode cX3_init 17 = .ok (.aload_n 0, 1) := by decide +kernel
theorem dX3_init_28 : decode cX3_init 28 = .ok (.putfield 20, 3) := by decide +kernel
theorem dX3_init_39 : decode cX3_init 39 = .ok (.invokespecial 11, 3) := by decide +kernel
theorem dX3_init_50 : decode cX3_init 50 = .ok (.sipush 4960, 3) := by decide +kernel
theorem dX3_init_63 : decode cX3_init 63 = .ok (.dup, 1) := by decide +kernel
theorem dX3_init_74 : decode cX3_init 74 = .ok (.new 9, 3) := by decide +kernel
theorem dX3_init_87 : decode cX3_init 87 = .ok (.aload_n 0, 1) := by decide +kernel
theorem dX3_init_98 : decode cX3_init 98 = .ok (.putfield 35, 3) := by decide +kernel
theorem dX3_init_109 : decode cX3_init 109 = .ok (.invokespecial 11, 3) := by decide +kernel
theorem dX3_init_120 : decode cX3_init 120 = .ok (.sipush 4960, 3) := by decide +kernel
theorem dX3_count_1 : decode cX3_count 1 = .ok (.getfield 14, 3) := by decide +kernel
theorem dX3_has_4 : decode cX3_has 4 = .ok (.iload_n 1, 1) := by decide +kernel
theorem dX3_has_19 : decode cX3_has 19 = .ok (.iconst 0, 1) := by decide +kernel
theorem dX3_weightOfAll_0 : decode cX3_weightOfAll 0 = .ok (.iconst 0, 1) := by decide +kernel
theorem dX3_weightOfAll_5 : decode cX3_weightOfAll 5 = .ok (.aload_n 0, 1) := by decide +kernel
theorem dX3_weightOfAll_30 : decode cX3_weightOfAll 30 = .ok (.ireturn, 1) := by decide +kernel
theorem dX3_clear_8 : decode cX3_clear 8 = .ok (.getfield 20, 3) := by decide +kernel
theorem dX3_clear_21 : decode cX3_clear 21 = .ok (.aload_n 0, 1) := by decide +kernel
theorem dX3_clear_32 : decode cX3_clear 32 = .ok (.invokevirtual 55, 3) := by decide +kernel
theorem dX3_clear_43 : decode cX3_clear 43 = .ok (.getfield 35, 3) := by decide +kernel
theorem dX3_clear_56 : decode cX3_clear 56 = .ok (.aload_n 0, 1) := by decide +kernel
theorem dX3_number_1 : decode cX3_number 1 = .ok (.getfield 14, 3) := by decide +kernel
theorem dX3_number_12 : decode cX3_number 12 = .ok (.invokevirtual 44, 3) := by decide +kernel
theorem dX3_addSign_1 : decode cX3_addSign 1 = .ok (.getfield 41, 3) := by decide +kernel
theorem dX3_addText_1 : decode cX3_addText 1 = .ok (.iconst 0, 1) := by decide +kernel
theorem dX3_addText_10 : decode cX3_addText 10 = .ok (.isub, 1) := by decide +kernel
theorem dX3_addText_15 : decode cX3_addText 15 = .ok (.invokevirtual 61, 3) := by decide +kernel
theorem dX3_addMark_3 : decode cX3_addMark 3 = .ok (.iconst 0, 1) := by decide +kernel
theorem dX3_addMark_10 : decode cX3_addMark 10 = .ok (.ireturn, 1) := by decide +kernel
theorem dX3_addPlace_8 : decode cX3_addPlace 8 = .ok (.aload_n 0, 1) := by decide +kernel
theorem dX3_addPlace_17 : decode cX3_addPlace 17 = .ok (.getfield 26, 3) := by decide +kernel
theorem dX3_addPlace_28 : decode cX3_addPlace 28 = .ok (.iload 4, 2) := by decide +kernel
theorem dX3_addPlace_39 : decode cX3_addPlace 39 = .ok (.invokevirtual 58, 3) := by decide +kernel
theorem dX3_addPlace_51 : decode cX3_addPlace 51 = .ok (.aload_n 0, 1) := by decide +kernel
theorem dX3_addPlace_60 : decode cX3_addPlace 60 = .ok (.ireturn, 1) := by decide +kernel
theorem dX4_init_6 : decode cX4_init 6 = .ok (.putfield 7, 3) := by decide +kernel
theorem dX4_init_15 : decode cX4_init 15 = .ok (.goto 4, 3) := by decide +kernel
theorem dX4_size_1 : decode cX4_size 1 = .ok (.getfield 7, 3) := by decide +kernel
theorem dX4_get_5 : decode cX4_get 5 = .ok (.aload_n 0, 1) := by decide +kernel
theorem dX4_get_14 : decode cX4_get 14 = .ok (.getfield 13, 3) := by decide +kernel
theorem dX4_get_25 : decode cX4_get 25 = .ok (.iload_n 1, 1) := by decide +kernel
theorem dX4_add_1 : decode cX4_add 1 = .ok (.getfield 7, 3) := by decide +kernel
theorem dX4_add_12 : decode cX4_add 12 = .ok (.getfield 13, 3) := by decide +kernel
theorem dX4_add_23 : decode cX4_add 23 = .ok (.aload_n 0, 1) := by decide +kernel
theorem dX4_add_30 : decode cX4_add 30 = .ok (.dup, 1) := by decide +kernel
theorem dX4_add_39 : decode cX4_add 39 = .ok (.return_, 1) := by decide +kernel
theorem dX4_cut_6 : decode cX4_cut 6 = .ok (.getfield 7, 3) := by decide +kernel
theorem dX4_cut_17 : decode cX4_cut 17 = .ok (.return_, 1) := by decide +kernel
theorem dX4_copy_0 : decode cX4_copy 0 = .ok (.aload_n 0, 1) := by decide +kernel
theorem dX4_copy_7 : decode cX4_copy 7 = .ok (.iload_n 2, 1) := by decide +kernel
theorem dX5_init_0 : decode cX5_init 0 = .ok (.aload_n 0, 1) := by decide +kernel
theorem dX5_init_9 : decode cX5_init 9 = .ok (.sipush 2500, 3) := by decide +kernel
theorem dX5_init_22 : decode cX5_init 22 = .ok (.dup, 1) := by decide +kernel
theorem dX5_init_33 : decode cX5_init 33 = .ok (.new 9, 3) := by decide +kernel
theorem dX5_init_46 : decode cX5_init 46 = .ok (.aload_n 0, 1) := by decide +kernel
theorem dX5_init_57 : decode cX5_init 57 = .ok (.putfield 26, 3) := by decide +kernel
theorem dX5_init_67 : decode cX5_init 67 = .ok (.invokespecial 11, 3) := by decide +kernel
theorem dX5_init_78 : decode cX5_init 78 = .ok (.sipush 2501, 3) := by decide +kernel
theorem dX5_init_91 : decode cX5_init 91 = .ok (.dup, 1) := by decide +kernel
theorem dX5_init_102 : decode cX5_init 102 = .ok (.new 9, 3) := by decide +kernel
theorem dX5_init_115 : decode cX5_init 115 = .ok (.aload_n 0, 1) := by decide +kernel
theorem dX5_init_126 : decode cX5_init 126 = .ok (.putfield 41, 3) := by decide +kernel
theorem dX6_init_0 : decode cX6_init 0 = .ok (.aload_n 0, 1) := by decide +kernel
theorem dX6_init_9 : decode cX6_init 9 = .ok (.sipush 6000, 3) := by decide +kernel
theorem dX6_init_20 : decode cX6_init 20 = .ok (.putfield 20, 3) := by decide +kernel
theorem dX6_init_29 : decode cX6_init 29 = .ok (.aload_n 3, 1) := by decide +kernel
theorem dX6_init_39 : decode cX6_init 39 = .ok (.return_, 1) := by decide +kernel
theorem dX6_holds_5 : decode cX6_holds 5 = .ok (.getfield 20, 3) := by decide +kernel
theorem dX6_holds_16 : decode cX6_holds 16 = .ok (.istore 6, 2) := by decide +kernel
theorem dX6_holds_27 : decode cX6_holds 27 = .ok (.if_icmp .ge 57, 3) := by decide +kernel
theorem dX6_holds_93 : decode cX6_holds 93 = .ok (.ireturn, 1) := by decide +kernel
theorem dX7_init_8 : decode cX7_init 8 = .ok (.dup, 1) := by decide +kernel
theorem dX7_init_18 : decode cX7_init 18 = .ok (.new 9, 3) := by decide +kernel
theorem dX7_init_30 : decode cX7_init 30 = .ok (.aload_n 0, 1) := by decide +kernel
theorem dX7_init_40 : decode cX7_init 40 = .ok (.putfield 23, 3) := by decide +kernel
theorem dX7_init_50 : decode cX7_init 50 = .ok (.invokespecial 11, 3) := by decide +kernel
theorem dX7_init_61 : decode cX7_init 61 = .ok (.bipush 120, 2) := by decide +kernel
theorem dX7_init_73 : decode cX7_init 73 = .ok (.dup, 1) := by decide +kernel
theorem dX7_init_83 : decode cX7_init 83 = .ok (.new 9, 3) := by decide +kernel
theorem dX7_init_95 : decode cX7_init 95 = .ok (.aload_n 0, 1) := by decide +kernel
theorem dX7_init_105 : decode cX7_init 105 = .ok (.putfield 38, 3) := by decide +kernel
theorem dX7_init_115 : decode cX7_init 115 = .ok (.invokespecial 11, 3) := by decide +kernel
theorem dX7_init_126 : decode cX7_init 126 = .ok (.return_, 1) := by decide +kernel
theorem dX7_start_8 : decode cX7_start 8 = .ok (.getfield 20, 3) := by decide +kernel
theorem dX7_start_21 : decode cX7_start 21 = .ok (.aload_n 0, 1) := by decide +kernel
theorem dX7_start_32 : decode cX7_start 32 = .ok (.invokevirtual 48, 3) := by decide +kernel
theorem dX7_start_43 : decode cX7_start 43 = .ok (.getfield 35, 3) := by decide +kernel
theorem dX7_start_54 : decode cX7_start 54 = .ok (.invokevirtual 51, 3) := by decide +kernel
theorem dX7_start_65 : decode cX7_start 65 = .ok (.iconst (-1), 1) := by decide +kernel
theorem dX7_isThere_4 : decode cX7_isThere 4 = .ok (.iconst (-1), 1) := by decide +kernel
theorem dX7_signsOfPlain_1 : decode cX7_signsOfPlain 1 = .ok (.getfield 41, 3) := by decide +kernel
theorem dX8_init_5 : decode cX8_init 5 = .ok (.new 9, 3) := by decide +kernel
theorem dX8_init_18 : decode cX8_init 18 = .ok (.aload_n 0, 1) := by decide +kernel
theorem dX8_init_29 : decode cX8_init 29 = .ok (.putfield 20, 3) := by decide +kernel
theorem dX9_init_0 : decode cX9_init 0 = .ok (.aload_n 0, 1) := by decide +kernel
theorem dX9_init_9 : decode cX9_init 9 = .ok (.invokespecial 11, 3) := by decide +kernel
theorem dX9_init_20 : decode cX9_init 20 = .ok (.bipush 60, 2) := by decide +kernel
theorem dX9_init_32 : decode cX9_init 32 = .ok (.dup, 1) := by decide +kernel
theorem dX9_init_42 : decode cX9_init 42 = .ok (.new 28, 3) := by decide +kernel
theorem dX9_init_53 : decode cX9_init 53 = .ok (.new 35, 3) := by decide +kernel
theorem dX9_init_64 : decode cX9_init 64 = .ok (.new 42, 3) := by decide +kernel
theorem dX9_init_75 : decode cX9_init 75 = .ok (.invokespecial 48, 3) := by decide +kernel
theorem dX9_init_86 : decode cX9_init 86 = .ok (.aload_n 0, 1) := by decide +kernel
theorem dX9_init_99 : decode cX9_init 99 = .ok (.aload_n 0, 1) := by decide +kernel
theorem dX9_init_108 : decode cX9_init 108 = .ok (.aload_n 0, 1) := by decide +kernel
theorem dX9_init_117 : decode cX9_init 117 = .ok (.getfield 55, 3) := by decide +kernel
theorem dX9_init_130 : decode cX9_init 130 = .ok (.dup, 1) := by decide +kernel
theorem dX9_init_141 : decode cX9_init 141 = .ok (.dup, 1) := by decide +kernel
theorem dX9_init_152 : decode cX9_init 152 = .ok (.dup, 1) := by decide +kernel
theorem dX9_init_162 : decode cX9_init 162 = .ok (.putfield 84, 3) := by decide +kernel
theorem dX9_init_172 : decode cX9_init 172 = .ok (.iconst 0, 1) := by decide +kernel
theorem dX9_init_181 : decode cX9_init 181 = .ok (.aload_n 0, 1) := by decide +kernel
theorem dX9_word_1 : decode cX9_word 1 = .ok (.ifCond .lt 9, 3) := by decide +kernel
theorem dX9_word_13 : decode cX9_word 13 = .ok (.dup, 1) := by decide +kernel
theorem dX9_word_21 : decode cX9_word 21 = .ok (.iconst 1, 1) := by decide +kernel
theorem dX9_word_31 : decode cX9_word 31 = .ok (.new 100, 3) := by decide +kernel
theorem dX9_word_41 : decode cX9_word 41 = .ok (.aload_n 0, 1) := by decide +kernel
theorem dX9_word_48 : decode cX9_word 48 = .ok (.iload_n 2, 1) := by decide +kernel
theorem dX9_word_58 : decode cX9_word 58 = .ok (.iload_n 1, 1) := by decide +kernel
theorem dX9_word_69 : decode cX9_word 69 = .ok (.aload_n 0, 1) := by decide +kernel
theorem dX9_word_78 : decode cX9_word 78 = .ok (.invokevirtual 119, 3) := by decide +kernel
theorem dX9_mark_5 : decode cX9_mark 5 = .ok (.iload_n 1, 1) := by decide +kernel
theorem dX9_mark_14 : decode cX9_mark 14 = .ok (.ldc 122, 2) := by decide +kernel
theorem dX9_mark_24 : decode cX9_mark 24 = .ok (.aload_n 0, 1) := by decide +kernel
theorem dX9_mark_33 : decode cX9_mark 33 = .ok (.invokevirtual 119, 3) := by decide +kernel
theorem dX9_nest_0 : decode cX9_nest 0 = .ok (.aload_n 0, 1) := by decide +kernel
theorem dX9_align_2 : decode cX9_align 2 = .ok (.invokevirtual 127, 3) := by decide +kernel
theorem dX9_fill_1 : decode cX9_fill 1 = .ok (.iload_n 1, 1) := by decide +kernel
theorem dX9_forget_7 : decode cX9_forget 7 = .ok (.istore_n 1, 1) := by decide +kernel
theorem dX9_forget_16 : decode cX9_forget 16 = .ok (.ireturn, 1) := by decide +kernel
theorem dX9_width_6 : decode cX9_width 6 = .ok (.getfield 84, 3) := by decide +kernel
theorem dX9_width_15 : decode cX9_width 15 = .ok (.iload_n 2, 1) := by decide +kernel
theorem dX9_ribbon_5 : decode cX9_ribbon 5 = .ok (.iload_n 1, 1) := by decide +kernel
theorem dX9_ribbon_15 : decode cX9_ribbon 15 = .ok (.ldc 173, 2) := by decide +kernel
theorem dX9_ribbon_25 : decode cX9_ribbon 25 = .ok (.istore_n 2, 1) := by decide +kernel
theorem dX9_ribbon_32 : decode cX9_ribbon 32 = .ok (.ireturn, 1) := by decide +kernel
theorem dX9_say_8 : decode cX9_say 8 = .ok (.getfield 25, 3) := by decide +kernel
theorem dX9_say_19 : decode cX9_say 19 = .ok (.iload_n 2, 1) := by decide +kernel
theorem dX9_say_28 : decode cX9_say 28 = .ok (.invokevirtual 176, 3) := by decide +kernel
theorem dX9_say_40 : decode cX9_say 40 = .ok (.aload_n 0, 1) := by decide +kernel
theorem dX9_say_50 : decode cX9_say 50 = .ok (.getfield 25, 3) := by decide +kernel
theorem dX9_say_62 : decode cX9_say 62 = .ok (.iconst 0, 1) := by decide +kernel
theorem dX9_say_71 : decode cX9_say 71 = .ok (.invokevirtual 182, 3) := by decide +kernel
theorem dX9_say_82 : decode cX9_say 82 = .ok (.iload 7, 2) := by decide +kernel
theorem dX9_say_96 : decode cX9_say 96 = .ok (.aload_n 0, 1) := by decide +kernel
theorem dX9_read_1 : decode cX9_read 1 = .ok (.invokevirtual 109, 3) := by decide +kernel
theorem dX9_read_12 : decode cX9_read 12 = .ok (.invokevirtual 191, 3) := by decide +kernel
theorem dX9_read_23 : decode cX9_read 23 = .ok (.getfield 31, 3) := by decide +kernel
theorem dX9_read_34 : decode cX9_read 34 = .ok (.invokevirtual 195, 3) := by decide +kernel
theorem dX9_code_4 : decode cX9_code 4 = .ok (.aload_n 0, 1) := by decide +kernel
theorem dX9_code_15 : decode cX9_code 15 = .ok (.iconst (-1), 1) := by decide +kernel
theorem dX9_blank_1 : decode cX9_blank 1 = .ok (.dup, 1) := by decide +kernel
theorem dX9_blank_10 : decode cX9_blank 10 = .ok (.bipush (-9), 2) := by decide +kernel
theorem dX9_knock_5 : decode cX9_knock 5 = .ok (.iconst 1, 1) := by decide +kernel
theorem dX9_knock_14 : decode cX9_knock 14 = .ok (.ireturn, 1) := by decide +kernel
theorem dX9_flat_1 : decode cX9_flat 1 = .ok (.iload_n 1, 1) := by decide +kernel
theorem dX9_measure_0 : decode cX9_measure 0 = .ok (.aload_n 0, 1) := by decide +kernel
theorem dX9_at_2 : decode cX9_at 2 = .ok (.invokevirtual 127, 3) := by decide +kernel
theorem dX9_isOne_1 : decode cX9_isOne 1 = .ok (.iload_n 1, 1) := by decide +kernel
theorem dX9_typed_0 : decode cX9_typed 0 = .ok (.aload_n 0, 1) := by decide +kernel
theorem dX9_fault_0 : decode cX9_fault 0 = .ok (.iload_n 1, 1) := by decide +kernel
theorem dX9_fault_9 : decode cX9_fault 9 = .ok (.getfield 21, 3) := by decide +kernel
theorem dX9_fault_22 : decode cX9_fault 22 = .ok (.aload_n 0, 1) := by decide +kernel
theorem dX9_fault_33 : decode cX9_fault 33 = .ok (.ireturn, 1) := by decide +kernel
theorem dX9_ofCode_7 : decode cX9_ofCode 7 = .ok (.if_icmp .le 14, 3) := by decide +kernel
theorem dX9_ofCode_20 : decode cX9_ofCode 20 = .ok (.athrow, 1) := by decide +kernel
theorem dX9_ofCode_31 : decode cX9_ofCode 31 = .ok (.iconst 0, 1) := by decide +kernel
theorem dX9_plain_5 : decode cX9_plain 5 = .ok (.invokevirtual 305, 3) := by decide +kernel
theorem dX9_codeLine_2 : decode cX9_codeLine 2 = .ok (.invokevirtual 239, 3) := by decide +kernel
theorem dX9_codeLine_15 : decode cX9_codeLine 15 = .ok (.ldc 228, 2) := by decide +kernel
theorem dX9_house_5 : decode cX9_house 5 = .ok (.bipush 7, 2) := by decide +kernel
theorem dX9_house_16 : decode cX9_house 16 = .ok (.invokespecial 104, 3) := by decide +kernel
theorem dX9_house_25 : decode cX9_house 25 = .ok (.ireturn, 1) := by decide +kernel
theorem dX9_would_1 : decode cX9_would 1 = .ok (.iload_n 1, 1) := by decide +kernel
theorem dX9_least_0 : decode cX9_least 0 = .ok (.aload_n 0, 1) := by decide +kernel
theorem dX9_leastLine_2 : decode cX9_leastLine 2 = .ok (.invokevirtual 127, 3) := by decide +kernel
theorem dX9_isSound_8 : decode cX9_isSound 8 = .ok (.aload_n 0, 1) := by decide +kernel
theorem dX9_isSound_17 : decode cX9_isSound 17 = .ok (.getfield 88, 3) := by decide +kernel
theorem dX9_digest_4 : decode cX9_digest 4 = .ok (.iconst 0, 1) := by decide +kernel
theorem dX9_digest_12 : decode cX9_digest 12 = .ok (.lload_n 1, 1) := by decide +kernel
theorem dX9_digest_19 : decode cX9_digest 19 = .ok (.invokevirtual 308, 3) := by decide +kernel
theorem dX9_digest_28 : decode cX9_digest 28 = .ok (.goto (-22), 3) := by decide +kernel
theorem dX9_digest_39 : decode cX9_digest 39 = .ok (.isub, 1) := by decide +kernel
theorem dX9_digest_46 : decode cX9_digest 46 = .ok (.ifCond .lt 25, 3) := by decide +kernel
theorem dX9_digest_133 : decode cX9_digest 133 = .ok (.lmul, 1) := by decide +kernel
theorem dX9_digest_142 : decode cX9_digest 142 = .ok (.ladd, 1) := by decide +kernel
theorem dX9_digest_149 : decode cX9_digest 149 = .ok (.aload_n 0, 1) := by decide +kernel
theorem dX9_digest_160 : decode cX9_digest 160 = .ok (.i2l, 1) := by decide +kernel
theorem dX9_digest_167 : decode cX9_digest 167 = .ok (.lmul, 1) := by decide +kernel
theorem dX9_digest_176 : decode cX9_digest 176 = .ok (.aload_n 0, 1) := by decide +kernel
theorem dX9_digest_185 : decode cX9_digest 185 = .ok (.lstore_n 1, 1) := by decide +kernel
theorem dX9_digest_192 : decode cX9_digest 192 = .ok (.lload_n 1, 1) := by decide +kernel
theorem dX9_digest_201 : decode cX9_digest 201 = .ok (.aload_n 0, 1) := by decide +kernel
theorem dX9_digest_210 : decode cX9_digest 210 = .ok (.getfield 84, 3) := by decide +kernel
theorem dX9_digest_223 : decode cX9_digest 223 = .ok (.iconst 1, 1) := by decide +kernel
theorem dX9_needNode_0 : decode cX9_needNode 0 = .ok (.aload_n 0, 1) := by decide +kernel
theorem dX9_needNode_11 : decode cX9_needNode 11 = .ok (.new 344, 3) := by decide +kernel
theorem dX9_needNumber_0 : decode cX9_needNumber 0 = .ok (.aload_n 0, 1) := by decide +kernel
theorem dX9_needNumber_23 : decode cX9_needNumber 23 = .ok (.return_, 1) := by decide +kernel
theorem dX9_needWidth_6 : decode cX9_needWidth 6 = .ok (.bipush 60, 2) := by decide +kernel
theorem dX9_needWidth_18 : decode cX9_needWidth 18 = .ok (.invokespecial 104, 3) := by decide +kernel
theorem dX9_needNth_4 : decode cX9_needNth 4 = .ok (.new 100, 3) := by decide +kernel
theorem dX9_needNth_15 : decode cX9_needNth 15 = .ok (.return_, 1) := by decide +kernel
theorem dX9_needCodes_4 : decode cX9_needCodes 4 = .ok (.getfield 25, 3) := by decide +kernel
theorem dX9_needCodes_17 : decode cX9_needCodes 17 = .ok (.iload_n 1, 1) := by decide +kernel
theorem dX9_needCodes_26 : decode cX9_needCodes 26 = .ok (.getfield 25, 3) := by decide +kernel
theorem dX9_needCodes_38 : decode cX9_needCodes 38 = .ok (.new 100, 3) := by decide +kernel
theorem dX9_needCodes_49 : decode cX9_needCodes 49 = .ok (.iinc 1 1, 3) := by decide +kernel
theorem dX9_needCodes_62 : decode cX9_needCodes 62 = .ok (.istore_n 1, 1) := by decide +kernel
theorem dX9_needCodes_67 : decode cX9_needCodes 67 = .ok (.getfield 25, 3) := by decide +kernel
theorem dX9_needCodes_78 : decode cX9_needCodes 78 = .ok (.getfield 25, 3) := by decide +kernel
theorem dX9_needCodes_89 : decode cX9_needCodes 89 = .ok (.iload_n 1, 1) := by decide +kernel
theorem dX9_needCodes_112 : decode cX9_needCodes 112 = .ok (.return_, 1) := by decide +kernel
theorem dX9_lengthAfter_6 : decode cX9_lengthAfter 6 = .ok (.ireturn, 1) := by decide +kernel
theorem dX9_lengthAfter_14 : decode cX9_lengthAfter 14 = .ok (.ireturn, 1) := by decide +kernel
theorem dX9_lengthAfter_22 : decode cX9_lengthAfter 22 = .ok (.ifCond .le 9, 3) := by decide +kernel
theorem dX9_lengthAfter_31 : decode cX9_lengthAfter 31 = .ok (.iconst 0, 1) := by decide +kernel
theorem dX9_lengthAfter_36 : decode cX9_lengthAfter 36 = .ok (.ireturn, 1) := by decide +kernel
theorem dX9_type_8 : decode cX9_type 8 = .ok (.invokevirtual 375, 3) := by decide +kernel
theorem dX9_type_21 : decode cX9_type 21 = .ok (.iload_n 1, 1) := by decide +kernel
theorem dX9_type_32 : decode cX9_type 32 = .ok (.getfield 21, 3) := by decide +kernel
theorem dX9_type_43 : decode cX9_type 43 = .ok (.invokestatic 368, 3) := by decide +kernel
theorem dX9_numbered_2 : decode cX9_numbered 2 = .ok (.getfield 97, 3) := by decide +kernel
theorem dX9_numbered_11 : decode cX9_numbered 11 = .ok (.getfield 12, 3) := by decide +kernel
theorem dX9_textOf_1 : decode cX9_textOf 1 = .ok (.getfield 70, 3) := by decide +kernel
theorem dX9_textOf_10 : decode cX9_textOf 10 = .ok (.iload_n 2, 1) := by decide +kernel
theorem dX9_textOf_39 : decode cX9_textOf 39 = .ok (.getfield 70, 3) := by decide +kernel
theorem dX9_stateOf_44 : decode cX9_stateOf 44 = .ok (.aload_n 0, 1) := by decide +kernel
theorem dX9_stateOf_53 : decode cX9_stateOf 53 = .ok (.getfield 84, 3) := by decide +kernel
theorem dX9_stateOf_62 : decode cX9_stateOf 62 = .ok (.aload_n 0, 1) := by decide +kernel
theorem dX9_stateOf_71 : decode cX9_stateOf 71 = .ok (.getfield 91, 3) := by decide +kernel
theorem dX9_stateOf_80 : decode cX9_stateOf 80 = .ok (.aload_n 0, 1) := by decide +kernel
theorem dX9_stateOf_89 : decode cX9_stateOf 89 = .ok (.invokevirtual 420, 3) := by decide +kernel
theorem dX9_withCode_3 : decode cX9_withCode 3 = .ok (.getfield 77, 3) := by decide +kernel
theorem dX9_withCode_15 : decode cX9_withCode 15 = .ok (.iload 5, 2) := by decide +kernel
theorem dX9_withCode_26 : decode cX9_withCode 26 = .ok (.lmul, 1) := by decide +kernel
theorem dX9_withCode_35 : decode cX9_withCode 35 = .ok (.lreturn, 1) := by decide +kernel
theorem dX11_init_1 : decode cX11_init 1 = .ok (.invokespecial 3, 3) := by decide +kernel
theorem dX11_init_12 : decode cX11_init 12 = .ok (.putfield 12, 3) := by decide +kernel
theorem dX11_init_21 : decode cX11_init 21 = .ok (.aload_n 2, 1) := by decide +kernel
theorem dX11_init_30 : decode cX11_init 30 = .ok (.return_, 1) := by decide +kernel
theorem dX11_weight_8 : decode cX11_weight 8 = .ok (.iconst 1, 1) := by decide +kernel
theorem dX11_weight_18 : decode cX11_weight 18 = .ok (.getfield 12, 3) := by decide +kernel
theorem dX11_weight_31 : decode cX11_weight 31 = .ok (.ifCond .eq 23, 3) := by decide +kernel
theorem dX11_depth_2 : decode cX11_depth 2 = .ok (.aload_n 0, 1) := by decide +kernel
theorem dX11_depth_11 : decode cX11_depth 11 = .ok (.invokeinterface 41 1, 5) := by decide +kernel
theorem dX11_depth_44 : decode cX11_depth 44 = .ok (.ireturn, 1) := by decide +kernel
theorem dX13_init_6 : decode cX13_init 6 = .ok (.putfield 9, 3) := by decide +kernel
theorem dX13_document_7 : decode cX13_document 7 = .ok (.astore_n 1, 1) := by decide +kernel
theorem dX13_document_16 : decode cX13_document 16 = .ok (.invokevirtual 19, 3) := by decide +kernel
theorem dX13_document_53 : decode cX13_document 53 = .ok (.new 69, 3) := by decide +kernel
theorem dX13_document_61 : decode cX13_document 61 = .ok (.invokespecial 73, 3) := by decide +kernel
theorem dX16_init_5 : decode cX16_init 5 = .ok (.new 7, 3) := by decide +kernel
theorem dX16_init_16 : decode cX16_init 16 = .ok (.bipush 20, 2) := by decide +kernel
theorem dX16_init_27 : decode cX16_init 27 = .ok (.aload_n 0, 1) := by decide +kernel
theorem dX16_isIn_1 : decode cX16_isIn 1 = .ok (.iload_n 1, 1) := by decide +kernel
theorem dX16_isIn_10 : decode cX16_isIn 10 = .ok (.iconst 1, 1) := by decide +kernel
theorem dX16_one_1 : decode cX16_one 1 = .ok (.ifCond .eq 7, 3) := by decide +kernel
theorem dX16_documented_0 : decode cX16_documented 0 = .ok (.ldc 23, 2) := by decide +kernel
theorem dX16_documented_6 : decode cX16_documented 6 = .ok (.aload_n 0, 1) := by decide +kernel
theorem dX16_documented_137 : decode cX16_documented 137 = .ok (.aload_n 1, 1) := by decide +kernel
theorem dX16_coded_0 : decode cX16_coded 0 = .ok (.ldc 23, 2) := by decide +kernel
theorem dX16_coded_6 : decode cX16_coded 6 = .ok (.istore_n 3, 1) := by decide +kernel
theorem dX16_coded_316 : decode cX16_coded 316 = .ok (.aload_n 0, 1) := by decide +kernel
theorem dX16_coded_327 : decode cX16_coded 327 = .ok (.iload_n 2, 1) := by decide +kernel
theorem dX16_coded_340 : decode cX16_coded 340 = .ok (.iadd, 1) := by decide +kernel
theorem dX16_refuse_0 : decode cX16_refuse 0 = .ok (.iload_n 1, 1) := by decide +kernel
theorem dX16_refuse_11 : decode cX16_refuse 11 = .ok (.aload_n 0, 1) := by decide +kernel
theorem dX16_refuse_20 : decode cX16_refuse 20 = .ok (.ifCond .le 7, 3) := by decide +kernel
theorem dX16_start_0 : decode cX16_start 0 = .ok (.aload_n 0, 1) := by decide +kernel
theorem dX16_start_7 : decode cX16_start 7 = .ok (.iload_n 2, 1) := by decide +kernel
theorem dX16_isNoNode_2 : decode cX16_isNoNode 2 = .ok (.aload_n 0, 1) := by decide +kernel
theorem dX16_isNoNode_11 : decode cX16_isNoNode 11 = .ok (.invokestatic 183, 3) := by decide +kernel
theorem dX16_isFull_0 : decode cX16_isFull 0 = .ok (.aload_n 0, 1) := by decide +kernel
theorem dX16_isFull_16 : decode cX16_isFull 16 = .ok (.iconst 0, 1) := by decide +kernel
theorem dX16_isGreat_6 : decode cX16_isGreat 6 = .ok (.if_icmp .gt 12, 3) := by decide +kernel
theorem dX16_isGreat_22 : decode cX16_isGreat 22 = .ok (.iconst 0, 1) := by decide +kernel
theorem dX16_made_5 : decode cX16_made 5 = .ok (.invokevirtual 65, 3) := by decide +kernel
theorem dX16_made_14 : decode cX16_made 14 = .ok (.iconst 1, 1) := by decide +kernel
theorem dX16_made_23 : decode cX16_made 23 = .ok (.invokevirtual 44, 3) := by decide +kernel
theorem dX16_word_1 : decode cX16_word 1 = .ok (.iload_n 1, 1) := by decide +kernel
theorem dX16_word_11 : decode cX16_word 11 = .ok (.iload_n 2, 1) := by decide +kernel
theorem dX16_word_21 : decode cX16_word 21 = .ok (.iconst 1, 1) := by decide +kernel
theorem dX16_word_30 : decode cX16_word 30 = .ok (.ifCond .ne 15, 3) := by decide +kernel
theorem dX16_word_39 : decode cX16_word 39 = .ok (.invokevirtual 179, 3) := by decide +kernel
theorem dX16_word_50 : decode cX16_word 50 = .ok (.dup, 1) := by decide +kernel
theorem dX16_word_58 : decode cX16_word 58 = .ok (.iload 4, 2) := by decide +kernel
theorem dX16_word_67 : decode cX16_word 67 = .ok (.iload_n 1, 1) := by decide +kernel
theorem dX16_word_74 : decode cX16_word 74 = .ok (.iinc 4 1, 3) := by decide +kernel
theorem dX16_word_85 : decode cX16_word 85 = .ok (.iconst 0, 1) := by decide +kernel
theorem dX16_word_94 : decode cX16_word 94 = .ok (.invokevirtual 205, 3) := by decide +kernel
theorem dX16_mark_3 : decode cX16_mark 3 = .ok (.iconst 4, 1) := by decide +kernel
theorem dX16_mark_14 : decode cX16_mark 14 = .ok (.iconst 0, 1) := by decide +kernel
theorem dX16_mark_23 : decode cX16_mark 23 = .ok (.aload_n 0, 1) := by decide +kernel
theorem dX16_mark_34 : decode cX16_mark 34 = .ok (.iconst 0, 1) := by decide +kernel
theorem dX16_mark_43 : decode cX16_mark 43 = .ok (.iload_n 1, 1) := by decide +kernel
theorem dX16_mark_53 : decode cX16_mark 53 = .ok (.ireturn, 1) := by decide +kernel
theorem dX16_join_6 : decode cX16_join 6 = .ok (.ifCond .ne 11, 3) := by decide +kernel
theorem dX16_join_26 : decode cX16_join 26 = .ok (.ifCond .eq 7, 3) := by decide +kernel
theorem dX16_nest_1 : decode cX16_nest 1 = .ok (.aload_n 0, 1) := by decide +kernel
theorem dX16_nest_10 : decode cX16_nest 10 = .ok (.ifCond .ne 26, 3) := by decide +kernel
theorem dX16_align_1 : decode cX16_align 1 = .ok (.aload_n 0, 1) := by decide +kernel
theorem dX16_align_10 : decode cX16_align 10 = .ok (.ifCond .eq 7, 3) := by decide +kernel
theorem dX16_group_1 : decode cX16_group 1 = .ok (.aload_n 0, 1) := by decide +kernel
theorem dX16_group_10 : decode cX16_group 10 = .ok (.ifCond .eq 7, 3) := by decide +kernel
theorem dX16_fill_1 : decode cX16_fill 1 = .ok (.aload_n 0, 1) := by decide +kernel
theorem dX16_fill_18 : decode cX16_fill 18 = .ok (.goto 4, 3) := by decide +kernel
theorem dX16_fill_48 : decode cX16_fill 48 = .ok (.ireturn, 1) := by decide +kernel
theorem dX16_forget_6 : decode cX16_forget 6 = .ok (.getfield 10, 3) := by decide +kernel
theorem dX16_forget_17 : decode cX16_forget 17 = .ok (.invokevirtual 225, 3) := by decide +kernel
theorem dX16_width_1 : decode cX16_width 1 = .ok (.iload_n 1, 1) := by decide +kernel
theorem dX16_width_11 : decode cX16_width 11 = .ok (.iconst 1, 1) := by decide +kernel
theorem dX16_width_20 : decode cX16_width 20 = .ok (.ifCond .eq 5, 3) := by decide +kernel
theorem dX16_width_29 : decode cX16_width 29 = .ok (.istore_n 2, 1) := by decide +kernel
theorem dX16_width_36 : decode cX16_width 36 = .ok (.ireturn, 1) := by decide +kernel
theorem dX16_ribbon_5 : decode cX16_ribbon 5 = .ok (.invokestatic 183, 3) := by decide +kernel
theorem dX16_ribbon_16 : decode cX16_ribbon 16 = .ok (.iconst 1, 1) := by decide +kernel
theorem dX16_ribbon_25 : decode cX16_ribbon 25 = .ok (.aload_n 0, 1) := by decide +kernel
theorem dX16_ribbon_32 : decode cX16_ribbon 32 = .ok (.putfield 20, 3) := by decide +kernel
theorem dX16_said_2 : decode cX16_said 2 = .ok (.if_icmp .ne 5, 3) := by decide +kernel
theorem dX16_said_10 : decode cX16_said 10 = .ok (.if_icmp .ge 27, 3) := by decide +kernel
theorem dX16_said_21 : decode cX16_said 21 = .ok (.invokevirtual 98, 3) := by decide +kernel
theorem dX16_said_33 : decode cX16_said 33 = .ok (.invokevirtual 36, 3) := by decide +kernel
theorem dX16_said_43 : decode cX16_said 43 = .ok (.aload_n 0, 1) := by decide +kernel
theorem dX16_said_55 : decode cX16_said 55 = .ok (.aload_n 0, 1) := by decide +kernel
theorem dX16_said_62 : decode cX16_said 62 = .ok (.isub, 1) := by decide +kernel
theorem dX16_say_4 : decode cX16_say 4 = .ok (.dup, 1) := by decide +kernel
theorem dX16_say_9 : decode cX16_say 9 = .ok (.iconst 1, 1) := by decide +kernel
theorem dX16_say_14 : decode cX16_say 14 = .ok (.iload_n 3, 1) := by decide +kernel
theorem dX16_say_20 : decode cX16_say 20 = .ok (.iastore, 1) := by decide +kernel
theorem dX16_say_26 : decode cX16_say 26 = .ok (.dup, 1) := by decide +kernel
theorem dX16_say_33 : decode cX16_say 33 = .ok (.iconst 0, 1) := by decide +kernel
theorem dX16_say_42 : decode cX16_say 42 = .ok (.arraylength, 1) := by decide +kernel
theorem dX16_say_50 : decode cX16_say 50 = .ok (.iload 10, 2) := by decide +kernel
theorem dX16_say_60 : decode cX16_say 60 = .ok (.istore 12, 2) := by decide +kernel
theorem dX16_say_69 : decode cX16_say 69 = .ok (.invokestatic 183, 3) := by decide +kernel
theorem dX16_say_80 : decode cX16_say 80 = .ok (.ior, 1) := by decide +kernel
theorem dX16_say_90 : decode cX16_say 90 = .ok (.iload 8, 2) := by decide +kernel
theorem dX16_say_100 : decode cX16_say 100 = .ok (.ireturn, 1) := by decide +kernel
theorem dX16_say_109 : decode cX16_say 109 = .ok (.astore 10, 2) := by decide +kernel
theorem dX16_say_117 : decode cX16_say 117 = .ok (.istore 12, 2) := by decide +kernel
theorem dX16_say_128 : decode cX16_say 128 = .ok (.iload 12, 2) := by decide +kernel
theorem dX16_say_137 : decode cX16_say 137 = .ok (.invokestatic 234, 3) := by decide +kernel
theorem dX16_say_148 : decode cX16_say 148 = .ok (.bipush 60, 2) := by decide +kernel
theorem dX16_say_162 : decode cX16_say 162 = .ok (.ifCond .eq 5, 3) := by decide +kernel
theorem dX16_say_176 : decode cX16_say 176 = .ok (.putfield 25, 3) := by decide +kernel
theorem dX16_isDocument_0 : decode cX16_isDocument 0 = .ok (.aload_n 0, 1) := by decide +kernel
theorem dX16_isDocument_11 : decode cX16_isDocument 11 = .ok (.invokevirtual 74, 3) := by decide +kernel
theorem dX16_isCode_0 : decode cX16_isCode 0 = .ok (.aload_n 0, 1) := by decide +kernel
theorem dX16_isCode_11 : decode cX16_isCode 11 = .ok (.invokevirtual 74, 3) := by decide +kernel
theorem dX16_read_1 : decode cX16_read 1 = .ok (.aload_n 0, 1) := by decide +kernel
theorem dX16_read_14 : decode cX16_read 14 = .ok (.aload_n 0, 1) := by decide +kernel
theorem dX16_read_27 : decode cX16_read 27 = .ok (.aload_n 0, 1) := by decide +kernel
theorem dX16_read_38 : decode cX16_read 38 = .ok (.aload_n 1, 1) := by decide +kernel
theorem dX16_read_51 : decode cX16_read 51 = .ok (.invokevirtual 205, 3) := by decide +kernel
theorem dX16_code_5 : decode cX16_code 5 = .ok (.aload_n 0, 1) := by decide +kernel
theorem dX16_blank_0 : decode cX16_blank 0 = .ok (.aload_n 0, 1) := by decide +kernel
theorem dX16_blank_7 : decode cX16_blank 7 = .ok (.getfield 272, 3) := by decide +kernel
theorem dX16_blank_17 : decode cX16_blank 17 = .ok (.ireturn, 1) := by decide +kernel
theorem dX16_knock_6 : decode cX16_knock 6 = .ok (.dup, 1) := by decide +kernel
theorem dX16_knock_15 : decode cX16_knock 15 = .ok (.aload_n 0, 1) := by decide +kernel
theorem dX16_ofNode_2 : decode cX16_ofNode 2 = .ok (.iload_n 1, 1) := by decide +kernel
theorem dX16_ofNode_36 : decode cX16_ofNode 36 = .ok (.iconst 0, 1) := by decide +kernel
theorem dX16_flat_2 : decode cX16_flat 2 = .ok (.iload_n 1, 1) := by decide +kernel
theorem dX16_flat_13 : decode cX16_flat 13 = .ok (.ldc 23, 2) := by decide +kernel
theorem dX16_line_2 : decode cX16_line 2 = .ok (.iload_n 1, 1) := by decide +kernel
theorem dX16_line_30 : decode cX16_line 30 = .ok (.ldc 23, 2) := by decide +kernel
theorem dX16_measure_2 : decode cX16_measure 2 = .ok (.iload_n 1, 1) := by decide +kernel
theorem dX16_measure_36 : decode cX16_measure 36 = .ok (.iconst 0, 1) := by decide +kernel
theorem dX16_at_2 : decode cX16_at 2 = .ok (.iload_n 1, 1) := by decide +kernel
theorem dX16_at_13 : decode cX16_at 13 = .ok (.iconst 0, 1) := by decide +kernel
theorem dX16_where_3 : decode cX16_where 3 = .ok (.invokevirtual 213, 3) := by decide +kernel
theorem dX16_where_31 : decode cX16_where 31 = .ok (.ireturn, 1) := by decide +kernel
theorem dX16_isOne_6 : decode cX16_isOne 6 = .ok (.iconst 1, 1) := by decide +kernel
theorem dX16_differ_0 : decode cX16_differ 0 = .ok (.aload_n 0, 1) := by decide +kernel
theorem dX16_differ_17 : decode cX16_differ 17 = .ok (.iconst 1, 1) := by decide +kernel
theorem dX16_differ_80 : decode cX16_differ 80 = .ok (.iconst 0, 1) := by decide +kernel
theorem dX16_typed_5 : decode cX16_typed 5 = .ok (.aload_n 0, 1) := by decide +kernel
theorem dX16_faulty_4 : decode cX16_faulty 4 = .ok (.aload_n 0, 1) := by decide +kernel
theorem dX16_faulty_15 : decode cX16_faulty 15 = .ok (.getfield 25, 3) := by decide +kernel
theorem dX16_faulty_24 : decode cX16_faulty 24 = .ok (.getfield 25, 3) := by decide +kernel
theorem dX16_faulty_37 : decode cX16_faulty 37 = .ok (.iload_n 2, 1) := by decide +kernel
theorem dX16_fault_5 : decode cX16_fault 5 = .ok (.aload_n 0, 1) := by decide +kernel
theorem dX16_codeTold_1 : decode cX16_codeTold 1 = .ok (.getfield 262, 3) := by decide +kernel
theorem dX16_ofCode_1 : decode cX16_ofCode 1 = .ok (.iload_n 1, 1) := by decide +kernel
theorem dX16_ofCode_11 : decode cX16_ofCode 11 = .ok (.iconst 1, 1) := by decide +kernel
theorem dX16_ofCode_20 : decode cX16_ofCode 20 = .ok (.ifCond .eq 7, 3) := by decide +kernel
theorem dX16_ofCode_29 : decode cX16_ofCode 29 = .ok (.invokevirtual 341, 3) := by decide +kernel
theorem dX16_plain_5 : decode cX16_plain 5 = .ok (.aload_n 0, 1) := by decide +kernel
theorem dX16_plain_24 : decode cX16_plain 24 = .ok (.areturn, 1) := by decide +kernel
theorem dX16_codeLine_6 : decode cX16_codeLine 6 = .ok (.goto 4, 3) := by decide +kernel
theorem dX16_codeLine_17 : decode cX16_codeLine 17 = .ok (.ldc 23, 2) := by decide +kernel
theorem dX16_codeLine_29 : decode cX16_codeLine 29 = .ok (.ldc_w 281, 3) := by decide +kernel
theorem dX16_houseTold_2 : decode cX16_houseTold 2 = .ok (.aload_n 0, 1) := by decide +kernel
theorem dX16_houseTold_11 : decode cX16_houseTold 11 = .ok (.invokeinterface 133 1, 5) := by decide +kernel
theorem dX16_houseTold_46 : decode cX16_houseTold 46 = .ok (.iconst 0, 1) := by decide +kernel
theorem dX16_houseTold_55 : decode cX16_houseTold 55 = .ok (.dup, 1) := by decide +kernel
theorem dX16_houseTold_62 : decode cX16_houseTold 62 = .ok (.dup, 1) := by decide +kernel
theorem dX16_houseTold_69 : decode cX16_houseTold 69 = .ok (.dup, 1) := by decide +kernel
theorem dX16_houseTold_78 : decode cX16_houseTold 78 = .ok (.iastore, 1) := by decide +kernel
theorem dX16_houseTold_85 : decode cX16_houseTold 85 = .ok (.iastore, 1) := by decide +kernel
theorem dX16_houseTold_92 : decode cX16_houseTold 92 = .ok (.iastore, 1) := by decide +kernel
theorem dX16_houseTold_100 : decode cX16_houseTold 100 = .ok (.iastore, 1) := by decide +kernel
theorem dX16_houseTold_106 : decode cX16_houseTold 106 = .ok (.astore_n 3, 1) := by decide +kernel
theorem dX16_house_0 : decode cX16_house 0 = .ok (.aload_n 0, 1) := by decide +kernel
theorem dX16_house_8 : decode cX16_house 8 = .ok (.ifCond .ne 7, 3) := by decide +kernel
theorem dX16_house_17 : decode cX16_house 17 = .ok (.invokevirtual 196, 3) := by decide +kernel
theorem dX16_house_28 : decode cX16_house 28 = .ok (.iload_n 1, 1) := by decide +kernel
theorem dX16_fits_2 : decode cX16_fits 2 = .ok (.iload_n 1, 1) := by decide +kernel
theorem dX16_fits_36 : decode cX16_fits 36 = .ok (.iconst 0, 1) := by decide +kernel
theorem dX16_would_3 : decode cX16_would 3 = .ok (.invokevirtual 213, 3) := by decide +kernel
theorem dX16_would_47 : decode cX16_would 47 = .ok (.goto 32, 3) := by decide +kernel
theorem dX16_narrowest_3 : decode cX16_narrowest 3 = .ok (.invokevirtual 213, 3) := by decide +kernel
theorem dX16_narrowest_14 : decode cX16_narrowest 14 = .ok (.ireturn, 1) := by decide +kernel
theorem dX16_least__6 : decode cX16_least_ 6 = .ok (.iconst 1, 1) := by decide +kernel
theorem dX16_least__77 : decode cX16_least_ 77 = .ok (.ireturn, 1) := by decide +kernel
theorem dX16_leastLine_6 : decode cX16_leastLine 6 = .ok (.iconst 1, 1) := by decide +kernel
theorem dX16_leastLine_76 : decode cX16_leastLine 76 = .ok (.areturn, 1) := by decide +kernel
theorem dX16_isWhole_8 : decode cX16_isWhole 8 = .ok (.iconst 2, 1) := by decide +kernel
theorem dX16_isWhole_15 : decode cX16_isWhole 15 = .ok (.aload_n 0, 1) := by decide +kernel
theorem dX16_isWhole_291 : decode cX16_isWhole 291 = .ok (.ireturn, 1) := by decide +kernel
theorem dX16_isSound_6 : decode cX16_isSound 6 = .ok (.invokevirtual 365, 3) := by decide +kernel
theorem dX16_add_5 : decode cX16_add 5 = .ok (.lload_n 2, 1) := by decide +kernel
theorem dX16_digest_2 : decode cX16_digest 2 = .ok (.putfield 176, 3) := by decide +kernel
theorem dX16_digest_11 : decode cX16_digest 11 = .ok (.iload_n 3, 1) := by decide +kernel
theorem dX16_digest_19 : decode cX16_digest 19 = .ok (.iload_n 3, 1) := by decide +kernel
theorem dX16_digest_28 : decode cX16_digest 28 = .ok (.iinc 3 1, 3) := by decide +kernel
theorem dX16_digest_41 : decode cX16_digest 41 = .ok (.iconst 1, 1) := by decide +kernel
theorem dX16_digest_201 : decode cX16_digest 201 = .ok (.aload_n 0, 1) := by decide +kernel
theorem dX16_digest_280 : decode cX16_digest 280 = .ok (.aload_n 0, 1) := by decide +kernel
theorem dX16_digest_291 : decode cX16_digest 291 = .ok (.aload_n 0, 1) := by decide +kernel
theorem dX16_digest_300 : decode cX16_digest 300 = .ok (.aload_n 0, 1) := by decide +kernel
theorem dX16_digest_309 : decode cX16_digest 309 = .ok (.lstore_n 1, 1) := by decide +kernel
theorem dX16_digest_315 : decode cX16_digest 315 = .ok (.if_icmp .ge 20, 3) := by decide +kernel
theorem dX16_digest_324 : decode cX16_digest 324 = .ok (.i2l, 1) := by decide +kernel
theorem dX16_digest_335 : decode cX16_digest 335 = .ok (.aload_n 0, 1) := by decide +kernel
theorem dX16_digest_396 : decode cX16_digest 396 = .ok (.invokevirtual 365, 3) := by decide +kernel
theorem dJ5_init_d00df_0 : decode cJ5_init_d00df 0 = .ok (.aload_n 0, 1) := by decide +kernel
theorem dJ5_init_d00df_11 : decode cJ5_init_d00df 11 = .ok (.iload_n 1, 1) := by decide +kernel
theorem dJ5_init_d00df_19 : decode cJ5_init_d00df 19 = .ok (.putfield 22, 3) := by decide +kernel
theorem dJ5_length_8abf5_4 : decode cJ5_length_8abf5 4 = .ok (.ireturn, 1) := by decide +kernel
theorem dJ5_ensureCapacityInternal_d00df_6 : decode cJ5_ensureCapacityInternal_d00df 6 = .ok (.getfield 22, 3) := by decide +kernel
theorem dJ5_ensureCapacityInternal_d00df_13 : decode cJ5_ensureCapacityInternal_d00df 13 = .ok (.isub, 1) := by decide +kernel
theorem dJ5_setLength_d00df_13 : decode cJ5_setLength_d00df 13 = .ok (.aload_n 0, 1) := by decide +kernel
theorem dJ5_setLength_d00df_22 : decode cJ5_setLength_d00df 22 = .ok (.iload_n 1, 1) := by decide +kernel
theorem dJ5_setLength_d00df_68 : decode cJ5_setLength_d00df 68 = .ok (.if_icmp .le 8, 3) := by decide +kernel
theorem dJ5_append_cf1ce_0 : decode cJ5_append_cf1ce 0 = .ok (.aload_n 1, 1) := by decide +kernel
theorem dJ5_append_cf1ce_14 : decode cJ5_append_cf1ce 14 = .ok (.aload_n 0, 1) := by decide +kernel
theorem dJ5_append_cf1ce_21 : decode cJ5_append_cf1ce 21 = .ok (.invokevirtual 100, 3) := by decide +kernel
theorem dJ5_append_cf1ce_30 : decode cJ5_append_cf1ce 30 = .ok (.invokevirtual 208, 3) := by decide +kernel
theorem dJ5_append_cf1ce_39 : decode cJ5_append_cf1ce 39 = .ok (.iadd, 1) := by decide +kernel
theorem dJ5_append_3fe6f_1 : decode cJ5_append_3fe6f 1 = .ok (.aload_n 0, 1) := by decide +kernel
theorem dJ5_append_3fe6f_10 : decode cJ5_append_3fe6f 10 = .ok (.aload_n 0, 1) := by decide +kernel
theorem dJ5_append_3fe6f_21 : decode cJ5_append_3fe6f 21 = .ok (.ifCond .eq 24, 3) := by decide +kernel
theorem dJ5_append_3fe6f_30 : decode cJ5_append_3fe6f 30 = .ok (.getfield 79, 3) := by decide +kernel
theorem dJ5_append_3fe6f_39 : decode cJ5_append_3fe6f 39 = .ok (.iload_n 1, 1) := by decide +kernel
theorem dJ5_append_3fe6f_76 : decode cJ5_append_3fe6f 76 = .ok (.areturn, 1) := by decide +kernel
theorem dJ5_isLatin1_aae02_3 : decode cJ5_isLatin1_aae02 3 = .ok (.ifCond .eq 14, 3) := by decide +kernel
theorem dJ5_isLatin1_aae02_14 : decode cJ5_isLatin1_aae02 14 = .ok (.goto 4, 3) := by decide +kernel
theorem dJ5_inflateIfNeededFor_a7421_7 : decode cJ5_inflateIfNeededFor_a7421 7 = .ok (.getfield 22, 3) := by decide +kernel
theorem dJ5_putStringAt_47b60_0 : decode cJ5_putStringAt_47b60 0 = .ok (.aload_n 0, 1) := by decide +kernel
theorem dJ5_putStringAt_47b60_7 : decode cJ5_putStringAt_47b60 7 = .ok (.getfield 15, 3) := by decide +kernel
theorem dJ5_putStringAt_47b60_18 : decode cJ5_putStringAt_47b60 18 = .ok (.return_, 1) := by decide +kernel
theorem dJ0_init_81219_6 : decode cJ0_init_81219 6 = .ok (.return_, 1) := by decide +kernel
theorem dJ0_length_8abf5_6 : decode cJ0_length_8abf5 6 = .ok (.invokevirtual 335, 3) := by decide +kernel
theorem dJ0_isEmpty_aae02_4 : decode cJ0_isEmpty_aae02 4 = .ok (.arraylength, 1) := by decide +kernel
theorem dJ0_isEmpty_aae02_13 : decode cJ0_isEmpty_aae02 13 = .ok (.ireturn, 1) := by decide +kernel
theorem dJ0_charAt_5068e_8 : decode cJ0_charAt_5068e 8 = .ok (.getfield 9, 3) := by decide +kernel
theorem dJ0_equals_9ea2d_1 : decode cJ0_equals_9ea2d 1 = .ok (.aload_n 1, 1) := by decide +kernel
theorem dJ0_equals_9ea2d_8 : decode cJ0_equals_9ea2d 8 = .ok (.instanceof 10, 3) := by decide +kernel
theorem dJ0_equals_9ea2d_19 : decode cJ0_equals_9ea2d 19 = .ok (.getstatic 38, 3) := by decide +kernel
theorem dJ0_equals_9ea2d_30 : decode cJ0_equals_9ea2d 30 = .ok (.getfield 15, 3) := by decide +kernel
theorem dJ0_equals_9ea2d_41 : decode cJ0_equals_9ea2d 41 = .ok (.getfield 9, 3) := by decide +kernel
theorem dJ0_equals_9ea2d_55 : decode cJ0_equals_9ea2d 55 = .ok (.ireturn, 1) := by decide +kernel
theorem dJ0_substring_37a41_6 : decode cJ0_substring_37a41 6 = .ok (.iload_n 2, 1) := by decide +kernel
theorem dJ0_substring_37a41_15 : decode cJ0_substring_37a41 15 = .ok (.iload_n 2, 1) := by decide +kernel
theorem dJ0_substring_37a41_24 : decode cJ0_substring_37a41 24 = .ok (.isub, 1) := by decide +kernel
theorem dJ0_substring_37a41_34 : decode cJ0_substring_37a41 34 = .ok (.aload_n 0, 1) := by decide +kernel
theorem dJ0_substring_37a41_44 : decode cJ0_substring_37a41 44 = .ok (.goto 13, 3) := by decide +kernel
theorem dJ0_getBytes_840e7_5 : decode cJ0_getBytes_840e7 5 = .ok (.if_icmp .ne 23, 3) := by decide +kernel
theorem dJ0_getBytes_840e7_14 : decode cJ0_getBytes_840e7 14 = .ok (.iload_n 2, 1) := by decide +kernel
theorem dJ0_getBytes_840e7_21 : decode cJ0_getBytes_840e7 21 = .ok (.arraylength, 1) := by decide +kernel
theorem dJ0_init_db425_1 : decode cJ0_init_db425 1 = .ok (.invokespecial 1, 3) := by decide +kernel
theorem dJ0_init_db425_10 : decode cJ0_init_db425 10 = .ok (.invokevirtual 549, 3) := by decide +kernel
theorem dJ0_init_db425_22 : decode cJ0_init_db425 22 = .ok (.aload_n 0, 1) := by decide +kernel
theorem dJ0_init_db425_29 : decode cJ0_init_db425 29 = .ok (.iconst 0, 1) := by decide +kernel
theorem dJ0_init_db425_97 : decode cJ0_init_db425 97 = .ok (.return_, 1) := by decide +kernel
theorem dJ0_init_031fb_6 : decode cJ0_init_031fb 6 = .ok (.putfield 9, 3) := by decide +kernel
theorem dJ0_coder_7d493_0 : decode cJ0_coder_7d493 0 = .ok (.getstatic 38, 3) := by decide +kernel
theorem dJ0_coder_7d493_14 : decode cJ0_coder_7d493 14 = .ok (.ireturn, 1) := by decide +kernel
theorem dJ0_isLatin1_aae02_10 : decode cJ0_isLatin1_aae02 10 = .ok (.ifCond .ne 7, 3) := by decide +kernel
theorem dJ0_checkIndex_df160_1 : decode cJ0_checkIndex_df160 1 = .ok (.iload_n 1, 1) := by decide +kernel
theorem dJ0_checkBoundsBeginEnd_23922_0 : decode cJ0_checkBoundsBeginEnd_23922 0 = .ok (.iload_n 0, 1) := by decide +kernel
theorem dJ0_checkBoundsBeginEnd_23922_9 : decode cJ0_checkBoundsBeginEnd_23922 9 = .ok (.pop, 1) := by decide +kernel
theorem dJ4_init_da8c8_6 : decode cJ4_init_da8c8 6 = .ok (.return_, 1) := by decide +kernel
theorem dJ4_append_15ec4_6 : decode cJ4_append_15ec4 6 = .ok (.aload_n 0, 1) := by decide +kernel
theorem dJ4_append_cf468_5 : decode cJ4_append_cf468 5 = .ok (.pop, 1) := by decide +kernel
theorem dJ4_toString_0e30d_4 : decode cJ4_toString_0e30d 4 = .ok (.aload_n 0, 1) := by decide +kernel
theorem dJ4_setLength_d00df_2 : decode cJ4_setLength_d00df 2 = .ok (.invokespecial 333, 3) := by decide +kernel
theorem dJ1_charAt_3b067_0 : decode cJ1_charAt_3b067 0 = .ok (.iload_n 1, 1) := by decide +kernel
theorem dJ1_charAt_3b067_7 : decode cJ1_charAt_3b067 7 = .ok (.iload_n 1, 1) := by decide +kernel
theorem dJ1_charAt_3b067_14 : decode cJ1_charAt_3b067 14 = .ok (.ireturn, 1) := by decide +kernel
theorem dJ1_canEncode_fc78d_8 : decode cJ1_canEncode_fc78d 8 = .ok (.goto 4, 3) := by decide +kernel
theorem dJ1_equals_b5fdf_3 : decode cJ1_equals_b5fdf 3 = .ok (.arraylength, 1) := by decide +kernel
theorem dJ1_equals_b5fdf_10 : decode cJ1_equals_b5fdf 10 = .ok (.aload_n 0, 1) := by decide +kernel
theorem dJ1_newString_b4f7a_0 : decode cJ1_newString_b4f7a 0 = .ok (.iload_n 2, 1) := by decide +kernel
theorem dJ1_newString_b4f7a_10 : decode cJ1_newString_b4f7a 10 = .ok (.dup, 1) := by decide +kernel
theorem dJ1_newString_b4f7a_15 : decode cJ1_newString_b4f7a 15 = .ok (.iadd, 1) := by decide +kernel
theorem dJxa1e45_init_da8c8_0 : decode cJxa1e45_init_da8c8 0 = .ok (.aload_n 0, 1) := by decide +kernel
theorem dJxc12de_init_da8c8_4 : decode cJxc12de_init_da8c8 4 = .ok (.aload_n 0, 1) := by decide +kernel
theorem dJx35411_init_45d68_1 : decode cJx35411_init_45d68 1 = .ok (.aload_n 1, 1) := by decide +kernel
theorem dJx35411_init_45d68_10 : decode cJx35411_init_45d68 10 = .ok (.iconst (-1), 1) := by decide +kernel
theorem dJx35411_init_45d68_19 : decode cJx35411_init_45d68 19 = .ok (.getfield 17, 3) := by decide +kernel
theorem dJx35411_hasNext_aae02_4 : decode cJx35411_hasNext_aae02 4 = .ok (.aload_n 0, 1) := by decide +kernel
theorem dJx35411_hasNext_aae02_19 : decode cJx35411_hasNext_aae02 19 = .ok (.ireturn, 1) := by decide +kernel
theorem dJx4a65c_init_da8c8_8 : decode cJx4a65c_init_da8c8 8 = .ok (.putfield 9, 3) := by decide +kernel
theorem dJx4a65c_grow_92f84_5 : decode cJx4a65c_grow_92f84 5 = .ok (.istore_n 2, 1) := by decide +kernel
theorem dJx4a65c_grow_92f84_14 : decode cJx4a65c_grow_92f84 14 = .ok (.getstatic 39, 3) := by decide +kernel
theorem dJx4a65c_grow_92f84_49 : decode cJx4a65c_grow_92f84 49 = .ok (.invokestatic 79, 3) := by decide +kernel
theorem dJx4a65c_grow_d5877_0 : decode cJx4a65c_grow_d5877 0 = .ok (.aload_n 0, 1) := by decide +kernel
theorem dJx4a65c_grow_d5877_7 : decode cJx4a65c_grow_d5877 7 = .ok (.invokevirtual 69, 3) := by decide +kernel
theorem dJx4a65c_isEmpty_aae02_0 : decode cJx4a65c_isEmpty_aae02 0 = .ok (.aload_n 0, 1) := by decide +kernel
theorem dJx4a65c_isEmpty_aae02_12 : decode cJx4a65c_isEmpty_aae02 12 = .ok (.ireturn, 1) := by decide +kernel
theorem dJx4a65c_add_72be8_6 : decode cJx4a65c_add_72be8 6 = .ok (.aload_n 0, 1) := by decide +kernel
theorem dJx4a65c_add_72be8_13 : decode cJx4a65c_add_72be8 13 = .ok (.aload_n 1, 1) := by decide +kernel
theorem dJx4a65c_add_72be8_18 : decode cJx4a65c_add_72be8 18 = .ok (.iadd, 1) := by decide +kernel
theorem dJx4a65c_add_9ea2d_2 : decode cJx4a65c_add_9ea2d 2 = .ok (.getfield 63, 3) := by decide +kernel
theorem dJx4a65c_add_9ea2d_11 : decode cJx4a65c_add_9ea2d 11 = .ok (.aload_n 1, 1) := by decide +kernel
theorem dJx4a65c_add_9ea2d_20 : decode cJx4a65c_add_9ea2d 20 = .ok (.invokevirtual 131, 3) := by decide +kernel
theorem dJx4a65c_iterator_32c93_4 : decode cJx4a65c_iterator_32c93 4 = .ok (.aload_n 0, 1) := by decide +kernel
theorem dJ7_checkLength_df160_2 : decode cJ7_checkLength_df160 2 = .ok (.if_icmp .ge 35, 3) := by decide +kernel
theorem dJ7_copyOfRange_39247_5 : decode cJ7_copyOfRange_39247 5 = .ok (.aload_n 0, 1) := by decide +kernel
theorem dJ7_copyOfRange_39247_12 : decode cJ7_copyOfRange_39247 12 = .ok (.iload_n 2, 1) := by decide +kernel
theorem dJ7_copyOfRangeByte_39247_2 : decode cJ7_copyOfRangeByte_39247 2 = .ok (.invokestatic 343, 3) := by decide +kernel
theorem dJ7_copyOfRangeByte_39247_9 : decode cJ7_copyOfRangeByte_39247 9 = .ok (.iload_n 3, 1) := by decide +kernel
theorem dJ7_copyOfRangeByte_39247_16 : decode cJ7_copyOfRangeByte_39247 16 = .ok (.aload 4, 2) := by decide +kernel
theorem dJ7_copyOfRangeByte_39247_22 : decode cJ7_copyOfRangeByte_39247 22 = .ok (.isub, 1) := by decide +kernel
theorem dJ7_copyOfRangeByte_39247_32 : decode cJ7_copyOfRangeByte_39247 32 = .ok (.areturn, 1) := by decide +kernel
theorem dJ3_checkIndex_8e157_6 : decode cJ3_checkIndex_8e157 6 = .ok (.if_icmp .lt 10, 3) := by decide +kernel
theorem dJ3_checkFromToIndex_8c36e_4 : decode cJ3_checkFromToIndex_8c36e 4 = .ok (.iload_n 0, 1) := by decide +kernel
theorem dJ3_checkFromToIndex_8c36e_11 : decode cJ3_checkFromToIndex_8c36e 11 = .ok (.if_icmp .le 11, 3) := by decide +kernel
theorem dL_word_2 : decode cL_word 2 = .ok (.iload_n 1, 1) := by decide +kernel
theorem dL_word_11 : decode cL_word 11 = .ok (.goto 11, 3) := by decide +kernel
theorem dL_word_23 : decode cL_word 23 = .ok (.ireturn, 1) := by decide +kernel
theorem dL_mark_6 : decode cL_mark 6 = .ok (.i2l, 1) := by decide +kernel
theorem dL_mark_15 : decode cL_mark 15 = .ok (.ireturn, 1) := by decide +kernel
theorem dL_join_2 : decode cL_join 2 = .ok (.iload_n 1, 1) := by decide +kernel
theorem dL_join_17 : decode cL_join 17 = .ok (.ireturn, 1) := by decide +kernel
theorem dL_nest_4 : decode cL_nest 4 = .ok (.invokevirtual 32, 3) := by decide +kernel
theorem dL_align_1 : decode cL_align 1 = .ok (.aload_n 0, 1) := by decide +kernel
theorem dL_align_15 : decode cL_align 15 = .ok (.ireturn, 1) := by decide +kernel
theorem dL_group_13 : decode cL_group 13 = .ok (.astore_n 3, 1) := by decide +kernel
theorem dL_fill_2 : decode cL_fill 2 = .ok (.iload_n 1, 1) := by decide +kernel
theorem dL_fill_17 : decode cL_fill 17 = .ok (.ireturn, 1) := by decide +kernel
theorem dL_width_6 : decode cL_width 6 = .ok (.i2l, 1) := by decide +kernel
theorem dL_width_15 : decode cL_width 15 = .ok (.ireturn, 1) := by decide +kernel
theorem dL_ribbon_2 : decode cL_ribbon 2 = .ok (.iload_n 1, 1) := by decide +kernel
theorem dL_ribbon_13 : decode cL_ribbon 13 = .ok (.astore_n 3, 1) := by decide +kernel
theorem dL_say_0 : decode cL_say 0 = .ok (.aload 7, 2) := by decide +kernel
theorem dL_say_6 : decode cL_say 6 = .ok (.iload 4, 2) := by decide +kernel
theorem dL_say_16 : decode cL_say 16 = .ok (.putfield 13, 3) := by decide +kernel
theorem dL_say_30 : decode cL_say 30 = .ok (.iconst 0, 1) := by decide +kernel
theorem dL_read_5 : decode cL_read 5 = .ok (.i2l, 1) := by decide +kernel
theorem dL_ofNode_0 : decode cL_ofNode 0 = .ok (.aload_n 3, 1) := by decide +kernel
theorem dL_ofNode_14 : decode cL_ofNode 14 = .ok (.astore 4, 2) := by decide +kernel
theorem dL_flat_2 : decode cL_flat 2 = .ok (.iload_n 1, 1) := by decide +kernel
theorem dL_line_0 : decode cL_line 0 = .ok (.aload_n 3, 1) := by decide +kernel
theorem dL_line_13 : decode cL_line 13 = .ok (.astore 4, 2) := by decide +kernel
theorem dL_measure_2 : decode cL_measure 2 = .ok (.iload_n 1, 1) := by decide +kernel
theorem dL_measure_17 : decode cL_measure 17 = .ok (.ireturn, 1) := by decide +kernel
theorem dL_at_5 : decode cL_at 5 = .ok (.iload_n 3, 1) := by decide +kernel
theorem dL_where_0 : decode cL_where 0 = .ok (.aload 4, 2) := by decide +kernel
theorem dL_where_6 : decode cL_where 6 = .ok (.invokevirtual 80, 3) := by decide +kernel
theorem dL_isOne_1 : decode cL_isOne 1 = .ok (.aload_n 0, 1) := by decide +kernel
theorem dL_isOne_16 : decode cL_isOne 16 = .ok (.iconst 1, 1) := by decide +kernel
theorem dL_differ_4 : decode cL_differ 4 = .ok (.iload_n 2, 1) := by decide +kernel
theorem dL_differ_19 : decode cL_differ 19 = .ok (.ireturn, 1) := by decide +kernel
theorem dL_ofCode_6 : decode cL_ofCode 6 = .ok (.i2l, 1) := by decide +kernel
theorem dL_ofCode_15 : decode cL_ofCode 15 = .ok (.ireturn, 1) := by decide +kernel
theorem dL_codeLine_2 : decode cL_codeLine 2 = .ok (.iload_n 1, 1) := by decide +kernel
theorem dL_codeLine_13 : decode cL_codeLine 13 = .ok (.iconst 1, 1) := by decide +kernel
theorem dL_house_1 : decode cL_house 1 = .ok (.aload_n 0, 1) := by decide +kernel
theorem dL_house_10 : decode cL_house 10 = .ok (.goto 6, 3) := by decide +kernel
theorem dL_house_17 : decode cL_house 17 = .ok (.ireturn, 1) := by decide +kernel
theorem dL_fits_4 : decode cL_fits 4 = .ok (.invokevirtual 99, 3) := by decide +kernel
theorem dL_would_2 : decode cL_would 2 = .ok (.aload_n 0, 1) := by decide +kernel
theorem dL_would_16 : decode cL_would 16 = .ok (.astore 5, 2) := by decide +kernel
theorem dL_narrowest_2 : decode cL_narrowest 2 = .ok (.iload_n 1, 1) := by decide +kernel
theorem dL_least_0 : decode cL_least 0 = .ok (.aload_n 3, 1) := by decide +kernel
theorem dL_least_14 : decode cL_least 14 = .ok (.astore 4, 2) := by decide +kernel
theorem dL_leastLine_2 : decode cL_leastLine 2 = .ok (.iload_n 1, 1) := by decide +kernel
theorem dL_leastLine_16 : decode cL_leastLine 16 = .ok (.ireturn, 1) := by decide +kernel
theorem dL_law_8 : decode cL_law 8 = .ok (.new 116, 3) := by decide +kernel
theorem dL_law_19 : decode cL_law 19 = .ok (.dup, 1) := by decide +kernel
theorem dL_law_27 : decode cL_law 27 = .ok (.iload 4, 2) := by decide +kernel
theorem dL_law_34 : decode cL_law 34 = .ok (.if_icmp .gt 2188, 3) := by decide +kernel
theorem dL_law_43 : decode cL_law 43 = .ok (.iand, 1) := by decide +kernel
theorem dL_law_208 : decode cL_law 208 = .ok (.iconst 1, 1) := by decide +kernel
theorem dL_law_214 : decode cL_law 214 = .ok (.iconst 2, 1) := by decide +kernel
theorem dL_law_221 : decode cL_law 221 = .ok (.istore 5, 2) := by decide +kernel
theorem dL_law_228 : decode cL_law 228 = .ok (.iadd, 1) := by decide +kernel
theorem dL_law_234 : decode cL_law 234 = .ok (.iadd, 1) := by decide +kernel
theorem dL_law_242 : decode cL_law 242 = .ok (.invokevirtual 126, 3) := by decide +kernel
theorem dL_law_257 : decode cL_law 257 = .ok (.aload_n 3, 1) := by decide +kernel
theorem dL_law_265 : decode cL_law 265 = .ok (.ifCond .eq 5, 3) := by decide +kernel
theorem dL_law_277 : decode cL_law 277 = .ok (.iconst 1, 1) := by decide +kernel
theorem dL_law_284 : decode cL_law 284 = .ok (.istore 5, 2) := by decide +kernel
theorem dL_law_291 : decode cL_law 291 = .ok (.iadd, 1) := by decide +kernel
theorem dL_law_299 : decode cL_law 299 = .ok (.invokevirtual 126, 3) := by decide +kernel
theorem dL_law_314 : decode cL_law 314 = .ok (.aload_n 3, 1) := by decide +kernel
theorem dL_law_322 : decode cL_law 322 = .ok (.ifCond .eq 5, 3) := by decide +kernel
theorem dL_law_334 : decode cL_law 334 = .ok (.iconst 1, 1) := by decide +kernel
theorem dL_law_340 : decode cL_law 340 = .ok (.iconst 2, 1) := by decide +kernel
theorem dL_law_347 : decode cL_law 347 = .ok (.istore 5, 2) := by decide +kernel
theorem dL_law_354 : decode cL_law 354 = .ok (.iadd, 1) := by decide +kernel
theorem dL_law_360 : decode cL_law 360 = .ok (.iadd, 1) := by decide +kernel
theorem dL_law_368 : decode cL_law 368 = .ok (.invokevirtual 126, 3) := by decide +kernel
theorem dL_law_396 : decode cL_law 396 = .ok (.goto 1820, 3) := by decide +kernel
theorem dL_law_404 : decode cL_law 404 = .ok (.iadd, 1) := by decide +kernel
theorem dL_law_410 : decode cL_law 410 = .ok (.iadd, 1) := by decide +kernel
theorem dL_law_418 : decode cL_law 418 = .ok (.aload_n 2, 1) := by decide +kernel
theorem dL_law_424 : decode cL_law 424 = .ok (.iaload, 1) := by decide +kernel
theorem dL_law_430 : decode cL_law 430 = .ok (.iaload, 1) := by decide +kernel
theorem dL_law_440 : decode cL_law 440 = .ok (.iload 5, 2) := by decide +kernel
theorem dL_law_468 : decode cL_law 468 = .ok (.aload_n 1, 1) := by decide +kernel
theorem dL_law_474 : decode cL_law 474 = .ok (.iaload, 1) := by decide +kernel
theorem dL_law_482 : decode cL_law 482 = .ok (.aload_n 0, 1) := by decide +kernel
theorem dL_law_488 : decode cL_law 488 = .ok (.invokevirtual 141, 3) := by decide +kernel
theorem dL_law_499 : decode cL_law 499 = .ok (.if_icmp .eq 5, 3) := by decide +kernel
theorem dL_law_526 : decode cL_law 526 = .ok (.aload_n 0, 1) := by decide +kernel
theorem dL_law_532 : decode cL_law 532 = .ok (.aload_n 3, 1) := by decide +kernel
theorem dL_law_540 : decode cL_law 540 = .ok (.iload 4, 2) := by decide +kernel
theorem dL_law_548 : decode cL_law 548 = .ok (.istore 6, 2) := by decide +kernel
theorem dL_law_561 : decode cL_law 561 = .ok (.iload 5, 2) := by decide +kernel
theorem dL_law_584 : decode cL_law 584 = .ok (.iload 4, 2) := by decide +kernel
theorem dL_law_590 : decode cL_law 590 = .ok (.iload 4, 2) := by decide +kernel
theorem dL_law_596 : decode cL_law 596 = .ok (.invokestatic 145, 3) := by decide +kernel
theorem dL_law_605 : decode cL_law 605 = .ok (.iconst 1, 1) := by decide +kernel
theorem dL_law_611 : decode cL_law 611 = .ok (.iconst 2, 1) := by decide +kernel
theorem dL_law_619 : decode cL_law 619 = .ok (.aload_n 2, 1) := by decide +kernel
theorem dL_law_632 : decode cL_law 632 = .ok (.ifCond .ne 16, 3) := by decide +kernel
theorem dL_law_656 : decode cL_law 656 = .ok (.invokevirtual 151, 3) := by decide +kernel
theorem dL_law_668 : decode cL_law 668 = .ok (.iconst 1, 1) := by decide +kernel
theorem dL_law_675 : decode cL_law 675 = .ok (.istore 5, 2) := by decide +kernel
theorem dL_law_682 : decode cL_law 682 = .ok (.iadd, 1) := by decide +kernel
theorem dL_law_690 : decode cL_law 690 = .ok (.invokevirtual 126, 3) := by decide +kernel
theorem dL_law_705 : decode cL_law 705 = .ok (.aload_n 3, 1) := by decide +kernel
theorem dL_law_713 : decode cL_law 713 = .ok (.ifCond .eq 5, 3) := by decide +kernel
theorem dL_law_725 : decode cL_law 725 = .ok (.iconst 1, 1) := by decide +kernel
theorem dL_law_732 : decode cL_law 732 = .ok (.istore 5, 2) := by decide +kernel
theorem dL_law_739 : decode cL_law 739 = .ok (.iadd, 1) := by decide +kernel
theorem dL_law_747 : decode cL_law 747 = .ok (.invokevirtual 126, 3) := by decide +kernel
theorem dL_law_762 : decode cL_law 762 = .ok (.aload_n 3, 1) := by decide +kernel
theorem dL_law_770 : decode cL_law 770 = .ok (.ifCond .eq 5, 3) := by decide +kernel
theorem dL_law_782 : decode cL_law 782 = .ok (.iconst 1, 1) := by decide +kernel
theorem dL_law_788 : decode cL_law 788 = .ok (.iconst 2, 1) := by decide +kernel
theorem dL_law_794 : decode cL_law 794 = .ok (.iconst 3, 1) := by decide +kernel
theorem dL_law_800 : decode cL_law 800 = .ok (.iconst 4, 1) := by decide +kernel
theorem dL_law_806 : decode cL_law 806 = .ok (.iconst 5, 1) := by decide +kernel
theorem dL_law_812 : decode cL_law 812 = .ok (.bipush 6, 2) := by decide +kernel
theorem dL_law_820 : decode cL_law 820 = .ok (.istore 5, 2) := by decide +kernel
theorem dL_law_827 : decode cL_law 827 = .ok (.iadd, 1) := by decide +kernel
theorem dL_law_833 : decode cL_law 833 = .ok (.iadd, 1) := by decide +kernel
theorem dL_law_839 : decode cL_law 839 = .ok (.iadd, 1) := by decide +kernel
theorem dL_law_845 : decode cL_law 845 = .ok (.iadd, 1) := by decide +kernel
theorem dL_law_851 : decode cL_law 851 = .ok (.iadd, 1) := by decide +kernel
theorem dL_law_858 : decode cL_law 858 = .ok (.iadd, 1) := by decide +kernel
theorem dL_law_866 : decode cL_law 866 = .ok (.invokevirtual 126, 3) := by decide +kernel
theorem dL_law_881 : decode cL_law 881 = .ok (.aload_n 3, 1) := by decide +kernel
theorem dL_law_889 : decode cL_law 889 = .ok (.ifCond .eq 5, 3) := by decide +kernel
theorem dL_law_902 : decode cL_law 902 = .ok (.istore 5, 2) := by decide +kernel
theorem dL_law_911 : decode cL_law 911 = .ok (.invokevirtual 126, 3) := by decide +kernel
theorem dL_law_926 : decode cL_law 926 = .ok (.aload_n 3, 1) := by decide +kernel
theorem dL_law_934 : decode cL_law 934 = .ok (.ifCond .eq 5, 3) := by decide +kernel
theorem dL_law_947 : decode cL_law 947 = .ok (.invokevirtual 169, 3) := by decide +kernel
theorem dL_law_960 : decode cL_law 960 = .ok (.invokevirtual 173, 3) := by decide +kernel
theorem dL_law_973 : decode cL_law 973 = .ok (.invokevirtual 177, 3) := by decide +kernel
theorem dL_law_985 : decode cL_law 985 = .ok (.iconst 1, 1) := by decide +kernel
theorem dL_law_991 : decode cL_law 991 = .ok (.iconst 2, 1) := by decide +kernel
theorem dL_law_998 : decode cL_law 998 = .ok (.istore 5, 2) := by decide +kernel
theorem dL_law_1005 : decode cL_law 1005 = .ok (.iadd, 1) := by decide +kernel
theorem dL_law_1011 : decode cL_law 1011 = .ok (.iadd, 1) := by decide +kernel
theorem dL_law_1019 : decode cL_law 1019 = .ok (.invokevirtual 126, 3) := by decide +kernel
theorem dL_law_1047 : decode cL_law 1047 = .ok (.goto 1169, 3) := by decide +kernel
theorem dL_law_1055 : decode cL_law 1055 = .ok (.iadd, 1) := by decide +kernel
theorem dL_law_1063 : decode cL_law 1063 = .ok (.aload_n 2, 1) := by decide +kernel
theorem dL_law_1069 : decode cL_law 1069 = .ok (.iaload, 1) := by decide +kernel
theorem dL_law_1079 : decode cL_law 1079 = .ok (.iload 5, 2) := by decide +kernel
theorem dL_law_1108 : decode cL_law 1108 = .ok (.aload_n 1, 1) := by decide +kernel
theorem dL_law_1114 : decode cL_law 1114 = .ok (.iaload, 1) := by decide +kernel
theorem dL_law_1120 : decode cL_law 1120 = .ok (.iaload, 1) := by decide +kernel
theorem dL_law_1128 : decode cL_law 1128 = .ok (.aload_n 0, 1) := by decide +kernel
theorem dL_law_1134 : decode cL_law 1134 = .ok (.aload_n 0, 1) := by decide +kernel
theorem dL_law_1140 : decode cL_law 1140 = .ok (.invokevirtual 192, 3) := by decide +kernel
theorem dL_law_1151 : decode cL_law 1151 = .ok (.if_icmp .eq 5, 3) := by decide +kernel
theorem dL_law_1179 : decode cL_law 1179 = .ok (.aload_n 0, 1) := by decide +kernel
theorem dL_law_1185 : decode cL_law 1185 = .ok (.aload_n 0, 1) := by decide +kernel
theorem dL_law_1191 : decode cL_law 1191 = .ok (.aload_n 3, 1) := by decide +kernel
theorem dL_law_1199 : decode cL_law 1199 = .ok (.iload 4, 2) := by decide +kernel
theorem dL_law_1205 : decode cL_law 1205 = .ok (.iload 4, 2) := by decide +kernel
theorem dL_law_1213 : decode cL_law 1213 = .ok (.istore 6, 2) := by decide +kernel
theorem dL_law_1226 : decode cL_law 1226 = .ok (.iload 5, 2) := by decide +kernel
theorem dL_law_1249 : decode cL_law 1249 = .ok (.iload 4, 2) := by decide +kernel
theorem dL_law_1255 : decode cL_law 1255 = .ok (.iload 4, 2) := by decide +kernel
theorem dL_law_1261 : decode cL_law 1261 = .ok (.iload 4, 2) := by decide +kernel
theorem dL_law_1267 : decode cL_law 1267 = .ok (.invokestatic 196, 3) := by decide +kernel
theorem dL_law_1276 : decode cL_law 1276 = .ok (.iconst 1, 1) := by decide +kernel
theorem dL_law_1282 : decode cL_law 1282 = .ok (.iconst 2, 1) := by decide +kernel
theorem dL_law_1288 : decode cL_law 1288 = .ok (.iconst 3, 1) := by decide +kernel
theorem dL_law_1296 : decode cL_law 1296 = .ok (.aload_n 2, 1) := by decide +kernel
theorem dL_law_1309 : decode cL_law 1309 = .ok (.ifCond .ne 16, 3) := by decide +kernel
theorem dL_law_1332 : decode cL_law 1332 = .ok (.iconst 1, 1) := by decide +kernel
theorem dL_law_1338 : decode cL_law 1338 = .ok (.iconst 2, 1) := by decide +kernel
theorem dL_law_1344 : decode cL_law 1344 = .ok (.iconst 3, 1) := by decide +kernel
theorem dL_law_1351 : decode cL_law 1351 = .ok (.goto 4, 3) := by decide +kernel
theorem dL_law_1361 : decode cL_law 1361 = .ok (.aload_n 2, 1) := by decide +kernel
theorem dL_law_1367 : decode cL_law 1367 = .ok (.iaload, 1) := by decide +kernel
theorem dL_law_1373 : decode cL_law 1373 = .ok (.iaload, 1) := by decide +kernel
theorem dL_law_1379 : decode cL_law 1379 = .ok (.iaload, 1) := by decide +kernel
theorem dL_law_1388 : decode cL_law 1388 = .ok (.invokevirtual 203, 3) := by decide +kernel
theorem dL_law_1399 : decode cL_law 1399 = .ok (.if_icmp .eq 5, 3) := by decide +kernel
theorem dL_law_1426 : decode cL_law 1426 = .ok (.aload_n 0, 1) := by decide +kernel
theorem dL_law_1432 : decode cL_law 1432 = .ok (.aload_n 0, 1) := by decide +kernel
theorem dL_law_1438 : decode cL_law 1438 = .ok (.aload_n 3, 1) := by decide +kernel
theorem dL_law_1446 : decode cL_law 1446 = .ok (.iload 4, 2) := by decide +kernel
theorem dL_law_1452 : decode cL_law 1452 = .ok (.iload 4, 2) := by decide +kernel
theorem dL_law_1460 : decode cL_law 1460 = .ok (.istore 6, 2) := by decide +kernel
theorem dL_law_1473 : decode cL_law 1473 = .ok (.iload 5, 2) := by decide +kernel
theorem dL_law_1496 : decode cL_law 1496 = .ok (.iload 4, 2) := by decide +kernel
theorem dL_law_1502 : decode cL_law 1502 = .ok (.iload 4, 2) := by decide +kernel
theorem dL_law_1508 : decode cL_law 1508 = .ok (.iload 4, 2) := by decide +kernel
theorem dL_law_1516 : decode cL_law 1516 = .ok (.iconst 1, 1) := by decide +kernel
theorem dL_law_1525 : decode cL_law 1525 = .ok (.istore 5, 2) := by decide +kernel
theorem dL_law_1532 : decode cL_law 1532 = .ok (.iadd, 1) := by decide +kernel
theorem dL_law_1538 : decode cL_law 1538 = .ok (.iadd, 1) := by decide +kernel
theorem dL_law_1544 : decode cL_law 1544 = .ok (.iadd, 1) := by decide +kernel
theorem dL_law_1553 : decode cL_law 1553 = .ok (.iconst 0, 1) := by decide +kernel
theorem dL_law_1563 : decode cL_law 1563 = .ok (.iload 5, 2) := by decide +kernel
theorem dL_law_1591 : decode cL_law 1591 = .ok (.aload_n 1, 1) := by decide +kernel
theorem dL_law_1602 : decode cL_law 1602 = .ok (.ifCond .ne 614, 3) := by decide +kernel
theorem dL_law_1612 : decode cL_law 1612 = .ok (.iadd, 1) := by decide +kernel
theorem dL_law_1621 : decode cL_law 1621 = .ok (.iconst 0, 1) := by decide +kernel
theorem dL_law_1629 : decode cL_law 1629 = .ok (.iconst 1, 1) := by decide +kernel
theorem dL_law_1636 : decode cL_law 1636 = .ok (.goto 4, 3) := by decide +kernel
theorem dL_law_1649 : decode cL_law 1649 = .ok (.aload_n 0, 1) := by decide +kernel
theorem dL_law_1655 : decode cL_law 1655 = .ok (.aload_n 3, 1) := by decide +kernel
theorem dL_law_1663 : decode cL_law 1663 = .ok (.iload 4, 2) := by decide +kernel
theorem dL_law_1671 : decode cL_law 1671 = .ok (.istore 6, 2) := by decide +kernel
theorem dL_law_1684 : decode cL_law 1684 = .ok (.iload 5, 2) := by decide +kernel
theorem dL_law_1695 : decode cL_law 1695 = .ok (.i2l, 1) := by decide +kernel
theorem dL_law_1706 : decode cL_law 1706 = .ok (.invokevirtual 223, 3) := by decide +kernel
theorem dL_law_1721 : decode cL_law 1721 = .ok (.aload_n 1, 1) := by decide +kernel
theorem dL_law_1727 : decode cL_law 1727 = .ok (.iaload, 1) := by decide +kernel
theorem dL_law_1735 : decode cL_law 1735 = .ok (.aload_n 0, 1) := by decide +kernel
theorem dL_law_1741 : decode cL_law 1741 = .ok (.invokevirtual 229, 3) := by decide +kernel
theorem dL_law_1752 : decode cL_law 1752 = .ok (.if_icmp .eq 5, 3) := by decide +kernel
theorem dL_law_1766 : decode cL_law 1766 = .ok (.aload 6, 2) := by decide +kernel
theorem dL_law_1780 : decode cL_law 1780 = .ok (.aload_n 0, 1) := by decide +kernel
theorem dL_law_1786 : decode cL_law 1786 = .ok (.aload_n 3, 1) := by decide +kernel
theorem dL_law_1794 : decode cL_law 1794 = .ok (.iload 4, 2) := by decide +kernel
theorem dL_law_1802 : decode cL_law 1802 = .ok (.istore 6, 2) := by decide +kernel
theorem dL_law_1815 : decode cL_law 1815 = .ok (.iload 5, 2) := by decide +kernel
theorem dL_law_1826 : decode cL_law 1826 = .ok (.i2l, 1) := by decide +kernel
theorem dL_law_1837 : decode cL_law 1837 = .ok (.aload_n 0, 1) := by decide +kernel
theorem dL_law_1843 : decode cL_law 1843 = .ok (.aload_n 0, 1) := by decide +kernel
theorem dL_law_1849 : decode cL_law 1849 = .ok (.aload_n 3, 1) := by decide +kernel
theorem dL_law_1857 : decode cL_law 1857 = .ok (.iload 4, 2) := by decide +kernel
theorem dL_law_1863 : decode cL_law 1863 = .ok (.iload 4, 2) := by decide +kernel
theorem dL_law_1871 : decode cL_law 1871 = .ok (.istore 6, 2) := by decide +kernel
theorem dL_law_1884 : decode cL_law 1884 = .ok (.iload 5, 2) := by decide +kernel
theorem dL_law_1914 : decode cL_law 1914 = .ok (.iload 4, 2) := by decide +kernel
theorem dL_law_1920 : decode cL_law 1920 = .ok (.iload 4, 2) := by decide +kernel
theorem dL_law_1926 : decode cL_law 1926 = .ok (.iload 4, 2) := by decide +kernel
theorem dL_law_1932 : decode cL_law 1932 = .ok (.invokestatic 236, 3) := by decide +kernel
theorem dL_law_1941 : decode cL_law 1941 = .ok (.iconst 1, 1) := by decide +kernel
theorem dL_law_1947 : decode cL_law 1947 = .ok (.iconst 2, 1) := by decide +kernel
theorem dL_law_1953 : decode cL_law 1953 = .ok (.iconst 3, 1) := by decide +kernel
theorem dL_law_1961 : decode cL_law 1961 = .ok (.aload_n 2, 1) := by decide +kernel
theorem dL_law_1974 : decode cL_law 1974 = .ok (.ifCond .ne 16, 3) := by decide +kernel
theorem dL_law_1997 : decode cL_law 1997 = .ok (.iconst 1, 1) := by decide +kernel
theorem dL_law_2004 : decode cL_law 2004 = .ok (.istore 5, 2) := by decide +kernel
theorem dL_law_2011 : decode cL_law 2011 = .ok (.iadd, 1) := by decide +kernel
theorem dL_law_2019 : decode cL_law 2019 = .ok (.invokevirtual 126, 3) := by decide +kernel
theorem dL_law_2047 : decode cL_law 2047 = .ok (.goto 169, 3) := by decide +kernel
theorem dL_law_2055 : decode cL_law 2055 = .ok (.iadd, 1) := by decide +kernel
theorem dL_law_2061 : decode cL_law 2061 = .ok (.iadd, 1) := by decide +kernel
theorem dL_law_2069 : decode cL_law 2069 = .ok (.aload_n 2, 1) := by decide +kernel
theorem dL_law_2075 : decode cL_law 2075 = .ok (.iaload, 1) := by decide +kernel
theorem dL_law_2081 : decode cL_law 2081 = .ok (.iaload, 1) := by decide +kernel
theorem dL_law_2091 : decode cL_law 2091 = .ok (.iload 5, 2) := by decide +kernel
theorem dL_law_2119 : decode cL_law 2119 = .ok (.aload_n 1, 1) := by decide +kernel
theorem dL_law_2125 : decode cL_law 2125 = .ok (.iaload, 1) := by decide +kernel
theorem dL_law_2131 : decode cL_law 2131 = .ok (.iaload, 1) := by decide +kernel
theorem dL_law_2139 : decode cL_law 2139 = .ok (.aload_n 0, 1) := by decide +kernel
theorem dL_law_2145 : decode cL_law 2145 = .ok (.aload_n 0, 1) := by decide +kernel
theorem dL_law_2151 : decode cL_law 2151 = .ok (.invokevirtual 247, 3) := by decide +kernel
theorem dL_law_2162 : decode cL_law 2162 = .ok (.if_icmp .eq 5, 3) := by decide +kernel
theorem dL_law_2190 : decode cL_law 2190 = .ok (.invokevirtual 248, 3) := by decide +kernel
theorem dL_law_2203 : decode cL_law 2203 = .ok (.invokevirtual 253, 3) := by decide +kernel
theorem dL_law_2216 : decode cL_law 2216 = .ok (.iinc 4 7, 3) := by decide +kernel
