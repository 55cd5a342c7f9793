
theorem dX0_init_8 : decode cX0_init 8 = .ok (.dup, 1) := by decide +kernel
theorem dX0_init_17 : decode cX0_init 17 = .ok (.new 9, 3) := by decide +kernel
theorem dX0_init_28 : decode cX0_init 28 = .ok (.aload_n 0, 1) := by decide +kernel
theorem dX0_init_37 : decode cX0_init 37 = .ok (.putfield 23, 3) := by decide +kernel
theorem dX0_init_46 : decode cX0_init 46 = .ok (.invokespecial 11, 3) := by decide +kernel
theorem dX0_init_57 : decode cX0_init 57 = .ok (.iconst 4, 1) := by decide +kernel
theorem dX0_init_68 : decode cX0_init 68 = .ok (.dup, 1) := by decide +kernel
theorem dX0_init_77 : decode cX0_init 77 = .ok (.new 9, 3) := by decide +kernel
theorem dX0_init_89 : decode cX0_init 89 = .ok (.aload_n 0, 1) := by decide +kernel
theorem dX0_init_96 : decode cX0_init 96 = .ok (.putfield 42, 3) := by decide +kernel
theorem dX0_init_105 : decode cX0_init 105 = .ok (.iconst 0, 1) := by decide +kernel
theorem dX0_faultOf_2 : decode cX0_faultOf 2 = .ok (.invokevirtual 51, 3) := by decide +kernel
theorem dX0_faultOf_11 : decode cX0_faultOf 11 = .ok (.iload_n 3, 1) := by decide +kernel
theorem dX0_faultOf_103 : decode cX0_faultOf 103 = .ok (.getfield 14, 3) := by decide +kernel
theorem dX0_faultOf_116 : decode cX0_faultOf 116 = .ok (.ifCond .ne 8, 3) := by decide +kernel
theorem dX0_begin_1 : decode cX0_begin 1 = .ok (.getfield 14, 3) := by decide +kernel
theorem dX0_begin_14 : decode cX0_begin 14 = .ok (.aload_n 0, 1) := by decide +kernel
theorem dX0_begin_25 : decode cX0_begin 25 = .ok (.invokevirtual 100, 3) := by decide +kernel
theorem dX0_begin_36 : decode cX0_begin 36 = .ok (.getfield 32, 3) := by decide +kernel
theorem dX0_begin_49 : decode cX0_begin 49 = .ok (.aload_n 0, 1) := by decide +kernel
theorem dX0_begin_58 : decode cX0_begin 58 = .ok (.return_, 1) := by decide +kernel
theorem dX0_startSum_8 : decode cX0_startSum 8 = .ok (.putfield 45, 3) := by decide +kernel
theorem dX0_startSum_19 : decode cX0_startSum 19 = .ok (.putfield 48, 3) := by decide +kernel
theorem dX0_isBehindFactor_5 : decode cX0_isBehindFactor 5 = .ok (.if_icmp .eq 11, 3) := by decide +kernel
theorem dX0_isBehindFactor_20 : decode cX0_isBehindFactor 20 = .ok (.iconst 0, 1) := by decide +kernel
theorem dX1_init_5 : decode cX1_init 5 = .ok (.new 9, 3) := by decide +kernel
theorem dX1_init_16 : decode cX1_init 16 = .ok (.aload_n 0, 1) := by decide +kernel
theorem dX1_init_25 : decode cX1_init 25 = .ok (.putfield 20, 3) := by decide +kernel
theorem dX1_init_35 : decode cX1_init 35 = .ok (.invokespecial 11, 3) := by decide +kernel
theorem dX1_faultOf_4 : decode cX1_faultOf 4 = .ok (.invokevirtual 38, 3) := by decide +kernel
theorem dX1_faultOf_11 : decode cX1_faultOf 11 = .ok (.invokevirtual 41, 3) := by decide +kernel
theorem dX1_faultOf_122 : decode cX1_faultOf 122 = .ok (.ifCond .ne 7, 3) := by decide +kernel
theorem dX1_build_1 : decode cX1_build 1 = .ok (.getfield 20, 3) := by decide +kernel
theorem dX1_build_14 : decode cX1_build 14 = .ok (.iconst 0, 1) := by decide +kernel
theorem dX1_build_21 : decode cX1_build 21 = .ok (.aload_n 1, 1) := by decide +kernel
theorem dX1_build_103 : decode cX1_build 103 = .ok (.aload_n 2, 1) := by decide +kernel
theorem dX1_gathered_4 : decode cX1_gathered 4 = .ok (.invokevirtual 41, 3) := by decide +kernel
theorem dX1_gathered_11 : decode cX1_gathered 11 = .ok (.ifCond .ne 9, 3) := by decide +kernel
theorem dX2_init_0 : decode cX2_init 0 = .ok (.aload_n 0, 1) := by decide +kernel
theorem dX2_init_9 : decode cX2_init 9 = .ok (.invokespecial 11, 3) := by decide +kernel
theorem dX2_init_20 : decode cX2_init 20 = .ok (.sipush 2500, 3) := by decide +kernel
theorem dX2_init_33 : decode cX2_init 33 = .ok (.dup, 1) := by decide +kernel
theorem dX2_init_44 : decode cX2_init 44 = .ok (.new 18, 3) := by decide +kernel
theorem dX2_init_56 : decode cX2_init 56 = .ok (.aload_n 0, 1) := by decide +kernel
theorem dX2_init_66 : decode cX2_init 66 = .ok (.putfield 33, 3) := by decide +kernel
theorem dX2_init_76 : decode cX2_init 76 = .ok (.invokespecial 20, 3) := by decide +kernel
theorem dX2_init_87 : decode cX2_init 87 = .ok (.bipush 100, 2) := by decide +kernel
theorem dX2_init_99 : decode cX2_init 99 = .ok (.dup, 1) := by decide +kernel
theorem dX2_init_110 : decode cX2_init 110 = .ok (.iconst 1, 1) := by decide +kernel
theorem dX2_init_119 : decode cX2_init 119 = .ok (.aload_n 0, 1) := by decide +kernel
theorem dX2_init_126 : decode cX2_init 126 = .ok (.putfield 55, 3) := by decide +kernel
theorem dX2_init_135 : decode cX2_init 135 = .ok (.iconst 0, 1) := by decide +kernel
theorem dX2_init_144 : decode cX2_init 144 = .ok (.aload_n 0, 1) := by decide +kernel
theorem dX2_init_151 : decode cX2_init 151 = .ok (.putfield 70, 3) := by decide +kernel
theorem dX2_init_160 : decode cX2_init 160 = .ok (.invokespecial 75, 3) := by decide +kernel
theorem dX3_init_4 : decode cX3_init 4 = .ok (.aload_n 0, 1) := by decide +kernel
theorem dX3_init_14 : decode cX3_init 14 = .ok (.putfield 14, 3) := by decide +kernel
theorem dX3_init_25 : decode cX3_init 25 = .ok (.invokespecial 11, 3) := by decide +kernel
theorem dX3_init_36 : decode cX3_init 36 = .ok (.sipush 4960, 3) := by decide +kernel
theorem dX3_init_49 : decode cX3_init 49 = .ok (.dup, 1) := by decide +kernel
theorem dX3_init_60 : decode cX3_init 60 = .ok (.new 9, 3) := by decide +kernel
theorem dX3_init_73 : decode cX3_init 73 = .ok (.aload_n 0, 1) := by decide +kernel
theorem dX3_init_84 : decode cX3_init 84 = .ok (.putfield 32, 3) := by decide +kernel
theorem dX3_init_95 : decode cX3_init 95 = .ok (.invokespecial 11, 3) := by decide +kernel
theorem dX3_init_106 : decode cX3_init 106 = .ok (.sipush 4960, 3) := by decide +kernel
theorem dX3_init_119 : decode cX3_init 119 = .ok (.dup, 1) := by decide +kernel
theorem dX3_count_0 : decode cX3_count 0 = .ok (.aload_n 0, 1) := by decide +kernel
theorem dX3_has_1 : decode cX3_has 1 = .ok (.ifCond .lt 18, 3) := by decide +kernel
theorem dX3_has_12 : decode cX3_has 12 = .ok (.if_icmp .ge 7, 3) := by decide +kernel
theorem dX3_signs_4 : decode cX3_signs 4 = .ok (.areturn, 1) := by decide +kernel
theorem dX3_weightOfAll_4 : decode cX3_weightOfAll 4 = .ok (.iload_n 2, 1) := by decide +kernel
theorem dX3_weightOfAll_29 : decode cX3_weightOfAll 29 = .ok (.iload_n 1, 1) := by decide +kernel
theorem dX3_clear_7 : decode cX3_clear 7 = .ok (.aload_n 0, 1) := by decide +kernel
theorem dX3_clear_18 : decode cX3_clear 18 = .ok (.invokevirtual 55, 3) := by decide +kernel
theorem dX3_clear_29 : decode cX3_clear 29 = .ok (.getfield 29, 3) := by decide +kernel
theorem dX3_clear_42 : decode cX3_clear 42 = .ok (.aload_n 0, 1) := by decide +kernel
theorem dX3_clear_53 : decode cX3_clear 53 = .ok (.invokevirtual 55, 3) := by decide +kernel
theorem dX3_number_0 : decode cX3_number 0 = .ok (.aload_n 0, 1) := by decide +kernel
theorem dX3_number_9 : decode cX3_number 9 = .ok (.getfield 14, 3) := by decide +kernel
theorem dX3_addSign_0 : decode cX3_addSign 0 = .ok (.aload_n 0, 1) := by decide +kernel
theorem dX3_addText_0 : decode cX3_addText 0 = .ok (.aload_n 0, 1) := by decide +kernel
theorem dX3_addText_9 : decode cX3_addText 9 = .ok (.iload_n 1, 1) := by decide +kernel
theorem dX3_addText_14 : decode cX3_addText 14 = .ok (.iconst 1, 1) := by decide +kernel
theorem dX3_addMark_2 : decode cX3_addMark 2 = .ok (.iconst 0, 1) := by decide +kernel
theorem dX3_addMark_7 : decode cX3_addMark 7 = .ok (.invokevirtual 61, 3) := by decide +kernel
theorem dX3_addPlace_5 : decode cX3_addPlace 5 = .ok (.invokevirtual 58, 3) := by decide +kernel
theorem dX3_addPlace_16 : decode cX3_addPlace 16 = .ok (.aload_n 0, 1) := by decide +kernel
theorem dX3_addPlace_25 : decode cX3_addPlace 25 = .ok (.getfield 29, 3) := by decide +kernel
theorem dX3_addPlace_37 : decode cX3_addPlace 37 = .ok (.iload 5, 2) := by decide +kernel
theorem dX3_addPlace_48 : decode cX3_addPlace 48 = .ok (.invokevirtual 58, 3) := by decide +kernel
theorem dX3_addPlace_59 : decode cX3_addPlace 59 = .ok (.isub, 1) := by decide +kernel
theorem dX4_init_5 : decode cX4_init 5 = .ok (.iconst 0, 1) := by decide +kernel
theorem dX4_init_14 : decode cX4_init 14 = .ok (.iload_n 1, 1) := by decide +kernel
theorem dX4_size_0 : decode cX4_size 0 = .ok (.aload_n 0, 1) := by decide +kernel
theorem dX4_get_4 : decode cX4_get 4 = .ok (.iload_n 1, 1) := by decide +kernel
theorem dX4_get_13 : decode cX4_get 13 = .ok (.aload_n 0, 1) := by decide +kernel
theorem dX4_get_22 : decode cX4_get 22 = .ok (.getfield 13, 3) := by decide +kernel
theorem dX4_add_0 : decode cX4_add 0 = .ok (.aload_n 0, 1) := by decide +kernel
theorem dX4_add_11 : decode cX4_add 11 = .ok (.aload_n 0, 1) := by decide +kernel
theorem dX4_add_20 : decode cX4_add 20 = .ok (.getfield 13, 3) := by decide +kernel
theorem dX4_add_29 : decode cX4_add 29 = .ok (.aload_n 0, 1) := by decide +kernel
theorem dX4_add_36 : decode cX4_add 36 = .ok (.putfield 7, 3) := by decide +kernel
theorem dX4_cut_5 : decode cX4_cut 5 = .ok (.aload_n 0, 1) := by decide +kernel
theorem dX4_cut_14 : decode cX4_cut 14 = .ok (.putfield 7, 3) := by decide +kernel
theorem dX4_clear_5 : decode cX4_clear 5 = .ok (.return_, 1) := by decide +kernel
theorem dX4_copy_6 : decode cX4_copy 6 = .ok (.istore_n 2, 1) := by decide +kernel
theorem dX4_copy_30 : decode cX4_copy 30 = .ok (.return_, 1) := by decide +kernel
theorem dX5_init_8 : decode cX5_init 8 = .ok (.dup, 1) := by decide +kernel
theorem dX5_init_19 : decode cX5_init 19 = .ok (.new 9, 3) := by decide +kernel
theorem dX5_init_32 : decode cX5_init 32 = .ok (.aload_n 0, 1) := by decide +kernel
theorem dX5_init_43 : decode cX5_init 43 = .ok (.putfield 23, 3) := by decide +kernel
theorem dX5_init_54 : decode cX5_init 54 = .ok (.invokespecial 11, 3) := by decide +kernel
theorem dX5_init_65 : decode cX5_init 65 = .ok (.bipush 100, 2) := by decide +kernel
theorem dX5_init_77 : decode cX5_init 77 = .ok (.dup, 1) := by decide +kernel
theorem dX5_init_88 : decode cX5_init 88 = .ok (.new 9, 3) := by decide +kernel
theorem dX5_init_101 : decode cX5_init 101 = .ok (.aload_n 0, 1) := by decide +kernel
theorem dX5_init_112 : decode cX5_init 112 = .ok (.putfield 38, 3) := by decide +kernel
theorem dX5_init_123 : decode cX5_init 123 = .ok (.invokespecial 11, 3) := by decide +kernel
theorem dX5_init_134 : decode cX5_init 134 = .ok (.return_, 1) := by decide +kernel
theorem dX6_init_8 : decode cX6_init 8 = .ok (.dup, 1) := by decide +kernel
theorem dX6_init_19 : decode cX6_init 19 = .ok (.aload_n 1, 1) := by decide +kernel
theorem dX6_init_28 : decode cX6_init 28 = .ok (.aload_n 0, 1) := by decide +kernel
theorem dX6_init_36 : decode cX6_init 36 = .ok (.putfield 32, 3) := by decide +kernel
theorem dX6_holds_4 : decode cX6_holds 4 = .ok (.aload_n 0, 1) := by decide +kernel
theorem dX6_holds_13 : decode cX6_holds 13 = .ok (.invokestatic 41, 3) := by decide +kernel
theorem dX6_holds_24 : decode cX6_holds 24 = .ok (.invokevirtual 35, 3) := by decide +kernel
theorem dX6_holds_91 : decode cX6_holds 91 = .ok (.iload 5, 2) := by decide +kernel
theorem dX7_init_5 : decode cX7_init 5 = .ok (.new 9, 3) := by decide +kernel
theorem dX7_init_17 : decode cX7_init 17 = .ok (.aload_n 0, 1) := by decide +kernel
theorem dX7_init_27 : decode cX7_init 27 = .ok (.putfield 20, 3) := by decide +kernel
theorem dX7_init_37 : decode cX7_init 37 = .ok (.invokespecial 11, 3) := by decide +kernel
theorem dX7_init_48 : decode cX7_init 48 = .ok (.bipush 120, 2) := by decide +kernel
theorem dX7_init_60 : decode cX7_init 60 = .ok (.dup, 1) := by decide +kernel
theorem dX7_init_70 : decode cX7_init 70 = .ok (.new 9, 3) := by decide +kernel
theorem dX7_init_82 : decode cX7_init 82 = .ok (.aload_n 0, 1) := by decide +kernel
theorem dX7_init_92 : decode cX7_init 92 = .ok (.putfield 35, 3) := by decide +kernel
theorem dX7_init_102 : decode cX7_init 102 = .ok (.invokespecial 11, 3) := by decide +kernel
theorem dX7_init_113 : decode cX7_init 113 = .ok (.bipush 60, 2) := by decide +kernel
theorem dX7_init_123 : decode cX7_init 123 = .ok (.putfield 44, 3) := by decide +kernel
theorem dX7_start_7 : decode cX7_start 7 = .ok (.aload_n 0, 1) := by decide +kernel
theorem dX7_start_18 : decode cX7_start 18 = .ok (.invokevirtual 48, 3) := by decide +kernel
theorem dX7_start_29 : decode cX7_start 29 = .ok (.getfield 29, 3) := by decide +kernel
theorem dX7_start_42 : decode cX7_start 42 = .ok (.aload_n 0, 1) := by decide +kernel
theorem dX7_start_53 : decode cX7_start 53 = .ok (.aload_n 1, 1) := by decide +kernel
theorem dX7_start_64 : decode cX7_start 64 = .ok (.aload_n 0, 1) := by decide +kernel
theorem dX7_isThere_1 : decode cX7_isThere 1 = .ok (.getfield 44, 3) := by decide +kernel
theorem dX7_signsOfPlain_0 : decode cX7_signsOfPlain 0 = .ok (.aload_n 0, 1) := by decide +kernel
theorem dX8_init_4 : decode cX8_init 4 = .ok (.aload_n 0, 1) := by decide +kernel
theorem dX8_init_15 : decode cX8_init 15 = .ok (.putfield 14, 3) := by decide +kernel
theorem dX8_init_26 : decode cX8_init 26 = .ok (.invokespecial 11, 3) := by decide +kernel
theorem dX8_init_37 : decode cX8_init 37 = .ok (.return_, 1) := by decide +kernel
theorem dX9_init_8 : decode cX9_init 8 = .ok (.dup, 1) := by decide +kernel
theorem dX9_init_19 : decode cX9_init 19 = .ok (.dup, 1) := by decide +kernel
theorem dX9_init_29 : decode cX9_init 29 = .ok (.new 16, 3) := by decide +kernel
theorem dX9_init_41 : decode cX9_init 41 = .ok (.aload_n 0, 1) := by decide +kernel
theorem dX9_init_52 : decode cX9_init 52 = .ok (.aload_n 0, 1) := by decide +kernel
theorem dX9_init_63 : decode cX9_init 63 = .ok (.aload_n 0, 1) := by decide +kernel
theorem dX9_init_72 : decode cX9_init 72 = .ok (.invokevirtual 44, 3) := by decide +kernel
theorem dX9_init_85 : decode cX9_init 85 = .ok (.dup, 1) := by decide +kernel
theorem dX9_init_96 : decode cX9_init 96 = .ok (.putfield 55, 3) := by decide +kernel
theorem dX9_init_105 : decode cX9_init 105 = .ok (.getfield 12, 3) := by decide +kernel
theorem dX9_init_116 : decode cX9_init 116 = .ok (.aload_n 0, 1) := by decide +kernel
theorem dX9_init_127 : decode cX9_init 127 = .ok (.new 67, 3) := by decide +kernel
theorem dX9_init_138 : decode cX9_init 138 = .ok (.new 74, 3) := by decide +kernel
theorem dX9_init_149 : decode cX9_init 149 = .ok (.new 74, 3) := by decide +kernel
theorem dX9_init_160 : decode cX9_init 160 = .ok (.bipush 20, 2) := by decide +kernel
theorem dX9_init_171 : decode cX9_init 171 = .ok (.aload_n 0, 1) := by decide +kernel
theorem dX9_init_178 : decode cX9_init 178 = .ok (.putfield 94, 3) := by decide +kernel
theorem dX9_word_0 : decode cX9_word 0 = .ok (.iload_n 1, 1) := by decide +kernel
theorem dX9_word_10 : decode cX9_word 10 = .ok (.new 100, 3) := by decide +kernel
theorem dX9_word_20 : decode cX9_word 20 = .ok (.iload_n 2, 1) := by decide +kernel
theorem dX9_word_28 : decode cX9_word 28 = .ok (.if_icmp .le 13, 3) := by decide +kernel
theorem dX9_word_40 : decode cX9_word 40 = .ok (.athrow, 1) := by decide +kernel
theorem dX9_word_47 : decode cX9_word 47 = .ok (.iload_n 3, 1) := by decide +kernel
theorem dX9_word_56 : decode cX9_word 56 = .ok (.bipush 97, 2) := by decide +kernel
theorem dX9_word_66 : decode cX9_word 66 = .ok (.goto (-19), 3) := by decide +kernel
theorem dX9_word_75 : decode cX9_word 75 = .ok (.invokevirtual 115, 3) := by decide +kernel
theorem dX9_mark_2 : decode cX9_mark 2 = .ok (.if_icmp .lt 8, 3) := by decide +kernel
theorem dX9_mark_13 : decode cX9_mark 13 = .ok (.dup, 1) := by decide +kernel
theorem dX9_mark_21 : decode cX9_mark 21 = .ok (.invokevirtual 109, 3) := by decide +kernel
theorem dX9_mark_30 : decode cX9_mark 30 = .ok (.invokevirtual 124, 3) := by decide +kernel
theorem dX9_join_2 : decode cX9_join 2 = .ok (.invokevirtual 127, 3) := by decide +kernel
theorem dX9_align_1 : decode cX9_align 1 = .ok (.iload_n 1, 1) := by decide +kernel
theorem dX9_fill_0 : decode cX9_fill 0 = .ok (.aload_n 0, 1) := by decide +kernel
theorem dX9_forget_4 : decode cX9_forget 4 = .ok (.invokevirtual 163, 3) := by decide +kernel
theorem dX9_forget_15 : decode cX9_forget 15 = .ok (.iload_n 1, 1) := by decide +kernel
theorem dX9_width_5 : decode cX9_width 5 = .ok (.aload_n 0, 1) := by decide +kernel
theorem dX9_width_12 : decode cX9_width 12 = .ok (.putfield 84, 3) := by decide +kernel
theorem dX9_ribbon_2 : decode cX9_ribbon 2 = .ok (.if_icmp .lt 9, 3) := by decide +kernel
theorem dX9_ribbon_14 : decode cX9_ribbon 14 = .ok (.dup, 1) := by decide +kernel
theorem dX9_ribbon_22 : decode cX9_ribbon 22 = .ok (.getfield 88, 3) := by decide +kernel
theorem dX9_ribbon_31 : decode cX9_ribbon 31 = .ok (.iload_n 2, 1) := by decide +kernel
theorem dX9_say_7 : decode cX9_say 7 = .ok (.aload_n 0, 1) := by decide +kernel
theorem dX9_say_16 : decode cX9_say 16 = .ok (.getfield 25, 3) := by decide +kernel
theorem dX9_say_27 : decode cX9_say 27 = .ok (.iload_n 3, 1) := by decide +kernel
theorem dX9_say_37 : decode cX9_say 37 = .ok (.invokevirtual 176, 3) := by decide +kernel
theorem dX9_say_49 : decode cX9_say 49 = .ok (.aload_n 0, 1) := by decide +kernel
theorem dX9_say_59 : decode cX9_say 59 = .ok (.invokevirtual 179, 3) := by decide +kernel
theorem dX9_say_68 : decode cX9_say 68 = .ok (.getfield 25, 3) := by decide +kernel
theorem dX9_say_79 : decode cX9_say 79 = .ok (.getfield 25, 3) := by decide +kernel
theorem dX9_say_93 : decode cX9_say 93 = .ok (.goto (-28), 3) := by decide +kernel
theorem dX9_read_0 : decode cX9_read 0 = .ok (.aload_n 0, 1) := by decide +kernel
theorem dX9_read_9 : decode cX9_read 9 = .ok (.getfield 21, 3) := by decide +kernel
theorem dX9_read_22 : decode cX9_read 22 = .ok (.aload_n 0, 1) := by decide +kernel
theorem dX9_read_31 : decode cX9_read 31 = .ok (.getfield 12, 3) := by decide +kernel
theorem dX9_code_1 : decode cX9_code 1 = .ok (.getfield 38, 3) := by decide +kernel
theorem dX9_code_12 : decode cX9_code 12 = .ok (.invokevirtual 199, 3) := by decide +kernel
theorem dX9_blank_0 : decode cX9_blank 0 = .ok (.aload_n 0, 1) := by decide +kernel
theorem dX9_blank_7 : decode cX9_blank 7 = .ok (.putfield 91, 3) := by decide +kernel
theorem dX9_knock_2 : decode cX9_knock 2 = .ok (.getfield 94, 3) := by decide +kernel
theorem dX9_knock_11 : decode cX9_knock 11 = .ok (.getfield 94, 3) := by decide +kernel
theorem dX9_flat_0 : decode cX9_flat 0 = .ok (.aload_n 0, 1) := by decide +kernel
theorem dX9_line_2 : decode cX9_line 2 = .ok (.invokevirtual 127, 3) := by decide +kernel
theorem dX9_at_1 : decode cX9_at 1 = .ok (.iload_n 1, 1) := by decide +kernel
theorem dX9_isOne_0 : decode cX9_isOne 0 = .ok (.aload_n 0, 1) := by decide +kernel
theorem dX9_differ_2 : decode cX9_differ 2 = .ok (.invokevirtual 127, 3) := by decide +kernel
theorem dX9_typed_8 : decode cX9_typed 8 = .ok (.areturn, 1) := by decide +kernel
theorem dX9_fault_8 : decode cX9_fault 8 = .ok (.aload_n 0, 1) := by decide +kernel
theorem dX9_fault_19 : decode cX9_fault 19 = .ok (.goto 14, 3) := by decide +kernel
theorem dX9_fault_30 : decode cX9_fault 30 = .ok (.invokevirtual 191, 3) := by decide +kernel
theorem dX9_ofCode_5 : decode cX9_ofCode 5 = .ok (.bipush 9, 2) := by decide +kernel
theorem dX9_ofCode_17 : decode cX9_ofCode 17 = .ok (.invokespecial 104, 3) := by decide +kernel
theorem dX9_ofCode_28 : decode cX9_ofCode 28 = .ok (.ifCond .ne 5, 3) := by decide +kernel
theorem dX9_plain_2 : decode cX9_plain 2 = .ok (.getfield 77, 3) := by decide +kernel
theorem dX9_codeLine_1 : decode cX9_codeLine 1 = .ok (.iload_n 1, 1) := by decide +kernel
theorem dX9_codeLine_12 : decode cX9_codeLine 12 = .ok (.ifCond .ne 6, 3) := by decide +kernel
theorem dX9_house_4 : decode cX9_house 4 = .ok (.iload_n 1, 1) := by decide +kernel
theorem dX9_house_14 : decode cX9_house 14 = .ok (.ldc 213, 2) := by decide +kernel
theorem dX9_house_22 : decode cX9_house 22 = .ok (.invokevirtual 308, 3) := by decide +kernel
theorem dX9_would_0 : decode cX9_would 0 = .ok (.aload_n 0, 1) := by decide +kernel
theorem dX9_narrowest_2 : decode cX9_narrowest 2 = .ok (.invokevirtual 127, 3) := by decide +kernel
theorem dX9_leastLine_1 : decode cX9_leastLine 1 = .ok (.iload_n 1, 1) := by decide +kernel
theorem dX9_isSound_5 : decode cX9_isSound 5 = .ok (.getfield 77, 3) := by decide +kernel
theorem dX9_isSound_16 : decode cX9_isSound 16 = .ok (.aload_n 0, 1) := by decide +kernel
theorem dX9_digest_3 : decode cX9_digest 3 = .ok (.lstore_n 1, 1) := by decide +kernel
theorem dX9_digest_9 : decode cX9_digest 9 = .ok (.if_icmp .gt 22, 3) := by decide +kernel
theorem dX9_digest_18 : decode cX9_digest 18 = .ok (.iload_n 3, 1) := by decide +kernel
theorem dX9_digest_25 : decode cX9_digest 25 = .ok (.iinc 3 1, 3) := by decide +kernel
theorem dX9_digest_38 : decode cX9_digest 38 = .ok (.iconst 1, 1) := by decide +kernel
theorem dX9_digest_44 : decode cX9_digest 44 = .ok (.iload 4, 2) := by decide +kernel
theorem dX9_digest_130 : decode cX9_digest 130 = .ok (.ldc2_w 330, 3) := by decide +kernel
theorem dX9_digest_141 : decode cX9_digest 141 = .ok (.i2l, 1) := by decide +kernel
theorem dX9_digest_148 : decode cX9_digest 148 = .ok (.lmul, 1) := by decide +kernel
theorem dX9_digest_157 : decode cX9_digest 157 = .ok (.invokevirtual 191, 3) := by decide +kernel
theorem dX9_digest_164 : decode cX9_digest 164 = .ok (.ldc2_w 330, 3) := by decide +kernel
theorem dX9_digest_173 : decode cX9_digest 173 = .ok (.getfield 21, 3) := by decide +kernel
theorem dX9_digest_184 : decode cX9_digest 184 = .ok (.ladd, 1) := by decide +kernel
theorem dX9_digest_191 : decode cX9_digest 191 = .ok (.lstore_n 1, 1) := by decide +kernel
theorem dX9_digest_198 : decode cX9_digest 198 = .ok (.getfield 63, 3) := by decide +kernel
theorem dX9_digest_209 : decode cX9_digest 209 = .ok (.aload_n 0, 1) := by decide +kernel
theorem dX9_digest_220 : decode cX9_digest 220 = .ok (.ifCond .eq 7, 3) := by decide +kernel
theorem dX9_digest_230 : decode cX9_digest 230 = .ok (.lreturn, 1) := by decide +kernel
theorem dX9_needNode_8 : decode cX9_needNode 8 = .ok (.ifCond .ne 14, 3) := by decide +kernel
theorem dX9_needNode_21 : decode cX9_needNode 21 = .ok (.athrow, 1) := by decide +kernel
theorem dX9_needNumber_9 : decode cX9_needNumber 9 = .ok (.if_icmp .lt 14, 3) := by decide +kernel
theorem dX9_needWidth_5 : decode cX9_needWidth 5 = .ok (.iload_n 1, 1) := by decide +kernel
theorem dX9_needWidth_15 : decode cX9_needWidth 15 = .ok (.ldc_w 360, 3) := by decide +kernel
theorem dX9_needNth_1 : decode cX9_needNth 1 = .ok (.ifCond .ge 14, 3) := by decide +kernel
theorem dX9_needNth_14 : decode cX9_needNth 14 = .ok (.athrow, 1) := by decide +kernel
theorem dX9_needCodes_3 : decode cX9_needCodes 3 = .ok (.aload_n 0, 1) := by decide +kernel
theorem dX9_needCodes_14 : decode cX9_needCodes 14 = .ok (.getfield 25, 3) := by decide +kernel
theorem dX9_needCodes_25 : decode cX9_needCodes 25 = .ok (.aload_n 0, 1) := by decide +kernel
theorem dX9_needCodes_35 : decode cX9_needCodes 35 = .ok (.if_icmp .le 14, 3) := by decide +kernel
theorem dX9_needCodes_48 : decode cX9_needCodes 48 = .ok (.athrow, 1) := by decide +kernel
theorem dX9_needCodes_59 : decode cX9_needCodes 59 = .ok (.invokevirtual 182, 3) := by decide +kernel
theorem dX9_needCodes_66 : decode cX9_needCodes 66 = .ok (.aload_n 0, 1) := by decide +kernel
theorem dX9_needCodes_77 : decode cX9_needCodes 77 = .ok (.aload_n 0, 1) := by decide +kernel
theorem dX9_needCodes_88 : decode cX9_needCodes 88 = .ok (.istore_n 1, 1) := by decide +kernel
theorem dX9_needCodes_109 : decode cX9_needCodes 109 = .ok (.goto (-44), 3) := by decide +kernel
theorem dX9_lengthAfter_5 : decode cX9_lengthAfter 5 = .ok (.iload_n 0, 1) := by decide +kernel
theorem dX9_lengthAfter_13 : decode cX9_lengthAfter 13 = .ok (.iconst 0, 1) := by decide +kernel
theorem dX9_lengthAfter_21 : decode cX9_lengthAfter 21 = .ok (.iload_n 0, 1) := by decide +kernel
theorem dX9_lengthAfter_28 : decode cX9_lengthAfter 28 = .ok (.goto 4, 3) := by decide +kernel
theorem dX9_lengthAfter_35 : decode cX9_lengthAfter 35 = .ok (.iadd, 1) := by decide +kernel
theorem dX9_type_5 : decode cX9_type 5 = .ok (.ldc_w 373, 3) := by decide +kernel
theorem dX9_type_18 : decode cX9_type 18 = .ok (.ldc_w 373, 3) := by decide +kernel
theorem dX9_type_31 : decode cX9_type 31 = .ok (.aload_n 0, 1) := by decide +kernel
theorem dX9_type_42 : decode cX9_type 42 = .ok (.iload_n 1, 1) := by decide +kernel
theorem dX9_numbered_1 : decode cX9_numbered 1 = .ok (.dup, 1) := by decide +kernel
theorem dX9_numbered_10 : decode cX9_numbered 10 = .ok (.aload_n 0, 1) := by decide +kernel
theorem dX9_textOf_0 : decode cX9_textOf 0 = .ok (.aload_n 0, 1) := by decide +kernel
theorem dX9_textOf_9 : decode cX9_textOf 9 = .ok (.istore_n 2, 1) := by decide +kernel
theorem dX9_textOf_38 : decode cX9_textOf 38 = .ok (.aload_n 0, 1) := by decide +kernel
theorem dX9_stateOf_1 : decode cX9_stateOf 1 = .ok (.tableswitch 84 0 6 #[43, 51, 56, 61, 69, 74, 79], 43) := by decide +kernel
theorem dX9_stateOf_52 : decode cX9_stateOf 52 = .ok (.aload_n 0, 1) := by decide +kernel
theorem dX9_stateOf_61 : decode cX9_stateOf 61 = .ok (.ireturn, 1) := by decide +kernel
theorem dX9_stateOf_70 : decode cX9_stateOf 70 = .ok (.aload_n 0, 1) := by decide +kernel
theorem dX9_stateOf_79 : decode cX9_stateOf 79 = .ok (.ireturn, 1) := by decide +kernel
theorem dX9_stateOf_86 : decode cX9_stateOf 86 = .ok (.getfield 12, 3) := by decide +kernel
theorem dX9_withCode_2 : decode cX9_withCode 2 = .ok (.aload_n 0, 1) := by decide +kernel
theorem dX9_withCode_13 : decode cX9_withCode 13 = .ok (.istore 5, 2) := by decide +kernel
theorem dX9_withCode_23 : decode cX9_withCode 23 = .ok (.ldc2_w 330, 3) := by decide +kernel
theorem dX9_withCode_34 : decode cX9_withCode 34 = .ok (.lload_n 3, 1) := by decide +kernel
theorem dX11_init_0 : decode cX11_init 0 = .ok (.aload_n 0, 1) := by decide +kernel
theorem dX11_init_9 : decode cX11_init 9 = .ok (.invokespecial 11, 3) := by decide +kernel
theorem dX11_init_20 : decode cX11_init 20 = .ok (.aload_n 0, 1) := by decide +kernel
theorem dX11_init_27 : decode cX11_init 27 = .ok (.putfield 26, 3) := by decide +kernel
theorem dX11_weight_5 : decode cX11_weight 5 = .ok (.if_icmp .ge 7, 3) := by decide +kernel
theorem dX11_weight_17 : decode cX11_weight 17 = .ok (.aload_n 0, 1) := by decide +kernel
theorem dX11_weight_26 : decode cX11_weight 26 = .ok (.invokeinterface 41 1, 5) := by decide +kernel
theorem dX11_depth_1 : decode cX11_depth 1 = .ok (.istore_n 1, 1) := by decide +kernel
theorem dX11_depth_10 : decode cX11_depth 10 = .ok (.aload_n 2, 1) := by decide +kernel
theorem dX11_depth_43 : decode cX11_depth 43 = .ok (.iadd, 1) := by decide +kernel
theorem dX13_init_5 : decode cX13_init 5 = .ok (.aload_n 1, 1) := by decide +kernel
theorem dX13_document_4 : decode cX13_document 4 = .ok (.invokespecial 50, 3) := by decide +kernel
theorem dX13_document_13 : decode cX13_document 13 = .ok (.getfield 9, 3) := by decide +kernel
theorem dX13_document_50 : decode cX13_document 50 = .ok (.ifCond .eq 15, 3) := by decide +kernel
theorem dX13_document_60 : decode cX13_document 60 = .ok (.iconst 0, 1) := by decide +kernel
theorem dX16_init_4 : decode cX16_init 4 = .ok (.aload_n 0, 1) := by decide +kernel
theorem dX16_init_15 : decode cX16_init 15 = .ok (.aload_n 0, 1) := by decide +kernel
theorem dX16_init_24 : decode cX16_init 24 = .ok (.putfield 20, 3) := by decide +kernel
theorem dX16_isIn_0 : decode cX16_isIn 0 = .ok (.iload_n 0, 1) := by decide +kernel
theorem dX16_isIn_7 : decode cX16_isIn 7 = .ok (.if_icmp .gt 7, 3) := by decide +kernel
theorem dX16_one_0 : decode cX16_one 0 = .ok (.iload_n 0, 1) := by decide +kernel
theorem dX16_one_9 : decode cX16_one 9 = .ok (.ireturn, 1) := by decide +kernel
theorem dX16_documented_5 : decode cX16_documented 5 = .ok (.iload_n 2, 1) := by decide +kernel
theorem dX16_documented_134 : decode cX16_documented 134 = .ok (.invokevirtual 74, 3) := by decide +kernel
theorem dX16_documented_145 : decode cX16_documented 145 = .ok (.ireturn, 1) := by decide +kernel
theorem dX16_coded_5 : decode cX16_coded 5 = .ok (.iconst 0, 1) := by decide +kernel
theorem dX16_coded_12 : decode cX16_coded 12 = .ok (.if_icmp .ge 304, 3) := by decide +kernel
theorem dX16_coded_324 : decode cX16_coded 324 = .ok (.ifCond .eq 12, 3) := by decide +kernel
theorem dX16_coded_337 : decode cX16_coded 337 = .ok (.invokestatic 40, 3) := by decide +kernel
theorem dX16_thrown_4 : decode cX16_thrown 4 = .ok (.ireturn, 1) := by decide +kernel
theorem dX16_refuse_8 : decode cX16_refuse 8 = .ok (.ifCond .ne 8, 3) := by decide +kernel
theorem dX16_refuse_17 : decode cX16_refuse 17 = .ok (.getfield 176, 3) := by decide +kernel
theorem dX16_refuse_28 : decode cX16_refuse 28 = .ok (.ireturn, 1) := by decide +kernel
theorem dX16_start_6 : decode cX16_start 6 = .ok (.iload_n 1, 1) := by decide +kernel
theorem dX16_isNoNode_1 : decode cX16_isNoNode 1 = .ok (.iconst 0, 1) := by decide +kernel
theorem dX16_isNoNode_10 : decode cX16_isNoNode 10 = .ok (.isub, 1) := by decide +kernel
theorem dX16_isNoNode_22 : decode cX16_isNoNode 22 = .ok (.ireturn, 1) := by decide +kernel
theorem dX16_isFull_9 : decode cX16_isFull 9 = .ok (.if_icmp .ne 7, 3) := by decide +kernel
theorem dX16_isGreat_4 : decode cX16_isGreat 4 = .ok (.bipush 60, 2) := by decide +kernel
theorem dX16_isGreat_15 : decode cX16_isGreat 15 = .ok (.if_icmp .le 7, 3) := by decide +kernel
theorem dX16_made_4 : decode cX16_made 4 = .ok (.aload_n 1, 1) := by decide +kernel
theorem dX16_made_11 : decode cX16_made 11 = .ok (.getfield 193, 3) := by decide +kernel
theorem dX16_made_20 : decode cX16_made 20 = .ok (.getfield 10, 3) := by decide +kernel
theorem dX16_word_0 : decode cX16_word 0 = .ok (.aload_n 0, 1) := by decide +kernel
theorem dX16_word_8 : decode cX16_word 8 = .ok (.ifCond .eq 13, 3) := by decide +kernel
theorem dX16_word_18 : decode cX16_word 18 = .ok (.ifCond .ne 7, 3) := by decide +kernel
theorem dX16_word_27 : decode cX16_word 27 = .ok (.invokevirtual 196, 3) := by decide +kernel
theorem dX16_word_38 : decode cX16_word 38 = .ok (.iconst 2, 1) := by decide +kernel
theorem dX16_word_47 : decode cX16_word 47 = .ok (.new 29, 3) := by decide +kernel
theorem dX16_word_56 : decode cX16_word 56 = .ok (.istore 4, 2) := by decide +kernel
theorem dX16_word_65 : decode cX16_word 65 = .ok (.bipush 97, 2) := by decide +kernel
theorem dX16_word_73 : decode cX16_word 73 = .ok (.pop, 1) := by decide +kernel
theorem dX16_word_84 : decode cX16_word 84 = .ok (.dup, 1) := by decide +kernel
theorem dX16_word_91 : decode cX16_word 91 = .ok (.invokespecial 202, 3) := by decide +kernel
theorem dX16_mark_2 : decode cX16_mark 2 = .ok (.iconst 1, 1) := by decide +kernel
theorem dX16_mark_11 : decode cX16_mark 11 = .ok (.goto 4, 3) := by decide +kernel
theorem dX16_mark_22 : decode cX16_mark 22 = .ok (.aload_n 0, 1) := by decide +kernel
theorem dX16_mark_31 : decode cX16_mark 31 = .ok (.ifCond .eq 7, 3) := by decide +kernel
theorem dX16_mark_42 : decode cX16_mark 42 = .ok (.dup, 1) := by decide +kernel
theorem dX16_mark_50 : decode cX16_mark 50 = .ok (.invokevirtual 205, 3) := by decide +kernel
theorem dX16_join_3 : decode cX16_join 3 = .ok (.invokevirtual 213, 3) := by decide +kernel
theorem dX16_join_23 : decode cX16_join 23 = .ok (.invokevirtual 196, 3) := by decide +kernel
theorem dX16_nest_0 : decode cX16_nest 0 = .ok (.aload_n 0, 1) := by decide +kernel
theorem dX16_nest_7 : decode cX16_nest 7 = .ok (.invokevirtual 196, 3) := by decide +kernel
theorem dX16_align_0 : decode cX16_align 0 = .ok (.aload_n 0, 1) := by decide +kernel
theorem dX16_align_7 : decode cX16_align 7 = .ok (.invokevirtual 196, 3) := by decide +kernel
theorem dX16_group_0 : decode cX16_group 0 = .ok (.aload_n 0, 1) := by decide +kernel
theorem dX16_group_7 : decode cX16_group 7 = .ok (.invokevirtual 196, 3) := by decide +kernel
theorem dX16_fill_0 : decode cX16_fill 0 = .ok (.aload_n 0, 1) := by decide +kernel
theorem dX16_fill_17 : decode cX16_fill 17 = .ok (.iconst 1, 1) := by decide +kernel
theorem dX16_fill_47 : decode cX16_fill 47 = .ok (.iconst 0, 1) := by decide +kernel
theorem dX16_forget_5 : decode cX16_forget 5 = .ok (.aload_n 0, 1) := by decide +kernel
theorem dX16_forget_14 : decode cX16_forget 14 = .ok (.getfield 10, 3) := by decide +kernel
theorem dX16_width_0 : decode cX16_width 0 = .ok (.aload_n 0, 1) := by decide +kernel
theorem dX16_width_8 : decode cX16_width 8 = .ok (.ifCond .ne 7, 3) := by decide +kernel
theorem dX16_width_17 : decode cX16_width 17 = .ok (.invokevirtual 196, 3) := by decide +kernel
theorem dX16_width_26 : decode cX16_width 26 = .ok (.getfield 16, 3) := by decide +kernel
theorem dX16_width_35 : decode cX16_width 35 = .ok (.iload_n 2, 1) := by decide +kernel
theorem dX16_ribbon_3 : decode cX16_ribbon 3 = .ok (.bipush 60, 2) := by decide +kernel
theorem dX16_ribbon_15 : decode cX16_ribbon 15 = .ok (.iconst 0, 1) := by decide +kernel
theorem dX16_ribbon_24 : decode cX16_ribbon 24 = .ok (.ireturn, 1) := by decide +kernel
theorem dX16_ribbon_31 : decode cX16_ribbon 31 = .ok (.iload_n 1, 1) := by decide +kernel
theorem dX16_said_1 : decode cX16_said 1 = .ok (.iconst (-1), 1) := by decide +kernel
theorem dX16_said_8 : decode cX16_said 8 = .ok (.bipush 20, 2) := by decide +kernel
theorem dX16_said_20 : decode cX16_said 20 = .ok (.aload_n 0, 1) := by decide +kernel
theorem dX16_said_30 : decode cX16_said 30 = .ok (.invokevirtual 32, 3) := by decide +kernel
theorem dX16_said_40 : decode cX16_said 40 = .ok (.if_icmp .eq 10, 3) := by decide +kernel
theorem dX16_said_52 : decode cX16_said 52 = .ok (.goto 14, 3) := by decide +kernel
theorem dX16_said_61 : decode cX16_said 61 = .ok (.iconst 1, 1) := by decide +kernel
theorem dX16_say_2 : decode cX16_say 2 = .ok (.newarray .int, 2) := by decide +kernel
theorem dX16_say_8 : decode cX16_say 8 = .ok (.dup, 1) := by decide +kernel
theorem dX16_say_13 : decode cX16_say 13 = .ok (.iconst 2, 1) := by decide +kernel
theorem dX16_say_18 : decode cX16_say 18 = .ok (.iload 4, 2) := by decide +kernel
theorem dX16_say_25 : decode cX16_say 25 = .ok (.iastore, 1) := by decide +kernel
theorem dX16_say_31 : decode cX16_say 31 = .ok (.astore 7, 2) := by decide +kernel
theorem dX16_say_40 : decode cX16_say 40 = .ok (.aload 9, 2) := by decide +kernel
theorem dX16_say_48 : decode cX16_say 48 = .ok (.iload 11, 2) := by decide +kernel
theorem dX16_say_59 : decode cX16_say 59 = .ok (.iaload, 1) := by decide +kernel
theorem dX16_say_67 : decode cX16_say 67 = .ok (.bipush 21, 2) := by decide +kernel
theorem dX16_say_79 : decode cX16_say 79 = .ok (.iconst 0, 1) := by decide +kernel
theorem dX16_say_89 : decode cX16_say 89 = .ok (.aload_n 0, 1) := by decide +kernel
theorem dX16_say_99 : decode cX16_say 99 = .ok (.iconst 0, 1) := by decide +kernel
theorem dX16_say_107 : decode cX16_say 107 = .ok (.aload 7, 2) := by decide +kernel
theorem dX16_say_116 : decode cX16_say 116 = .ok (.iconst 0, 1) := by decide +kernel
theorem dX16_say_126 : decode cX16_say 126 = .ok (.aload 10, 2) := by decide +kernel
theorem dX16_say_135 : decode cX16_say 135 = .ok (.iload 13, 2) := by decide +kernel
theorem dX16_say_145 : decode cX16_say 145 = .ok (.invokevirtual 74, 3) := by decide +kernel
theorem dX16_say_159 : decode cX16_say 159 = .ok (.invokevirtual 179, 3) := by decide +kernel
theorem dX16_say_174 : decode cX16_say 174 = .ok (.aload 9, 2) := by decide +kernel
theorem dX16_say_186 : decode cX16_say 186 = .ok (.ireturn, 1) := by decide +kernel
theorem dX16_isDocument_8 : decode cX16_isDocument 8 = .ok (.getfield 25, 3) := by decide +kernel
theorem dX16_isDocument_22 : decode cX16_isDocument 22 = .ok (.ireturn, 1) := by decide +kernel
theorem dX16_isCode_8 : decode cX16_isCode 8 = .ok (.getfield 25, 3) := by decide +kernel
theorem dX16_read_0 : decode cX16_read 0 = .ok (.aload_n 0, 1) := by decide +kernel
theorem dX16_read_9 : decode cX16_read 9 = .ok (.ifCond .eq 5, 3) := by decide +kernel
theorem dX16_read_26 : decode cX16_read 26 = .ok (.dup, 1) := by decide +kernel
theorem dX16_read_37 : decode cX16_read 37 = .ok (.astore_n 1, 1) := by decide +kernel
theorem dX16_read_50 : decode cX16_read 50 = .ok (.aload_n 1, 1) := by decide +kernel
theorem dX16_code_2 : decode cX16_code 2 = .ok (.putfield 176, 3) := by decide +kernel
theorem dX16_code_13 : decode cX16_code 13 = .ok (.ireturn, 1) := by decide +kernel
theorem dX16_blank_6 : decode cX16_blank 6 = .ok (.dup, 1) := by decide +kernel
theorem dX16_blank_15 : decode cX16_blank 15 = .ok (.bipush (-9), 2) := by decide +kernel
theorem dX16_knock_5 : decode cX16_knock 5 = .ok (.aload_n 0, 1) := by decide +kernel
theorem dX16_knock_12 : decode cX16_knock 12 = .ok (.putfield 275, 3) := by decide +kernel
theorem dX16_ofNode_1 : decode cX16_ofNode 1 = .ok (.aload_n 0, 1) := by decide +kernel
theorem dX16_ofNode_10 : decode cX16_ofNode 10 = .ok (.ifCond .ne 26, 3) := by decide +kernel
theorem dX16_flat_1 : decode cX16_flat 1 = .ok (.aload_n 0, 1) := by decide +kernel
theorem dX16_flat_10 : decode cX16_flat 10 = .ok (.ifCond .eq 8, 3) := by decide +kernel
theorem dX16_line_1 : decode cX16_line 1 = .ok (.aload_n 0, 1) := by decide +kernel
theorem dX16_line_10 : decode cX16_line 10 = .ok (.ifCond .ne 20, 3) := by decide +kernel
theorem dX16_measure_1 : decode cX16_measure 1 = .ok (.aload_n 0, 1) := by decide +kernel
theorem dX16_measure_10 : decode cX16_measure 10 = .ok (.ifCond .ne 26, 3) := by decide +kernel
theorem dX16_at_1 : decode cX16_at 1 = .ok (.aload_n 0, 1) := by decide +kernel
theorem dX16_at_10 : decode cX16_at 10 = .ok (.ifCond .eq 5, 3) := by decide +kernel
theorem dX16_where_2 : decode cX16_where 2 = .ok (.iload_n 1, 1) := by decide +kernel
theorem dX16_where_30 : decode cX16_where 30 = .ok (.iconst 0, 1) := by decide +kernel
theorem dX16_isOne_3 : decode cX16_isOne 3 = .ok (.invokevirtual 213, 3) := by decide +kernel
theorem dX16_isOne_31 : decode cX16_isOne 31 = .ok (.ireturn, 1) := by decide +kernel
theorem dX16_differ_6 : decode cX16_differ 6 = .ok (.ifCond .ne 11, 3) := by decide +kernel
theorem dX16_differ_26 : decode cX16_differ 26 = .ok (.ifCond .ne 54, 3) := by decide +kernel
theorem dX16_typed_2 : decode cX16_typed 2 = .ok (.putfield 176, 3) := by decide +kernel
theorem dX16_faulty_1 : decode cX16_faulty 1 = .ok (.ifCond .eq 13, 3) := by decide +kernel
theorem dX16_faulty_14 : decode cX16_faulty 14 = .ok (.aload_n 0, 1) := by decide +kernel
theorem dX16_faulty_23 : decode cX16_faulty 23 = .ok (.aload_n 0, 1) := by decide +kernel
theorem dX16_faulty_34 : decode cX16_faulty 34 = .ok (.goto 4, 3) := by decide +kernel
theorem dX16_fault_2 : decode cX16_fault 2 = .ok (.putfield 176, 3) := by decide +kernel
theorem dX16_codeTold_0 : decode cX16_codeTold 0 = .ok (.aload_n 0, 1) := by decide +kernel
theorem dX16_ofCode_0 : decode cX16_ofCode 0 = .ok (.aload_n 0, 1) := by decide +kernel
theorem dX16_ofCode_8 : decode cX16_ofCode 8 = .ok (.ifCond .ne 7, 3) := by decide +kernel
theorem dX16_ofCode_17 : decode cX16_ofCode 17 = .ok (.invokevirtual 196, 3) := by decide +kernel
theorem dX16_ofCode_28 : decode cX16_ofCode 28 = .ok (.iload_n 1, 1) := by decide +kernel
theorem dX16_plain_2 : decode cX16_plain 2 = .ok (.putfield 176, 3) := by decide +kernel
theorem dX16_plain_14 : decode cX16_plain 14 = .ok (.goto 10, 3) := by decide +kernel
theorem dX16_codeLine_5 : decode cX16_codeLine 5 = .ok (.iconst 1, 1) := by decide +kernel
theorem dX16_codeLine_14 : decode cX16_codeLine 14 = .ok (.ifCond .eq 8, 3) := by decide +kernel
theorem dX16_codeLine_26 : decode cX16_codeLine 26 = .ok (.ifnonnull 9, 3) := by decide +kernel
theorem dX16_houseTold_1 : decode cX16_houseTold 1 = .ok (.istore_n 2, 1) := by decide +kernel
theorem dX16_houseTold_10 : decode cX16_houseTold 10 = .ok (.aload_n 3, 1) := by decide +kernel
theorem dX16_houseTold_45 : decode cX16_houseTold 45 = .ok (.dup, 1) := by decide +kernel
theorem dX16_houseTold_54 : decode cX16_houseTold 54 = .ok (.iastore, 1) := by decide +kernel
theorem dX16_houseTold_61 : decode cX16_houseTold 61 = .ok (.iastore, 1) := by decide +kernel
theorem dX16_houseTold_68 : decode cX16_houseTold 68 = .ok (.iastore, 1) := by decide +kernel
theorem dX16_houseTold_75 : decode cX16_houseTold 75 = .ok (.invokevirtual 74, 3) := by decide +kernel
theorem dX16_houseTold_82 : decode cX16_houseTold 82 = .ok (.getfield 272, 3) := by decide +kernel
theorem dX16_houseTold_89 : decode cX16_houseTold 89 = .ok (.getfield 275, 3) := by decide +kernel
theorem dX16_houseTold_97 : decode cX16_houseTold 97 = .ok (.getfield 193, 3) := by decide +kernel
theorem dX16_houseTold_105 : decode cX16_houseTold 105 = .ok (.iastore, 1) := by decide +kernel
theorem dX16_houseTold_110 : decode cX16_houseTold 110 = .ok (.ireturn, 1) := by decide +kernel
theorem dX16_house_5 : decode cX16_house 5 = .ok (.invokestatic 183, 3) := by decide +kernel
theorem dX16_house_16 : decode cX16_house 16 = .ok (.iconst 1, 1) := by decide +kernel
theorem dX16_house_27 : decode cX16_house 27 = .ok (.aload_n 0, 1) := by decide +kernel
theorem dX16_fits_1 : decode cX16_fits 1 = .ok (.aload_n 0, 1) := by decide +kernel
theorem dX16_fits_10 : decode cX16_fits 10 = .ok (.ifCond .ne 26, 3) := by decide +kernel
theorem dX16_would_2 : decode cX16_would 2 = .ok (.iload_n 1, 1) := by decide +kernel
theorem dX16_would_46 : decode cX16_would 46 = .ok (.iconst 0, 1) := by decide +kernel
theorem dX16_narrowest_2 : decode cX16_narrowest 2 = .ok (.iload_n 1, 1) := by decide +kernel
theorem dX16_narrowest_13 : decode cX16_narrowest 13 = .ok (.iconst 0, 1) := by decide +kernel
theorem dX16_least__3 : decode cX16_least_ 3 = .ok (.invokevirtual 213, 3) := by decide +kernel
theorem dX16_least__58 : decode cX16_least_ 58 = .ok (.goto 19, 3) := by decide +kernel
theorem dX16_leastLine_3 : decode cX16_leastLine 3 = .ok (.invokevirtual 213, 3) := by decide +kernel
theorem dX16_leastLine_54 : decode cX16_leastLine 54 = .ok (.goto 22, 3) := by decide +kernel
theorem dX16_isWhole_5 : decode cX16_isWhole 5 = .ok (.invokevirtual 44, 3) := by decide +kernel
theorem dX16_isWhole_14 : decode cX16_isWhole 14 = .ok (.iload_n 1, 1) := by decide +kernel
theorem dX16_isWhole_290 : decode cX16_isWhole 290 = .ok (.iconst 1, 1) := by decide +kernel
theorem dX16_isSound_5 : decode cX16_isSound 5 = .ok (.aload_n 0, 1) := by decide +kernel
theorem dX16_add_4 : decode cX16_add 4 = .ok (.lmul, 1) := by decide +kernel
theorem dX16_digest_1 : decode cX16_digest 1 = .ok (.iconst 0, 1) := by decide +kernel
theorem dX16_digest_10 : decode cX16_digest 10 = .ok (.istore_n 3, 1) := by decide +kernel
theorem dX16_digest_18 : decode cX16_digest 18 = .ok (.aload_n 0, 1) := by decide +kernel
theorem dX16_digest_27 : decode cX16_digest 27 = .ok (.lstore_n 1, 1) := by decide +kernel
theorem dX16_digest_38 : decode cX16_digest 38 = .ok (.invokevirtual 44, 3) := by decide +kernel
theorem dX16_digest_45 : decode cX16_digest 45 = .ok (.ifCond .lt 156, 3) := by decide +kernel
theorem dX16_digest_279 : decode cX16_digest 279 = .ok (.lload_n 1, 1) := by decide +kernel
theorem dX16_digest_288 : decode cX16_digest 288 = .ok (.invokestatic 372, 3) := by decide +kernel
theorem dX16_digest_297 : decode cX16_digest 297 = .ok (.invokestatic 372, 3) := by decide +kernel
theorem dX16_digest_306 : decode cX16_digest 306 = .ok (.invokestatic 372, 3) := by decide +kernel
theorem dX16_digest_313 : decode cX16_digest 313 = .ok (.bipush 10, 2) := by decide +kernel
theorem dX16_digest_321 : decode cX16_digest 321 = .ok (.invokevirtual 341, 3) := by decide +kernel
theorem dX16_digest_332 : decode cX16_digest 332 = .ok (.goto (-20), 3) := by decide +kernel
theorem dX16_digest_395 : decode cX16_digest 395 = .ok (.aload_n 0, 1) := by decide +kernel
theorem dX16_digest_406 : decode cX16_digest 406 = .ok (.lreturn, 1) := by decide +kernel
theorem dJ5_init_d00df_10 : decode cJ5_init_d00df 10 = .ok (.aload_n 0, 1) := by decide +kernel
theorem dJ5_init_d00df_18 : decode cJ5_init_d00df 18 = .ok (.iconst 0, 1) := by decide +kernel
theorem dJ5_length_8abf5_1 : decode cJ5_length_8abf5 1 = .ok (.getfield 79, 3) := by decide +kernel
theorem dJ5_ensureCapacityInternal_d00df_5 : decode cJ5_ensureCapacityInternal_d00df 5 = .ok (.aload_n 0, 1) := by decide +kernel
theorem dJ5_ensureCapacityInternal_d00df_12 : decode cJ5_ensureCapacityInternal_d00df 12 = .ok (.iload_n 2, 1) := by decide +kernel
theorem dJ5_setLength_d00df_1 : decode cJ5_setLength_d00df 1 = .ok (.ifCond .ge 12, 3) := by decide +kernel
theorem dJ5_setLength_d00df_19 : decode cJ5_setLength_d00df 19 = .ok (.getfield 79, 3) := by decide +kernel
theorem dJ5_setLength_d00df_67 : decode cJ5_setLength_d00df 67 = .ok (.iload_n 1, 1) := by decide +kernel
theorem dJ5_setLength_d00df_81 : decode cJ5_setLength_d00df 81 = .ok (.return_, 1) := by decide +kernel
theorem dJ5_append_cf1ce_13 : decode cJ5_append_cf1ce 13 = .ok (.istore_n 2, 1) := by decide +kernel
theorem dJ5_append_cf1ce_20 : decode cJ5_append_cf1ce 20 = .ok (.iadd, 1) := by decide +kernel
theorem dJ5_append_cf1ce_29 : decode cJ5_append_cf1ce 29 = .ok (.aload_n 1, 1) := by decide +kernel
theorem dJ5_append_cf1ce_38 : decode cJ5_append_cf1ce 38 = .ok (.iload_n 2, 1) := by decide +kernel
theorem dJ5_append_3fe6f_0 : decode cJ5_append_3fe6f 0 = .ok (.aload_n 0, 1) := by decide +kernel
theorem dJ5_append_3fe6f_7 : decode cJ5_append_3fe6f 7 = .ok (.invokevirtual 100, 3) := by decide +kernel
theorem dJ5_append_3fe6f_18 : decode cJ5_append_3fe6f 18 = .ok (.invokestatic 191, 3) := by decide +kernel
theorem dJ5_append_3fe6f_29 : decode cJ5_append_3fe6f 29 = .ok (.dup, 1) := by decide +kernel
theorem dJ5_append_3fe6f_36 : decode cJ5_append_3fe6f 36 = .ok (.putfield 79, 3) := by decide +kernel
theorem dJ5_append_3fe6f_75 : decode cJ5_append_3fe6f 75 = .ok (.aload_n 0, 1) := by decide +kernel
theorem dJ5_isLatin1_aae02_0 : decode cJ5_isLatin1_aae02 0 = .ok (.getstatic 18, 3) := by decide +kernel
theorem dJ5_isLatin1_aae02_13 : decode cJ5_isLatin1_aae02 13 = .ok (.iconst 1, 1) := by decide +kernel
theorem dJ5_inflateIfNeededFor_a7421_6 : decode cJ5_inflateIfNeededFor_a7421 6 = .ok (.aload_n 0, 1) := by decide +kernel
theorem dJ5_inflateIfNeededFor_a7421_21 : decode cJ5_inflateIfNeededFor_a7421 21 = .ok (.return_, 1) := by decide +kernel
theorem dJ5_putStringAt_47b60_6 : decode cJ5_putStringAt_47b60 6 = .ok (.aload_n 0, 1) := by decide +kernel
theorem dJ5_putStringAt_47b60_15 : decode cJ5_putStringAt_47b60 15 = .ok (.invokevirtual 399, 3) := by decide +kernel
theorem dJ0_init_81219_3 : decode cJ0_init_81219 3 = .ok (.invokespecial 489, 3) := by decide +kernel
theorem dJ0_length_8abf5_5 : decode cJ0_length_8abf5 5 = .ok (.aload_n 0, 1) := by decide +kernel
theorem dJ0_isEmpty_aae02_1 : decode cJ0_isEmpty_aae02 1 = .ok (.getfield 9, 3) := by decide +kernel
theorem dJ0_isEmpty_aae02_12 : decode cJ0_isEmpty_aae02 12 = .ok (.iconst 0, 1) := by decide +kernel
theorem dJ0_charAt_5068e_7 : decode cJ0_charAt_5068e 7 = .ok (.aload_n 0, 1) := by decide +kernel
theorem dJ0_equals_9ea2d_0 : decode cJ0_equals_9ea2d 0 = .ok (.aload_n 0, 1) := by decide +kernel
theorem dJ0_equals_9ea2d_7 : decode cJ0_equals_9ea2d 7 = .ok (.aload_n 1, 1) := by decide +kernel
theorem dJ0_equals_9ea2d_18 : decode cJ0_equals_9ea2d 18 = .ok (.astore_n 2, 1) := by decide +kernel
theorem dJ0_equals_9ea2d_29 : decode cJ0_equals_9ea2d 29 = .ok (.aload_n 2, 1) := by decide +kernel
theorem dJ0_equals_9ea2d_40 : decode cJ0_equals_9ea2d 40 = .ok (.aload_n 2, 1) := by decide +kernel
theorem dJ0_equals_9ea2d_51 : decode cJ0_equals_9ea2d 51 = .ok (.goto 4, 3) := by decide +kernel
theorem dJ0_substring_37a41_5 : decode cJ0_substring_37a41 5 = .ok (.iload_n 1, 1) := by decide +kernel
theorem dJ0_substring_37a41_12 : decode cJ0_substring_37a41 12 = .ok (.ifCond .ne 10, 3) := by decide +kernel
theorem dJ0_substring_37a41_23 : decode cJ0_substring_37a41 23 = .ok (.iload_n 1, 1) := by decide +kernel
theorem dJ0_substring_37a41_31 : decode cJ0_substring_37a41 31 = .ok (.ifCond .eq 16, 3) := by decide +kernel
theorem dJ0_substring_37a41_41 : decode cJ0_substring_37a41 41 = .ok (.invokestatic 685, 3) := by decide +kernel
theorem dJ0_getBytes_840e7_4 : decode cJ0_getBytes_840e7 4 = .ok (.iload_n 3, 1) := by decide +kernel
theorem dJ0_getBytes_840e7_13 : decode cJ0_getBytes_840e7 13 = .ok (.aload_n 1, 1) := by decide +kernel
theorem dJ0_getBytes_840e7_18 : decode cJ0_getBytes_840e7 18 = .ok (.getfield 9, 3) := by decide +kernel
theorem dJ0_init_db425_0 : decode cJ0_init_db425 0 = .ok (.aload_n 0, 1) := by decide +kernel
theorem dJ0_init_db425_9 : decode cJ0_init_db425 9 = .ok (.aload_n 1, 1) := by decide +kernel
theorem dJ0_init_db425_19 : decode cJ0_init_db425 19 = .ok (.ifCond .eq 22, 3) := by decide +kernel
theorem dJ0_init_db425_28 : decode cJ0_init_db425 28 = .ok (.aload_n 3, 1) := by decide +kernel
theorem dJ0_init_db425_38 : decode cJ0_init_db425 38 = .ok (.goto 59, 3) := by decide +kernel
theorem dJ0_init_031fb_5 : decode cJ0_init_031fb 5 = .ok (.aload_n 1, 1) := by decide +kernel
theorem dJ0_init_031fb_14 : decode cJ0_init_031fb 14 = .ok (.return_, 1) := by decide +kernel
theorem dJ0_coder_7d493_10 : decode cJ0_coder_7d493 10 = .ok (.goto 4, 3) := by decide +kernel
theorem dJ0_isLatin1_aae02_7 : decode cJ0_isLatin1_aae02 7 = .ok (.getfield 15, 3) := by decide +kernel
theorem dJ0_checkIndex_df160_0 : decode cJ0_checkIndex_df160 0 = .ok (.iload_n 0, 1) := by decide +kernel
theorem dJ0_checkIndex_df160_9 : decode cJ0_checkIndex_df160 9 = .ok (.return_, 1) := by decide +kernel
theorem dJ0_checkBoundsBeginEnd_23922_6 : decode cJ0_checkBoundsBeginEnd_23922 6 = .ok (.invokestatic 1062, 3) := by decide +kernel
theorem dJ4_init_da8c8_3 : decode cJ4_init_da8c8 3 = .ok (.invokespecial 1, 3) := by decide +kernel
theorem dJ4_append_15ec4_5 : decode cJ4_append_15ec4 5 = .ok (.pop, 1) := by decide +kernel
theorem dJ4_append_cf468_2 : decode cJ4_append_cf468 2 = .ok (.invokespecial 50, 3) := by decide +kernel
theorem dJ4_toString_0e30d_3 : decode cJ4_toString_0e30d 3 = .ok (.dup, 1) := by decide +kernel
theorem dJ4_setLength_d00df_1 : decode cJ4_setLength_d00df 1 = .ok (.iload_n 1, 1) := by decide +kernel
theorem dJ4_length_8abf5_4 : decode cJ4_length_8abf5 4 = .ok (.ireturn, 1) := by decide +kernel
theorem dJ1_charAt_3b067_6 : decode cJ1_charAt_3b067 6 = .ok (.aload_n 0, 1) := by decide +kernel
theorem dJ1_charAt_3b067_13 : decode cJ1_charAt_3b067 13 = .ok (.i2c, 1) := by decide +kernel
theorem dJ1_canEncode_fc78d_7 : decode cJ1_canEncode_fc78d 7 = .ok (.iconst 1, 1) := by decide +kernel
theorem dJ1_equals_b5fdf_2 : decode cJ1_equals_b5fdf 2 = .ok (.aload_n 1, 1) := by decide +kernel
theorem dJ1_equals_b5fdf_9 : decode cJ1_equals_b5fdf 9 = .ok (.iload_n 2, 1) := by decide +kernel
theorem dJ1_equals_b5fdf_33 : decode cJ1_equals_b5fdf 33 = .ok (.ireturn, 1) := by decide +kernel
theorem dJ1_newString_b4f7a_7 : decode cJ1_newString_b4f7a 7 = .ok (.new 1, 3) := by decide +kernel
theorem dJ1_newString_b4f7a_14 : decode cJ1_newString_b4f7a 14 = .ok (.iload_n 2, 1) := by decide +kernel
theorem dJ1_newString_b4f7a_23 : decode cJ1_newString_b4f7a 23 = .ok (.areturn, 1) := by decide +kernel
theorem dJxc12de_init_da8c8_1 : decode cJxc12de_init_da8c8 1 = .ok (.invokespecial 1, 3) := by decide +kernel
theorem dJx35411_init_45d68_0 : decode cJx35411_init_45d68 0 = .ok (.aload_n 0, 1) := by decide +kernel
theorem dJx35411_init_45d68_9 : decode cJx35411_init_45d68 9 = .ok (.aload_n 0, 1) := by decide +kernel
theorem dJx35411_init_45d68_16 : decode cJx35411_init_45d68 16 = .ok (.getfield 1, 3) := by decide +kernel
theorem dJx35411_hasNext_aae02_1 : decode cJx35411_hasNext_aae02 1 = .ok (.getfield 25, 3) := by decide +kernel
theorem dJx35411_hasNext_aae02_18 : decode cJx35411_hasNext_aae02 18 = .ok (.iconst 0, 1) := by decide +kernel
theorem dJx4a65c_init_da8c8_5 : decode cJx4a65c_init_da8c8 5 = .ok (.getstatic 39, 3) := by decide +kernel
theorem dJx4a65c_grow_92f84_4 : decode cJx4a65c_grow_92f84 4 = .ok (.arraylength, 1) := by decide +kernel
theorem dJx4a65c_grow_92f84_11 : decode cJx4a65c_grow_92f84 11 = .ok (.getfield 9, 3) := by decide +kernel
theorem dJx4a65c_grow_92f84_48 : decode cJx4a65c_grow_92f84 48 = .ok (.iload_n 1, 1) := by decide +kernel
theorem dJx4a65c_grow_92f84_59 : decode cJx4a65c_grow_92f84 59 = .ok (.areturn, 1) := by decide +kernel
theorem dJx4a65c_grow_d5877_6 : decode cJx4a65c_grow_d5877 6 = .ok (.iadd, 1) := by decide +kernel
theorem dJx4a65c_size_8abf5_4 : decode cJx4a65c_size_8abf5 4 = .ok (.ireturn, 1) := by decide +kernel
theorem dJx4a65c_isEmpty_aae02_8 : decode cJx4a65c_isEmpty_aae02 8 = .ok (.goto 4, 3) := by decide +kernel
theorem dJx4a65c_add_72be8_3 : decode cJx4a65c_add_72be8 3 = .ok (.if_icmp .ne 8, 3) := by decide +kernel
theorem dJx4a65c_add_72be8_12 : decode cJx4a65c_add_72be8 12 = .ok (.iload_n 3, 1) := by decide +kernel
theorem dJx4a65c_add_72be8_17 : decode cJx4a65c_add_72be8 17 = .ok (.iconst 1, 1) := by decide +kernel
theorem dJx4a65c_add_9ea2d_1 : decode cJx4a65c_add_9ea2d 1 = .ok (.dup, 1) := by decide +kernel
theorem dJx4a65c_add_9ea2d_10 : decode cJx4a65c_add_9ea2d 10 = .ok (.aload_n 0, 1) := by decide +kernel
theorem dJx4a65c_add_9ea2d_17 : decode cJx4a65c_add_9ea2d 17 = .ok (.getfield 48, 3) := by decide +kernel
theorem dJx4a65c_iterator_32c93_3 : decode cJx4a65c_iterator_32c93 3 = .ok (.dup, 1) := by decide +kernel
theorem dJ7_checkLength_df160_1 : decode cJ7_checkLength_df160 1 = .ok (.iload_n 0, 1) := by decide +kernel
theorem dJ7_copyOfRange_39247_4 : decode cJ7_copyOfRange_39247 4 = .ok (.iload_n 2, 1) := by decide +kernel
theorem dJ7_copyOfRange_39247_11 : decode cJ7_copyOfRange_39247 11 = .ok (.iload_n 1, 1) := by decide +kernel
theorem dJ7_copyOfRangeByte_39247_1 : decode cJ7_copyOfRangeByte_39247 1 = .ok (.iload_n 2, 1) := by decide +kernel
theorem dJ7_copyOfRangeByte_39247_8 : decode cJ7_copyOfRangeByte_39247 8 = .ok (.istore_n 3, 1) := by decide +kernel
theorem dJ7_copyOfRangeByte_39247_15 : decode cJ7_copyOfRangeByte_39247 15 = .ok (.iload_n 1, 1) := by decide +kernel
theorem dJ7_copyOfRangeByte_39247_21 : decode cJ7_copyOfRangeByte_39247 21 = .ok (.iload_n 1, 1) := by decide +kernel
theorem dJ7_copyOfRangeByte_39247_30 : decode cJ7_copyOfRangeByte_39247 30 = .ok (.aload 4, 2) := by decide +kernel
theorem dJ3_checkIndex_8e157_5 : decode cJ3_checkIndex_8e157 5 = .ok (.iload_n 1, 1) := by decide +kernel
theorem dJ3_checkFromToIndex_8c36e_1 : decode cJ3_checkFromToIndex_8c36e 1 = .ok (.ifCond .lt 13, 3) := by decide +kernel
theorem dJ3_checkFromToIndex_8c36e_10 : decode cJ3_checkFromToIndex_8c36e 10 = .ok (.iload_n 2, 1) := by decide +kernel
theorem dL_word_1 : decode cL_word 1 = .ok (.aload_n 0, 1) := by decide +kernel
theorem dL_word_8 : decode cL_word 8 = .ok (.putfield 13, 3) := by decide +kernel
theorem dL_word_22 : decode cL_word 22 = .ok (.iconst 0, 1) := by decide +kernel
theorem dL_mark_3 : decode cL_mark 3 = .ok (.invokevirtual 23, 3) := by decide +kernel
theorem dL_mark_14 : decode cL_mark 14 = .ok (.iconst 1, 1) := by decide +kernel
theorem dL_join_1 : decode cL_join 1 = .ok (.aload_n 0, 1) := by decide +kernel
theorem dL_join_16 : decode cL_join 16 = .ok (.iconst 1, 1) := by decide +kernel
theorem dL_nest_3 : decode cL_nest 3 = .ok (.iload_n 2, 1) := by decide +kernel
theorem dL_align_0 : decode cL_align 0 = .ok (.aload_n 2, 1) := by decide +kernel
theorem dL_align_14 : decode cL_align 14 = .ok (.iconst 1, 1) := by decide +kernel
theorem dL_group_3 : decode cL_group 3 = .ok (.invokevirtual 38, 3) := by decide +kernel
theorem dL_fill_1 : decode cL_fill 1 = .ok (.aload_n 0, 1) := by decide +kernel
theorem dL_fill_16 : decode cL_fill 16 = .ok (.iconst 1, 1) := by decide +kernel
theorem dL_width_3 : decode cL_width 3 = .ok (.invokevirtual 44, 3) := by decide +kernel
theorem dL_width_14 : decode cL_width 14 = .ok (.iconst 1, 1) := by decide +kernel
theorem dL_ribbon_1 : decode cL_ribbon 1 = .ok (.aload_n 0, 1) := by decide +kernel
theorem dL_ribbon_10 : decode cL_ribbon 10 = .ok (.goto 6, 3) := by decide +kernel
theorem dL_ribbon_17 : decode cL_ribbon 17 = .ok (.ireturn, 1) := by decide +kernel
theorem dL_say_5 : decode cL_say 5 = .ok (.iload_n 3, 1) := by decide +kernel
theorem dL_say_15 : decode cL_say 15 = .ok (.i2l, 1) := by decide +kernel
theorem dL_say_25 : decode cL_say 25 = .ok (.ireturn, 1) := by decide +kernel
theorem dL_read_2 : decode cL_read 2 = .ok (.invokevirtual 54, 3) := by decide +kernel
theorem dL_read_16 : decode cL_read 16 = .ok (.ireturn, 1) := by decide +kernel
theorem dL_ofNode_4 : decode cL_ofNode 4 = .ok (.invokevirtual 58, 3) := by decide +kernel
theorem dL_flat_1 : decode cL_flat 1 = .ok (.aload_n 0, 1) := by decide +kernel
theorem dL_flat_14 : decode cL_flat 14 = .ok (.ireturn, 1) := by decide +kernel
theorem dL_line_4 : decode cL_line 4 = .ok (.invokevirtual 69, 3) := by decide +kernel
theorem dL_measure_1 : decode cL_measure 1 = .ok (.aload_n 0, 1) := by decide +kernel
theorem dL_measure_16 : decode cL_measure 16 = .ok (.iconst 1, 1) := by decide +kernel
theorem dL_at_4 : decode cL_at 4 = .ok (.iload_n 2, 1) := by decide +kernel
theorem dL_at_19 : decode cL_at 19 = .ok (.ireturn, 1) := by decide +kernel
theorem dL_where_5 : decode cL_where 5 = .ok (.iload_n 3, 1) := by decide +kernel
theorem dL_isOne_0 : decode cL_isOne 0 = .ok (.aload_n 3, 1) := by decide +kernel
theorem dL_isOne_14 : decode cL_isOne 14 = .ok (.astore 4, 2) := by decide +kernel
theorem dL_differ_3 : decode cL_differ 3 = .ok (.iload_n 1, 1) := by decide +kernel
theorem dL_differ_18 : decode cL_differ 18 = .ok (.iconst 1, 1) := by decide +kernel
theorem dL_ofCode_3 : decode cL_ofCode 3 = .ok (.invokevirtual 90, 3) := by decide +kernel
theorem dL_ofCode_14 : decode cL_ofCode 14 = .ok (.iconst 1, 1) := by decide +kernel
theorem dL_codeLine_1 : decode cL_codeLine 1 = .ok (.aload_n 0, 1) := by decide +kernel
theorem dL_codeLine_12 : decode cL_codeLine 12 = .ok (.astore_n 3, 1) := by decide +kernel
theorem dL_house_0 : decode cL_house 0 = .ok (.aload_n 2, 1) := by decide +kernel
theorem dL_house_7 : decode cL_house 7 = .ok (.putfield 13, 3) := by decide +kernel
theorem dL_house_16 : decode cL_house 16 = .ok (.iconst 0, 1) := by decide +kernel
theorem dL_fits_3 : decode cL_fits 3 = .ok (.iload_n 2, 1) := by decide +kernel
theorem dL_would_0 : decode cL_would 0 = .ok (.aload 4, 2) := by decide +kernel
theorem dL_would_6 : decode cL_would 6 = .ok (.invokevirtual 103, 3) := by decide +kernel
theorem dL_narrowest_1 : decode cL_narrowest 1 = .ok (.aload_n 0, 1) := by decide +kernel
theorem dL_narrowest_15 : decode cL_narrowest 15 = .ok (.ireturn, 1) := by decide +kernel
theorem dL_least_4 : decode cL_least 4 = .ok (.invokevirtual 109, 3) := by decide +kernel
theorem dL_leastLine_1 : decode cL_leastLine 1 = .ok (.aload_n 0, 1) := by decide +kernel
theorem dL_leastLine_15 : decode cL_leastLine 15 = .ok (.iconst 1, 1) := by decide +kernel
theorem dL_law_7 : decode cL_law 7 = .ok (.astore_n 1, 1) := by decide +kernel
theorem dL_law_16 : decode cL_law 16 = .ok (.new 14, 3) := by decide +kernel
theorem dL_law_25 : decode cL_law 25 = .ok (.istore 4, 2) := by decide +kernel
theorem dL_law_33 : decode cL_law 33 = .ok (.isub, 1) := by decide +kernel
theorem dL_law_41 : decode cL_law 41 = .ok (.bipush 63, 2) := by decide +kernel
theorem dL_law_206 : decode cL_law 206 = .ok (.iload 4, 2) := by decide +kernel
theorem dL_law_212 : decode cL_law 212 = .ok (.iload 4, 2) := by decide +kernel
theorem dL_law_218 : decode cL_law 218 = .ok (.invokestatic 120, 3) := by decide +kernel
theorem dL_law_227 : decode cL_law 227 = .ok (.iconst 1, 1) := by decide +kernel
theorem dL_law_233 : decode cL_law 233 = .ok (.iconst 2, 1) := by decide +kernel
theorem dL_law_241 : decode cL_law 241 = .ok (.aload_n 2, 1) := by decide +kernel
theorem dL_law_254 : decode cL_law 254 = .ok (.ifCond .ne 16, 3) := by decide +kernel
theorem dL_law_264 : decode cL_law 264 = .ok (.lcmp, 1) := by decide +kernel
theorem dL_law_275 : decode cL_law 275 = .ok (.iload 4, 2) := by decide +kernel
theorem dL_law_281 : decode cL_law 281 = .ok (.invokestatic 129, 3) := by decide +kernel
theorem dL_law_290 : decode cL_law 290 = .ok (.iconst 1, 1) := by decide +kernel
theorem dL_law_298 : decode cL_law 298 = .ok (.aload_n 2, 1) := by decide +kernel
theorem dL_law_311 : decode cL_law 311 = .ok (.ifCond .ne 16, 3) := by decide +kernel
theorem dL_law_321 : decode cL_law 321 = .ok (.lcmp, 1) := by decide +kernel
theorem dL_law_332 : decode cL_law 332 = .ok (.iload 4, 2) := by decide +kernel
theorem dL_law_338 : decode cL_law 338 = .ok (.iload 4, 2) := by decide +kernel
theorem dL_law_344 : decode cL_law 344 = .ok (.invokestatic 133, 3) := by decide +kernel
theorem dL_law_353 : decode cL_law 353 = .ok (.iconst 1, 1) := by decide +kernel
theorem dL_law_359 : decode cL_law 359 = .ok (.iconst 2, 1) := by decide +kernel
theorem dL_law_367 : decode cL_law 367 = .ok (.aload_n 2, 1) := by decide +kernel
theorem dL_law_380 : decode cL_law 380 = .ok (.ifCond .ne 16, 3) := by decide +kernel
theorem dL_law_403 : decode cL_law 403 = .ok (.iconst 1, 1) := by decide +kernel
theorem dL_law_409 : decode cL_law 409 = .ok (.iconst 2, 1) := by decide +kernel
theorem dL_law_416 : decode cL_law 416 = .ok (.istore 5, 2) := by decide +kernel
theorem dL_law_423 : decode cL_law 423 = .ok (.iadd, 1) := by decide +kernel
theorem dL_law_429 : decode cL_law 429 = .ok (.iadd, 1) := by decide +kernel
theorem dL_law_437 : decode cL_law 437 = .ok (.invokevirtual 126, 3) := by decide +kernel
theorem dL_law_465 : decode cL_law 465 = .ok (.goto 1751, 3) := by decide +kernel
theorem dL_law_473 : decode cL_law 473 = .ok (.iadd, 1) := by decide +kernel
theorem dL_law_481 : decode cL_law 481 = .ok (.aload_n 2, 1) := by decide +kernel
theorem dL_law_487 : decode cL_law 487 = .ok (.iaload, 1) := by decide +kernel
theorem dL_law_497 : decode cL_law 497 = .ok (.iload 5, 2) := by decide +kernel
theorem dL_law_525 : decode cL_law 525 = .ok (.aload_n 1, 1) := by decide +kernel
theorem dL_law_531 : decode cL_law 531 = .ok (.iaload, 1) := by decide +kernel
theorem dL_law_539 : decode cL_law 539 = .ok (.aload_n 0, 1) := by decide +kernel
theorem dL_law_545 : decode cL_law 545 = .ok (.invokevirtual 144, 3) := by decide +kernel
theorem dL_law_556 : decode cL_law 556 = .ok (.if_icmp .eq 5, 3) := by decide +kernel
theorem dL_law_583 : decode cL_law 583 = .ok (.aload_n 0, 1) := by decide +kernel
theorem dL_law_589 : decode cL_law 589 = .ok (.aload_n 0, 1) := by decide +kernel
theorem dL_law_595 : decode cL_law 595 = .ok (.aload_n 3, 1) := by decide +kernel
theorem dL_law_603 : decode cL_law 603 = .ok (.iload 4, 2) := by decide +kernel
theorem dL_law_609 : decode cL_law 609 = .ok (.iload 4, 2) := by decide +kernel
theorem dL_law_617 : decode cL_law 617 = .ok (.istore 6, 2) := by decide +kernel
theorem dL_law_630 : decode cL_law 630 = .ok (.iload 5, 2) := by decide +kernel
theorem dL_law_655 : decode cL_law 655 = .ok (.aload_n 2, 1) := by decide +kernel
theorem dL_law_666 : decode cL_law 666 = .ok (.iload 4, 2) := by decide +kernel
theorem dL_law_672 : decode cL_law 672 = .ok (.invokestatic 152, 3) := by decide +kernel
theorem dL_law_681 : decode cL_law 681 = .ok (.iconst 1, 1) := by decide +kernel
theorem dL_law_689 : decode cL_law 689 = .ok (.aload_n 2, 1) := by decide +kernel
theorem dL_law_702 : decode cL_law 702 = .ok (.ifCond .ne 16, 3) := by decide +kernel
theorem dL_law_712 : decode cL_law 712 = .ok (.lcmp, 1) := by decide +kernel
theorem dL_law_723 : decode cL_law 723 = .ok (.iload 4, 2) := by decide +kernel
theorem dL_law_729 : decode cL_law 729 = .ok (.invokestatic 155, 3) := by decide +kernel
theorem dL_law_738 : decode cL_law 738 = .ok (.iconst 1, 1) := by decide +kernel
theorem dL_law_746 : decode cL_law 746 = .ok (.aload_n 2, 1) := by decide +kernel
theorem dL_law_759 : decode cL_law 759 = .ok (.ifCond .ne 16, 3) := by decide +kernel
theorem dL_law_769 : decode cL_law 769 = .ok (.lcmp, 1) := by decide +kernel
theorem dL_law_780 : decode cL_law 780 = .ok (.iload 4, 2) := by decide +kernel
theorem dL_law_786 : decode cL_law 786 = .ok (.iload 4, 2) := by decide +kernel
theorem dL_law_792 : decode cL_law 792 = .ok (.iload 4, 2) := by decide +kernel
theorem dL_law_798 : decode cL_law 798 = .ok (.iload 4, 2) := by decide +kernel
theorem dL_law_804 : decode cL_law 804 = .ok (.iload 4, 2) := by decide +kernel
theorem dL_law_810 : decode cL_law 810 = .ok (.iload 4, 2) := by decide +kernel
theorem dL_law_817 : decode cL_law 817 = .ok (.invokestatic 158, 3) := by decide +kernel
theorem dL_law_826 : decode cL_law 826 = .ok (.iconst 1, 1) := by decide +kernel
theorem dL_law_832 : decode cL_law 832 = .ok (.iconst 2, 1) := by decide +kernel
theorem dL_law_838 : decode cL_law 838 = .ok (.iconst 3, 1) := by decide +kernel
theorem dL_law_844 : decode cL_law 844 = .ok (.iconst 4, 1) := by decide +kernel
theorem dL_law_850 : decode cL_law 850 = .ok (.iconst 5, 1) := by decide +kernel
theorem dL_law_856 : decode cL_law 856 = .ok (.bipush 6, 2) := by decide +kernel
theorem dL_law_865 : decode cL_law 865 = .ok (.aload_n 2, 1) := by decide +kernel
theorem dL_law_878 : decode cL_law 878 = .ok (.ifCond .ne 16, 3) := by decide +kernel
theorem dL_law_888 : decode cL_law 888 = .ok (.lcmp, 1) := by decide +kernel
theorem dL_law_899 : decode cL_law 899 = .ok (.invokestatic 162, 3) := by decide +kernel
theorem dL_law_910 : decode cL_law 910 = .ok (.aload_n 2, 1) := by decide +kernel
theorem dL_law_923 : decode cL_law 923 = .ok (.ifCond .ne 16, 3) := by decide +kernel
theorem dL_law_933 : decode cL_law 933 = .ok (.lcmp, 1) := by decide +kernel
theorem dL_law_946 : decode cL_law 946 = .ok (.aload_n 2, 1) := by decide +kernel
theorem dL_law_959 : decode cL_law 959 = .ok (.aload_n 2, 1) := by decide +kernel
theorem dL_law_972 : decode cL_law 972 = .ok (.aload_n 2, 1) := by decide +kernel
theorem dL_law_983 : decode cL_law 983 = .ok (.iload 4, 2) := by decide +kernel
theorem dL_law_989 : decode cL_law 989 = .ok (.iload 4, 2) := by decide +kernel
theorem dL_law_995 : decode cL_law 995 = .ok (.invokestatic 178, 3) := by decide +kernel
theorem dL_law_1004 : decode cL_law 1004 = .ok (.iconst 1, 1) := by decide +kernel
theorem dL_law_1010 : decode cL_law 1010 = .ok (.iconst 2, 1) := by decide +kernel
theorem dL_law_1018 : decode cL_law 1018 = .ok (.aload_n 2, 1) := by decide +kernel
theorem dL_law_1031 : decode cL_law 1031 = .ok (.ifCond .ne 16, 3) := by decide +kernel
theorem dL_law_1054 : decode cL_law 1054 = .ok (.iconst 1, 1) := by decide +kernel
theorem dL_law_1061 : decode cL_law 1061 = .ok (.istore 5, 2) := by decide +kernel
theorem dL_law_1068 : decode cL_law 1068 = .ok (.iadd, 1) := by decide +kernel
theorem dL_law_1076 : decode cL_law 1076 = .ok (.invokevirtual 126, 3) := by decide +kernel
theorem dL_law_1105 : decode cL_law 1105 = .ok (.goto 1111, 3) := by decide +kernel
theorem dL_law_1113 : decode cL_law 1113 = .ok (.iadd, 1) := by decide +kernel
theorem dL_law_1119 : decode cL_law 1119 = .ok (.iadd, 1) := by decide +kernel
theorem dL_law_1127 : decode cL_law 1127 = .ok (.aload_n 2, 1) := by decide +kernel
theorem dL_law_1133 : decode cL_law 1133 = .ok (.iaload, 1) := by decide +kernel
theorem dL_law_1139 : decode cL_law 1139 = .ok (.iaload, 1) := by decide +kernel
theorem dL_law_1149 : decode cL_law 1149 = .ok (.iload 5, 2) := by decide +kernel
theorem dL_law_1178 : decode cL_law 1178 = .ok (.aload_n 1, 1) := by decide +kernel
theorem dL_law_1184 : decode cL_law 1184 = .ok (.iaload, 1) := by decide +kernel
theorem dL_law_1190 : decode cL_law 1190 = .ok (.iaload, 1) := by decide +kernel
theorem dL_law_1198 : decode cL_law 1198 = .ok (.aload_n 0, 1) := by decide +kernel
theorem dL_law_1204 : decode cL_law 1204 = .ok (.aload_n 0, 1) := by decide +kernel
theorem dL_law_1210 : decode cL_law 1210 = .ok (.invokevirtual 195, 3) := by decide +kernel
theorem dL_law_1221 : decode cL_law 1221 = .ok (.if_icmp .eq 5, 3) := by decide +kernel
theorem dL_law_1248 : decode cL_law 1248 = .ok (.aload_n 0, 1) := by decide +kernel
theorem dL_law_1254 : decode cL_law 1254 = .ok (.aload_n 0, 1) := by decide +kernel
theorem dL_law_1260 : decode cL_law 1260 = .ok (.aload_n 0, 1) := by decide +kernel
theorem dL_law_1266 : decode cL_law 1266 = .ok (.aload_n 3, 1) := by decide +kernel
theorem dL_law_1274 : decode cL_law 1274 = .ok (.iload 4, 2) := by decide +kernel
theorem dL_law_1280 : decode cL_law 1280 = .ok (.iload 4, 2) := by decide +kernel
theorem dL_law_1286 : decode cL_law 1286 = .ok (.iload 4, 2) := by decide +kernel
theorem dL_law_1294 : decode cL_law 1294 = .ok (.istore 6, 2) := by decide +kernel
theorem dL_law_1307 : decode cL_law 1307 = .ok (.iload 5, 2) := by decide +kernel
theorem dL_law_1330 : decode cL_law 1330 = .ok (.iload 4, 2) := by decide +kernel
theorem dL_law_1336 : decode cL_law 1336 = .ok (.iload 4, 2) := by decide +kernel
theorem dL_law_1342 : decode cL_law 1342 = .ok (.iload 4, 2) := by decide +kernel
theorem dL_law_1350 : decode cL_law 1350 = .ok (.iconst 1, 1) := by decide +kernel
theorem dL_law_1359 : decode cL_law 1359 = .ok (.istore 5, 2) := by decide +kernel
theorem dL_law_1366 : decode cL_law 1366 = .ok (.iadd, 1) := by decide +kernel
theorem dL_law_1372 : decode cL_law 1372 = .ok (.iadd, 1) := by decide +kernel
theorem dL_law_1378 : decode cL_law 1378 = .ok (.iadd, 1) := by decide +kernel
theorem dL_law_1387 : decode cL_law 1387 = .ok (.iconst 0, 1) := by decide +kernel
theorem dL_law_1397 : decode cL_law 1397 = .ok (.iload 5, 2) := by decide +kernel
theorem dL_law_1425 : decode cL_law 1425 = .ok (.aload_n 1, 1) := by decide +kernel
theorem dL_law_1431 : decode cL_law 1431 = .ok (.iaload, 1) := by decide +kernel
theorem dL_law_1437 : decode cL_law 1437 = .ok (.iaload, 1) := by decide +kernel
theorem dL_law_1445 : decode cL_law 1445 = .ok (.aload_n 0, 1) := by decide +kernel
theorem dL_law_1451 : decode cL_law 1451 = .ok (.aload_n 0, 1) := by decide +kernel
theorem dL_law_1457 : decode cL_law 1457 = .ok (.invokevirtual 206, 3) := by decide +kernel
theorem dL_law_1468 : decode cL_law 1468 = .ok (.if_icmp .eq 5, 3) := by decide +kernel
theorem dL_law_1495 : decode cL_law 1495 = .ok (.aload_n 0, 1) := by decide +kernel
theorem dL_law_1501 : decode cL_law 1501 = .ok (.aload_n 0, 1) := by decide +kernel
theorem dL_law_1507 : decode cL_law 1507 = .ok (.aload_n 0, 1) := by decide +kernel
theorem dL_law_1513 : decode cL_law 1513 = .ok (.ifCond .eq 7, 3) := by decide +kernel
theorem dL_law_1522 : decode cL_law 1522 = .ok (.invokestatic 207, 3) := by decide +kernel
theorem dL_law_1531 : decode cL_law 1531 = .ok (.iconst 1, 1) := by decide +kernel
theorem dL_law_1537 : decode cL_law 1537 = .ok (.iconst 2, 1) := by decide +kernel
theorem dL_law_1543 : decode cL_law 1543 = .ok (.iconst 3, 1) := by decide +kernel
theorem dL_law_1550 : decode cL_law 1550 = .ok (.goto 4, 3) := by decide +kernel
theorem dL_law_1560 : decode cL_law 1560 = .ok (.invokevirtual 126, 3) := by decide +kernel
theorem dL_law_1588 : decode cL_law 1588 = .ok (.goto 628, 3) := by decide +kernel
theorem dL_law_1599 : decode cL_law 1599 = .ok (.invokevirtual 184, 3) := by decide +kernel
theorem dL_law_1611 : decode cL_law 1611 = .ok (.iconst 1, 1) := by decide +kernel
theorem dL_law_1618 : decode cL_law 1618 = .ok (.goto 4, 3) := by decide +kernel
theorem dL_law_1627 : decode cL_law 1627 = .ok (.iload 4, 2) := by decide +kernel
theorem dL_law_1635 : decode cL_law 1635 = .ok (.iconst 1, 1) := by decide +kernel
theorem dL_law_1648 : decode cL_law 1648 = .ok (.aload_n 1, 1) := by decide +kernel
theorem dL_law_1654 : decode cL_law 1654 = .ok (.iaload, 1) := by decide +kernel
theorem dL_law_1662 : decode cL_law 1662 = .ok (.aload_n 0, 1) := by decide +kernel
theorem dL_law_1668 : decode cL_law 1668 = .ok (.invokevirtual 222, 3) := by decide +kernel
theorem dL_law_1679 : decode cL_law 1679 = .ok (.if_icmp .eq 5, 3) := by decide +kernel
theorem dL_law_1693 : decode cL_law 1693 = .ok (.iload 6, 2) := by decide +kernel
theorem dL_law_1705 : decode cL_law 1705 = .ok (.aload_n 1, 1) := by decide +kernel
theorem dL_law_1716 : decode cL_law 1716 = .ok (.ifCond .ne 500, 3) := by decide +kernel
theorem dL_law_1726 : decode cL_law 1726 = .ok (.iadd, 1) := by decide +kernel
theorem dL_law_1734 : decode cL_law 1734 = .ok (.aload_n 2, 1) := by decide +kernel
theorem dL_law_1740 : decode cL_law 1740 = .ok (.iaload, 1) := by decide +kernel
theorem dL_law_1750 : decode cL_law 1750 = .ok (.iload 5, 2) := by decide +kernel
theorem dL_law_1763 : decode cL_law 1763 = .ok (.getfield 65, 3) := by decide +kernel
theorem dL_law_1779 : decode cL_law 1779 = .ok (.aload_n 1, 1) := by decide +kernel
theorem dL_law_1785 : decode cL_law 1785 = .ok (.iaload, 1) := by decide +kernel
theorem dL_law_1793 : decode cL_law 1793 = .ok (.aload_n 0, 1) := by decide +kernel
theorem dL_law_1799 : decode cL_law 1799 = .ok (.invokevirtual 232, 3) := by decide +kernel
theorem dL_law_1810 : decode cL_law 1810 = .ok (.if_icmp .eq 5, 3) := by decide +kernel
theorem dL_law_1824 : decode cL_law 1824 = .ok (.iload 6, 2) := by decide +kernel
theorem dL_law_1836 : decode cL_law 1836 = .ok (.aload_n 1, 1) := by decide +kernel
theorem dL_law_1842 : decode cL_law 1842 = .ok (.iaload, 1) := by decide +kernel
theorem dL_law_1848 : decode cL_law 1848 = .ok (.iaload, 1) := by decide +kernel
theorem dL_law_1856 : decode cL_law 1856 = .ok (.aload_n 0, 1) := by decide +kernel
theorem dL_law_1862 : decode cL_law 1862 = .ok (.aload_n 0, 1) := by decide +kernel
theorem dL_law_1868 : decode cL_law 1868 = .ok (.invokevirtual 235, 3) := by decide +kernel
theorem dL_law_1879 : decode cL_law 1879 = .ok (.if_icmp .eq 5, 3) := by decide +kernel
theorem dL_law_1913 : decode cL_law 1913 = .ok (.aload_n 0, 1) := by decide +kernel
theorem dL_law_1919 : decode cL_law 1919 = .ok (.aload_n 0, 1) := by decide +kernel
theorem dL_law_1925 : decode cL_law 1925 = .ok (.aload_n 0, 1) := by decide +kernel
theorem dL_law_1931 : decode cL_law 1931 = .ok (.aload_n 3, 1) := by decide +kernel
theorem dL_law_1939 : decode cL_law 1939 = .ok (.iload 4, 2) := by decide +kernel
theorem dL_law_1945 : decode cL_law 1945 = .ok (.iload 4, 2) := by decide +kernel
theorem dL_law_1951 : decode cL_law 1951 = .ok (.iload 4, 2) := by decide +kernel
theorem dL_law_1959 : decode cL_law 1959 = .ok (.istore 6, 2) := by decide +kernel
theorem dL_law_1972 : decode cL_law 1972 = .ok (.iload 5, 2) := by decide +kernel
theorem dL_law_1995 : decode cL_law 1995 = .ok (.iload 4, 2) := by decide +kernel
theorem dL_law_2001 : decode cL_law 2001 = .ok (.invokestatic 239, 3) := by decide +kernel
theorem dL_law_2010 : decode cL_law 2010 = .ok (.iconst 1, 1) := by decide +kernel
theorem dL_law_2018 : decode cL_law 2018 = .ok (.aload_n 2, 1) := by decide +kernel
theorem dL_law_2031 : decode cL_law 2031 = .ok (.ifCond .ne 16, 3) := by decide +kernel
theorem dL_law_2054 : decode cL_law 2054 = .ok (.iconst 1, 1) := by decide +kernel
theorem dL_law_2060 : decode cL_law 2060 = .ok (.iconst 2, 1) := by decide +kernel
theorem dL_law_2067 : decode cL_law 2067 = .ok (.istore 5, 2) := by decide +kernel
theorem dL_law_2074 : decode cL_law 2074 = .ok (.iadd, 1) := by decide +kernel
theorem dL_law_2080 : decode cL_law 2080 = .ok (.iadd, 1) := by decide +kernel
theorem dL_law_2088 : decode cL_law 2088 = .ok (.invokevirtual 126, 3) := by decide +kernel
theorem dL_law_2116 : decode cL_law 2116 = .ok (.goto 100, 3) := by decide +kernel
theorem dL_law_2124 : decode cL_law 2124 = .ok (.iadd, 1) := by decide +kernel
theorem dL_law_2130 : decode cL_law 2130 = .ok (.iadd, 1) := by decide +kernel
theorem dL_law_2138 : decode cL_law 2138 = .ok (.aload_n 2, 1) := by decide +kernel
theorem dL_law_2144 : decode cL_law 2144 = .ok (.iaload, 1) := by decide +kernel
theorem dL_law_2150 : decode cL_law 2150 = .ok (.iaload, 1) := by decide +kernel
theorem dL_law_2160 : decode cL_law 2160 = .ok (.iload 5, 2) := by decide +kernel
theorem dL_law_2189 : decode cL_law 2189 = .ok (.aload_n 1, 1) := by decide +kernel
theorem dL_law_2202 : decode cL_law 2202 = .ok (.aload_n 1, 1) := by decide +kernel
theorem dL_law_2211 : decode cL_law 2211 = .ok (.ifCond .eq 5, 3) := by decide +kernel
