theorem dX5_push_94 : decode cX5_push 94 = .ok (.iload 6, 2) := by decide +kernel
theorem dX5_push_96 : decode cX5_push 96 = .ok (.iadd, 1) := by decide +kernel
theorem dX5_push_97 : decode cX5_push 97 = .ok (.istore 8, 2) := by decide +kernel
theorem dX5_push_99 : decode cX5_push 99 = .ok (.iload 7, 2) := by decide +kernel
theorem dX5_push_101 : decode cX5_push 101 = .ok (.iload 8, 2) := by decide +kernel
theorem dX5_push_103 : decode cX5_push 103 = .ok (.invokestatic 67, 3) := by decide +kernel
theorem dX5_push_106 : decode cX5_push 106 = .ok (.ifCond .ne 10, 3) := by decide +kernel
theorem dX5_push_109 : decode cX5_push 109 = .ok (.aload_n 0, 1) := by decide +kernel
theorem dX5_push_110 : decode cX5_push 110 = .ok (.bipush (-2), 2) := by decide +kernel
theorem dX5_push_112 : decode cX5_push 112 = .ok (.putfield 71, 3) := by decide +kernel
theorem dX5_push_115 : decode cX5_push 115 = .ok (.return_, 1) := by decide +kernel
theorem dX5_push_116 : decode cX5_push 116 = .ok (.iload 9, 2) := by decide +kernel
theorem dX5_push_118 : decode cX5_push 118 = .ok (.iload 11, 2) := by decide +kernel
theorem dX5_push_120 : decode cX5_push 120 = .ok (.aload_n 0, 1) := by decide +kernel
theorem dX5_push_121 : decode cX5_push 121 = .ok (.bipush 8, 2) := by decide +kernel
theorem dX5_push_123 : decode cX5_push 123 = .ok (.iload 8, 2) := by decide +kernel
theorem dX5_push_125 : decode cX5_push 125 = .ok (.imul, 1) := by decide +kernel
theorem dX5_push_126 : decode cX5_push 126 = .ok (.iload 7, 2) := by decide +kernel
theorem dX5_push_128 : decode cX5_push 128 = .ok (.iadd, 1) := by decide +kernel
theorem dX5_push_129 : decode cX5_push 129 = .ok (.invokevirtual 63, 3) := by decide +kernel
theorem dX5_push_132 : decode cX5_push 132 = .ok (.isub, 1) := by decide +kernel
theorem dX5_push_133 : decode cX5_push 133 = .ok (.iconst 1, 1) := by decide +kernel
theorem dX5_push_134 : decode cX5_push 134 = .ok (.isub, 1) := by decide +kernel
theorem dX5_push_135 : decode cX5_push 135 = .ok (.iadd, 1) := by decide +kernel
theorem dX5_push_136 : decode cX5_push 136 = .ok (.istore 9, 2) := by decide +kernel
theorem dX5_push_138 : decode cX5_push 138 = .ok (.aload_n 0, 1) := by decide +kernel
theorem dX5_push_139 : decode cX5_push 139 = .ok (.dup, 1) := by decide +kernel
theorem dX5_push_140 : decode cX5_push 140 = .ok (.getfield 60, 3) := by decide +kernel
theorem dX5_push_143 : decode cX5_push 143 = .ok (.iconst 1, 1) := by decide +kernel
theorem dX5_push_144 : decode cX5_push 144 = .ok (.iadd, 1) := by decide +kernel
theorem dX5_push_145 : decode cX5_push 145 = .ok (.putfield 60, 3) := by decide +kernel
theorem dX5_push_148 : decode cX5_push 148 = .ok (.iinc 10 1, 3) := by decide +kernel
theorem dX5_push_151 : decode cX5_push 151 = .ok (.goto (-92), 3) := by decide +kernel
theorem dX5_push_154 : decode cX5_push 154 = .ok (.aload_n 0, 1) := by decide +kernel
theorem dX5_push_155 : decode cX5_push 155 = .ok (.bipush 8, 2) := by decide +kernel
theorem dX5_push_157 : decode cX5_push 157 = .ok (.iload 8, 2) := by decide +kernel
theorem dX5_push_159 : decode cX5_push 159 = .ok (.imul, 1) := by decide +kernel
theorem dX5_push_160 : decode cX5_push 160 = .ok (.iload 7, 2) := by decide +kernel
theorem dX5_push_162 : decode cX5_push 162 = .ok (.iadd, 1) := by decide +kernel
theorem dX5_push_163 : decode cX5_push 163 = .ok (.putfield 71, 3) := by decide +kernel
theorem dX5_push_166 : decode cX5_push 166 = .ok (.return_, 1) := by decide +kernel
theorem dX5_layNear_0 : decode cX5_layNear 0 = .ok (.iconst (-1), 1) := by decide +kernel
theorem dX5_layNear_1 : decode cX5_layNear 1 = .ok (.istore_n 3, 1) := by decide +kernel
theorem dX5_layNear_2 : decode cX5_layNear 2 = .ok (.iconst 1, 1) := by decide +kernel
theorem dX5_layNear_3 : decode cX5_layNear 3 = .ok (.istore 4, 2) := by decide +kernel
theorem dX5_layNear_5 : decode cX5_layNear 5 = .ok (.iload 4, 2) := by decide +kernel
theorem dX5_layNear_7 : decode cX5_layNear 7 = .ok (.bipush 9, 2) := by decide +kernel
theorem dX5_layNear_9 : decode cX5_layNear 9 = .ok (.if_icmp .gt 106, 3) := by decide +kernel
theorem dX5_layNear_12 : decode cX5_layNear 12 = .ok (.iconst 0, 1) := by decide +kernel
theorem dX5_layNear_13 : decode cX5_layNear 13 = .ok (.istore 5, 2) := by decide +kernel
theorem dX5_layNear_15 : decode cX5_layNear 15 = .ok (.iload 5, 2) := by decide +kernel
theorem dX5_layNear_17 : decode cX5_layNear 17 = .ok (.bipush 8, 2) := by decide +kernel
theorem dX5_layNear_19 : decode cX5_layNear 19 = .ok (.if_icmp .ge 90, 3) := by decide +kernel
theorem dX5_layNear_22 : decode cX5_layNear 22 = .ok (.aload_n 0, 1) := by decide +kernel
theorem dX5_layNear_23 : decode cX5_layNear 23 = .ok (.iconst 0, 1) := by decide +kernel
theorem dX5_layNear_24 : decode cX5_layNear 24 = .ok (.iload 5, 2) := by decide +kernel
theorem dX5_layNear_26 : decode cX5_layNear 26 = .ok (.iconst 1, 1) := by decide +kernel
theorem dX5_layNear_27 : decode cX5_layNear 27 = .ok (.iload 4, 2) := by decide +kernel
theorem dX5_layNear_29 : decode cX5_layNear 29 = .ok (.invokevirtual 74, 3) := by decide +kernel
theorem dX5_layNear_32 : decode cX5_layNear 32 = .ok (.aload_n 0, 1) := by decide +kernel
theorem dX5_layNear_33 : decode cX5_layNear 33 = .ok (.getfield 71, 3) := by decide +kernel
theorem dX5_layNear_36 : decode cX5_layNear 36 = .ok (.bipush 8, 2) := by decide +kernel
theorem dX5_layNear_38 : decode cX5_layNear 38 = .ok (.irem, 1) := by decide +kernel
theorem dX5_layNear_39 : decode cX5_layNear 39 = .ok (.iload_n 1, 1) := by decide +kernel
theorem dX5_layNear_40 : decode cX5_layNear 40 = .ok (.isub, 1) := by decide +kernel
theorem dX5_layNear_41 : decode cX5_layNear 41 = .ok (.istore 6, 2) := by decide +kernel
theorem dX5_layNear_43 : decode cX5_layNear 43 = .ok (.iload 5, 2) := by decide +kernel
theorem dX5_layNear_45 : decode cX5_layNear 45 = .ok (.iload_n 2, 1) := by decide +kernel
theorem dX5_layNear_46 : decode cX5_layNear 46 = .ok (.isub, 1) := by decide +kernel
theorem dX5_layNear_47 : decode cX5_layNear 47 = .ok (.istore 7, 2) := by decide +kernel
theorem dX5_layNear_49 : decode cX5_layNear 49 = .ok (.iload 6, 2) := by decide +kernel
theorem dX5_layNear_51 : decode cX5_layNear 51 = .ok (.iload 6, 2) := by decide +kernel
theorem dX5_layNear_53 : decode cX5_layNear 53 = .ok (.imul, 1) := by decide +kernel
theorem dX5_layNear_54 : decode cX5_layNear 54 = .ok (.iload 7, 2) := by decide +kernel
theorem dX5_layNear_56 : decode cX5_layNear 56 = .ok (.iload 7, 2) := by decide +kernel
theorem dX5_layNear_58 : decode cX5_layNear 58 = .ok (.imul, 1) := by decide +kernel
theorem dX5_layNear_59 : decode cX5_layNear 59 = .ok (.iadd, 1) := by decide +kernel
theorem dX5_layNear_60 : decode cX5_layNear 60 = .ok (.istore 8, 2) := by decide +kernel
theorem dX5_layNear_62 : decode cX5_layNear 62 = .ok (.aload_n 0, 1) := by decide +kernel
theorem dX5_layNear_63 : decode cX5_layNear 63 = .ok (.getfield 71, 3) := by decide +kernel
theorem dX5_layNear_66 : decode cX5_layNear 66 = .ok (.ifCond .lt 37, 3) := by decide +kernel
theorem dX5_layNear_69 : decode cX5_layNear 69 = .ok (.iload_n 3, 1) := by decide +kernel
theorem dX5_layNear_70 : decode cX5_layNear 70 = .ok (.iconst (-1), 1) := by decide +kernel
theorem dX5_layNear_71 : decode cX5_layNear 71 = .ok (.if_icmp .eq 9, 3) := by decide +kernel
theorem dX5_layNear_74 : decode cX5_layNear 74 = .ok (.iload 8, 2) := by decide +kernel
theorem dX5_layNear_76 : decode cX5_layNear 76 = .ok (.iload_n 3, 1) := by decide +kernel
theorem dX5_layNear_77 : decode cX5_layNear 77 = .ok (.if_icmp .ge 26, 3) := by decide +kernel
theorem dX5_layNear_80 : decode cX5_layNear 80 = .ok (.iload 8, 2) := by decide +kernel
theorem dX5_layNear_82 : decode cX5_layNear 82 = .ok (.istore_n 3, 1) := by decide +kernel
theorem dX5_layNear_83 : decode cX5_layNear 83 = .ok (.aload_n 0, 1) := by decide +kernel
theorem dX5_layNear_84 : decode cX5_layNear 84 = .ok (.iload 5, 2) := by decide +kernel
theorem dX5_layNear_86 : decode cX5_layNear 86 = .ok (.putfield 78, 3) := by decide +kernel
theorem dX5_layNear_89 : decode cX5_layNear 89 = .ok (.aload_n 0, 1) := by decide +kernel
theorem dX5_layNear_90 : decode cX5_layNear 90 = .ok (.iload 4, 2) := by decide +kernel
theorem dX5_layNear_92 : decode cX5_layNear 92 = .ok (.putfield 81, 3) := by decide +kernel
theorem dX5_layNear_95 : decode cX5_layNear 95 = .ok (.aload_n 0, 1) := by decide +kernel
theorem dX5_layNear_96 : decode cX5_layNear 96 = .ok (.aload_n 0, 1) := by decide +kernel
theorem dX5_layNear_97 : decode cX5_layNear 97 = .ok (.getfield 71, 3) := by decide +kernel
theorem dX5_layNear_100 : decode cX5_layNear 100 = .ok (.putfield 84, 3) := by decide +kernel
theorem dX5_layNear_103 : decode cX5_layNear 103 = .ok (.iinc 5 1, 3) := by decide +kernel
theorem dX5_layNear_106 : decode cX5_layNear 106 = .ok (.goto (-91), 3) := by decide +kernel
theorem dX5_layNear_109 : decode cX5_layNear 109 = .ok (.iinc 4 1, 3) := by decide +kernel
theorem dX5_layNear_112 : decode cX5_layNear 112 = .ok (.goto (-107), 3) := by decide +kernel
theorem dX5_layNear_115 : decode cX5_layNear 115 = .ok (.iload_n 3, 1) := by decide +kernel
theorem dX5_layNear_116 : decode cX5_layNear 116 = .ok (.iconst (-1), 1) := by decide +kernel
theorem dX5_layNear_117 : decode cX5_layNear 117 = .ok (.if_icmp .eq 7, 3) := by decide +kernel
theorem dX5_layNear_120 : decode cX5_layNear 120 = .ok (.iconst 1, 1) := by decide +kernel
theorem dX5_layNear_121 : decode cX5_layNear 121 = .ok (.goto 4, 3) := by decide +kernel
theorem dX5_layNear_124 : decode cX5_layNear 124 = .ok (.iconst 0, 1) := by decide +kernel
theorem dX5_layNear_125 : decode cX5_layNear 125 = .ok (.ireturn, 1) := by decide +kernel
theorem dX6_init_0 : decode cX6_init 0 = .ok (.aload_n 0, 1) := by decide +kernel
theorem dX6_init_1 : decode cX6_init 1 = .ok (.invokespecial 3, 3) := by decide +kernel
theorem dX6_init_4 : decode cX6_init 4 = .ok (.aload_n 0, 1) := by decide +kernel
theorem dX6_init_5 : decode cX6_init 5 = .ok (.bipush 6, 2) := by decide +kernel
theorem dX6_init_7 : decode cX6_init 7 = .ok (.newarray .int, 2) := by decide +kernel
theorem dX6_init_9 : decode cX6_init 9 = .ok (.putfield 9, 3) := by decide +kernel
theorem dX6_init_12 : decode cX6_init 12 = .ok (.aload_n 0, 1) := by decide +kernel
theorem dX6_init_13 : decode cX6_init 13 = .ok (.bipush 6, 2) := by decide +kernel
theorem dX6_init_15 : decode cX6_init 15 = .ok (.newarray .int, 2) := by decide +kernel
theorem dX6_init_17 : decode cX6_init 17 = .ok (.putfield 15, 3) := by decide +kernel
theorem dX6_init_20 : decode cX6_init 20 = .ok (.aload_n 0, 1) := by decide +kernel
theorem dX6_init_21 : decode cX6_init 21 = .ok (.bipush 7, 2) := by decide +kernel
theorem dX6_init_23 : decode cX6_init 23 = .ok (.newarray .int, 2) := by decide +kernel
theorem dX6_init_25 : decode cX6_init 25 = .ok (.putfield 18, 3) := by decide +kernel
theorem dX6_init_28 : decode cX6_init 28 = .ok (.aload_n 0, 1) := by decide +kernel
theorem dX6_init_29 : decode cX6_init 29 = .ok (.bipush 7, 2) := by decide +kernel
theorem dX6_init_31 : decode cX6_init 31 = .ok (.newarray .int, 2) := by decide +kernel
theorem dX6_init_33 : decode cX6_init 33 = .ok (.putfield 21, 3) := by decide +kernel
theorem dX6_init_36 : decode cX6_init 36 = .ok (.aload_n 0, 1) := by decide +kernel
theorem dX6_init_37 : decode cX6_init 37 = .ok (.iconst (-1), 1) := by decide +kernel
theorem dX6_init_38 : decode cX6_init 38 = .ok (.putfield 24, 3) := by decide +kernel
theorem dX6_init_41 : decode cX6_init 41 = .ok (.return_, 1) := by decide +kernel
theorem dX6_forget_0 : decode cX6_forget 0 = .ok (.aload_n 0, 1) := by decide +kernel
theorem dX6_forget_1 : decode cX6_forget 1 = .ok (.iconst (-1), 1) := by decide +kernel
theorem dX6_forget_2 : decode cX6_forget 2 = .ok (.putfield 24, 3) := by decide +kernel
theorem dX6_forget_5 : decode cX6_forget 5 = .ok (.return_, 1) := by decide +kernel
theorem dX6_begin_0 : decode cX6_begin 0 = .ok (.aload_n 0, 1) := by decide +kernel
theorem dX6_begin_1 : decode cX6_begin 1 = .ok (.iconst 0, 1) := by decide +kernel
theorem dX6_begin_2 : decode cX6_begin 2 = .ok (.putfield 24, 3) := by decide +kernel
theorem dX6_begin_5 : decode cX6_begin 5 = .ok (.aload_n 0, 1) := by decide +kernel
theorem dX6_begin_6 : decode cX6_begin 6 = .ok (.iload_n 3, 1) := by decide +kernel
theorem dX6_begin_7 : decode cX6_begin 7 = .ok (.putfield 28, 3) := by decide +kernel
theorem dX6_begin_10 : decode cX6_begin 10 = .ok (.aload_n 0, 1) := by decide +kernel
theorem dX6_begin_11 : decode cX6_begin 11 = .ok (.getfield 18, 3) := by decide +kernel
theorem dX6_begin_14 : decode cX6_begin 14 = .ok (.iconst 0, 1) := by decide +kernel
theorem dX6_begin_15 : decode cX6_begin 15 = .ok (.iload_n 1, 1) := by decide +kernel
theorem dX6_begin_16 : decode cX6_begin 16 = .ok (.iastore, 1) := by decide +kernel
theorem dX6_begin_17 : decode cX6_begin 17 = .ok (.aload_n 0, 1) := by decide +kernel
theorem dX6_begin_18 : decode cX6_begin 18 = .ok (.getfield 21, 3) := by decide +kernel
theorem dX6_begin_21 : decode cX6_begin 21 = .ok (.iconst 0, 1) := by decide +kernel
theorem dX6_begin_22 : decode cX6_begin 22 = .ok (.iload_n 2, 1) := by decide +kernel
theorem dX6_begin_23 : decode cX6_begin 23 = .ok (.iastore, 1) := by decide +kernel
theorem dX6_begin_24 : decode cX6_begin 24 = .ok (.return_, 1) := by decide +kernel
theorem dX6_add_0 : decode cX6_add 0 = .ok (.aload_n 0, 1) := by decide +kernel
theorem dX6_add_1 : decode cX6_add 1 = .ok (.getfield 24, 3) := by decide +kernel
theorem dX6_add_4 : decode cX6_add 4 = .ok (.ifCond .lt 63, 3) := by decide +kernel
theorem dX6_add_7 : decode cX6_add 7 = .ok (.aload_n 0, 1) := by decide +kernel
theorem dX6_add_8 : decode cX6_add 8 = .ok (.getfield 24, 3) := by decide +kernel
theorem dX6_add_11 : decode cX6_add 11 = .ok (.bipush 6, 2) := by decide +kernel
theorem dX6_add_13 : decode cX6_add 13 = .ok (.if_icmp .ge 54, 3) := by decide +kernel
theorem dX6_add_16 : decode cX6_add 16 = .ok (.aload_n 0, 1) := by decide +kernel
theorem dX6_add_17 : decode cX6_add 17 = .ok (.getfield 9, 3) := by decide +kernel
theorem dX6_add_20 : decode cX6_add 20 = .ok (.aload_n 0, 1) := by decide +kernel
theorem dX6_add_21 : decode cX6_add 21 = .ok (.getfield 24, 3) := by decide +kernel
theorem dX6_add_24 : decode cX6_add 24 = .ok (.iload_n 1, 1) := by decide +kernel
theorem dX6_add_25 : decode cX6_add 25 = .ok (.iastore, 1) := by decide +kernel
theorem dX6_add_26 : decode cX6_add 26 = .ok (.aload_n 0, 1) := by decide +kernel
theorem dX6_add_27 : decode cX6_add 27 = .ok (.getfield 15, 3) := by decide +kernel
theorem dX6_add_30 : decode cX6_add 30 = .ok (.aload_n 0, 1) := by decide +kernel
theorem dX6_add_31 : decode cX6_add 31 = .ok (.getfield 24, 3) := by decide +kernel
theorem dX6_add_34 : decode cX6_add 34 = .ok (.iload_n 2, 1) := by decide +kernel
theorem dX6_add_35 : decode cX6_add 35 = .ok (.iastore, 1) := by decide +kernel
theorem dX6_add_36 : decode cX6_add 36 = .ok (.aload_n 0, 1) := by decide +kernel
theorem dX6_add_37 : decode cX6_add 37 = .ok (.dup, 1) := by decide +kernel
theorem dX6_add_38 : decode cX6_add 38 = .ok (.getfield 24, 3) := by decide +kernel
theorem dX6_add_41 : decode cX6_add 41 = .ok (.iconst 1, 1) := by decide +kernel
theorem dX6_add_42 : decode cX6_add 42 = .ok (.iadd, 1) := by decide +kernel
theorem dX6_add_43 : decode cX6_add 43 = .ok (.putfield 24, 3) := by decide +kernel
theorem dX6_add_46 : decode cX6_add 46 = .ok (.aload_n 0, 1) := by decide +kernel
theorem dX6_add_47 : decode cX6_add 47 = .ok (.getfield 18, 3) := by decide +kernel
theorem dX6_add_50 : decode cX6_add 50 = .ok (.aload_n 0, 1) := by decide +kernel
theorem dX6_add_51 : decode cX6_add 51 = .ok (.getfield 24, 3) := by decide +kernel
theorem dX6_add_54 : decode cX6_add 54 = .ok (.iload_n 3, 1) := by decide +kernel
theorem dX6_add_55 : decode cX6_add 55 = .ok (.iastore, 1) := by decide +kernel
theorem dX6_add_56 : decode cX6_add 56 = .ok (.aload_n 0, 1) := by decide +kernel
theorem dX6_add_57 : decode cX6_add 57 = .ok (.getfield 21, 3) := by decide +kernel
theorem dX6_add_60 : decode cX6_add 60 = .ok (.aload_n 0, 1) := by decide +kernel
theorem dX6_add_61 : decode cX6_add 61 = .ok (.getfield 24, 3) := by decide +kernel
theorem dX6_add_64 : decode cX6_add 64 = .ok (.iload 4, 2) := by decide +kernel
theorem dX6_add_66 : decode cX6_add 66 = .ok (.iastore, 1) := by decide +kernel
theorem dX6_add_67 : decode cX6_add 67 = .ok (.return_, 1) := by decide +kernel
theorem dX6_codeOf0_0 : decode cX6_codeOf0 0 = .ok (.aload_n 0, 1) := by decide +kernel
theorem dX6_codeOf0_1 : decode cX6_codeOf0 1 = .ok (.getfield 18, 3) := by decide +kernel
theorem dX6_codeOf0_4 : decode cX6_codeOf0 4 = .ok (.iload_n 1, 1) := by decide +kernel
theorem dX6_codeOf0_5 : decode cX6_codeOf0 5 = .ok (.invokestatic 31, 3) := by decide +kernel
theorem dX6_codeOf0_8 : decode cX6_codeOf0 8 = .ok (.ireturn, 1) := by decide +kernel
theorem dX6_codeOf1_0 : decode cX6_codeOf1 0 = .ok (.aload_n 0, 1) := by decide +kernel
theorem dX6_codeOf1_1 : decode cX6_codeOf1 1 = .ok (.getfield 21, 3) := by decide +kernel
theorem dX6_codeOf1_4 : decode cX6_codeOf1 4 = .ok (.iload_n 1, 1) := by decide +kernel
theorem dX6_codeOf1_5 : decode cX6_codeOf1 5 = .ok (.invokestatic 31, 3) := by decide +kernel
theorem dX6_codeOf1_8 : decode cX6_codeOf1 8 = .ok (.ireturn, 1) := by decide +kernel
theorem dX6_throwOf_0 : decode cX6_throwOf 0 = .ok (.aload_n 0, 1) := by decide +kernel
theorem dX6_throwOf_1 : decode cX6_throwOf 1 = .ok (.getfield 9, 3) := by decide +kernel
theorem dX6_throwOf_4 : decode cX6_throwOf 4 = .ok (.iload_n 1, 1) := by decide +kernel
theorem dX6_throwOf_5 : decode cX6_throwOf 5 = .ok (.invokestatic 31, 3) := by decide +kernel
theorem dX6_throwOf_8 : decode cX6_throwOf 8 = .ok (.ireturn, 1) := by decide +kernel
theorem dX6_lastAhead_0 : decode cX6_lastAhead 0 = .ok (.iload_n 1, 1) := by decide +kernel
theorem dX6_lastAhead_1 : decode cX6_lastAhead 1 = .ok (.ifCond .ne 10, 3) := by decide +kernel
theorem dX6_lastAhead_4 : decode cX6_lastAhead 4 = .ok (.aload_n 0, 1) := by decide +kernel
theorem dX6_lastAhead_5 : decode cX6_lastAhead 5 = .ok (.getfield 28, 3) := by decide +kernel
theorem dX6_lastAhead_8 : decode cX6_lastAhead 8 = .ok (.goto 13, 3) := by decide +kernel
theorem dX6_lastAhead_11 : decode cX6_lastAhead 11 = .ok (.aload_n 0, 1) := by decide +kernel
theorem dX6_lastAhead_12 : decode cX6_lastAhead 12 = .ok (.getfield 15, 3) := by decide +kernel
theorem dX6_lastAhead_15 : decode cX6_lastAhead 15 = .ok (.iload_n 1, 1) := by decide +kernel
theorem dX6_lastAhead_16 : decode cX6_lastAhead 16 = .ok (.iconst 1, 1) := by decide +kernel
theorem dX6_lastAhead_17 : decode cX6_lastAhead 17 = .ok (.isub, 1) := by decide +kernel
theorem dX6_lastAhead_18 : decode cX6_lastAhead 18 = .ok (.invokestatic 31, 3) := by decide +kernel
theorem dX6_lastAhead_21 : decode cX6_lastAhead 21 = .ok (.ireturn, 1) := by decide +kernel
theorem dX6_lastOf0_0 : decode cX6_lastOf0 0 = .ok (.aload_n 0, 1) := by decide +kernel
theorem dX6_lastOf0_1 : decode cX6_lastOf0 1 = .ok (.aload_n 0, 1) := by decide +kernel
theorem dX6_lastOf0_2 : decode cX6_lastOf0 2 = .ok (.getfield 24, 3) := by decide +kernel
theorem dX6_lastOf0_5 : decode cX6_lastOf0 5 = .ok (.invokevirtual 35, 3) := by decide +kernel
theorem dX6_lastOf0_8 : decode cX6_lastOf0 8 = .ok (.ireturn, 1) := by decide +kernel
theorem dX6_lastOf1_0 : decode cX6_lastOf1 0 = .ok (.aload_n 0, 1) := by decide +kernel
theorem dX6_lastOf1_1 : decode cX6_lastOf1 1 = .ok (.aload_n 0, 1) := by decide +kernel
theorem dX6_lastOf1_2 : decode cX6_lastOf1 2 = .ok (.getfield 24, 3) := by decide +kernel
theorem dX6_lastOf1_5 : decode cX6_lastOf1 5 = .ok (.invokevirtual 39, 3) := by decide +kernel
theorem dX6_lastOf1_8 : decode cX6_lastOf1 8 = .ok (.ireturn, 1) := by decide +kernel
theorem dX6_lastSide_0 : decode cX6_lastSide 0 = .ok (.aload_n 0, 1) := by decide +kernel
theorem dX6_lastSide_1 : decode cX6_lastSide 1 = .ok (.aload_n 0, 1) := by decide +kernel
theorem dX6_lastSide_2 : decode cX6_lastSide 2 = .ok (.getfield 24, 3) := by decide +kernel
theorem dX6_lastSide_5 : decode cX6_lastSide 5 = .ok (.invokevirtual 42, 3) := by decide +kernel
theorem dX6_lastSide_8 : decode cX6_lastSide 8 = .ok (.ireturn, 1) := by decide +kernel
theorem dX6_isOver_0 : decode cX6_isOver 0 = .ok (.aload_n 1, 1) := by decide +kernel
theorem dX6_isOver_1 : decode cX6_isOver 1 = .ok (.aload_n 0, 1) := by decide +kernel
theorem dX6_isOver_2 : decode cX6_isOver 2 = .ok (.invokevirtual 45, 3) := by decide +kernel
theorem dX6_isOver_5 : decode cX6_isOver 5 = .ok (.aload_n 0, 1) := by decide +kernel
theorem dX6_isOver_6 : decode cX6_isOver 6 = .ok (.invokevirtual 49, 3) := by decide +kernel
theorem dX6_isOver_9 : decode cX6_isOver 9 = .ok (.aload_n 0, 1) := by decide +kernel
theorem dX6_isOver_10 : decode cX6_isOver 10 = .ok (.invokevirtual 52, 3) := by decide +kernel
theorem dX6_isOver_13 : decode cX6_isOver 13 = .ok (.invokevirtual 55, 3) := by decide +kernel
theorem dX6_isOver_16 : decode cX6_isOver 16 = .ok (.iconst 2, 1) := by decide +kernel
theorem dX6_isOver_17 : decode cX6_isOver 17 = .ok (.if_icmp .ne 7, 3) := by decide +kernel
theorem dX6_isOver_20 : decode cX6_isOver 20 = .ok (.iconst 1, 1) := by decide +kernel
theorem dX6_isOver_21 : decode cX6_isOver 21 = .ok (.goto 4, 3) := by decide +kernel
theorem dX6_isOver_24 : decode cX6_isOver 24 = .ok (.iconst 0, 1) := by decide +kernel
theorem dX6_isOver_25 : decode cX6_isOver 25 = .ok (.ireturn, 1) := by decide +kernel
theorem dX6_tell_0 : decode cX6_tell 0 = .ok (.iload_n 2, 1) := by decide +kernel
theorem dX6_tell_1 : decode cX6_tell 1 = .ok (.ifCond .ne 8, 3) := by decide +kernel
theorem dX6_tell_4 : decode cX6_tell 4 = .ok (.aload_n 0, 1) := by decide +kernel
theorem dX6_tell_5 : decode cX6_tell 5 = .ok (.getfield 24, 3) := by decide +kernel
theorem dX6_tell_8 : decode cX6_tell 8 = .ok (.ireturn, 1) := by decide +kernel
theorem dX6_tell_9 : decode cX6_tell 9 = .ok (.iload_n 2, 1) := by decide +kernel
theorem dX6_tell_10 : decode cX6_tell 10 = .ok (.bipush 10, 2) := by decide +kernel
theorem dX6_tell_12 : decode cX6_tell 12 = .ok (.if_icmp .lt 23, 3) := by decide +kernel
theorem dX6_tell_15 : decode cX6_tell 15 = .ok (.iload_n 2, 1) := by decide +kernel
theorem dX6_tell_16 : decode cX6_tell 16 = .ok (.bipush 10, 2) := by decide +kernel
theorem dX6_tell_18 : decode cX6_tell 18 = .ok (.aload_n 0, 1) := by decide +kernel
theorem dX6_tell_19 : decode cX6_tell 19 = .ok (.getfield 24, 3) := by decide +kernel
theorem dX6_tell_22 : decode cX6_tell 22 = .ok (.iadd, 1) := by decide +kernel
theorem dX6_tell_23 : decode cX6_tell 23 = .ok (.if_icmp .ge 12, 3) := by decide +kernel
theorem dX6_tell_26 : decode cX6_tell 26 = .ok (.aload_n 0, 1) := by decide +kernel
theorem dX6_tell_27 : decode cX6_tell 27 = .ok (.iload_n 2, 1) := by decide +kernel
theorem dX6_tell_28 : decode cX6_tell 28 = .ok (.bipush 10, 2) := by decide +kernel
theorem dX6_tell_30 : decode cX6_tell 30 = .ok (.isub, 1) := by decide +kernel
theorem dX6_tell_31 : decode cX6_tell 31 = .ok (.invokevirtual 61, 3) := by decide +kernel
theorem dX6_tell_34 : decode cX6_tell 34 = .ok (.ireturn, 1) := by decide +kernel
theorem dX6_tell_35 : decode cX6_tell 35 = .ok (.iload_n 2, 1) := by decide +kernel
theorem dX6_tell_36 : decode cX6_tell 36 = .ok (.bipush 20, 2) := by decide +kernel
theorem dX6_tell_38 : decode cX6_tell 38 = .ok (.if_icmp .lt 26, 3) := by decide +kernel
theorem dX6_tell_41 : decode cX6_tell 41 = .ok (.iload_n 2, 1) := by decide +kernel
theorem dX6_tell_42 : decode cX6_tell 42 = .ok (.bipush 20, 2) := by decide +kernel
theorem dX6_tell_44 : decode cX6_tell 44 = .ok (.aload_n 0, 1) := by decide +kernel
theorem dX6_tell_45 : decode cX6_tell 45 = .ok (.getfield 24, 3) := by decide +kernel
theorem dX6_tell_48 : decode cX6_tell 48 = .ok (.iadd, 1) := by decide +kernel
theorem dX6_tell_49 : decode cX6_tell 49 = .ok (.if_icmp .ge 15, 3) := by decide +kernel
theorem dX6_tell_52 : decode cX6_tell 52 = .ok (.aload_n 0, 1) := by decide +kernel
theorem dX6_tell_53 : decode cX6_tell 53 = .ok (.getfield 15, 3) := by decide +kernel
theorem dX6_tell_56 : decode cX6_tell 56 = .ok (.iload_n 2, 1) := by decide +kernel
theorem dX6_tell_57 : decode cX6_tell 57 = .ok (.bipush 20, 2) := by decide +kernel
theorem dX6_tell_59 : decode cX6_tell 59 = .ok (.isub, 1) := by decide +kernel
theorem dX6_tell_60 : decode cX6_tell 60 = .ok (.invokestatic 31, 3) := by decide +kernel
theorem dX6_tell_63 : decode cX6_tell 63 = .ok (.ireturn, 1) := by decide +kernel
theorem dX6_tell_64 : decode cX6_tell 64 = .ok (.iload_n 2, 1) := by decide +kernel
theorem dX6_tell_65 : decode cX6_tell 65 = .ok (.bipush 30, 2) := by decide +kernel
theorem dX6_tell_67 : decode cX6_tell 67 = .ok (.if_icmp .lt 27, 3) := by decide +kernel
theorem dX6_tell_70 : decode cX6_tell 70 = .ok (.iload_n 2, 1) := by decide +kernel
theorem dX6_tell_71 : decode cX6_tell 71 = .ok (.bipush 30, 2) := by decide +kernel
theorem dX6_tell_73 : decode cX6_tell 73 = .ok (.aload_n 0, 1) := by decide +kernel
theorem dX6_tell_74 : decode cX6_tell 74 = .ok (.getfield 24, 3) := by decide +kernel
theorem dX6_tell_77 : decode cX6_tell 77 = .ok (.iadd, 1) := by decide +kernel
theorem dX6_tell_78 : decode cX6_tell 78 = .ok (.if_icmp .gt 16, 3) := by decide +kernel
theorem dX6_tell_81 : decode cX6_tell 81 = .ok (.aload_n 1, 1) := by decide +kernel
theorem dX6_tell_82 : decode cX6_tell 82 = .ok (.aload_n 0, 1) := by decide +kernel
theorem dX6_tell_83 : decode cX6_tell 83 = .ok (.iload_n 2, 1) := by decide +kernel
theorem dX6_tell_84 : decode cX6_tell 84 = .ok (.bipush 30, 2) := by decide +kernel
theorem dX6_tell_86 : decode cX6_tell 86 = .ok (.isub, 1) := by decide +kernel
theorem dX6_tell_87 : decode cX6_tell 87 = .ok (.invokevirtual 35, 3) := by decide +kernel
theorem dX6_tell_90 : decode cX6_tell 90 = .ok (.invokevirtual 64, 3) := by decide +kernel
theorem dX6_tell_93 : decode cX6_tell 93 = .ok (.ireturn, 1) := by decide +kernel
theorem dX6_tell_94 : decode cX6_tell 94 = .ok (.iload_n 2, 1) := by decide +kernel
theorem dX6_tell_95 : decode cX6_tell 95 = .ok (.bipush 40, 2) := by decide +kernel
theorem dX6_tell_97 : decode cX6_tell 97 = .ok (.if_icmp .lt 27, 3) := by decide +kernel
theorem dX6_tell_100 : decode cX6_tell 100 = .ok (.iload_n 2, 1) := by decide +kernel
theorem dX6_tell_101 : decode cX6_tell 101 = .ok (.bipush 40, 2) := by decide +kernel
theorem dX6_tell_103 : decode cX6_tell 103 = .ok (.aload_n 0, 1) := by decide +kernel
theorem dX6_tell_104 : decode cX6_tell 104 = .ok (.getfield 24, 3) := by decide +kernel
theorem dX6_tell_107 : decode cX6_tell 107 = .ok (.iadd, 1) := by decide +kernel
theorem dX6_tell_108 : decode cX6_tell 108 = .ok (.if_icmp .gt 16, 3) := by decide +kernel
theorem dX6_tell_111 : decode cX6_tell 111 = .ok (.aload_n 1, 1) := by decide +kernel
theorem dX6_tell_112 : decode cX6_tell 112 = .ok (.aload_n 0, 1) := by decide +kernel
theorem dX6_tell_113 : decode cX6_tell 113 = .ok (.iload_n 2, 1) := by decide +kernel
theorem dX6_tell_114 : decode cX6_tell 114 = .ok (.bipush 40, 2) := by decide +kernel
theorem dX6_tell_116 : decode cX6_tell 116 = .ok (.isub, 1) := by decide +kernel
theorem dX6_tell_117 : decode cX6_tell 117 = .ok (.invokevirtual 39, 3) := by decide +kernel
theorem dX6_tell_120 : decode cX6_tell 120 = .ok (.invokevirtual 64, 3) := by decide +kernel
theorem dX6_tell_123 : decode cX6_tell 123 = .ok (.ireturn, 1) := by decide +kernel
theorem dX6_tell_124 : decode cX6_tell 124 = .ok (.iconst (-1), 1) := by decide +kernel
theorem dX6_tell_125 : decode cX6_tell 125 = .ok (.ireturn, 1) := by decide +kernel
theorem dX7_init_0 : decode cX7_init 0 = .ok (.aload_n 0, 1) := by decide +kernel
theorem dX7_init_1 : decode cX7_init 1 = .ok (.invokespecial 3, 3) := by decide +kernel
theorem dX7_init_4 : decode cX7_init 4 = .ok (.aload_n 0, 1) := by decide +kernel
theorem dX7_init_5 : decode cX7_init 5 = .ok (.sipush 392, 3) := by decide +kernel
theorem dX7_init_8 : decode cX7_init 8 = .ok (.newarray .int, 2) := by decide +kernel
theorem dX7_init_10 : decode cX7_init 10 = .ok (.putfield 11, 3) := by decide +kernel
theorem dX7_init_13 : decode cX7_init 13 = .ok (.return_, 1) := by decide +kernel
theorem dX7_chanceOf0_0 : decode cX7_chanceOf0 0 = .ok (.bipush 13, 2) := by decide +kernel
theorem dX7_chanceOf0_2 : decode cX7_chanceOf0 2 = .ok (.istore 5, 2) := by decide +kernel
theorem dX7_chanceOf0_4 : decode cX7_chanceOf0 4 = .ok (.iload 5, 2) := by decide +kernel
theorem dX7_chanceOf0_6 : decode cX7_chanceOf0 6 = .ok (.iload_n 2, 1) := by decide +kernel
theorem dX7_chanceOf0_7 : decode cX7_chanceOf0 7 = .ok (.if_icmp .lt 63, 3) := by decide +kernel
theorem dX7_chanceOf0_10 : decode cX7_chanceOf0 10 = .ok (.bipush 13, 2) := by decide +kernel
theorem dX7_chanceOf0_12 : decode cX7_chanceOf0 12 = .ok (.istore 6, 2) := by decide +kernel
theorem dX7_chanceOf0_14 : decode cX7_chanceOf0 14 = .ok (.iload 6, 2) := by decide +kernel
theorem dX7_chanceOf0_16 : decode cX7_chanceOf0 16 = .ok (.iload_n 3, 1) := by decide +kernel
theorem dX7_chanceOf0_17 : decode cX7_chanceOf0 17 = .ok (.if_icmp .lt 47, 3) := by decide +kernel
theorem dX7_chanceOf0_20 : decode cX7_chanceOf0 20 = .ok (.aload_n 0, 1) := by decide +kernel
theorem dX7_chanceOf0_21 : decode cX7_chanceOf0 21 = .ok (.iload 5, 2) := by decide +kernel
theorem dX7_chanceOf0_23 : decode cX7_chanceOf0 23 = .ok (.iload 6, 2) := by decide +kernel
theorem dX7_chanceOf0_25 : decode cX7_chanceOf0 25 = .ok (.iconst 0, 1) := by decide +kernel
theorem dX7_chanceOf0_26 : decode cX7_chanceOf0 26 = .ok (.aload_n 0, 1) := by decide +kernel
theorem dX7_chanceOf0_27 : decode cX7_chanceOf0 27 = .ok (.aload_n 1, 1) := by decide +kernel
theorem dX7_chanceOf0_28 : decode cX7_chanceOf0 28 = .ok (.iload 5, 2) := by decide +kernel
theorem dX7_chanceOf0_30 : decode cX7_chanceOf0 30 = .ok (.iload 6, 2) := by decide +kernel
theorem dX7_chanceOf0_32 : decode cX7_chanceOf0 32 = .ok (.iconst 0, 1) := by decide +kernel
theorem dX7_chanceOf0_33 : decode cX7_chanceOf0 33 = .ok (.invokevirtual 15, 3) := by decide +kernel
theorem dX7_chanceOf0_36 : decode cX7_chanceOf0 36 = .ok (.invokevirtual 19, 3) := by decide +kernel
theorem dX7_chanceOf0_39 : decode cX7_chanceOf0 39 = .ok (.aload_n 0, 1) := by decide +kernel
theorem dX7_chanceOf0_40 : decode cX7_chanceOf0 40 = .ok (.iload 5, 2) := by decide +kernel
theorem dX7_chanceOf0_42 : decode cX7_chanceOf0 42 = .ok (.iload 6, 2) := by decide +kernel
theorem dX7_chanceOf0_44 : decode cX7_chanceOf0 44 = .ok (.iconst 1, 1) := by decide +kernel
theorem dX7_chanceOf0_45 : decode cX7_chanceOf0 45 = .ok (.aload_n 0, 1) := by decide +kernel
theorem dX7_chanceOf0_46 : decode cX7_chanceOf0 46 = .ok (.aload_n 1, 1) := by decide +kernel
theorem dX7_chanceOf0_47 : decode cX7_chanceOf0 47 = .ok (.iload 5, 2) := by decide +kernel
theorem dX7_chanceOf0_49 : decode cX7_chanceOf0 49 = .ok (.iload 6, 2) := by decide +kernel
theorem dX7_chanceOf0_51 : decode cX7_chanceOf0 51 = .ok (.iconst 1, 1) := by decide +kernel
theorem dX7_chanceOf0_52 : decode cX7_chanceOf0 52 = .ok (.invokevirtual 15, 3) := by decide +kernel
theorem dX7_chanceOf0_55 : decode cX7_chanceOf0 55 = .ok (.invokevirtual 19, 3) := by decide +kernel
theorem dX7_chanceOf0_58 : decode cX7_chanceOf0 58 = .ok (.iinc 6 (-1), 3) := by decide +kernel
theorem dX7_chanceOf0_61 : decode cX7_chanceOf0 61 = .ok (.goto (-47), 3) := by decide +kernel
theorem dX7_chanceOf0_64 : decode cX7_chanceOf0 64 = .ok (.iinc 5 (-1), 3) := by decide +kernel
theorem dX7_chanceOf0_67 : decode cX7_chanceOf0 67 = .ok (.goto (-63), 3) := by decide +kernel
theorem dX7_chanceOf0_70 : decode cX7_chanceOf0 70 = .ok (.aload_n 0, 1) := by decide +kernel
theorem dX7_chanceOf0_71 : decode cX7_chanceOf0 71 = .ok (.getfield 11, 3) := by decide +kernel
theorem dX7_chanceOf0_74 : decode cX7_chanceOf0 74 = .ok (.iload_n 2, 1) := by decide +kernel
theorem dX7_chanceOf0_75 : decode cX7_chanceOf0 75 = .ok (.iload_n 3, 1) := by decide +kernel
theorem dX7_chanceOf0_76 : decode cX7_chanceOf0 76 = .ok (.iload 4, 2) := by decide +kernel
theorem dX7_chanceOf0_78 : decode cX7_chanceOf0 78 = .ok (.invokestatic 23, 3) := by decide +kernel
theorem dX7_chanceOf0_81 : decode cX7_chanceOf0 81 = .ok (.invokestatic 27, 3) := by decide +kernel
theorem dX7_chanceOf0_84 : decode cX7_chanceOf0 84 = .ok (.ireturn, 1) := by decide +kernel
theorem dX7_spotOf_0 : decode cX7_spotOf 0 = .ok (.iconst 2, 1) := by decide +kernel
theorem dX7_spotOf_1 : decode cX7_spotOf 1 = .ok (.bipush 14, 2) := by decide +kernel
theorem dX7_spotOf_3 : decode cX7_spotOf 3 = .ok (.iload_n 0, 1) := by decide +kernel
theorem dX7_spotOf_4 : decode cX7_spotOf 4 = .ok (.bipush 13, 2) := by decide +kernel
theorem dX7_spotOf_6 : decode cX7_spotOf 6 = .ok (.invokestatic 31, 3) := by decide +kernel
theorem dX7_spotOf_9 : decode cX7_spotOf 9 = .ok (.imul, 1) := by decide +kernel
theorem dX7_spotOf_10 : decode cX7_spotOf 10 = .ok (.iload_n 1, 1) := by decide +kernel
theorem dX7_spotOf_11 : decode cX7_spotOf 11 = .ok (.bipush 13, 2) := by decide +kernel
theorem dX7_spotOf_13 : decode cX7_spotOf 13 = .ok (.invokestatic 31, 3) := by decide +kernel
theorem dX7_spotOf_16 : decode cX7_spotOf 16 = .ok (.iadd, 1) := by decide +kernel
theorem dX7_spotOf_17 : decode cX7_spotOf 17 = .ok (.imul, 1) := by decide +kernel
theorem dX7_spotOf_18 : decode cX7_spotOf 18 = .ok (.iload_n 2, 1) := by decide +kernel
theorem dX7_spotOf_19 : decode cX7_spotOf 19 = .ok (.iadd, 1) := by decide +kernel
theorem dX7_spotOf_20 : decode cX7_spotOf 20 = .ok (.ireturn, 1) := by decide +kernel
theorem dX7_put_0 : decode cX7_put 0 = .ok (.iload_n 1, 1) := by decide +kernel
theorem dX7_put_1 : decode cX7_put 1 = .ok (.iload_n 2, 1) := by decide +kernel
theorem dX7_put_2 : decode cX7_put 2 = .ok (.iload_n 3, 1) := by decide +kernel
theorem dX7_put_3 : decode cX7_put 3 = .ok (.invokestatic 23, 3) := by decide +kernel
theorem dX7_put_6 : decode cX7_put 6 = .ok (.istore 5, 2) := by decide +kernel
theorem dX7_put_8 : decode cX7_put 8 = .ok (.iload 5, 2) := by decide +kernel
theorem dX7_put_10 : decode cX7_put 10 = .ok (.ifCond .lt 22, 3) := by decide +kernel
theorem dX7_put_13 : decode cX7_put 13 = .ok (.iload 5, 2) := by decide +kernel
theorem dX7_put_15 : decode cX7_put 15 = .ok (.aload_n 0, 1) := by decide +kernel
theorem dX7_put_16 : decode cX7_put 16 = .ok (.getfield 11, 3) := by decide +kernel
theorem dX7_put_19 : decode cX7_put 19 = .ok (.arraylength, 1) := by decide +kernel
theorem dX7_put_20 : decode cX7_put 20 = .ok (.if_icmp .ge 12, 3) := by decide +kernel
theorem dX7_put_23 : decode cX7_put 23 = .ok (.aload_n 0, 1) := by decide +kernel
theorem dX7_put_24 : decode cX7_put 24 = .ok (.getfield 11, 3) := by decide +kernel
theorem dX7_put_27 : decode cX7_put 27 = .ok (.iload 5, 2) := by decide +kernel
theorem dX7_put_29 : decode cX7_put 29 = .ok (.iload 4, 2) := by decide +kernel
theorem dX7_put_31 : decode cX7_put 31 = .ok (.iastore, 1) := by decide +kernel
theorem dX7_put_32 : decode cX7_put 32 = .ok (.return_, 1) := by decide +kernel
theorem dX7_chanceAt_0 : decode cX7_chanceAt 0 = .ok (.iload_n 2, 1) := by decide +kernel
theorem dX7_chanceAt_1 : decode cX7_chanceAt 1 = .ok (.bipush 13, 2) := by decide +kernel
theorem dX7_chanceAt_3 : decode cX7_chanceAt 3 = .ok (.if_icmp .ge 9, 3) := by decide +kernel
theorem dX7_chanceAt_6 : decode cX7_chanceAt 6 = .ok (.iload_n 3, 1) := by decide +kernel
theorem dX7_chanceAt_7 : decode cX7_chanceAt 7 = .ok (.bipush 13, 2) := by decide +kernel
theorem dX7_chanceAt_9 : decode cX7_chanceAt 9 = .ok (.if_icmp .lt 16, 3) := by decide +kernel
theorem dX7_chanceAt_12 : decode cX7_chanceAt 12 = .ok (.iload_n 2, 1) := by decide +kernel
theorem dX7_chanceAt_13 : decode cX7_chanceAt 13 = .ok (.bipush 13, 2) := by decide +kernel
theorem dX7_chanceAt_15 : decode cX7_chanceAt 15 = .ok (.if_icmp .lt 8, 3) := by decide +kernel
theorem dX7_chanceAt_18 : decode cX7_chanceAt 18 = .ok (.ldc 37, 2) := by decide +kernel
theorem dX7_chanceAt_20 : decode cX7_chanceAt 20 = .ok (.goto 4, 3) := by decide +kernel
theorem dX7_chanceAt_23 : decode cX7_chanceAt 23 = .ok (.iconst 0, 1) := by decide +kernel
theorem dX7_chanceAt_24 : decode cX7_chanceAt 24 = .ok (.ireturn, 1) := by decide +kernel
theorem dX7_chanceAt_25 : decode cX7_chanceAt 25 = .ok (.lconst 0, 1) := by decide +kernel
theorem dX7_chanceAt_26 : decode cX7_chanceAt 26 = .ok (.lstore 5, 2) := by decide +kernel
theorem dX7_chanceAt_28 : decode cX7_chanceAt 28 = .ok (.lconst 0, 1) := by decide +kernel
theorem dX7_chanceAt_29 : decode cX7_chanceAt 29 = .ok (.lstore 7, 2) := by decide +kernel
theorem dX7_chanceAt_31 : decode cX7_chanceAt 31 = .ok (.bipush (-3), 2) := by decide +kernel
theorem dX7_chanceAt_33 : decode cX7_chanceAt 33 = .ok (.istore 9, 2) := by decide +kernel
theorem dX7_chanceAt_35 : decode cX7_chanceAt 35 = .ok (.iload 9, 2) := by decide +kernel
theorem dX7_chanceAt_37 : decode cX7_chanceAt 37 = .ok (.iconst 3, 1) := by decide +kernel
theorem dX7_chanceAt_38 : decode cX7_chanceAt 38 = .ok (.if_icmp .gt 95, 3) := by decide +kernel
theorem dX7_chanceAt_41 : decode cX7_chanceAt 41 = .ok (.iload 4, 2) := by decide +kernel
theorem dX7_chanceAt_43 : decode cX7_chanceAt 43 = .ok (.bipush 7, 2) := by decide +kernel
theorem dX7_chanceAt_45 : decode cX7_chanceAt 45 = .ok (.imul, 1) := by decide +kernel
theorem dX7_chanceAt_46 : decode cX7_chanceAt 46 = .ok (.iload 9, 2) := by decide +kernel
theorem dX7_chanceAt_48 : decode cX7_chanceAt 48 = .ok (.iadd, 1) := by decide +kernel
theorem dX7_chanceAt_49 : decode cX7_chanceAt 49 = .ok (.iconst 3, 1) := by decide +kernel
theorem dX7_chanceAt_50 : decode cX7_chanceAt 50 = .ok (.iadd, 1) := by decide +kernel
theorem dX7_chanceAt_51 : decode cX7_chanceAt 51 = .ok (.istore 10, 2) := by decide +kernel
theorem dX7_chanceAt_53 : decode cX7_chanceAt 53 = .ok (.iload 9, 2) := by decide +kernel
theorem dX7_chanceAt_55 : decode cX7_chanceAt 55 = .ok (.ifCond .eq 72, 3) := by decide +kernel
theorem dX7_chanceAt_58 : decode cX7_chanceAt 58 = .ok (.iload 10, 2) := by decide +kernel
theorem dX7_chanceAt_60 : decode cX7_chanceAt 60 = .ok (.ifCond .lt 67, 3) := by decide +kernel
theorem dX7_chanceAt_63 : decode cX7_chanceAt 63 = .ok (.iload 10, 2) := by decide +kernel
theorem dX7_chanceAt_65 : decode cX7_chanceAt 65 = .ok (.aload_n 1, 1) := by decide +kernel
theorem dX7_chanceAt_66 : decode cX7_chanceAt 66 = .ok (.arraylength, 1) := by decide +kernel
theorem dX7_chanceAt_67 : decode cX7_chanceAt 67 = .ok (.if_icmp .ge 60, 3) := by decide +kernel
theorem dX7_chanceAt_70 : decode cX7_chanceAt 70 = .ok (.iload 9, 2) := by decide +kernel
theorem dX7_chanceAt_72 : decode cX7_chanceAt 72 = .ok (.ifCond .le 15, 3) := by decide +kernel
theorem dX7_chanceAt_75 : decode cX7_chanceAt 75 = .ok (.iload_n 2, 1) := by decide +kernel
theorem dX7_chanceAt_76 : decode cX7_chanceAt 76 = .ok (.iload 9, 2) := by decide +kernel
theorem dX7_chanceAt_78 : decode cX7_chanceAt 78 = .ok (.iadd, 1) := by decide +kernel
theorem dX7_chanceAt_79 : decode cX7_chanceAt 79 = .ok (.iload_n 3, 1) := by decide +kernel
theorem dX7_chanceAt_80 : decode cX7_chanceAt 80 = .ok (.iconst 0, 1) := by decide +kernel
theorem dX7_chanceAt_81 : decode cX7_chanceAt 81 = .ok (.invokestatic 23, 3) := by decide +kernel
theorem dX7_chanceAt_84 : decode cX7_chanceAt 84 = .ok (.goto 12, 3) := by decide +kernel
theorem dX7_chanceAt_87 : decode cX7_chanceAt 87 = .ok (.iload_n 2, 1) := by decide +kernel
theorem dX7_chanceAt_88 : decode cX7_chanceAt 88 = .ok (.iload_n 3, 1) := by decide +kernel
theorem dX7_chanceAt_89 : decode cX7_chanceAt 89 = .ok (.iload 9, 2) := by decide +kernel
theorem dX7_chanceAt_91 : decode cX7_chanceAt 91 = .ok (.isub, 1) := by decide +kernel
theorem dX7_chanceAt_92 : decode cX7_chanceAt 92 = .ok (.iconst 1, 1) := by decide +kernel
theorem dX7_chanceAt_93 : decode cX7_chanceAt 93 = .ok (.invokestatic 23, 3) := by decide +kernel
theorem dX7_chanceAt_96 : decode cX7_chanceAt 96 = .ok (.istore 11, 2) := by decide +kernel
theorem dX7_chanceAt_98 : decode cX7_chanceAt 98 = .ok (.lload 5, 2) := by decide +kernel
theorem dX7_chanceAt_100 : decode cX7_chanceAt 100 = .ok (.aload_n 1, 1) := by decide +kernel
theorem dX7_chanceAt_101 : decode cX7_chanceAt 101 = .ok (.iload 10, 2) := by decide +kernel
theorem dX7_chanceAt_103 : decode cX7_chanceAt 103 = .ok (.laload, 1) := by decide +kernel
theorem dX7_chanceAt_104 : decode cX7_chanceAt 104 = .ok (.aload_n 0, 1) := by decide +kernel
theorem dX7_chanceAt_105 : decode cX7_chanceAt 105 = .ok (.getfield 11, 3) := by decide +kernel
theorem dX7_chanceAt_108 : decode cX7_chanceAt 108 = .ok (.iload 11, 2) := by decide +kernel
theorem dX7_chanceAt_110 : decode cX7_chanceAt 110 = .ok (.invokestatic 27, 3) := by decide +kernel
theorem dX7_chanceAt_113 : decode cX7_chanceAt 113 = .ok (.i2l, 1) := by decide +kernel
theorem dX7_chanceAt_114 : decode cX7_chanceAt 114 = .ok (.lmul, 1) := by decide +kernel
theorem dX7_chanceAt_115 : decode cX7_chanceAt 115 = .ok (.ladd, 1) := by decide +kernel
theorem dX7_chanceAt_116 : decode cX7_chanceAt 116 = .ok (.lstore 5, 2) := by decide +kernel
theorem dX7_chanceAt_118 : decode cX7_chanceAt 118 = .ok (.lload 7, 2) := by decide +kernel
theorem dX7_chanceAt_120 : decode cX7_chanceAt 120 = .ok (.aload_n 1, 1) := by decide +kernel
theorem dX7_chanceAt_121 : decode cX7_chanceAt 121 = .ok (.iload 10, 2) := by decide +kernel
theorem dX7_chanceAt_123 : decode cX7_chanceAt 123 = .ok (.laload, 1) := by decide +kernel
theorem dX7_chanceAt_124 : decode cX7_chanceAt 124 = .ok (.ladd, 1) := by decide +kernel
theorem dX7_chanceAt_125 : decode cX7_chanceAt 125 = .ok (.lstore 7, 2) := by decide +kernel
theorem dX7_chanceAt_127 : decode cX7_chanceAt 127 = .ok (.iinc 9 1, 3) := by decide +kernel
theorem dX7_chanceAt_130 : decode cX7_chanceAt 130 = .ok (.goto (-95), 3) := by decide +kernel
theorem dX7_chanceAt_133 : decode cX7_chanceAt 133 = .ok (.lload 7, 2) := by decide +kernel
theorem dX7_chanceAt_135 : decode cX7_chanceAt 135 = .ok (.lconst 0, 1) := by decide +kernel
theorem dX7_chanceAt_136 : decode cX7_chanceAt 136 = .ok (.lcmp, 1) := by decide +kernel
theorem dX7_chanceAt_137 : decode cX7_chanceAt 137 = .ok (.ifCond .ne 8, 3) := by decide +kernel
theorem dX7_chanceAt_140 : decode cX7_chanceAt 140 = .ok (.ldc 40, 2) := by decide +kernel
theorem dX7_chanceAt_142 : decode cX7_chanceAt 142 = .ok (.goto 9, 3) := by decide +kernel
theorem dX7_chanceAt_145 : decode cX7_chanceAt 145 = .ok (.lload 5, 2) := by decide +kernel
theorem dX7_chanceAt_147 : decode cX7_chanceAt 147 = .ok (.lload 7, 2) := by decide +kernel
theorem dX7_chanceAt_149 : decode cX7_chanceAt 149 = .ok (.ldiv, 1) := by decide +kernel
theorem dX7_chanceAt_150 : decode cX7_chanceAt 150 = .ok (.l2i, 1) := by decide +kernel
theorem dX7_chanceAt_151 : decode cX7_chanceAt 151 = .ok (.ireturn, 1) := by decide +kernel
theorem dX8_init_0 : decode cX8_init 0 = .ok (.aload_n 0, 1) := by decide +kernel
theorem dX8_init_1 : decode cX8_init 1 = .ok (.invokespecial 5, 3) := by decide +kernel
theorem dX8_init_4 : decode cX8_init 4 = .ok (.aload_n 0, 1) := by decide +kernel
theorem dX8_init_5 : decode cX8_init 5 = .ok (.sipush 240, 3) := by decide +kernel
theorem dX8_init_8 : decode cX8_init 8 = .ok (.newarray .int, 2) := by decide +kernel
theorem dX8_init_10 : decode cX8_init 10 = .ok (.putfield 11, 3) := by decide +kernel
theorem dX8_init_13 : decode cX8_init 13 = .ok (.return_, 1) := by decide +kernel
theorem dX8_clear_0 : decode cX8_clear 0 = .ok (.aload_n 0, 1) := by decide +kernel
theorem dX8_clear_1 : decode cX8_clear 1 = .ok (.iconst 0, 1) := by decide +kernel
theorem dX8_clear_2 : decode cX8_clear 2 = .ok (.putfield 15, 3) := by decide +kernel
theorem dX8_clear_5 : decode cX8_clear 5 = .ok (.aload_n 0, 1) := by decide +kernel
theorem dX8_clear_6 : decode cX8_clear 6 = .ok (.iconst 0, 1) := by decide +kernel
theorem dX8_clear_7 : decode cX8_clear 7 = .ok (.putfield 19, 3) := by decide +kernel
theorem dX8_clear_10 : decode cX8_clear 10 = .ok (.return_, 1) := by decide +kernel
theorem dX8_add_0 : decode cX8_add 0 = .ok (.aload_n 0, 1) := by decide +kernel
theorem dX8_add_1 : decode cX8_add 1 = .ok (.getfield 15, 3) := by decide +kernel
theorem dX8_add_4 : decode cX8_add 4 = .ok (.ifCond .lt 35, 3) := by decide +kernel
theorem dX8_add_7 : decode cX8_add 7 = .ok (.aload_n 0, 1) := by decide +kernel
theorem dX8_add_8 : decode cX8_add 8 = .ok (.getfield 15, 3) := by decide +kernel
theorem dX8_add_11 : decode cX8_add 11 = .ok (.aload_n 0, 1) := by decide +kernel
theorem dX8_add_12 : decode cX8_add 12 = .ok (.getfield 11, 3) := by decide +kernel
theorem dX8_add_15 : decode cX8_add 15 = .ok (.arraylength, 1) := by decide +kernel
theorem dX8_add_16 : decode cX8_add 16 = .ok (.if_icmp .ge 23, 3) := by decide +kernel
theorem dX8_add_19 : decode cX8_add 19 = .ok (.aload_n 0, 1) := by decide +kernel
theorem dX8_add_20 : decode cX8_add 20 = .ok (.getfield 11, 3) := by decide +kernel
theorem dX8_add_23 : decode cX8_add 23 = .ok (.aload_n 0, 1) := by decide +kernel
theorem dX8_add_24 : decode cX8_add 24 = .ok (.getfield 15, 3) := by decide +kernel
theorem dX8_add_27 : decode cX8_add 27 = .ok (.iload_n 1, 1) := by decide +kernel
theorem dX8_add_28 : decode cX8_add 28 = .ok (.iastore, 1) := by decide +kernel
theorem dX8_add_29 : decode cX8_add 29 = .ok (.aload_n 0, 1) := by decide +kernel
theorem dX8_add_30 : decode cX8_add 30 = .ok (.dup, 1) := by decide +kernel
theorem dX8_add_31 : decode cX8_add 31 = .ok (.getfield 15, 3) := by decide +kernel
theorem dX8_add_34 : decode cX8_add 34 = .ok (.iconst 1, 1) := by decide +kernel
theorem dX8_add_35 : decode cX8_add 35 = .ok (.iadd, 1) := by decide +kernel
theorem dX8_add_36 : decode cX8_add 36 = .ok (.putfield 15, 3) := by decide +kernel
theorem dX8_add_39 : decode cX8_add 39 = .ok (.return_, 1) := by decide +kernel
theorem dX8_step_0 : decode cX8_step 0 = .ok (.iload_n 0, 1) := by decide +kernel
theorem dX8_step_1 : decode cX8_step 1 = .ok (.bipush 20, 2) := by decide +kernel
theorem dX8_step_3 : decode cX8_step 3 = .ok (.ishl, 1) := by decide +kernel
theorem dX8_step_4 : decode cX8_step 4 = .ok (.iload_n 1, 1) := by decide +kernel
theorem dX8_step_5 : decode cX8_step 5 = .ok (.ldc 22, 2) := by decide +kernel
theorem dX8_step_7 : decode cX8_step 7 = .ok (.iand, 1) := by decide +kernel
theorem dX8_step_8 : decode cX8_step 8 = .ok (.ior, 1) := by decide +kernel
theorem dX8_step_9 : decode cX8_step 9 = .ok (.ireturn, 1) := by decide +kernel
theorem dX8_put_0 : decode cX8_put 0 = .ok (.iload_n 1, 1) := by decide +kernel
theorem dX8_put_1 : decode cX8_put 1 = .ok (.ifCond .lt 19, 3) := by decide +kernel
theorem dX8_put_4 : decode cX8_put 4 = .ok (.iload_n 1, 1) := by decide +kernel
theorem dX8_put_5 : decode cX8_put 5 = .ok (.aload_n 0, 1) := by decide +kernel
theorem dX8_put_6 : decode cX8_put 6 = .ok (.getfield 11, 3) := by decide +kernel
theorem dX8_put_9 : decode cX8_put 9 = .ok (.arraylength, 1) := by decide +kernel
theorem dX8_put_10 : decode cX8_put 10 = .ok (.if_icmp .ge 10, 3) := by decide +kernel
theorem dX8_put_13 : decode cX8_put 13 = .ok (.aload_n 0, 1) := by decide +kernel
theorem dX8_put_14 : decode cX8_put 14 = .ok (.getfield 11, 3) := by decide +kernel
theorem dX8_put_17 : decode cX8_put 17 = .ok (.iload_n 1, 1) := by decide +kernel
theorem dX8_put_18 : decode cX8_put 18 = .ok (.iload_n 2, 1) := by decide +kernel
theorem dX8_put_19 : decode cX8_put 19 = .ok (.iastore, 1) := by decide +kernel
theorem dX8_put_20 : decode cX8_put 20 = .ok (.return_, 1) := by decide +kernel
theorem dX8_copyFrom_0 : decode cX8_copyFrom 0 = .ok (.aload_n 1, 1) := by decide +kernel
theorem dX8_copyFrom_1 : decode cX8_copyFrom 1 = .ok (.getfield 11, 3) := by decide +kernel
theorem dX8_copyFrom_4 : decode cX8_copyFrom 4 = .ok (.iconst 0, 1) := by decide +kernel
theorem dX8_copyFrom_5 : decode cX8_copyFrom 5 = .ok (.aload_n 0, 1) := by decide +kernel
theorem dX8_copyFrom_6 : decode cX8_copyFrom 6 = .ok (.getfield 11, 3) := by decide +kernel
theorem dX8_copyFrom_9 : decode cX8_copyFrom 9 = .ok (.iconst 0, 1) := by decide +kernel
theorem dX8_copyFrom_10 : decode cX8_copyFrom 10 = .ok (.sipush 240, 3) := by decide +kernel
theorem dX8_copyFrom_13 : decode cX8_copyFrom 13 = .ok (.invokestatic 23, 3) := by decide +kernel
theorem dX8_copyFrom_16 : decode cX8_copyFrom 16 = .ok (.aload_n 0, 1) := by decide +kernel
theorem dX8_copyFrom_17 : decode cX8_copyFrom 17 = .ok (.aload_n 1, 1) := by decide +kernel
theorem dX8_copyFrom_18 : decode cX8_copyFrom 18 = .ok (.getfield 15, 3) := by decide +kernel
theorem dX8_copyFrom_21 : decode cX8_copyFrom 21 = .ok (.putfield 15, 3) := by decide +kernel
theorem dX8_copyFrom_24 : decode cX8_copyFrom 24 = .ok (.aload_n 0, 1) := by decide +kernel
theorem dX8_copyFrom_25 : decode cX8_copyFrom 25 = .ok (.aload_n 1, 1) := by decide +kernel
theorem dX8_copyFrom_26 : decode cX8_copyFrom 26 = .ok (.getfield 19, 3) := by decide +kernel
theorem dX8_copyFrom_29 : decode cX8_copyFrom 29 = .ok (.putfield 19, 3) := by decide +kernel
theorem dX8_copyFrom_32 : decode cX8_copyFrom 32 = .ok (.return_, 1) := by decide +kernel
theorem dX9_init_0 : decode cX9_init 0 = .ok (.aload_n 0, 1) := by decide +kernel
theorem dX9_init_1 : decode cX9_init 1 = .ok (.invokespecial 1, 3) := by decide +kernel
theorem dX9_init_4 : decode cX9_init 4 = .ok (.aload_n 0, 1) := by decide +kernel
theorem dX9_init_5 : decode cX9_init 5 = .ok (.bipush 9, 2) := by decide +kernel
theorem dX9_init_7 : decode cX9_init 7 = .ok (.newarray .int, 2) := by decide +kernel
theorem dX9_init_9 : decode cX9_init 9 = .ok (.putfield 7, 3) := by decide +kernel
theorem dX9_init_12 : decode cX9_init 12 = .ok (.aload_n 0, 1) := by decide +kernel
theorem dX9_init_13 : decode cX9_init 13 = .ok (.bipush 24, 2) := by decide +kernel
theorem dX9_init_15 : decode cX9_init 15 = .ok (.newarray .int, 2) := by decide +kernel
theorem dX9_init_17 : decode cX9_init 17 = .ok (.putfield 13, 3) := by decide +kernel
theorem dX9_init_20 : decode cX9_init 20 = .ok (.return_, 1) := by decide +kernel
theorem dX9_tell_0 : decode cX9_tell 0 = .ok (.iconst 0, 1) := by decide +kernel
theorem dX9_tell_1 : decode cX9_tell 1 = .ok (.istore_n 3, 1) := by decide +kernel
theorem dX9_tell_2 : decode cX9_tell 2 = .ok (.iconst 0, 1) := by decide +kernel
theorem dX9_tell_3 : decode cX9_tell 3 = .ok (.istore 4, 2) := by decide +kernel
theorem dX9_tell_5 : decode cX9_tell 5 = .ok (.iload 4, 2) := by decide +kernel
theorem dX9_tell_7 : decode cX9_tell 7 = .ok (.aload_n 1, 1) := by decide +kernel
theorem dX9_tell_8 : decode cX9_tell 8 = .ok (.getfield 16, 3) := by decide +kernel
theorem dX9_tell_11 : decode cX9_tell 11 = .ok (.if_icmp .ge 71, 3) := by decide +kernel
theorem dX9_tell_14 : decode cX9_tell 14 = .ok (.aload_n 1, 1) := by decide +kernel
theorem dX9_tell_15 : decode cX9_tell 15 = .ok (.getfield 22, 3) := by decide +kernel
theorem dX9_tell_18 : decode cX9_tell 18 = .ok (.iload_n 3, 1) := by decide +kernel
theorem dX9_tell_19 : decode cX9_tell 19 = .ok (.iconst 1, 1) := by decide +kernel
theorem dX9_tell_20 : decode cX9_tell 20 = .ok (.iadd, 1) := by decide +kernel
theorem dX9_tell_21 : decode cX9_tell 21 = .ok (.invokestatic 25, 3) := by decide +kernel
theorem dX9_tell_24 : decode cX9_tell 24 = .ok (.istore 5, 2) := by decide +kernel
theorem dX9_tell_26 : decode cX9_tell 26 = .ok (.aload_n 1, 1) := by decide +kernel
theorem dX9_tell_27 : decode cX9_tell 27 = .ok (.getfield 22, 3) := by decide +kernel
theorem dX9_tell_30 : decode cX9_tell 30 = .ok (.iload_n 3, 1) := by decide +kernel
theorem dX9_tell_31 : decode cX9_tell 31 = .ok (.iconst 2, 1) := by decide +kernel
theorem dX9_tell_32 : decode cX9_tell 32 = .ok (.iadd, 1) := by decide +kernel
theorem dX9_tell_33 : decode cX9_tell 33 = .ok (.invokestatic 25, 3) := by decide +kernel
theorem dX9_tell_36 : decode cX9_tell 36 = .ok (.istore 6, 2) := by decide +kernel
theorem dX9_tell_38 : decode cX9_tell 38 = .ok (.aload_n 1, 1) := by decide +kernel
theorem dX9_tell_39 : decode cX9_tell 39 = .ok (.getfield 22, 3) := by decide +kernel
theorem dX9_tell_42 : decode cX9_tell 42 = .ok (.iload_n 3, 1) := by decide +kernel
theorem dX9_tell_43 : decode cX9_tell 43 = .ok (.invokestatic 25, 3) := by decide +kernel
theorem dX9_tell_46 : decode cX9_tell 46 = .ok (.iload_n 2, 1) := by decide +kernel
theorem dX9_tell_47 : decode cX9_tell 47 = .ok (.if_icmp .ne 26, 3) := by decide +kernel
theorem dX9_tell_50 : decode cX9_tell 50 = .ok (.aload_n 0, 1) := by decide +kernel
theorem dX9_tell_51 : decode cX9_tell 51 = .ok (.aload_n 1, 1) := by decide +kernel
theorem dX9_tell_52 : decode cX9_tell 52 = .ok (.iload 5, 2) := by decide +kernel
theorem dX9_tell_54 : decode cX9_tell 54 = .ok (.iload 6, 2) := by decide +kernel
theorem dX9_tell_56 : decode cX9_tell 56 = .ok (.invokevirtual 31, 3) := by decide +kernel
theorem dX9_tell_59 : decode cX9_tell 59 = .ok (.ifCond .eq 14, 3) := by decide +kernel
theorem dX9_tell_62 : decode cX9_tell 62 = .ok (.aload_n 0, 1) := by decide +kernel
theorem dX9_tell_63 : decode cX9_tell 63 = .ok (.aload_n 1, 1) := by decide +kernel
theorem dX9_tell_64 : decode cX9_tell 64 = .ok (.iload_n 3, 1) := by decide +kernel
theorem dX9_tell_65 : decode cX9_tell 65 = .ok (.iconst 3, 1) := by decide +kernel
theorem dX9_tell_66 : decode cX9_tell 66 = .ok (.iadd, 1) := by decide +kernel
theorem dX9_tell_67 : decode cX9_tell 67 = .ok (.iload 5, 2) := by decide +kernel
theorem dX9_tell_69 : decode cX9_tell 69 = .ok (.invokevirtual 31, 3) := by decide +kernel
theorem dX9_tell_72 : decode cX9_tell 72 = .ok (.ireturn, 1) := by decide +kernel
theorem dX9_tell_73 : decode cX9_tell 73 = .ok (.iload 6, 2) := by decide +kernel
theorem dX9_tell_75 : decode cX9_tell 75 = .ok (.istore_n 3, 1) := by decide +kernel
theorem dX9_tell_76 : decode cX9_tell 76 = .ok (.iinc 4 1, 3) := by decide +kernel
theorem dX9_tell_79 : decode cX9_tell 79 = .ok (.goto (-74), 3) := by decide +kernel
theorem dX9_tell_82 : decode cX9_tell 82 = .ok (.iconst 0, 1) := by decide +kernel
theorem dX9_tell_83 : decode cX9_tell 83 = .ok (.ireturn, 1) := by decide +kernel
theorem dX9_run_0 : decode cX9_run 0 = .ok (.aload_n 0, 1) := by decide +kernel
theorem dX9_run_1 : decode cX9_run 1 = .ok (.iconst 0, 1) := by decide +kernel
theorem dX9_run_2 : decode cX9_run 2 = .ok (.putfield 35, 3) := by decide +kernel
theorem dX9_run_5 : decode cX9_run 5 = .ok (.iload_n 2, 1) := by decide +kernel
theorem dX9_run_6 : decode cX9_run 6 = .ok (.istore 4, 2) := by decide +kernel
theorem dX9_run_8 : decode cX9_run 8 = .ok (.iload_n 2, 1) := by decide +kernel
theorem dX9_run_9 : decode cX9_run 9 = .ok (.istore 5, 2) := by decide +kernel
theorem dX9_run_11 : decode cX9_run 11 = .ok (.iload 5, 2) := by decide +kernel
theorem dX9_run_13 : decode cX9_run 13 = .ok (.iload_n 3, 1) := by decide +kernel
theorem dX9_run_14 : decode cX9_run 14 = .ok (.if_icmp .ge 206, 3) := by decide +kernel
theorem dX9_run_17 : decode cX9_run 17 = .ok (.iload 5, 2) := by decide +kernel
theorem dX9_run_19 : decode cX9_run 19 = .ok (.iload 4, 2) := by decide +kernel
theorem dX9_run_21 : decode cX9_run 21 = .ok (.if_icmp .lt 193, 3) := by decide +kernel
theorem dX9_run_24 : decode cX9_run 24 = .ok (.aload_n 1, 1) := by decide +kernel
theorem dX9_run_25 : decode cX9_run 25 = .ok (.getfield 22, 3) := by decide +kernel
theorem dX9_run_28 : decode cX9_run 28 = .ok (.iload 5, 2) := by decide +kernel
theorem dX9_run_30 : decode cX9_run 30 = .ok (.invokestatic 25, 3) := by decide +kernel
theorem dX9_run_33 : decode cX9_run 33 = .ok (.istore 6, 2) := by decide +kernel
theorem dX9_run_35 : decode cX9_run 35 = .ok (.iload 6, 2) := by decide +kernel
theorem dX9_run_37 : decode cX9_run 37 = .ok (.bipush 20, 2) := by decide +kernel
theorem dX9_run_39 : decode cX9_run 39 = .ok (.ishr, 1) := by decide +kernel
theorem dX9_run_40 : decode cX9_run 40 = .ok (.istore 7, 2) := by decide +kernel
theorem dX9_run_42 : decode cX9_run 42 = .ok (.iload 6, 2) := by decide +kernel
theorem dX9_run_44 : decode cX9_run 44 = .ok (.ldc 38, 2) := by decide +kernel
theorem dX9_run_46 : decode cX9_run 46 = .ok (.iand, 1) := by decide +kernel
theorem dX9_run_47 : decode cX9_run 47 = .ok (.istore 8, 2) := by decide +kernel
theorem dX9_run_49 : decode cX9_run 49 = .ok (.iload 7, 2) := by decide +kernel
theorem dX9_run_51 : decode cX9_run 51 = .ok (.ifCond .ne 12, 3) := by decide +kernel
theorem dX9_run_54 : decode cX9_run 54 = .ok (.aload_n 0, 1) := by decide +kernel
theorem dX9_run_55 : decode cX9_run 55 = .ok (.iload 8, 2) := by decide +kernel
theorem dX9_run_57 : decode cX9_run 57 = .ok (.invokevirtual 39, 3) := by decide +kernel
theorem dX9_run_60 : decode cX9_run 60 = .ok (.goto 154, 3) := by decide +kernel
theorem dX9_run_63 : decode cX9_run 63 = .ok (.iload 7, 2) := by decide +kernel
theorem dX9_run_65 : decode cX9_run 65 = .ok (.iconst 1, 1) := by decide +kernel
theorem dX9_run_66 : decode cX9_run 66 = .ok (.if_icmp .ne 19, 3) := by decide +kernel
theorem dX9_run_69 : decode cX9_run 69 = .ok (.aload_n 0, 1) := by decide +kernel
theorem dX9_run_70 : decode cX9_run 70 = .ok (.aload_n 0, 1) := by decide +kernel
theorem dX9_run_71 : decode cX9_run 71 = .ok (.getfield 7, 3) := by decide +kernel
theorem dX9_run_74 : decode cX9_run 74 = .ok (.iload 8, 2) := by decide +kernel
theorem dX9_run_76 : decode cX9_run 76 = .ok (.invokestatic 25, 3) := by decide +kernel
theorem dX9_run_79 : decode cX9_run 79 = .ok (.invokevirtual 39, 3) := by decide +kernel
theorem dX9_run_82 : decode cX9_run 82 = .ok (.goto 132, 3) := by decide +kernel
theorem dX9_run_85 : decode cX9_run 85 = .ok (.iload 7, 2) := by decide +kernel
theorem dX9_run_87 : decode cX9_run 87 = .ok (.iconst 2, 1) := by decide +kernel
theorem dX9_run_88 : decode cX9_run 88 = .ok (.if_icmp .eq 54, 3) := by decide +kernel
theorem dX9_run_91 : decode cX9_run 91 = .ok (.aload_n 0, 1) := by decide +kernel
theorem dX9_run_92 : decode cX9_run 92 = .ok (.invokevirtual 43, 3) := by decide +kernel
theorem dX9_run_95 : decode cX9_run 95 = .ok (.ifCond .eq 7, 3) := by decide +kernel
theorem dX9_run_98 : decode cX9_run 98 = .ok (.iconst 1, 1) := by decide +kernel
theorem dX9_run_99 : decode cX9_run 99 = .ok (.goto 4, 3) := by decide +kernel
theorem dX9_run_102 : decode cX9_run 102 = .ok (.iconst 0, 1) := by decide +kernel
theorem dX9_run_103 : decode cX9_run 103 = .ok (.istore 9, 2) := by decide +kernel
theorem dX9_run_105 : decode cX9_run 105 = .ok (.iload 9, 2) := by decide +kernel
theorem dX9_run_107 : decode cX9_run 107 = .ok (.iload 7, 2) := by decide +kernel
theorem dX9_run_109 : decode cX9_run 109 = .ok (.iconst 4, 1) := by decide +kernel
theorem dX9_run_110 : decode cX9_run 110 = .ok (.if_icmp .ne 7, 3) := by decide +kernel
theorem dX9_run_113 : decode cX9_run 113 = .ok (.iconst 1, 1) := by decide +kernel
theorem dX9_run_114 : decode cX9_run 114 = .ok (.goto 4, 3) := by decide +kernel
theorem dX9_run_117 : decode cX9_run 117 = .ok (.iconst 0, 1) := by decide +kernel
theorem dX9_run_118 : decode cX9_run 118 = .ok (.if_icmp .ne 21, 3) := by decide +kernel
theorem dX9_run_121 : decode cX9_run 121 = .ok (.aload_n 0, 1) := by decide +kernel
theorem dX9_run_122 : decode cX9_run 122 = .ok (.iload 9, 2) := by decide +kernel
theorem dX9_run_124 : decode cX9_run 124 = .ok (.ifCond .eq 7, 3) := by decide +kernel
theorem dX9_run_127 : decode cX9_run 127 = .ok (.iconst 1, 1) := by decide +kernel
theorem dX9_run_128 : decode cX9_run 128 = .ok (.goto 4, 3) := by decide +kernel
theorem dX9_run_131 : decode cX9_run 131 = .ok (.iconst 0, 1) := by decide +kernel
theorem dX9_run_132 : decode cX9_run 132 = .ok (.invokevirtual 39, 3) := by decide +kernel
theorem dX9_run_135 : decode cX9_run 135 = .ok (.iload 8, 2) := by decide +kernel
theorem dX9_run_137 : decode cX9_run 137 = .ok (.istore 4, 2) := by decide +kernel
theorem dX9_run_139 : decode cX9_run 139 = .ok (.goto 75, 3) := by decide +kernel
theorem dX9_run_142 : decode cX9_run 142 = .ok (.iload 8, 2) := by decide +kernel
theorem dX9_run_144 : decode cX9_run 144 = .ok (.bipush 33, 2) := by decide +kernel
theorem dX9_run_146 : decode cX9_run 146 = .ok (.if_icmp .ne 22, 3) := by decide +kernel
theorem dX9_run_149 : decode cX9_run 149 = .ok (.aload_n 0, 1) := by decide +kernel
theorem dX9_run_150 : decode cX9_run 150 = .ok (.aload_n 0, 1) := by decide +kernel
theorem dX9_run_151 : decode cX9_run 151 = .ok (.invokevirtual 43, 3) := by decide +kernel
theorem dX9_run_154 : decode cX9_run 154 = .ok (.ifCond .ne 7, 3) := by decide +kernel
theorem dX9_run_157 : decode cX9_run 157 = .ok (.iconst 1, 1) := by decide +kernel
theorem dX9_run_158 : decode cX9_run 158 = .ok (.goto 4, 3) := by decide +kernel
theorem dX9_run_161 : decode cX9_run 161 = .ok (.iconst 0, 1) := by decide +kernel
theorem dX9_run_162 : decode cX9_run 162 = .ok (.invokevirtual 39, 3) := by decide +kernel
theorem dX9_run_165 : decode cX9_run 165 = .ok (.goto 49, 3) := by decide +kernel
theorem dX9_run_168 : decode cX9_run 168 = .ok (.aload_n 0, 1) := by decide +kernel
theorem dX9_run_169 : decode cX9_run 169 = .ok (.invokevirtual 43, 3) := by decide +kernel
theorem dX9_run_172 : decode cX9_run 172 = .ok (.istore 9, 2) := by decide +kernel
theorem dX9_run_174 : decode cX9_run 174 = .ok (.aload_n 0, 1) := by decide +kernel
theorem dX9_run_175 : decode cX9_run 175 = .ok (.invokevirtual 43, 3) := by decide +kernel
theorem dX9_run_178 : decode cX9_run 178 = .ok (.istore 10, 2) := by decide +kernel
theorem dX9_run_180 : decode cX9_run 180 = .ok (.iload 9, 2) := by decide +kernel
theorem dX9_run_182 : decode cX9_run 182 = .ok (.ifCond .ne 19, 3) := by decide +kernel
theorem dX9_run_185 : decode cX9_run 185 = .ok (.iload 8, 2) := by decide +kernel
theorem dX9_run_187 : decode cX9_run 187 = .ok (.bipush 47, 2) := by decide +kernel
theorem dX9_run_189 : decode cX9_run 189 = .ok (.if_icmp .eq 10, 3) := by decide +kernel
theorem dX9_run_192 : decode cX9_run 192 = .ok (.iload 8, 2) := by decide +kernel
theorem dX9_run_194 : decode cX9_run 194 = .ok (.bipush 37, 2) := by decide +kernel
theorem dX9_run_196 : decode cX9_run 196 = .ok (.if_icmp .ne 5, 3) := by decide +kernel
theorem dX9_run_199 : decode cX9_run 199 = .ok (.iconst 0, 1) := by decide +kernel
theorem dX9_run_200 : decode cX9_run 200 = .ok (.ireturn, 1) := by decide +kernel
theorem dX9_run_201 : decode cX9_run 201 = .ok (.aload_n 0, 1) := by decide +kernel
theorem dX9_run_202 : decode cX9_run 202 = .ok (.iload 8, 2) := by decide +kernel
theorem dX9_run_204 : decode cX9_run 204 = .ok (.iload 10, 2) := by decide +kernel
theorem dX9_run_206 : decode cX9_run 206 = .ok (.iload 9, 2) := by decide +kernel
theorem dX9_run_208 : decode cX9_run 208 = .ok (.invokestatic 47, 3) := by decide +kernel
theorem dX9_run_211 : decode cX9_run 211 = .ok (.invokevirtual 39, 3) := by decide +kernel
theorem dX9_run_214 : decode cX9_run 214 = .ok (.iinc 5 1, 3) := by decide +kernel
theorem dX9_run_217 : decode cX9_run 217 = .ok (.goto (-206), 3) := by decide +kernel
theorem dX9_run_220 : decode cX9_run 220 = .ok (.aload_n 0, 1) := by decide +kernel
theorem dX9_run_221 : decode cX9_run 221 = .ok (.invokevirtual 43, 3) := by decide +kernel
theorem dX9_run_224 : decode cX9_run 224 = .ok (.ireturn, 1) := by decide +kernel
theorem dX9_joined_0 : decode cX9_joined 0 = .ok (.iload_n 0, 1) := by decide +kernel
theorem dX9_joined_1 : decode cX9_joined 1 = .ok (.lookupswitch 125 #[(37, 91), (42, 75), (43, 67), (45, 71), (47, 79), (60, 103), (62, 114)], 67) := by decide +kernel
theorem dX9_joined_68 : decode cX9_joined 68 = .ok (.iload_n 1, 1) := by decide +kernel
theorem dX9_joined_69 : decode cX9_joined 69 = .ok (.iload_n 2, 1) := by decide +kernel
theorem dX9_joined_70 : decode cX9_joined 70 = .ok (.iadd, 1) := by decide +kernel
theorem dX9_joined_71 : decode cX9_joined 71 = .ok (.ireturn, 1) := by decide +kernel
theorem dX9_joined_72 : decode cX9_joined 72 = .ok (.iload_n 1, 1) := by decide +kernel
theorem dX9_joined_73 : decode cX9_joined 73 = .ok (.iload_n 2, 1) := by decide +kernel
theorem dX9_joined_74 : decode cX9_joined 74 = .ok (.isub, 1) := by decide +kernel
theorem dX9_joined_75 : decode cX9_joined 75 = .ok (.ireturn, 1) := by decide +kernel
theorem dX9_joined_76 : decode cX9_joined 76 = .ok (.iload_n 1, 1) := by decide +kernel
theorem dX9_joined_77 : decode cX9_joined 77 = .ok (.iload_n 2, 1) := by decide +kernel
theorem dX9_joined_78 : decode cX9_joined 78 = .ok (.imul, 1) := by decide +kernel
theorem dX9_joined_79 : decode cX9_joined 79 = .ok (.ireturn, 1) := by decide +kernel
theorem dX9_joined_80 : decode cX9_joined 80 = .ok (.iload_n 2, 1) := by decide +kernel
theorem dX9_joined_81 : decode cX9_joined 81 = .ok (.ifCond .ne 7, 3) := by decide +kernel
theorem dX9_joined_84 : decode cX9_joined 84 = .ok (.iconst 0, 1) := by decide +kernel
theorem dX9_joined_85 : decode cX9_joined 85 = .ok (.goto 6, 3) := by decide +kernel
theorem dX9_joined_88 : decode cX9_joined 88 = .ok (.iload_n 1, 1) := by decide +kernel
theorem dX9_joined_89 : decode cX9_joined 89 = .ok (.iload_n 2, 1) := by decide +kernel
theorem dX9_joined_90 : decode cX9_joined 90 = .ok (.idiv, 1) := by decide +kernel
theorem dX9_joined_91 : decode cX9_joined 91 = .ok (.ireturn, 1) := by decide +kernel
theorem dX9_joined_92 : decode cX9_joined 92 = .ok (.iload_n 2, 1) := by decide +kernel
theorem dX9_joined_93 : decode cX9_joined 93 = .ok (.ifCond .ne 7, 3) := by decide +kernel
theorem dX9_joined_96 : decode cX9_joined 96 = .ok (.iconst 0, 1) := by decide +kernel
theorem dX9_joined_97 : decode cX9_joined 97 = .ok (.goto 6, 3) := by decide +kernel
theorem dX9_joined_100 : decode cX9_joined 100 = .ok (.iload_n 1, 1) := by decide +kernel
theorem dX9_joined_101 : decode cX9_joined 101 = .ok (.iload_n 2, 1) := by decide +kernel
theorem dX9_joined_102 : decode cX9_joined 102 = .ok (.irem, 1) := by decide +kernel
theorem dX9_joined_103 : decode cX9_joined 103 = .ok (.ireturn, 1) := by decide +kernel
theorem dX9_joined_104 : decode cX9_joined 104 = .ok (.iload_n 1, 1) := by decide +kernel
theorem dX9_joined_105 : decode cX9_joined 105 = .ok (.iload_n 2, 1) := by decide +kernel
theorem dX9_joined_106 : decode cX9_joined 106 = .ok (.if_icmp .ge 7, 3) := by decide +kernel
theorem dX9_joined_109 : decode cX9_joined 109 = .ok (.iconst 1, 1) := by decide +kernel
theorem dX9_joined_110 : decode cX9_joined 110 = .ok (.goto 4, 3) := by decide +kernel
theorem dX9_joined_113 : decode cX9_joined 113 = .ok (.iconst 0, 1) := by decide +kernel
theorem dX9_joined_114 : decode cX9_joined 114 = .ok (.ireturn, 1) := by decide +kernel
theorem dX9_joined_115 : decode cX9_joined 115 = .ok (.iload_n 1, 1) := by decide +kernel
theorem dX9_joined_116 : decode cX9_joined 116 = .ok (.iload_n 2, 1) := by decide +kernel
theorem dX9_joined_117 : decode cX9_joined 117 = .ok (.if_icmp .le 7, 3) := by decide +kernel
theorem dX9_joined_120 : decode cX9_joined 120 = .ok (.iconst 1, 1) := by decide +kernel
theorem dX9_joined_121 : decode cX9_joined 121 = .ok (.goto 4, 3) := by decide +kernel
theorem dX9_joined_124 : decode cX9_joined 124 = .ok (.iconst 0, 1) := by decide +kernel
theorem dX9_joined_125 : decode cX9_joined 125 = .ok (.ireturn, 1) := by decide +kernel
theorem dX9_joined_126 : decode cX9_joined 126 = .ok (.iload_n 1, 1) := by decide +kernel
theorem dX9_joined_127 : decode cX9_joined 127 = .ok (.iload_n 2, 1) := by decide +kernel
theorem dX9_joined_128 : decode cX9_joined 128 = .ok (.if_icmp .ne 7, 3) := by decide +kernel
theorem dX9_joined_131 : decode cX9_joined 131 = .ok (.iconst 1, 1) := by decide +kernel
theorem dX9_joined_132 : decode cX9_joined 132 = .ok (.goto 4, 3) := by decide +kernel
theorem dX9_joined_135 : decode cX9_joined 135 = .ok (.iconst 0, 1) := by decide +kernel
theorem dX9_joined_136 : decode cX9_joined 136 = .ok (.ireturn, 1) := by decide +kernel
theorem dX9_push_0 : decode cX9_push 0 = .ok (.aload_n 0, 1) := by decide +kernel
theorem dX9_push_1 : decode cX9_push 1 = .ok (.getfield 35, 3) := by decide +kernel
theorem dX9_push_4 : decode cX9_push 4 = .ok (.ifCond .lt 32, 3) := by decide +kernel
theorem dX9_push_7 : decode cX9_push 7 = .ok (.aload_n 0, 1) := by decide +kernel
theorem dX9_push_8 : decode cX9_push 8 = .ok (.getfield 35, 3) := by decide +kernel
theorem dX9_push_11 : decode cX9_push 11 = .ok (.bipush 24, 2) := by decide +kernel
theorem dX9_push_13 : decode cX9_push 13 = .ok (.if_icmp .ge 23, 3) := by decide +kernel
theorem dX9_push_16 : decode cX9_push 16 = .ok (.aload_n 0, 1) := by decide +kernel
theorem dX9_push_17 : decode cX9_push 17 = .ok (.getfield 13, 3) := by decide +kernel
theorem dX9_push_20 : decode cX9_push 20 = .ok (.aload_n 0, 1) := by decide +kernel
theorem dX9_push_21 : decode cX9_push 21 = .ok (.getfield 35, 3) := by decide +kernel
theorem dX9_push_24 : decode cX9_push 24 = .ok (.iload_n 1, 1) := by decide +kernel
theorem dX9_push_25 : decode cX9_push 25 = .ok (.iastore, 1) := by decide +kernel
theorem dX9_push_26 : decode cX9_push 26 = .ok (.aload_n 0, 1) := by decide +kernel
theorem dX9_push_27 : decode cX9_push 27 = .ok (.dup, 1) := by decide +kernel
theorem dX9_push_28 : decode cX9_push 28 = .ok (.getfield 35, 3) := by decide +kernel
theorem dX9_push_31 : decode cX9_push 31 = .ok (.iconst 1, 1) := by decide +kernel
theorem dX9_push_32 : decode cX9_push 32 = .ok (.iadd, 1) := by decide +kernel
theorem dX9_push_33 : decode cX9_push 33 = .ok (.putfield 35, 3) := by decide +kernel
theorem dX9_push_36 : decode cX9_push 36 = .ok (.return_, 1) := by decide +kernel
theorem dX9_pop_0 : decode cX9_pop 0 = .ok (.aload_n 0, 1) := by decide +kernel
theorem dX9_pop_1 : decode cX9_pop 1 = .ok (.getfield 35, 3) := by decide +kernel
theorem dX9_pop_4 : decode cX9_pop 4 = .ok (.iconst 1, 1) := by decide +kernel
theorem dX9_pop_5 : decode cX9_pop 5 = .ok (.if_icmp .lt 12, 3) := by decide +kernel
theorem dX9_pop_8 : decode cX9_pop 8 = .ok (.aload_n 0, 1) := by decide +kernel
theorem dX9_pop_9 : decode cX9_pop 9 = .ok (.getfield 35, 3) := by decide +kernel
theorem dX9_pop_12 : decode cX9_pop 12 = .ok (.bipush 24, 2) := by decide +kernel
theorem dX9_pop_14 : decode cX9_pop 14 = .ok (.if_icmp .le 5, 3) := by decide +kernel
theorem dX9_pop_17 : decode cX9_pop 17 = .ok (.iconst 0, 1) := by decide +kernel
theorem dX9_pop_18 : decode cX9_pop 18 = .ok (.ireturn, 1) := by decide +kernel
theorem dX9_pop_19 : decode cX9_pop 19 = .ok (.aload_n 0, 1) := by decide +kernel
theorem dX9_pop_20 : decode cX9_pop 20 = .ok (.dup, 1) := by decide +kernel
theorem dX9_pop_21 : decode cX9_pop 21 = .ok (.getfield 35, 3) := by decide +kernel
theorem dX9_pop_24 : decode cX9_pop 24 = .ok (.iconst 1, 1) := by decide +kernel
theorem dX9_pop_25 : decode cX9_pop 25 = .ok (.isub, 1) := by decide +kernel
theorem dX9_pop_26 : decode cX9_pop 26 = .ok (.putfield 35, 3) := by decide +kernel
theorem dX9_pop_29 : decode cX9_pop 29 = .ok (.aload_n 0, 1) := by decide +kernel
theorem dX9_pop_30 : decode cX9_pop 30 = .ok (.getfield 13, 3) := by decide +kernel
theorem dX9_pop_33 : decode cX9_pop 33 = .ok (.aload_n 0, 1) := by decide +kernel
theorem dX9_pop_34 : decode cX9_pop 34 = .ok (.getfield 35, 3) := by decide +kernel
theorem dX9_pop_37 : decode cX9_pop 37 = .ok (.iaload, 1) := by decide +kernel
theorem dX9_pop_38 : decode cX9_pop 38 = .ok (.ireturn, 1) := by decide +kernel
theorem dX10_init_0 : decode cX10_init 0 = .ok (.aload_n 0, 1) := by decide +kernel
theorem dX10_init_1 : decode cX10_init 1 = .ok (.invokespecial 1, 3) := by decide +kernel
theorem dX10_init_4 : decode cX10_init 4 = .ok (.aload_n 0, 1) := by decide +kernel
theorem dX10_init_5 : decode cX10_init 5 = .ok (.sipush 260, 3) := by decide +kernel
theorem dX10_init_8 : decode cX10_init 8 = .ok (.newarray .byte, 2) := by decide +kernel
theorem dX10_init_10 : decode cX10_init 10 = .ok (.putfield 9, 3) := by decide +kernel
theorem dX10_init_13 : decode cX10_init 13 = .ok (.return_, 1) := by decide +kernel
theorem dX10_hasRoomForFive_0 : decode cX10_hasRoomForFive 0 = .ok (.aload_n 0, 1) := by decide +kernel
theorem dX10_hasRoomForFive_1 : decode cX10_hasRoomForFive 1 = .ok (.getfield 13, 3) := by decide +kernel
theorem dX10_hasRoomForFive_4 : decode cX10_hasRoomForFive 4 = .ok (.bipush 20, 2) := by decide +kernel
theorem dX10_hasRoomForFive_6 : decode cX10_hasRoomForFive 6 = .ok (.iadd, 1) := by decide +kernel
theorem dX10_hasRoomForFive_7 : decode cX10_hasRoomForFive 7 = .ok (.sipush 260, 3) := by decide +kernel
theorem dX10_hasRoomForFive_10 : decode cX10_hasRoomForFive 10 = .ok (.if_icmp .gt 7, 3) := by decide +kernel
theorem dX10_hasRoomForFive_13 : decode cX10_hasRoomForFive 13 = .ok (.iconst 1, 1) := by decide +kernel
theorem dX10_hasRoomForFive_14 : decode cX10_hasRoomForFive 14 = .ok (.goto 4, 3) := by decide +kernel
theorem dX10_hasRoomForFive_17 : decode cX10_hasRoomForFive 17 = .ok (.iconst 0, 1) := by decide +kernel
theorem dX10_hasRoomForFive_18 : decode cX10_hasRoomForFive 18 = .ok (.ireturn, 1) := by decide +kernel
theorem dX10_addNumber_0 : decode cX10_addNumber 0 = .ok (.bipush 24, 2) := by decide +kernel
theorem dX10_addNumber_2 : decode cX10_addNumber 2 = .ok (.istore_n 2, 1) := by decide +kernel
theorem dX10_addNumber_3 : decode cX10_addNumber 3 = .ok (.iload_n 2, 1) := by decide +kernel
theorem dX10_addNumber_4 : decode cX10_addNumber 4 = .ok (.ifCond .lt 42, 3) := by decide +kernel
theorem dX10_addNumber_7 : decode cX10_addNumber 7 = .ok (.aload_n 0, 1) := by decide +kernel
theorem dX10_addNumber_8 : decode cX10_addNumber 8 = .ok (.getfield 13, 3) := by decide +kernel
theorem dX10_addNumber_11 : decode cX10_addNumber 11 = .ok (.sipush 260, 3) := by decide +kernel
theorem dX10_addNumber_14 : decode cX10_addNumber 14 = .ok (.if_icmp .ge 32, 3) := by decide +kernel
theorem dX10_addNumber_17 : decode cX10_addNumber 17 = .ok (.aload_n 0, 1) := by decide +kernel
theorem dX10_addNumber_18 : decode cX10_addNumber 18 = .ok (.getfield 9, 3) := by decide +kernel
theorem dX10_addNumber_21 : decode cX10_addNumber 21 = .ok (.aload_n 0, 1) := by decide +kernel
theorem dX10_addNumber_22 : decode cX10_addNumber 22 = .ok (.getfield 13, 3) := by decide +kernel
theorem dX10_addNumber_25 : decode cX10_addNumber 25 = .ok (.iload_n 1, 1) := by decide +kernel
theorem dX10_addNumber_26 : decode cX10_addNumber 26 = .ok (.iload_n 2, 1) := by decide +kernel
theorem dX10_addNumber_27 : decode cX10_addNumber 27 = .ok (.ishr, 1) := by decide +kernel
theorem dX10_addNumber_28 : decode cX10_addNumber 28 = .ok (.i2b, 1) := by decide +kernel
theorem dX10_addNumber_29 : decode cX10_addNumber 29 = .ok (.bastore, 1) := by decide +kernel
theorem dX10_addNumber_30 : decode cX10_addNumber 30 = .ok (.aload_n 0, 1) := by decide +kernel
theorem dX10_addNumber_31 : decode cX10_addNumber 31 = .ok (.dup, 1) := by decide +kernel
theorem dX10_addNumber_32 : decode cX10_addNumber 32 = .ok (.getfield 13, 3) := by decide +kernel
theorem dX10_addNumber_35 : decode cX10_addNumber 35 = .ok (.iconst 1, 1) := by decide +kernel
theorem dX10_addNumber_36 : decode cX10_addNumber 36 = .ok (.iadd, 1) := by decide +kernel
theorem dX10_addNumber_37 : decode cX10_addNumber 37 = .ok (.putfield 13, 3) := by decide +kernel
theorem dX10_addNumber_40 : decode cX10_addNumber 40 = .ok (.iinc 2 (-8), 3) := by decide +kernel
theorem dX10_addNumber_43 : decode cX10_addNumber 43 = .ok (.goto (-40), 3) := by decide +kernel
theorem dX10_addNumber_46 : decode cX10_addNumber 46 = .ok (.return_, 1) := by decide +kernel
theorem dX10_numberAt_0 : decode cX10_numberAt 0 = .ok (.iconst 0, 1) := by decide +kernel
theorem dX10_numberAt_1 : decode cX10_numberAt 1 = .ok (.istore_n 2, 1) := by decide +kernel
theorem dX10_numberAt_2 : decode cX10_numberAt 2 = .ok (.iconst 4, 1) := by decide +kernel
theorem dX10_numberAt_3 : decode cX10_numberAt 3 = .ok (.iload_n 1, 1) := by decide +kernel
theorem dX10_numberAt_4 : decode cX10_numberAt 4 = .ok (.imul, 1) := by decide +kernel
theorem dX10_numberAt_5 : decode cX10_numberAt 5 = .ok (.istore_n 3, 1) := by decide +kernel
theorem dX10_numberAt_6 : decode cX10_numberAt 6 = .ok (.iload_n 3, 1) := by decide +kernel
theorem dX10_numberAt_7 : decode cX10_numberAt 7 = .ok (.iconst 4, 1) := by decide +kernel
theorem dX10_numberAt_8 : decode cX10_numberAt 8 = .ok (.iload_n 1, 1) := by decide +kernel
theorem dX10_numberAt_9 : decode cX10_numberAt 9 = .ok (.imul, 1) := by decide +kernel
theorem dX10_numberAt_10 : decode cX10_numberAt 10 = .ok (.iconst 4, 1) := by decide +kernel
theorem dX10_numberAt_11 : decode cX10_numberAt 11 = .ok (.iadd, 1) := by decide +kernel
theorem dX10_numberAt_12 : decode cX10_numberAt 12 = .ok (.if_icmp .ge 36, 3) := by decide +kernel
theorem dX10_numberAt_15 : decode cX10_numberAt 15 = .ok (.iload_n 3, 1) := by decide +kernel
theorem dX10_numberAt_16 : decode cX10_numberAt 16 = .ok (.ifCond .lt 32, 3) := by decide +kernel
theorem dX10_numberAt_19 : decode cX10_numberAt 19 = .ok (.iload_n 3, 1) := by decide +kernel
theorem dX10_numberAt_20 : decode cX10_numberAt 20 = .ok (.sipush 260, 3) := by decide +kernel
theorem dX10_numberAt_23 : decode cX10_numberAt 23 = .ok (.if_icmp .ge 25, 3) := by decide +kernel
theorem dX10_numberAt_26 : decode cX10_numberAt 26 = .ok (.iload_n 2, 1) := by decide +kernel
theorem dX10_numberAt_27 : decode cX10_numberAt 27 = .ok (.bipush 8, 2) := by decide +kernel
theorem dX10_numberAt_29 : decode cX10_numberAt 29 = .ok (.ishl, 1) := by decide +kernel
theorem dX10_numberAt_30 : decode cX10_numberAt 30 = .ok (.aload_n 0, 1) := by decide +kernel
theorem dX10_numberAt_31 : decode cX10_numberAt 31 = .ok (.getfield 9, 3) := by decide +kernel
theorem dX10_numberAt_34 : decode cX10_numberAt 34 = .ok (.iload_n 3, 1) := by decide +kernel
theorem dX10_numberAt_35 : decode cX10_numberAt 35 = .ok (.baload, 1) := by decide +kernel
theorem dX10_numberAt_36 : decode cX10_numberAt 36 = .ok (.sipush 255, 3) := by decide +kernel
theorem dX10_numberAt_39 : decode cX10_numberAt 39 = .ok (.iand, 1) := by decide +kernel
theorem dX10_numberAt_40 : decode cX10_numberAt 40 = .ok (.ior, 1) := by decide +kernel
theorem dX10_numberAt_41 : decode cX10_numberAt 41 = .ok (.istore_n 2, 1) := by decide +kernel
theorem dX10_numberAt_42 : decode cX10_numberAt 42 = .ok (.iinc 3 1, 3) := by decide +kernel
theorem dX10_numberAt_45 : decode cX10_numberAt 45 = .ok (.goto (-39), 3) := by decide +kernel
theorem dX10_numberAt_48 : decode cX10_numberAt 48 = .ok (.iload_n 2, 1) := by decide +kernel
theorem dX10_numberAt_49 : decode cX10_numberAt 49 = .ok (.ireturn, 1) := by decide +kernel
theorem dX11_init_0 : decode cX11_init 0 = .ok (.aload_n 0, 1) := by decide +kernel
theorem dX11_init_1 : decode cX11_init 1 = .ok (.invokespecial 1, 3) := by decide +kernel
theorem dX11_init_4 : decode cX11_init 4 = .ok (.aload_n 0, 1) := by decide +kernel
theorem dX11_init_5 : decode cX11_init 5 = .ok (.bipush 8, 2) := by decide +kernel
theorem dX11_init_7 : decode cX11_init 7 = .ok (.putfield 7, 3) := by decide +kernel
theorem dX11_init_10 : decode cX11_init 10 = .ok (.aload_n 0, 1) := by decide +kernel
theorem dX11_init_11 : decode cX11_init 11 = .ok (.iconst 1, 1) := by decide +kernel
theorem dX11_init_12 : decode cX11_init 12 = .ok (.putfield 13, 3) := by decide +kernel
theorem dX11_init_15 : decode cX11_init 15 = .ok (.aload_n 0, 1) := by decide +kernel
theorem dX11_init_16 : decode cX11_init 16 = .ok (.new 16, 3) := by decide +kernel
theorem dX11_init_19 : decode cX11_init 19 = .ok (.dup, 1) := by decide +kernel
theorem dX11_init_20 : decode cX11_init 20 = .ok (.invokespecial 18, 3) := by decide +kernel
theorem dX11_init_23 : decode cX11_init 23 = .ok (.putfield 19, 3) := by decide +kernel
theorem dX11_init_26 : decode cX11_init 26 = .ok (.aload_n 0, 1) := by decide +kernel
theorem dX11_init_27 : decode cX11_init 27 = .ok (.new 23, 3) := by decide +kernel
theorem dX11_init_30 : decode cX11_init 30 = .ok (.dup, 1) := by decide +kernel
theorem dX11_init_31 : decode cX11_init 31 = .ok (.invokespecial 25, 3) := by decide +kernel
theorem dX11_init_34 : decode cX11_init 34 = .ok (.putfield 26, 3) := by decide +kernel
theorem dX11_init_37 : decode cX11_init 37 = .ok (.aload_n 0, 1) := by decide +kernel
theorem dX11_init_38 : decode cX11_init 38 = .ok (.new 30, 3) := by decide +kernel
theorem dX11_init_41 : decode cX11_init 41 = .ok (.dup, 1) := by decide +kernel
theorem dX11_init_42 : decode cX11_init 42 = .ok (.invokespecial 32, 3) := by decide +kernel
theorem dX11_init_45 : decode cX11_init 45 = .ok (.putfield 33, 3) := by decide +kernel
theorem dX11_init_48 : decode cX11_init 48 = .ok (.aload_n 0, 1) := by decide +kernel
theorem dX11_init_49 : decode cX11_init 49 = .ok (.aload_n 0, 1) := by decide +kernel
theorem dX11_init_50 : decode cX11_init 50 = .ok (.getfield 33, 3) := by decide +kernel
theorem dX11_init_53 : decode cX11_init 53 = .ok (.getfield 37, 3) := by decide +kernel
theorem dX11_init_56 : decode cX11_init 56 = .ok (.putfield 41, 3) := by decide +kernel
theorem dX11_init_59 : decode cX11_init 59 = .ok (.aload_n 0, 1) := by decide +kernel
theorem dX11_init_60 : decode cX11_init 60 = .ok (.aload_n 0, 1) := by decide +kernel
theorem dX11_init_61 : decode cX11_init 61 = .ok (.getfield 33, 3) := by decide +kernel
theorem dX11_init_64 : decode cX11_init 64 = .ok (.getfield 42, 3) := by decide +kernel
theorem dX11_init_67 : decode cX11_init 67 = .ok (.putfield 46, 3) := by decide +kernel
theorem dX11_init_70 : decode cX11_init 70 = .ok (.aload_n 0, 1) := by decide +kernel
theorem dX11_init_71 : decode cX11_init 71 = .ok (.aload_n 0, 1) := by decide +kernel
theorem dX11_init_72 : decode cX11_init 72 = .ok (.getfield 33, 3) := by decide +kernel
theorem dX11_init_75 : decode cX11_init 75 = .ok (.getfield 49, 3) := by decide +kernel
theorem dX11_init_78 : decode cX11_init 78 = .ok (.putfield 53, 3) := by decide +kernel
theorem dX11_init_81 : decode cX11_init 81 = .ok (.aload_n 0, 1) := by decide +kernel
theorem dX11_init_82 : decode cX11_init 82 = .ok (.new 54, 3) := by decide +kernel
theorem dX11_init_85 : decode cX11_init 85 = .ok (.dup, 1) := by decide +kernel
theorem dX11_init_86 : decode cX11_init 86 = .ok (.invokespecial 56, 3) := by decide +kernel
theorem dX11_init_89 : decode cX11_init 89 = .ok (.putfield 57, 3) := by decide +kernel
theorem dX11_init_92 : decode cX11_init 92 = .ok (.aload_n 0, 1) := by decide +kernel
theorem dX11_init_93 : decode cX11_init 93 = .ok (.new 61, 3) := by decide +kernel
theorem dX11_init_96 : decode cX11_init 96 = .ok (.dup, 1) := by decide +kernel
theorem dX11_init_97 : decode cX11_init 97 = .ok (.invokespecial 63, 3) := by decide +kernel
theorem dX11_init_100 : decode cX11_init 100 = .ok (.putfield 64, 3) := by decide +kernel
theorem dX11_init_103 : decode cX11_init 103 = .ok (.aload_n 0, 1) := by decide +kernel
theorem dX11_init_104 : decode cX11_init 104 = .ok (.new 68, 3) := by decide +kernel
theorem dX11_init_107 : decode cX11_init 107 = .ok (.dup, 1) := by decide +kernel
theorem dX11_init_108 : decode cX11_init 108 = .ok (.invokespecial 70, 3) := by decide +kernel
theorem dX11_init_111 : decode cX11_init 111 = .ok (.putfield 71, 3) := by decide +kernel
theorem dX11_init_114 : decode cX11_init 114 = .ok (.aload_n 0, 1) := by decide +kernel
theorem dX11_init_115 : decode cX11_init 115 = .ok (.new 75, 3) := by decide +kernel
theorem dX11_init_118 : decode cX11_init 118 = .ok (.dup, 1) := by decide +kernel
theorem dX11_init_119 : decode cX11_init 119 = .ok (.invokespecial 77, 3) := by decide +kernel
theorem dX11_init_122 : decode cX11_init 122 = .ok (.putfield 78, 3) := by decide +kernel
theorem dX11_init_125 : decode cX11_init 125 = .ok (.aload_n 0, 1) := by decide +kernel
theorem dX11_init_126 : decode cX11_init 126 = .ok (.new 82, 3) := by decide +kernel
theorem dX11_init_129 : decode cX11_init 129 = .ok (.dup, 1) := by decide +kernel
theorem dX11_init_130 : decode cX11_init 130 = .ok (.invokespecial 84, 3) := by decide +kernel
theorem dX11_init_133 : decode cX11_init 133 = .ok (.putfield 85, 3) := by decide +kernel
theorem dX11_init_136 : decode cX11_init 136 = .ok (.aload_n 0, 1) := by decide +kernel
theorem dX11_init_137 : decode cX11_init 137 = .ok (.new 75, 3) := by decide +kernel
theorem dX11_init_140 : decode cX11_init 140 = .ok (.dup, 1) := by decide +kernel
theorem dX11_init_141 : decode cX11_init 141 = .ok (.invokespecial 77, 3) := by decide +kernel
theorem dX11_init_144 : decode cX11_init 144 = .ok (.putfield 89, 3) := by decide +kernel
theorem dX11_init_147 : decode cX11_init 147 = .ok (.aload_n 0, 1) := by decide +kernel
theorem dX11_init_148 : decode cX11_init 148 = .ok (.new 82, 3) := by decide +kernel
theorem dX11_init_151 : decode cX11_init 151 = .ok (.dup, 1) := by decide +kernel
theorem dX11_init_152 : decode cX11_init 152 = .ok (.invokespecial 84, 3) := by decide +kernel
theorem dX11_init_155 : decode cX11_init 155 = .ok (.putfield 92, 3) := by decide +kernel
theorem dX11_init_158 : decode cX11_init 158 = .ok (.return_, 1) := by decide +kernel
theorem dX11_far_0 : decode cX11_far 0 = .ok (.iload_n 1, 1) := by decide +kernel
theorem dX11_far_1 : decode cX11_far 1 = .ok (.invokestatic 95, 3) := by decide +kernel
theorem dX11_far_4 : decode cX11_far 4 = .ok (.ifCond .ne 5, 3) := by decide +kernel
theorem dX11_far_7 : decode cX11_far 7 = .ok (.iconst 0, 1) := by decide +kernel
theorem dX11_far_8 : decode cX11_far 8 = .ok (.ireturn, 1) := by decide +kernel
theorem dX11_far_9 : decode cX11_far 9 = .ok (.aload_n 0, 1) := by decide +kernel
theorem dX11_far_10 : decode cX11_far 10 = .ok (.iload_n 1, 1) := by decide +kernel
theorem dX11_far_11 : decode cX11_far 11 = .ok (.putfield 7, 3) := by decide +kernel
theorem dX11_far_14 : decode cX11_far 14 = .ok (.aload_n 0, 1) := by decide +kernel
theorem dX11_far_15 : decode cX11_far 15 = .ok (.getfield 64, 3) := by decide +kernel
theorem dX11_far_18 : decode cX11_far 18 = .ok (.invokevirtual 99, 3) := by decide +kernel
theorem dX11_far_21 : decode cX11_far 21 = .ok (.iconst 1, 1) := by decide +kernel
theorem dX11_far_22 : decode cX11_far 22 = .ok (.ireturn, 1) := by decide +kernel
theorem dX11_feed_0 : decode cX11_feed 0 = .ok (.aload_n 0, 1) := by decide +kernel
theorem dX11_feed_1 : decode cX11_feed 1 = .ok (.getfield 19, 3) := by decide +kernel
theorem dX11_feed_4 : decode cX11_feed 4 = .ok (.invokevirtual 102, 3) := by decide +kernel
theorem dX11_feed_7 : decode cX11_feed 7 = .ok (.ifCond .ne 5, 3) := by decide +kernel
theorem dX11_feed_10 : decode cX11_feed 10 = .ok (.iconst (-1), 1) := by decide +kernel
theorem dX11_feed_11 : decode cX11_feed 11 = .ok (.ireturn, 1) := by decide +kernel
theorem dX11_feed_12 : decode cX11_feed 12 = .ok (.aload_n 0, 1) := by decide +kernel
theorem dX11_feed_13 : decode cX11_feed 13 = .ok (.getfield 19, 3) := by decide +kernel
theorem dX11_feed_16 : decode cX11_feed 16 = .ok (.iload_n 1, 1) := by decide +kernel
theorem dX11_feed_17 : decode cX11_feed 17 = .ok (.invokevirtual 106, 3) := by decide +kernel
theorem dX11_feed_20 : decode cX11_feed 20 = .ok (.aload_n 0, 1) := by decide +kernel
theorem dX11_feed_21 : decode cX11_feed 21 = .ok (.getfield 19, 3) := by decide +kernel
theorem dX11_feed_24 : decode cX11_feed 24 = .ok (.iload_n 2, 1) := by decide +kernel
theorem dX11_feed_25 : decode cX11_feed 25 = .ok (.invokevirtual 106, 3) := by decide +kernel
theorem dX11_feed_28 : decode cX11_feed 28 = .ok (.aload_n 0, 1) := by decide +kernel
theorem dX11_feed_29 : decode cX11_feed 29 = .ok (.getfield 19, 3) := by decide +kernel
theorem dX11_feed_32 : decode cX11_feed 32 = .ok (.iload_n 3, 1) := by decide +kernel
theorem dX11_feed_33 : decode cX11_feed 33 = .ok (.invokevirtual 106, 3) := by decide +kernel
theorem dX11_feed_36 : decode cX11_feed 36 = .ok (.aload_n 0, 1) := by decide +kernel
theorem dX11_feed_37 : decode cX11_feed 37 = .ok (.getfield 19, 3) := by decide +kernel
theorem dX11_feed_40 : decode cX11_feed 40 = .ok (.iload 4, 2) := by decide +kernel
theorem dX11_feed_42 : decode cX11_feed 42 = .ok (.invokevirtual 106, 3) := by decide +kernel
theorem dX11_feed_45 : decode cX11_feed 45 = .ok (.aload_n 0, 1) := by decide +kernel
theorem dX11_feed_46 : decode cX11_feed 46 = .ok (.getfield 19, 3) := by decide +kernel
theorem dX11_feed_49 : decode cX11_feed 49 = .ok (.iload 5, 2) := by decide +kernel
theorem dX11_feed_51 : decode cX11_feed 51 = .ok (.invokevirtual 106, 3) := by decide +kernel
theorem dX11_feed_54 : decode cX11_feed 54 = .ok (.aload_n 0, 1) := by decide +kernel
theorem dX11_feed_55 : decode cX11_feed 55 = .ok (.getfield 19, 3) := by decide +kernel
theorem dX11_feed_58 : decode cX11_feed 58 = .ok (.getfield 110, 3) := by decide +kernel
theorem dX11_feed_61 : decode cX11_feed 61 = .ok (.ireturn, 1) := by decide +kernel
theorem dX11_law_0 : decode cX11_law 0 = .ok (.aload_n 0, 1) := by decide +kernel
theorem dX11_law_1 : decode cX11_law 1 = .ok (.iload_n 1, 1) := by decide +kernel
theorem dX11_law_2 : decode cX11_law 2 = .ok (.sipush 240, 3) := by decide +kernel
theorem dX11_law_5 : decode cX11_law 5 = .ok (.invokevirtual 113, 3) := by decide +kernel
theorem dX11_law_8 : decode cX11_law 8 = .ok (.ifCond .ne 5, 3) := by decide +kernel
theorem dX11_law_11 : decode cX11_law 11 = .ok (.iconst (-1), 1) := by decide +kernel
theorem dX11_law_12 : decode cX11_law 12 = .ok (.ireturn, 1) := by decide +kernel
theorem dX11_law_13 : decode cX11_law 13 = .ok (.aload_n 0, 1) := by decide +kernel
theorem dX11_law_14 : decode cX11_law 14 = .ok (.getfield 26, 3) := by decide +kernel
theorem dX11_law_17 : decode cX11_law 17 = .ok (.aload_n 0, 1) := by decide +kernel
theorem dX11_law_18 : decode cX11_law 18 = .ok (.getfield 19, 3) := by decide +kernel
theorem dX11_law_21 : decode cX11_law 21 = .ok (.getfield 117, 3) := by decide +kernel
theorem dX11_law_24 : decode cX11_law 24 = .ok (.iload_n 1, 1) := by decide +kernel
theorem dX11_law_25 : decode cX11_law 25 = .ok (.iconst 1, 1) := by decide +kernel
theorem dX11_law_26 : decode cX11_law 26 = .ok (.invokevirtual 121, 3) := by decide +kernel
theorem dX11_law_29 : decode cX11_law 29 = .ok (.istore_n 2, 1) := by decide +kernel
theorem dX11_law_30 : decode cX11_law 30 = .ok (.aload_n 0, 1) := by decide +kernel
theorem dX11_law_31 : decode cX11_law 31 = .ok (.getfield 19, 3) := by decide +kernel
theorem dX11_law_34 : decode cX11_law 34 = .ok (.iconst 0, 1) := by decide +kernel
theorem dX11_law_35 : decode cX11_law 35 = .ok (.putfield 110, 3) := by decide +kernel
theorem dX11_law_38 : decode cX11_law 38 = .ok (.iload_n 2, 1) := by decide +kernel
theorem dX11_law_39 : decode cX11_law 39 = .ok (.ifCond .le 31, 3) := by decide +kernel
theorem dX11_law_42 : decode cX11_law 42 = .ok (.aload_n 0, 1) := by decide +kernel
theorem dX11_law_43 : decode cX11_law 43 = .ok (.getfield 46, 3) := by decide +kernel
theorem dX11_law_46 : decode cX11_law 46 = .ok (.aload_n 0, 1) := by decide +kernel
theorem dX11_law_47 : decode cX11_law 47 = .ok (.getfield 26, 3) := by decide +kernel
theorem dX11_law_50 : decode cX11_law 50 = .ok (.getfield 125, 3) := by decide +kernel
theorem dX11_law_53 : decode cX11_law 53 = .ok (.invokevirtual 128, 3) := by decide +kernel
theorem dX11_law_56 : decode cX11_law 56 = .ok (.aload_n 0, 1) := by decide +kernel
theorem dX11_law_57 : decode cX11_law 57 = .ok (.getfield 33, 3) := by decide +kernel
theorem dX11_law_60 : decode cX11_law 60 = .ok (.invokevirtual 134, 3) := by decide +kernel
theorem dX11_law_63 : decode cX11_law 63 = .ok (.aload_n 0, 1) := by decide +kernel
theorem dX11_law_64 : decode cX11_law 64 = .ok (.getfield 64, 3) := by decide +kernel
theorem dX11_law_67 : decode cX11_law 67 = .ok (.invokevirtual 99, 3) := by decide +kernel
theorem dX11_law_70 : decode cX11_law 70 = .ok (.iload_n 2, 1) := by decide +kernel
theorem dX11_law_71 : decode cX11_law 71 = .ok (.ireturn, 1) := by decide +kernel
theorem dX11_rule_0 : decode cX11_rule 0 = .ok (.iload_n 1, 1) := by decide +kernel
theorem dX11_rule_1 : decode cX11_rule 1 = .ok (.invokestatic 137, 3) := by decide +kernel
theorem dX11_rule_4 : decode cX11_rule 4 = .ok (.ifCond .eq 14, 3) := by decide +kernel
theorem dX11_rule_7 : decode cX11_rule 7 = .ok (.aload_n 0, 1) := by decide +kernel
theorem dX11_rule_8 : decode cX11_rule 8 = .ok (.iload_n 2, 1) := by decide +kernel
theorem dX11_rule_9 : decode cX11_rule 9 = .ok (.sipush 240, 3) := by decide +kernel
theorem dX11_rule_12 : decode cX11_rule 12 = .ok (.invokevirtual 113, 3) := by decide +kernel
theorem dX11_rule_15 : decode cX11_rule 15 = .ok (.ifCond .ne 5, 3) := by decide +kernel
theorem dX11_rule_18 : decode cX11_rule 18 = .ok (.iconst (-1), 1) := by decide +kernel
theorem dX11_rule_19 : decode cX11_rule 19 = .ok (.ireturn, 1) := by decide +kernel
theorem dX11_rule_20 : decode cX11_rule 20 = .ok (.aload_n 0, 1) := by decide +kernel
theorem dX11_rule_21 : decode cX11_rule 21 = .ok (.getfield 26, 3) := by decide +kernel
theorem dX11_rule_24 : decode cX11_rule 24 = .ok (.aload_n 0, 1) := by decide +kernel
theorem dX11_rule_25 : decode cX11_rule 25 = .ok (.getfield 19, 3) := by decide +kernel
theorem dX11_rule_28 : decode cX11_rule 28 = .ok (.getfield 117, 3) := by decide +kernel
theorem dX11_rule_31 : decode cX11_rule 31 = .ok (.iload_n 2, 1) := by decide +kernel
theorem dX11_rule_32 : decode cX11_rule 32 = .ok (.iconst 0, 1) := by decide +kernel
theorem dX11_rule_33 : decode cX11_rule 33 = .ok (.invokevirtual 121, 3) := by decide +kernel
theorem dX11_rule_36 : decode cX11_rule 36 = .ok (.istore_n 3, 1) := by decide +kernel
theorem dX11_rule_37 : decode cX11_rule 37 = .ok (.aload_n 0, 1) := by decide +kernel
theorem dX11_rule_38 : decode cX11_rule 38 = .ok (.getfield 19, 3) := by decide +kernel
theorem dX11_rule_41 : decode cX11_rule 41 = .ok (.iconst 0, 1) := by decide +kernel
theorem dX11_rule_42 : decode cX11_rule 42 = .ok (.putfield 110, 3) := by decide +kernel
theorem dX11_rule_45 : decode cX11_rule 45 = .ok (.iload_n 3, 1) := by decide +kernel
theorem dX11_rule_46 : decode cX11_rule 46 = .ok (.ifCond .le 26, 3) := by decide +kernel
theorem dX11_rule_49 : decode cX11_rule 49 = .ok (.aload_n 0, 1) := by decide +kernel
theorem dX11_rule_50 : decode cX11_rule 50 = .ok (.getfield 53, 3) := by decide +kernel
theorem dX11_rule_53 : decode cX11_rule 53 = .ok (.iload_n 1, 1) := by decide +kernel
theorem dX11_rule_54 : decode cX11_rule 54 = .ok (.aaload, 1) := by decide +kernel
theorem dX11_rule_55 : decode cX11_rule 55 = .ok (.aload_n 0, 1) := by decide +kernel
theorem dX11_rule_56 : decode cX11_rule 56 = .ok (.getfield 26, 3) := by decide +kernel
theorem dX11_rule_59 : decode cX11_rule 59 = .ok (.getfield 125, 3) := by decide +kernel
theorem dX11_rule_62 : decode cX11_rule 62 = .ok (.invokevirtual 128, 3) := by decide +kernel
theorem dX11_rule_65 : decode cX11_rule 65 = .ok (.aload_n 0, 1) := by decide +kernel
theorem dX11_rule_66 : decode cX11_rule 66 = .ok (.getfield 33, 3) := by decide +kernel
theorem dX11_rule_69 : decode cX11_rule 69 = .ok (.invokevirtual 140, 3) := by decide +kernel
theorem dX11_rule_72 : decode cX11_rule 72 = .ok (.iload_n 3, 1) := by decide +kernel
theorem dX11_rule_73 : decode cX11_rule 73 = .ok (.ireturn, 1) := by decide +kernel
theorem dX11_ground_0 : decode cX11_ground 0 = .ok (.aload_n 0, 1) := by decide +kernel
theorem dX11_ground_1 : decode cX11_ground 1 = .ok (.iload_n 1, 1) := by decide +kernel
theorem dX11_ground_2 : decode cX11_ground 2 = .ok (.bipush 120, 2) := by decide +kernel
theorem dX11_ground_4 : decode cX11_ground 4 = .ok (.invokevirtual 113, 3) := by decide +kernel
theorem dX11_ground_7 : decode cX11_ground 7 = .ok (.ifCond .ne 5, 3) := by decide +kernel
theorem dX11_ground_10 : decode cX11_ground 10 = .ok (.iconst (-1), 1) := by decide +kernel
theorem dX11_ground_11 : decode cX11_ground 11 = .ok (.ireturn, 1) := by decide +kernel
theorem dX11_ground_12 : decode cX11_ground 12 = .ok (.aload_n 0, 1) := by decide +kernel
theorem dX11_ground_13 : decode cX11_ground 13 = .ok (.getfield 71, 3) := by decide +kernel
theorem dX11_ground_16 : decode cX11_ground 16 = .ok (.aload_n 0, 1) := by decide +kernel
theorem dX11_ground_17 : decode cX11_ground 17 = .ok (.getfield 19, 3) := by decide +kernel
theorem dX11_ground_20 : decode cX11_ground 20 = .ok (.getfield 117, 3) := by decide +kernel
theorem dX11_ground_23 : decode cX11_ground 23 = .ok (.iload_n 1, 1) := by decide +kernel
theorem dX11_ground_24 : decode cX11_ground 24 = .ok (.invokevirtual 143, 3) := by decide +kernel
theorem dX11_ground_27 : decode cX11_ground 27 = .ok (.istore_n 2, 1) := by decide +kernel
theorem dX11_ground_28 : decode cX11_ground 28 = .ok (.aload_n 0, 1) := by decide +kernel
theorem dX11_ground_29 : decode cX11_ground 29 = .ok (.getfield 19, 3) := by decide +kernel
theorem dX11_ground_32 : decode cX11_ground 32 = .ok (.iconst 0, 1) := by decide +kernel
theorem dX11_ground_33 : decode cX11_ground 33 = .ok (.putfield 110, 3) := by decide +kernel
theorem dX11_ground_36 : decode cX11_ground 36 = .ok (.iload_n 2, 1) := by decide +kernel
theorem dX11_ground_37 : decode cX11_ground 37 = .ok (.ireturn, 1) := by decide +kernel
theorem dX11_turn_0 : decode cX11_turn 0 = .ok (.aload_n 0, 1) := by decide +kernel
theorem dX11_turn_1 : decode cX11_turn 1 = .ok (.getfield 41, 3) := by decide +kernel
theorem dX11_turn_4 : decode cX11_turn 4 = .ok (.iload_n 1, 1) := by decide +kernel
theorem dX11_turn_5 : decode cX11_turn 5 = .ok (.invokevirtual 146, 3) := by decide +kernel
theorem dX11_turn_8 : decode cX11_turn 8 = .ok (.istore 4, 2) := by decide +kernel
theorem dX11_turn_10 : decode cX11_turn 10 = .ok (.aload_n 0, 1) := by decide +kernel
theorem dX11_turn_11 : decode cX11_turn 11 = .ok (.getfield 41, 3) := by decide +kernel
theorem dX11_turn_14 : decode cX11_turn 14 = .ok (.iload_n 2, 1) := by decide +kernel
theorem dX11_turn_15 : decode cX11_turn 15 = .ok (.invokevirtual 146, 3) := by decide +kernel
theorem dX11_turn_18 : decode cX11_turn 18 = .ok (.istore 5, 2) := by decide +kernel
theorem dX11_turn_20 : decode cX11_turn 20 = .ok (.aload_n 0, 1) := by decide +kernel
theorem dX11_turn_21 : decode cX11_turn 21 = .ok (.iload 4, 2) := by decide +kernel
theorem dX11_turn_23 : decode cX11_turn 23 = .ok (.iload 5, 2) := by decide +kernel
theorem dX11_turn_25 : decode cX11_turn 25 = .ok (.iload_n 3, 1) := by decide +kernel
theorem dX11_turn_26 : decode cX11_turn 26 = .ok (.invokevirtual 152, 3) := by decide +kernel
theorem dX11_turn_29 : decode cX11_turn 29 = .ok (.ifCond .eq 18, 3) := by decide +kernel
theorem dX11_turn_32 : decode cX11_turn 32 = .ok (.aload_n 0, 1) := by decide +kernel
theorem dX11_turn_33 : decode cX11_turn 33 = .ok (.getfield 41, 3) := by decide +kernel
theorem dX11_turn_36 : decode cX11_turn 36 = .ok (.iload 4, 2) := by decide +kernel
theorem dX11_turn_38 : decode cX11_turn 38 = .ok (.iload 5, 2) := by decide +kernel
theorem dX11_turn_40 : decode cX11_turn 40 = .ok (.iload_n 3, 1) := by decide +kernel
theorem dX11_turn_41 : decode cX11_turn 41 = .ok (.invokevirtual 156, 3) := by decide +kernel
theorem dX11_turn_44 : decode cX11_turn 44 = .ok (.goto 4, 3) := by decide +kernel
theorem dX11_turn_47 : decode cX11_turn 47 = .ok (.iconst (-1), 1) := by decide +kernel
theorem dX11_turn_48 : decode cX11_turn 48 = .ok (.ireturn, 1) := by decide +kernel
theorem dX11_points_0 : decode cX11_points 0 = .ok (.aload_n 0, 1) := by decide +kernel
theorem dX11_points_1 : decode cX11_points 1 = .ok (.getfield 41, 3) := by decide +kernel
theorem dX11_points_4 : decode cX11_points 4 = .ok (.iload_n 1, 1) := by decide +kernel
theorem dX11_points_5 : decode cX11_points 5 = .ok (.invokevirtual 146, 3) := by decide +kernel
theorem dX11_points_8 : decode cX11_points 8 = .ok (.istore_n 3, 1) := by decide +kernel
theorem dX11_points_9 : decode cX11_points 9 = .ok (.aload_n 0, 1) := by decide +kernel
theorem dX11_points_10 : decode cX11_points 10 = .ok (.getfield 41, 3) := by decide +kernel
theorem dX11_points_13 : decode cX11_points 13 = .ok (.iload_n 2, 1) := by decide +kernel
theorem dX11_points_14 : decode cX11_points 14 = .ok (.invokevirtual 146, 3) := by decide +kernel
theorem dX11_points_17 : decode cX11_points 17 = .ok (.istore 4, 2) := by decide +kernel
theorem dX11_points_19 : decode cX11_points 19 = .ok (.iload_n 3, 1) := by decide +kernel
theorem dX11_points_20 : decode cX11_points 20 = .ok (.ifCond .lt 8, 3) := by decide +kernel
theorem dX11_points_23 : decode cX11_points 23 = .ok (.iload 4, 2) := by decide +kernel
theorem dX11_points_25 : decode cX11_points 25 = .ok (.ifCond .ge 8, 3) := by decide +kernel
theorem dX11_points_28 : decode cX11_points 28 = .ok (.bipush (-100), 2) := by decide +kernel
theorem dX11_points_30 : decode cX11_points 30 = .ok (.goto 13, 3) := by decide +kernel
theorem dX11_points_33 : decode cX11_points 33 = .ok (.aload_n 0, 1) := by decide +kernel
theorem dX11_points_34 : decode cX11_points 34 = .ok (.getfield 41, 3) := by decide +kernel
theorem dX11_points_37 : decode cX11_points 37 = .ok (.iload_n 3, 1) := by decide +kernel
theorem dX11_points_38 : decode cX11_points 38 = .ok (.iload 4, 2) := by decide +kernel
theorem dX11_points_40 : decode cX11_points 40 = .ok (.invokevirtual 160, 3) := by decide +kernel
theorem dX11_points_43 : decode cX11_points 43 = .ok (.ireturn, 1) := by decide +kernel
theorem dX11_chance_0 : decode cX11_chance 0 = .ok (.aload_n 0, 1) := by decide +kernel
theorem dX11_chance_1 : decode cX11_chance 1 = .ok (.getfield 41, 3) := by decide +kernel
theorem dX11_chance_4 : decode cX11_chance 4 = .ok (.iload_n 1, 1) := by decide +kernel
theorem dX11_chance_5 : decode cX11_chance 5 = .ok (.invokevirtual 146, 3) := by decide +kernel
theorem dX11_chance_8 : decode cX11_chance 8 = .ok (.istore 6, 2) := by decide +kernel
theorem dX11_chance_10 : decode cX11_chance 10 = .ok (.aload_n 0, 1) := by decide +kernel
theorem dX11_chance_11 : decode cX11_chance 11 = .ok (.getfield 41, 3) := by decide +kernel
theorem dX11_chance_14 : decode cX11_chance 14 = .ok (.iload_n 2, 1) := by decide +kernel
theorem dX11_chance_15 : decode cX11_chance 15 = .ok (.invokevirtual 146, 3) := by decide +kernel
theorem dX11_chance_18 : decode cX11_chance 18 = .ok (.istore 7, 2) := by decide +kernel
theorem dX11_chance_20 : decode cX11_chance 20 = .ok (.iload 4, 2) := by decide +kernel
theorem dX11_chance_22 : decode cX11_chance 22 = .ok (.iconst 1, 1) := by decide +kernel
theorem dX11_chance_23 : decode cX11_chance 23 = .ok (.if_icmp .ne 14, 3) := by decide +kernel
theorem dX11_chance_26 : decode cX11_chance 26 = .ok (.iload 5, 2) := by decide +kernel
theorem dX11_chance_28 : decode cX11_chance 28 = .ok (.ifCond .lt 9, 3) := by decide +kernel
theorem dX11_chance_31 : decode cX11_chance 31 = .ok (.iload 5, 2) := by decide +kernel
theorem dX11_chance_33 : decode cX11_chance 33 = .ok (.iconst 3, 1) := by decide +kernel
theorem dX11_chance_34 : decode cX11_chance 34 = .ok (.if_icmp .le 22, 3) := by decide +kernel
theorem dX11_chance_37 : decode cX11_chance 37 = .ok (.iload 4, 2) := by decide +kernel
theorem dX11_chance_39 : decode cX11_chance 39 = .ok (.iconst 2, 1) := by decide +kernel
theorem dX11_chance_40 : decode cX11_chance 40 = .ok (.if_icmp .ne 20, 3) := by decide +kernel
theorem dX11_chance_43 : decode cX11_chance 43 = .ok (.iload 5, 2) := by decide +kernel
theorem dX11_chance_45 : decode cX11_chance 45 = .ok (.iconst 4, 1) := by decide +kernel
theorem dX11_chance_46 : decode cX11_chance 46 = .ok (.if_icmp .lt 14, 3) := by decide +kernel
theorem dX11_chance_49 : decode cX11_chance 49 = .ok (.iload 5, 2) := by decide +kernel
theorem dX11_chance_51 : decode cX11_chance 51 = .ok (.bipush 6, 2) := by decide +kernel
theorem dX11_chance_53 : decode cX11_chance 53 = .ok (.if_icmp .gt 7, 3) := by decide +kernel
theorem dX11_chance_56 : decode cX11_chance 56 = .ok (.iconst 1, 1) := by decide +kernel
theorem dX11_chance_57 : decode cX11_chance 57 = .ok (.goto 4, 3) := by decide +kernel
theorem dX11_chance_60 : decode cX11_chance 60 = .ok (.iconst 0, 1) := by decide +kernel
theorem dX11_chance_61 : decode cX11_chance 61 = .ok (.istore 8, 2) := by decide +kernel
theorem dX11_chance_63 : decode cX11_chance 63 = .ok (.aload_n 0, 1) := by decide +kernel
theorem dX11_chance_64 : decode cX11_chance 64 = .ok (.iload 6, 2) := by decide +kernel
theorem dX11_chance_66 : decode cX11_chance 66 = .ok (.iload 7, 2) := by decide +kernel
theorem dX11_chance_68 : decode cX11_chance 68 = .ok (.iload_n 3, 1) := by decide +kernel
theorem dX11_chance_69 : decode cX11_chance 69 = .ok (.invokevirtual 152, 3) := by decide +kernel
theorem dX11_chance_72 : decode cX11_chance 72 = .ok (.ifCond .eq 8, 3) := by decide +kernel
theorem dX11_chance_75 : decode cX11_chance 75 = .ok (.iload 8, 2) := by decide +kernel
theorem dX11_chance_77 : decode cX11_chance 77 = .ok (.ifCond .ne 5, 3) := by decide +kernel
theorem dX11_chance_80 : decode cX11_chance 80 = .ok (.iconst (-1), 1) := by decide +kernel
theorem dX11_chance_81 : decode cX11_chance 81 = .ok (.ireturn, 1) := by decide +kernel
theorem dX11_chance_82 : decode cX11_chance 82 = .ok (.aload_n 0, 1) := by decide +kernel
theorem dX11_chance_83 : decode cX11_chance 83 = .ok (.getfield 41, 3) := by decide +kernel
theorem dX11_chance_86 : decode cX11_chance 86 = .ok (.iload 6, 2) := by decide +kernel
theorem dX11_chance_88 : decode cX11_chance 88 = .ok (.iload 7, 2) := by decide +kernel
theorem dX11_chance_90 : decode cX11_chance 90 = .ok (.iload_n 3, 1) := by decide +kernel
theorem dX11_chance_91 : decode cX11_chance 91 = .ok (.invokevirtual 156, 3) := by decide +kernel
theorem dX11_chance_94 : decode cX11_chance 94 = .ok (.istore 9, 2) := by decide +kernel
theorem dX11_chance_96 : decode cX11_chance 96 = .ok (.iload 9, 2) := by decide +kernel
theorem dX11_chance_98 : decode cX11_chance 98 = .ok (.iconst 2, 1) := by decide +kernel
theorem dX11_chance_99 : decode cX11_chance 99 = .ok (.if_icmp .eq 25, 3) := by decide +kernel
theorem dX11_chance_102 : decode cX11_chance 102 = .ok (.iload 4, 2) := by decide +kernel
theorem dX11_chance_104 : decode cX11_chance 104 = .ok (.iconst 2, 1) := by decide +kernel
theorem dX11_chance_105 : decode cX11_chance 105 = .ok (.if_icmp .ne 21, 3) := by decide +kernel
theorem dX11_chance_108 : decode cX11_chance 108 = .ok (.aload_n 0, 1) := by decide +kernel
theorem dX11_chance_109 : decode cX11_chance 109 = .ok (.getfield 41, 3) := by decide +kernel
theorem dX11_chance_112 : decode cX11_chance 112 = .ok (.iload 6, 2) := by decide +kernel
theorem dX11_chance_114 : decode cX11_chance 114 = .ok (.iload 7, 2) := by decide +kernel
theorem dX11_chance_116 : decode cX11_chance 116 = .ok (.iload 9, 2) := by decide +kernel
theorem dX11_chance_118 : decode cX11_chance 118 = .ok (.invokevirtual 164, 3) := by decide +kernel
theorem dX11_chance_121 : decode cX11_chance 121 = .ok (.ifCond .ne 5, 3) := by decide +kernel
theorem dX11_chance_124 : decode cX11_chance 124 = .ok (.iconst (-1), 1) := by decide +kernel
theorem dX11_chance_125 : decode cX11_chance 125 = .ok (.ireturn, 1) := by decide +kernel
theorem dX11_chance_126 : decode cX11_chance 126 = .ok (.aload_n 0, 1) := by decide +kernel
theorem dX11_chance_127 : decode cX11_chance 127 = .ok (.getfield 33, 3) := by decide +kernel
theorem dX11_chance_130 : decode cX11_chance 130 = .ok (.aload_n 0, 1) := by decide +kernel
theorem dX11_chance_131 : decode cX11_chance 131 = .ok (.getfield 7, 3) := by decide +kernel
theorem dX11_chance_134 : decode cX11_chance 134 = .ok (.invokevirtual 167, 3) := by decide +kernel
theorem dX11_chance_137 : decode cX11_chance 137 = .ok (.aload_n 0, 1) := by decide +kernel
theorem dX11_chance_138 : decode cX11_chance 138 = .ok (.getfield 33, 3) := by decide +kernel
theorem dX11_chance_141 : decode cX11_chance 141 = .ok (.iload 6, 2) := by decide +kernel
theorem dX11_chance_143 : decode cX11_chance 143 = .ok (.iload 7, 2) := by decide +kernel
theorem dX11_chance_145 : decode cX11_chance 145 = .ok (.iload_n 3, 1) := by decide +kernel
theorem dX11_chance_146 : decode cX11_chance 146 = .ok (.iload 5, 2) := by decide +kernel
theorem dX11_chance_148 : decode cX11_chance 148 = .ok (.invokevirtual 170, 3) := by decide +kernel
theorem dX11_chance_151 : decode cX11_chance 151 = .ok (.ireturn, 1) := by decide +kernel
theorem dX11_best_0 : decode cX11_best 0 = .ok (.aload_n 0, 1) := by decide +kernel
theorem dX11_best_1 : decode cX11_best 1 = .ok (.getfield 41, 3) := by decide +kernel
theorem dX11_best_4 : decode cX11_best 4 = .ok (.iload_n 1, 1) := by decide +kernel
theorem dX11_best_5 : decode cX11_best 5 = .ok (.invokevirtual 146, 3) := by decide +kernel
theorem dX11_best_8 : decode cX11_best 8 = .ok (.istore 5, 2) := by decide +kernel
theorem dX11_best_10 : decode cX11_best 10 = .ok (.aload_n 0, 1) := by decide +kernel
theorem dX11_best_11 : decode cX11_best 11 = .ok (.getfield 41, 3) := by decide +kernel
theorem dX11_best_14 : decode cX11_best 14 = .ok (.iload_n 2, 1) := by decide +kernel
theorem dX11_best_15 : decode cX11_best 15 = .ok (.invokevirtual 146, 3) := by decide +kernel
theorem dX11_best_18 : decode cX11_best 18 = .ok (.istore 6, 2) := by decide +kernel
theorem dX11_best_20 : decode cX11_best 20 = .ok (.aload_n 0, 1) := by decide +kernel
theorem dX11_best_21 : decode cX11_best 21 = .ok (.iload 5, 2) := by decide +kernel
theorem dX11_best_23 : decode cX11_best 23 = .ok (.iload 6, 2) := by decide +kernel
theorem dX11_best_25 : decode cX11_best 25 = .ok (.iload_n 3, 1) := by decide +kernel
theorem dX11_best_26 : decode cX11_best 26 = .ok (.invokevirtual 152, 3) := by decide +kernel
theorem dX11_best_29 : decode cX11_best 29 = .ok (.ifCond .eq 11, 3) := by decide +kernel
theorem dX11_best_32 : decode cX11_best 32 = .ok (.iload 4, 2) := by decide +kernel
theorem dX11_best_34 : decode cX11_best 34 = .ok (.invokestatic 174, 3) := by decide +kernel
theorem dX11_best_37 : decode cX11_best 37 = .ok (.ifCond .ne 7, 3) := by decide +kernel
theorem dX11_best_40 : decode cX11_best 40 = .ok (.ldc2_w 177, 3) := by decide +kernel
theorem dX11_best_43 : decode cX11_best 43 = .ok (.lreturn, 1) := by decide +kernel
theorem dX11_best_44 : decode cX11_best 44 = .ok (.aload_n 0, 1) := by decide +kernel
theorem dX11_best_45 : decode cX11_best 45 = .ok (.getfield 33, 3) := by decide +kernel
theorem dX11_best_48 : decode cX11_best 48 = .ok (.aload_n 0, 1) := by decide +kernel
theorem dX11_best_49 : decode cX11_best 49 = .ok (.getfield 7, 3) := by decide +kernel
theorem dX11_best_52 : decode cX11_best 52 = .ok (.invokevirtual 167, 3) := by decide +kernel
theorem dX11_best_55 : decode cX11_best 55 = .ok (.aload_n 0, 1) := by decide +kernel
theorem dX11_best_56 : decode cX11_best 56 = .ok (.getfield 33, 3) := by decide +kernel
theorem dX11_best_59 : decode cX11_best 59 = .ok (.iconst (-1), 1) := by decide +kernel
theorem dX11_best_60 : decode cX11_best 60 = .ok (.iconst (-1), 1) := by decide +kernel
theorem dX11_best_61 : decode cX11_best 61 = .ok (.invokevirtual 179, 3) := by decide +kernel
theorem dX11_best_64 : decode cX11_best 64 = .ok (.aload_n 0, 1) := by decide +kernel
theorem dX11_best_65 : decode cX11_best 65 = .ok (.getfield 33, 3) := by decide +kernel
theorem dX11_best_68 : decode cX11_best 68 = .ok (.iload 5, 2) := by decide +kernel
theorem dX11_best_70 : decode cX11_best 70 = .ok (.iload 6, 2) := by decide +kernel
theorem dX11_best_72 : decode cX11_best 72 = .ok (.iload_n 3, 1) := by decide +kernel
theorem dX11_best_73 : decode cX11_best 73 = .ok (.iload 4, 2) := by decide +kernel
theorem dX11_best_75 : decode cX11_best 75 = .ok (.invokevirtual 183, 3) := by decide +kernel
theorem dX11_best_78 : decode cX11_best 78 = .ok (.lreturn, 1) := by decide +kernel
theorem dX11_likely_0 : decode cX11_likely 0 = .ok (.aload_n 0, 1) := by decide +kernel
theorem dX11_likely_1 : decode cX11_likely 1 = .ok (.getfield 41, 3) := by decide +kernel
theorem dX11_likely_4 : decode cX11_likely 4 = .ok (.iload_n 1, 1) := by decide +kernel
theorem dX11_likely_5 : decode cX11_likely 5 = .ok (.invokevirtual 146, 3) := by decide +kernel
theorem dX11_likely_8 : decode cX11_likely 8 = .ok (.istore 5, 2) := by decide +kernel
theorem dX11_likely_10 : decode cX11_likely 10 = .ok (.aload_n 0, 1) := by decide +kernel
theorem dX11_likely_11 : decode cX11_likely 11 = .ok (.getfield 41, 3) := by decide +kernel
theorem dX11_likely_14 : decode cX11_likely 14 = .ok (.iload_n 2, 1) := by decide +kernel
theorem dX11_likely_15 : decode cX11_likely 15 = .ok (.invokevirtual 146, 3) := by decide +kernel
theorem dX11_likely_18 : decode cX11_likely 18 = .ok (.istore 6, 2) := by decide +kernel
theorem dX11_likely_20 : decode cX11_likely 20 = .ok (.aload_n 0, 1) := by decide +kernel
theorem dX11_likely_21 : decode cX11_likely 21 = .ok (.iload 5, 2) := by decide +kernel
theorem dX11_likely_23 : decode cX11_likely 23 = .ok (.iload 6, 2) := by decide +kernel
theorem dX11_likely_25 : decode cX11_likely 25 = .ok (.iload_n 3, 1) := by decide +kernel
theorem dX11_likely_26 : decode cX11_likely 26 = .ok (.invokevirtual 152, 3) := by decide +kernel
theorem dX11_likely_29 : decode cX11_likely 29 = .ok (.ifCond .eq 11, 3) := by decide +kernel
theorem dX11_likely_32 : decode cX11_likely 32 = .ok (.iload 4, 2) := by decide +kernel
theorem dX11_likely_34 : decode cX11_likely 34 = .ok (.invokestatic 187, 3) := by decide +kernel
theorem dX11_likely_37 : decode cX11_likely 37 = .ok (.ifCond .ne 7, 3) := by decide +kernel
theorem dX11_likely_40 : decode cX11_likely 40 = .ok (.ldc2_w 190, 3) := by decide +kernel
theorem dX11_likely_43 : decode cX11_likely 43 = .ok (.lreturn, 1) := by decide +kernel
theorem dX11_likely_44 : decode cX11_likely 44 = .ok (.aload_n 0, 1) := by decide +kernel
theorem dX11_likely_45 : decode cX11_likely 45 = .ok (.getfield 33, 3) := by decide +kernel
theorem dX11_likely_48 : decode cX11_likely 48 = .ok (.aload_n 0, 1) := by decide +kernel
theorem dX11_likely_49 : decode cX11_likely 49 = .ok (.getfield 7, 3) := by decide +kernel
theorem dX11_likely_52 : decode cX11_likely 52 = .ok (.invokevirtual 167, 3) := by decide +kernel
theorem dX11_likely_55 : decode cX11_likely 55 = .ok (.aload_n 0, 1) := by decide +kernel
theorem dX11_likely_56 : decode cX11_likely 56 = .ok (.getfield 33, 3) := by decide +kernel
theorem dX11_likely_59 : decode cX11_likely 59 = .ok (.iload 5, 2) := by decide +kernel
theorem dX11_likely_61 : decode cX11_likely 61 = .ok (.iload 6, 2) := by decide +kernel
theorem dX11_likely_63 : decode cX11_likely 63 = .ok (.iload_n 3, 1) := by decide +kernel
theorem dX11_likely_64 : decode cX11_likely 64 = .ok (.iload 4, 2) := by decide +kernel
theorem dX11_likely_66 : decode cX11_likely 66 = .ok (.invokevirtual 192, 3) := by decide +kernel
theorem dX11_likely_69 : decode cX11_likely 69 = .ok (.lreturn, 1) := by decide +kernel
theorem dX11_goFor_0 : decode cX11_goFor 0 = .ok (.aload_n 0, 1) := by decide +kernel
theorem dX11_goFor_1 : decode cX11_goFor 1 = .ok (.getfield 41, 3) := by decide +kernel
theorem dX11_goFor_4 : decode cX11_goFor 4 = .ok (.iload_n 1, 1) := by decide +kernel
theorem dX11_goFor_5 : decode cX11_goFor 5 = .ok (.invokevirtual 146, 3) := by decide +kernel
theorem dX11_goFor_8 : decode cX11_goFor 8 = .ok (.istore 6, 2) := by decide +kernel
theorem dX11_goFor_10 : decode cX11_goFor 10 = .ok (.aload_n 0, 1) := by decide +kernel
theorem dX11_goFor_11 : decode cX11_goFor 11 = .ok (.getfield 41, 3) := by decide +kernel
theorem dX11_goFor_14 : decode cX11_goFor 14 = .ok (.iload_n 2, 1) := by decide +kernel
theorem dX11_goFor_15 : decode cX11_goFor 15 = .ok (.invokevirtual 146, 3) := by decide +kernel
theorem dX11_goFor_18 : decode cX11_goFor 18 = .ok (.istore 7, 2) := by decide +kernel
theorem dX11_goFor_20 : decode cX11_goFor 20 = .ok (.aload_n 0, 1) := by decide +kernel
theorem dX11_goFor_21 : decode cX11_goFor 21 = .ok (.iload 6, 2) := by decide +kernel
theorem dX11_goFor_23 : decode cX11_goFor 23 = .ok (.iload 7, 2) := by decide +kernel
theorem dX11_goFor_25 : decode cX11_goFor 25 = .ok (.iload_n 3, 1) := by decide +kernel
theorem dX11_goFor_26 : decode cX11_goFor 26 = .ok (.invokevirtual 152, 3) := by decide +kernel
theorem dX11_goFor_29 : decode cX11_goFor 29 = .ok (.ifCond .eq 19, 3) := by decide +kernel
theorem dX11_goFor_32 : decode cX11_goFor 32 = .ok (.iload 4, 2) := by decide +kernel
theorem dX11_goFor_34 : decode cX11_goFor 34 = .ok (.invokestatic 187, 3) := by decide +kernel
theorem dX11_goFor_37 : decode cX11_goFor 37 = .ok (.ifCond .eq 11, 3) := by decide +kernel
theorem dX11_goFor_40 : decode cX11_goFor 40 = .ok (.iload 5, 2) := by decide +kernel
theorem dX11_goFor_42 : decode cX11_goFor 42 = .ok (.invokestatic 174, 3) := by decide +kernel
theorem dX11_goFor_45 : decode cX11_goFor 45 = .ok (.ifCond .ne 7, 3) := by decide +kernel
theorem dX11_goFor_48 : decode cX11_goFor 48 = .ok (.ldc2_w 177, 3) := by decide +kernel
theorem dX11_goFor_51 : decode cX11_goFor 51 = .ok (.lreturn, 1) := by decide +kernel
theorem dX11_goFor_52 : decode cX11_goFor 52 = .ok (.aload_n 0, 1) := by decide +kernel
theorem dX11_goFor_53 : decode cX11_goFor 53 = .ok (.getfield 33, 3) := by decide +kernel
theorem dX11_goFor_56 : decode cX11_goFor 56 = .ok (.aload_n 0, 1) := by decide +kernel
theorem dX11_goFor_57 : decode cX11_goFor 57 = .ok (.getfield 7, 3) := by decide +kernel
theorem dX11_goFor_60 : decode cX11_goFor 60 = .ok (.invokevirtual 167, 3) := by decide +kernel
theorem dX11_goFor_63 : decode cX11_goFor 63 = .ok (.aload_n 0, 1) := by decide +kernel
theorem dX11_goFor_64 : decode cX11_goFor 64 = .ok (.getfield 33, 3) := by decide +kernel
theorem dX11_goFor_67 : decode cX11_goFor 67 = .ok (.iload 4, 2) := by decide +kernel
theorem dX11_goFor_69 : decode cX11_goFor 69 = .ok (.invokevirtual 195, 3) := by decide +kernel
theorem dX11_goFor_72 : decode cX11_goFor 72 = .ok (.aload_n 0, 1) := by decide +kernel
theorem dX11_goFor_73 : decode cX11_goFor 73 = .ok (.getfield 33, 3) := by decide +kernel
theorem dX11_goFor_76 : decode cX11_goFor 76 = .ok (.iload 6, 2) := by decide +kernel
theorem dX11_goFor_78 : decode cX11_goFor 78 = .ok (.iload 7, 2) := by decide +kernel
theorem dX11_goFor_80 : decode cX11_goFor 80 = .ok (.iload_n 3, 1) := by decide +kernel
theorem dX11_goFor_81 : decode cX11_goFor 81 = .ok (.iload 5, 2) := by decide +kernel
theorem dX11_goFor_83 : decode cX11_goFor 83 = .ok (.invokevirtual 183, 3) := by decide +kernel
theorem dX11_goFor_86 : decode cX11_goFor 86 = .ok (.lreturn, 1) := by decide +kernel
theorem dX11_toThrow_0 : decode cX11_toThrow 0 = .ok (.iload_n 1, 1) := by decide +kernel
theorem dX11_toThrow_1 : decode cX11_toThrow 1 = .ok (.invokestatic 198, 3) := by decide +kernel
theorem dX11_toThrow_4 : decode cX11_toThrow 4 = .ok (.ifCond .eq 10, 3) := by decide +kernel
theorem dX11_toThrow_7 : decode cX11_toThrow 7 = .ok (.iload_n 2, 1) := by decide +kernel
theorem dX11_toThrow_8 : decode cX11_toThrow 8 = .ok (.invokestatic 174, 3) := by decide +kernel
theorem dX11_toThrow_11 : decode cX11_toThrow 11 = .ok (.ifCond .ne 7, 3) := by decide +kernel
theorem dX11_toThrow_14 : decode cX11_toThrow 14 = .ok (.ldc2_w 177, 3) := by decide +kernel
theorem dX11_toThrow_17 : decode cX11_toThrow 17 = .ok (.lreturn, 1) := by decide +kernel
theorem dX11_toThrow_18 : decode cX11_toThrow 18 = .ok (.bipush 6, 2) := by decide +kernel
theorem dX11_toThrow_20 : decode cX11_toThrow 20 = .ok (.istore_n 3, 1) := by decide +kernel
theorem dX11_toThrow_21 : decode cX11_toThrow 21 = .ok (.aload_n 0, 1) := by decide +kernel
theorem dX11_toThrow_22 : decode cX11_toThrow 22 = .ok (.getfield 33, 3) := by decide +kernel
theorem dX11_toThrow_25 : decode cX11_toThrow 25 = .ok (.bipush 6, 2) := by decide +kernel
theorem dX11_toThrow_27 : decode cX11_toThrow 27 = .ok (.iload_n 1, 1) := by decide +kernel
theorem dX11_toThrow_28 : decode cX11_toThrow 28 = .ok (.invokevirtual 201, 3) := by decide +kernel
theorem dX11_toThrow_31 : decode cX11_toThrow 31 = .ok (.lstore 4, 2) := by decide +kernel
theorem dX11_toThrow_33 : decode cX11_toThrow 33 = .ok (.bipush 7, 2) := by decide +kernel
theorem dX11_toThrow_35 : decode cX11_toThrow 35 = .ok (.istore 6, 2) := by decide +kernel
theorem dX11_toThrow_37 : decode cX11_toThrow 37 = .ok (.iload 6, 2) := by decide +kernel
theorem dX11_toThrow_39 : decode cX11_toThrow 39 = .ok (.bipush 10, 2) := by decide +kernel
theorem dX11_toThrow_41 : decode cX11_toThrow 41 = .ok (.if_icmp .gt 51, 3) := by decide +kernel
theorem dX11_toThrow_44 : decode cX11_toThrow 44 = .ok (.aload_n 0, 1) := by decide +kernel
theorem dX11_toThrow_45 : decode cX11_toThrow 45 = .ok (.getfield 33, 3) := by decide +kernel
theorem dX11_toThrow_48 : decode cX11_toThrow 48 = .ok (.iload 6, 2) := by decide +kernel
theorem dX11_toThrow_50 : decode cX11_toThrow 50 = .ok (.iload_n 1, 1) := by decide +kernel
theorem dX11_toThrow_51 : decode cX11_toThrow 51 = .ok (.invokevirtual 201, 3) := by decide +kernel
theorem dX11_toThrow_54 : decode cX11_toThrow 54 = .ok (.lstore 7, 2) := by decide +kernel
theorem dX11_toThrow_56 : decode cX11_toThrow 56 = .ok (.iload_n 1, 1) := by decide +kernel
theorem dX11_toThrow_57 : decode cX11_toThrow 57 = .ok (.ifCond .ne 14, 3) := by decide +kernel
theorem dX11_toThrow_60 : decode cX11_toThrow 60 = .ok (.lload 7, 2) := by decide +kernel
theorem dX11_toThrow_62 : decode cX11_toThrow 62 = .ok (.lload 4, 2) := by decide +kernel
theorem dX11_toThrow_64 : decode cX11_toThrow 64 = .ok (.lcmp, 1) := by decide +kernel
theorem dX11_toThrow_65 : decode cX11_toThrow 65 = .ok (.ifCond .le 21, 3) := by decide +kernel
theorem dX11_toThrow_68 : decode cX11_toThrow 68 = .ok (.goto 11, 3) := by decide +kernel
theorem dX11_toThrow_71 : decode cX11_toThrow 71 = .ok (.lload 7, 2) := by decide +kernel
theorem dX11_toThrow_73 : decode cX11_toThrow 73 = .ok (.lload 4, 2) := by decide +kernel
theorem dX11_toThrow_75 : decode cX11_toThrow 75 = .ok (.lcmp, 1) := by decide +kernel
theorem dX11_toThrow_76 : decode cX11_toThrow 76 = .ok (.ifCond .ge 10, 3) := by decide +kernel
theorem dX11_toThrow_79 : decode cX11_toThrow 79 = .ok (.iload 6, 2) := by decide +kernel
theorem dX11_toThrow_81 : decode cX11_toThrow 81 = .ok (.istore_n 3, 1) := by decide +kernel
theorem dX11_toThrow_82 : decode cX11_toThrow 82 = .ok (.lload 7, 2) := by decide +kernel
theorem dX11_toThrow_84 : decode cX11_toThrow 84 = .ok (.lstore 4, 2) := by decide +kernel
theorem dX11_toThrow_86 : decode cX11_toThrow 86 = .ok (.iinc 6 1, 3) := by decide +kernel
theorem dX11_toThrow_89 : decode cX11_toThrow 89 = .ok (.goto (-52), 3) := by decide +kernel
theorem dX11_toThrow_92 : decode cX11_toThrow 92 = .ok (.iload_n 2, 1) := by decide +kernel
theorem dX11_toThrow_93 : decode cX11_toThrow 93 = .ok (.ifCond .ne 8, 3) := by decide +kernel
theorem dX11_toThrow_96 : decode cX11_toThrow 96 = .ok (.iload_n 3, 1) := by decide +kernel
theorem dX11_toThrow_97 : decode cX11_toThrow 97 = .ok (.i2l, 1) := by decide +kernel
theorem dX11_toThrow_98 : decode cX11_toThrow 98 = .ok (.goto 5, 3) := by decide +kernel
theorem dX11_toThrow_101 : decode cX11_toThrow 101 = .ok (.lload 4, 2) := by decide +kernel
theorem dX11_toThrow_103 : decode cX11_toThrow 103 = .ok (.lreturn, 1) := by decide +kernel
theorem dX11_by_0 : decode cX11_by 0 = .ok (.aload_n 0, 1) := by decide +kernel
theorem dX11_by_1 : decode cX11_by 1 = .ok (.getfield 41, 3) := by decide +kernel
theorem dX11_by_4 : decode cX11_by 4 = .ok (.iload_n 3, 1) := by decide +kernel
theorem dX11_by_5 : decode cX11_by 5 = .ok (.invokevirtual 146, 3) := by decide +kernel
theorem dX11_by_8 : decode cX11_by 8 = .ok (.istore 7, 2) := by decide +kernel
theorem dX11_by_10 : decode cX11_by 10 = .ok (.aload_n 0, 1) := by decide +kernel
theorem dX11_by_11 : decode cX11_by 11 = .ok (.getfield 41, 3) := by decide +kernel
theorem dX11_by_14 : decode cX11_by 14 = .ok (.iload 4, 2) := by decide +kernel
theorem dX11_by_16 : decode cX11_by 16 = .ok (.invokevirtual 146, 3) := by decide +kernel
theorem dX11_by_19 : decode cX11_by 19 = .ok (.istore 8, 2) := by decide +kernel
theorem dX11_by_21 : decode cX11_by 21 = .ok (.aload_n 0, 1) := by decide +kernel
theorem dX11_by_22 : decode cX11_by 22 = .ok (.iload_n 1, 1) := by decide +kernel
theorem dX11_by_23 : decode cX11_by 23 = .ok (.invokevirtual 205, 3) := by decide +kernel
theorem dX11_by_26 : decode cX11_by 26 = .ok (.ifCond .eq 32, 3) := by decide +kernel
theorem dX11_by_29 : decode cX11_by 29 = .ok (.aload_n 0, 1) := by decide +kernel
theorem dX11_by_30 : decode cX11_by 30 = .ok (.iload_n 2, 1) := by decide +kernel
theorem dX11_by_31 : decode cX11_by 31 = .ok (.invokevirtual 205, 3) := by decide +kernel
theorem dX11_by_34 : decode cX11_by 34 = .ok (.ifCond .eq 24, 3) := by decide +kernel
theorem dX11_by_37 : decode cX11_by 37 = .ok (.aload_n 0, 1) := by decide +kernel
theorem dX11_by_38 : decode cX11_by 38 = .ok (.iload 7, 2) := by decide +kernel
theorem dX11_by_40 : decode cX11_by 40 = .ok (.iload 8, 2) := by decide +kernel
theorem dX11_by_42 : decode cX11_by 42 = .ok (.iload 5, 2) := by decide +kernel
theorem dX11_by_44 : decode cX11_by 44 = .ok (.invokevirtual 152, 3) := by decide +kernel
theorem dX11_by_47 : decode cX11_by 47 = .ok (.ifCond .eq 11, 3) := by decide +kernel
theorem dX11_by_50 : decode cX11_by 50 = .ok (.iload 6, 2) := by decide +kernel
theorem dX11_by_52 : decode cX11_by 52 = .ok (.invokestatic 174, 3) := by decide +kernel
theorem dX11_by_55 : decode cX11_by 55 = .ok (.ifCond .ne 7, 3) := by decide +kernel
theorem dX11_by_58 : decode cX11_by 58 = .ok (.ldc2_w 177, 3) := by decide +kernel
theorem dX11_by_61 : decode cX11_by 61 = .ok (.lreturn, 1) := by decide +kernel
theorem dX11_by_62 : decode cX11_by 62 = .ok (.aload_n 0, 1) := by decide +kernel
theorem dX11_by_63 : decode cX11_by 63 = .ok (.getfield 33, 3) := by decide +kernel
theorem dX11_by_66 : decode cX11_by 66 = .ok (.aload_n 0, 1) := by decide +kernel
theorem dX11_by_67 : decode cX11_by 67 = .ok (.getfield 7, 3) := by decide +kernel
theorem dX11_by_70 : decode cX11_by 70 = .ok (.invokevirtual 167, 3) := by decide +kernel
theorem dX11_by_73 : decode cX11_by 73 = .ok (.aload_n 0, 1) := by decide +kernel
theorem dX11_by_74 : decode cX11_by 74 = .ok (.getfield 33, 3) := by decide +kernel
theorem dX11_by_77 : decode cX11_by 77 = .ok (.iload_n 1, 1) := by decide +kernel
theorem dX11_by_78 : decode cX11_by 78 = .ok (.iload_n 2, 1) := by decide +kernel
theorem dX11_by_79 : decode cX11_by 79 = .ok (.invokevirtual 179, 3) := by decide +kernel
theorem dX11_by_82 : decode cX11_by 82 = .ok (.aload_n 0, 1) := by decide +kernel
theorem dX11_by_83 : decode cX11_by 83 = .ok (.getfield 33, 3) := by decide +kernel
theorem dX11_by_86 : decode cX11_by 86 = .ok (.iload 7, 2) := by decide +kernel
theorem dX11_by_88 : decode cX11_by 88 = .ok (.iload 8, 2) := by decide +kernel
theorem dX11_by_90 : decode cX11_by 90 = .ok (.iload 5, 2) := by decide +kernel
theorem dX11_by_92 : decode cX11_by 92 = .ok (.iload 6, 2) := by decide +kernel
theorem dX11_by_94 : decode cX11_by 94 = .ok (.invokevirtual 183, 3) := by decide +kernel
theorem dX11_by_97 : decode cX11_by 97 = .ok (.lreturn, 1) := by decide +kernel
theorem dX11_lastBall_0 : decode cX11_lastBall 0 = .ok (.iload_n 1, 1) := by decide +kernel
theorem dX11_lastBall_1 : decode cX11_lastBall 1 = .ok (.ifCond .lt 8, 3) := by decide +kernel
theorem dX11_lastBall_4 : decode cX11_lastBall 4 = .ok (.iload_n 1, 1) := by decide +kernel
theorem dX11_lastBall_5 : decode cX11_lastBall 5 = .ok (.iconst 2, 1) := by decide +kernel
theorem dX11_lastBall_6 : decode cX11_lastBall 6 = .ok (.if_icmp .le 7, 3) := by decide +kernel
theorem dX11_lastBall_9 : decode cX11_lastBall 9 = .ok (.ldc2_w 177, 3) := by decide +kernel
theorem dX11_lastBall_12 : decode cX11_lastBall 12 = .ok (.lreturn, 1) := by decide +kernel
theorem dX11_lastBall_13 : decode cX11_lastBall 13 = .ok (.iload_n 1, 1) := by decide +kernel
theorem dX11_lastBall_14 : decode cX11_lastBall 14 = .ok (.iconst 1, 1) := by decide +kernel
theorem dX11_lastBall_15 : decode cX11_lastBall 15 = .ok (.if_icmp .ne 7, 3) := by decide +kernel
theorem dX11_lastBall_18 : decode cX11_lastBall 18 = .ok (.lconst 0, 1) := by decide +kernel
theorem dX11_lastBall_19 : decode cX11_lastBall 19 = .ok (.goto 15, 3) := by decide +kernel
theorem dX11_lastBall_22 : decode cX11_lastBall 22 = .ok (.aload_n 0, 1) := by decide +kernel
theorem dX11_lastBall_23 : decode cX11_lastBall 23 = .ok (.getfield 33, 3) := by decide +kernel
theorem dX11_lastBall_26 : decode cX11_lastBall 26 = .ok (.aload_n 0, 1) := by decide +kernel
theorem dX11_lastBall_27 : decode cX11_lastBall 27 = .ok (.getfield 7, 3) := by decide +kernel
theorem dX11_lastBall_30 : decode cX11_lastBall 30 = .ok (.iconst 1, 1) := by decide +kernel
theorem dX11_lastBall_31 : decode cX11_lastBall 31 = .ok (.invokevirtual 201, 3) := by decide +kernel
theorem dX11_lastBall_34 : decode cX11_lastBall 34 = .ok (.lstore_n 2, 1) := by decide +kernel
theorem dX11_lastBall_35 : decode cX11_lastBall 35 = .ok (.iload_n 1, 1) := by decide +kernel
theorem dX11_lastBall_36 : decode cX11_lastBall 36 = .ok (.iconst 2, 1) := by decide +kernel
theorem dX11_lastBall_37 : decode cX11_lastBall 37 = .ok (.if_icmp .ne 5, 3) := by decide +kernel
theorem dX11_lastBall_40 : decode cX11_lastBall 40 = .ok (.lload_n 2, 1) := by decide +kernel
theorem dX11_lastBall_41 : decode cX11_lastBall 41 = .ok (.lreturn, 1) := by decide +kernel
theorem dX11_lastBall_42 : decode cX11_lastBall 42 = .ok (.aload_n 0, 1) := by decide +kernel
theorem dX11_lastBall_43 : decode cX11_lastBall 43 = .ok (.getfield 33, 3) := by decide +kernel
theorem dX11_lastBall_46 : decode cX11_lastBall 46 = .ok (.aload_n 0, 1) := by decide +kernel
theorem dX11_lastBall_47 : decode cX11_lastBall 47 = .ok (.getfield 7, 3) := by decide +kernel
theorem dX11_lastBall_50 : decode cX11_lastBall 50 = .ok (.iconst 0, 1) := by decide +kernel
theorem dX11_lastBall_51 : decode cX11_lastBall 51 = .ok (.invokevirtual 201, 3) := by decide +kernel
theorem dX11_lastBall_54 : decode cX11_lastBall 54 = .ok (.lstore 4, 2) := by decide +kernel
theorem dX11_lastBall_56 : decode cX11_lastBall 56 = .ok (.iload_n 1, 1) := by decide +kernel
theorem dX11_lastBall_57 : decode cX11_lastBall 57 = .ok (.iconst 1, 1) := by decide +kernel
theorem dX11_lastBall_58 : decode cX11_lastBall 58 = .ok (.if_icmp .ne 8, 3) := by decide +kernel
theorem dX11_lastBall_61 : decode cX11_lastBall 61 = .ok (.lload 4, 2) := by decide +kernel
theorem dX11_lastBall_63 : decode cX11_lastBall 63 = .ok (.goto 7, 3) := by decide +kernel
theorem dX11_lastBall_66 : decode cX11_lastBall 66 = .ok (.lload_n 2, 1) := by decide +kernel
theorem dX11_lastBall_67 : decode cX11_lastBall 67 = .ok (.lload 4, 2) := by decide +kernel
theorem dX11_lastBall_69 : decode cX11_lastBall 69 = .ok (.lsub, 1) := by decide +kernel
theorem dX11_lastBall_70 : decode cX11_lastBall 70 = .ok (.lreturn, 1) := by decide +kernel
theorem dX11_game_0 : decode cX11_game 0 = .ok (.iload_n 1, 1) := by decide +kernel
theorem dX11_game_1 : decode cX11_game 1 = .ok (.ifCond .lt 8, 3) := by decide +kernel
theorem dX11_game_4 : decode cX11_game 4 = .ok (.iload_n 1, 1) := by decide +kernel
theorem dX11_game_5 : decode cX11_game 5 = .ok (.iconst 3, 1) := by decide +kernel
theorem dX11_game_6 : decode cX11_game 6 = .ok (.if_icmp .le 7, 3) := by decide +kernel
theorem dX11_game_9 : decode cX11_game 9 = .ok (.ldc2_w 190, 3) := by decide +kernel
theorem dX11_game_12 : decode cX11_game 12 = .ok (.lreturn, 1) := by decide +kernel
theorem dX11_game_13 : decode cX11_game 13 = .ok (.iconst (-1), 1) := by decide +kernel
theorem dX11_game_14 : decode cX11_game 14 = .ok (.istore_n 2, 1) := by decide +kernel
theorem dX11_game_15 : decode cX11_game 15 = .ok (.lconst 0, 1) := by decide +kernel
theorem dX11_game_16 : decode cX11_game 16 = .ok (.lstore_n 3, 1) := by decide +kernel
theorem dX11_game_17 : decode cX11_game 17 = .ok (.iconst 0, 1) := by decide +kernel
theorem dX11_game_18 : decode cX11_game 18 = .ok (.istore 5, 2) := by decide +kernel
theorem dX11_game_20 : decode cX11_game 20 = .ok (.iload 5, 2) := by decide +kernel
theorem dX11_game_22 : decode cX11_game 22 = .ok (.iconst 4, 1) := by decide +kernel
